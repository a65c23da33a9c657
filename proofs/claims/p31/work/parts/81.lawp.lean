/-! PURE: the law, from its end to its beginning -/
theorem rl_congrM {n m : Nat} {M M' : Nat → Nat} {bob sng : Nat} {C : Nat → Nat} (e : ∀ j, j < m → M j = M' j) (hm : 0 < m) : ∀ k, RQ n m M bob sng C k = RQ n m M' bob sng C k
  | 0 => rfl
  | k + 1 => by
    have h1 : k % m < m := Nat.mod_lt _ hm
    have h2 : rg m M bob sng (k % m) (C (k / m)) = rg m M' bob sng (k % m) (C (k / m)) := by
      unfold rg
      rw [e _ h1]
    rw [RQ, RQ, rl_congrM e hm k, h2]
theorem tt_congrM {n m : Nat} {M M' : Nat → Nat} {bob sng c : Nat} {C : Nat → Nat} {dif rep cz : Int32} {cf : Nat → Int32} {wz : Int32} {wf bf : Nat → Int32} (h : TT n m M bob sng c C dif rep cz cf wz wf bf) (e : ∀ j, j < m → M j = M' j) : TT n m M' bob sng c C dif rep cz cf wz wf bf := by
  obtain ⟨h1, h2, h3⟩ := h
  refine ⟨h1, h2, ti_congr h3 (fun k hk => ?_)⟩
  have hm : 0 < m := by
    rcases Nat.eq_zero_or_pos m with h9 | h9
    · rw [h9] at hk
      omega
    · exact h9
  unfold RR
  exact rl_congrM e hm _
theorem mi_congrM {n m : Nat} {M M' : Nat → Nat} {bob sng : Nat} {bells ob os chz : Int32} {chf : Nat → Int32} (h : MI n m M bob sng bells ob os chz chf) (e : ∀ j, j < m → M j = M' j) : MI n m M' bob sng bells ob os chz chf := by
  obtain ⟨h0, h1, h2, h3, h4, h5, h6⟩ := h
  exact ⟨h0, h1, h2, ln_congr h3 (fun k hk => by rw [e k hk]), fun k hk => by rw [← e k hk]; exact h4 k hk, h5, h6⟩
theorem lgc_self (x : Int64) : lg_cmp x x = 0 := by
  unfold lg_cmp
  rw [if_neg (fun h => Int64.lt_irrefl h), if_pos rfl]
theorem all_ii {n : Nat} (hn : NB n) : ((1 : Int32) <<< (ii n &&& 31)) - (1 : Int32) = ii (allC n) := by
  rcases hn with h | h | h | h <;> subst h <;> decide
/-- what stands when the law asks -/
def SY (n m : Nat) (M : Nat → Nat) (bob sng c : Nat) (C : Nat → Nat) (D : Nat) (r6 : (Int32 × Int32 × Int32 × Int32 × Int32 × Int32 × Int32 × Int32 × (Nat → Int32) × (Nat → Int32) × Int32 × Int32 × Int32 × Int32 × (Nat → Int32) × (Nat → Int32) × Nat)) (r11 : (Int32 × Int32 × Int32 × Int32 × Int32 × Int32 × Int32 × (Nat → Int32) × Int32 × (Nat → Int32) × (Nat → Int32) × Int32 × Int32 × Int32 × (Nat → Int32) × (Nat → Int32) × Nat × (Nat → Int32) × Nat)) (r15 : (Int32 × Int32 × Int32 × Int32 × Int32 × (Nat → Int32) × Int32 × (Nat → Int32) × (Nat → Int32) × (Nat → Int32) × Nat)) : Prop :=
  NB n ∧ r6.2.2.2.2.2.2.2.2.2.2.1 = ii n ∧ r6.2.2.1 = ii n ∧ RG n m M bob sng c C D r15.2.1 r11.2.2.1 r11.2.2.2.1 r15.2.2.1 r15.2.2.2.1 r15.2.2.2.2.1 r15.2.2.2.2.2.1 r15.2.2.2.2.2.2.1 r15.2.2.2.2.2.2.2.1 r15.2.2.2.2.2.2.2.2.1 r11.2.2.2.2.2.2.2.2.2.2.2.1 r11.2.2.2.2.2.2.2.2.2.2.2.2.1 r11.2.2.2.2.2.2.2.2.2.2.2.2.2.1 r11.2.2.2.2.2.2.2.2.2.2.2.2.2.2.1 r11.2.2.2.2.2.2.2.2.2.2.2.2.2.2.2.1 r11.2.2.2.2.2.2.2.2.2.2.2.2.2.2.2.2.1 r15.2.2.2.2.2.2.2.2.2.1 r15.2.2.2.2.2.2.2.2.2.2
/-- the next step goes well -/
def GO (n D : Nat) (rec40 : Int32 → Int32 → Int32 → Int32 → Int32 → Int32 → Int32 → (Nat → Int32) → Int32 → (Nat → Int32) → (Nat → Int32) → Int32 → Int32 → Int32 → (Nat → Int32) → Int32 → Int32 → Int32 → (Nat → Int32) → Int32 → Int32 → Int32 → (Nat → Int32) → Int32 → (Nat → Int32) → (Nat → Int32) → Nat → (Nat → Int32) → Nat → (Nat → Int32) → Option Unit) (x4 : Int32) : Prop := ∀ (drw rb rs dif rep cz : Int32) (cf : Nat → Int32) (wz : Int32) (wf bf : Nat → Int32) (ob os chz : Int32) (chf : Nat → Int32) (good best gz : Int32) (gf : Nat → Int32) (edif erep ecz : Int32) (ecf : Nat → Int32) (ewz : Int32) (ewf ebf : Nat → Int32) (gmn : Nat) (gmf : Nat → Int32) (gcn : Nat) (gcf : Nat → Int32),
  RS n D gmn drw rb rs dif rep cz cf wz wf bf ob os chz chf gmf gcf gcn → ETE edif erep ecz ecf ewz ewf ebf →
  rec40 x4 drw rb rs dif rep cz cf wz wf bf ob os chz chf good best gz gf edif erep ecz ecf ewz ewf ebf gmn gmf gcn gcf = some ()
section LW
variable {n m : Nat} {M : Nat → Nat} {bob sng c : Nat} {C : Nat → Nat} {D : Nat} {x3 : Int32} {r6 : (Int32 × Int32 × Int32 × Int32 × Int32 × Int32 × Int32 × Int32 × (Nat → Int32) × (Nat → Int32) × Int32 × Int32 × Int32 × Int32 × (Nat → Int32) × (Nat → Int32) × Nat)} {r11 : (Int32 × Int32 × Int32 × Int32 × Int32 × Int32 × Int32 × (Nat → Int32) × Int32 × (Nat → Int32) × (Nat → Int32) × Int32 × Int32 × Int32 × (Nat → Int32) × (Nat → Int32) × Nat × (Nat → Int32) × Nat)} {r15 : (Int32 × Int32 × Int32 × Int32 × Int32 × (Nat → Int32) × Int32 × (Nat → Int32) × (Nat → Int32) × (Nat → Int32) × Nat)} {v19 v60 : (Int64 × Int32 × Int32 × Int32 × (Nat → Int32) × Int32 × Int32 × Int32 × (Nat → Int32) × Int32 × (Nat → Int32) × (Nat → Int32))} {rec40 : Int32 → Int32 → Int32 → Int32 → Int32 → Int32 → Int32 → (Nat → Int32) → Int32 → (Nat → Int32) → (Nat → Int32) → Int32 → Int32 → Int32 → (Nat → Int32) → Int32 → Int32 → Int32 → (Nat → Int32) → Int32 → Int32 → Int32 → (Nat → Int32) → Int32 → (Nat → Int32) → (Nat → Int32) → Nat → (Nat → Int32) → Nat → (Nat → Int32) → Option Unit} {x4 : Int32}
theorem lj947 (hy : SY n m M bob sng c C D r6 r11 r15) (hr : GO n D rec40 (x4 + (1 : Int32))) {x13 y4 y5 y16 y18 y23 : Int32} {f17 f19 f21 f24 : Nat → Int32}
    (hM : MI n m M bob sng (ii n) r11.2.2.2.2.2.2.2.2.2.2.2.1 r11.2.2.2.2.2.2.2.2.2.2.2.2.1 y23 f24) (hT : TT n m M bob sng c C y4 y5 y16 f17 y18 f19 f21) (hE : ETE v60.2.2.2.2.2.1 v60.2.2.2.2.2.2.1 v60.2.2.2.2.2.2.2.1 v60.2.2.2.2.2.2.2.2.1 v60.2.2.2.2.2.2.2.2.2.1 v60.2.2.2.2.2.2.2.2.2.2.1 v60.2.2.2.2.2.2.2.2.2.2.2) (h19 : v19.1 = DG n m M bob sng c C) :
    fL_law_J947 y16 (x3, 14, 24, 336, 5, 24, 336) f17 r6 r11 v60 v19 rec40 x4 r15 x13 y4 y5 y18 f19 f21 y23 f24 = some () := by
  obtain ⟨hn, hb, hb2, g1, g2, g3, g4, g5, g6, g7, g8, g9⟩ := hy
  obtain ⟨r, r1, r2, r3⟩ := dig_ok hn hM hT hE v60.2.2.2.2.1
  unfold fL_law_J947
  dsimp only
  rw [hb, r1, Option.bind_some, Sum.elim_inr, r2, h19, if_pos (lgc_self _)]
  exact hr _ _ _ _ _ _ _ _ _ _ _ _ _ _ _ _ _ _ _ _ _ _ _ _ _ _ _ _ _ ⟨m, M, bob, sng, c, C, g1, g2, g3, hM, hT, g6, g7, g8, g9⟩ r3
theorem lj914 (hy : SY n m M bob sng c C D r6 r11 r15) (hr : GO n D rec40 (x4 + (1 : Int32))) {x13 y4 y5 y16 y18 : Int32} {f17 f19 f21 : Nat → Int32}
    (hT : TT n m M bob sng c C y4 y5 y16 f17 y18 f19 f21) (hE : ETE v60.2.2.2.2.2.1 v60.2.2.2.2.2.2.1 v60.2.2.2.2.2.2.2.1 v60.2.2.2.2.2.2.2.2.1 v60.2.2.2.2.2.2.2.2.2.1 v60.2.2.2.2.2.2.2.2.2.2.1 v60.2.2.2.2.2.2.2.2.2.2.2) (h19 : v19.1 = DG n m M bob sng c C) :
    fL_law_J914 (ii m) (x3, 14, 24, 336, 5, 24, 336) r6 r11 v60 v19 rec40 x4 r15 (ii n) x13 y4 y5 y16 f17 y18 f19 f21 = some () := by
  have hy0 := hy
  obtain ⟨hn, hb, hb2, g1, g2, g3, g4, g5, g6⟩ := hy
  have hm := mi_b g4
  unfold fL_law_J914
  dsimp only
  by_cases c14 : 14 ≤ m
  · rw [if_pos (show (14 : Int32) ≤ ii m from (i_le (a := 14) (by omega) (by omega)).mpr c14)]
    exact lj947 hy0 hr g4 hT hE h19
  · rw [if_neg (show ¬ (14 : Int32) ≤ ii m from fun h9 => c14 ((i_le (a := 14) (by omega) (by omega)).mp h9))]
    obtain ⟨d2, e2, z2, w2, b2, c2, q1, q2, q3⟩ := change_ok hn g4 hT (by omega) (allC_ok hn)
    obtain ⟨d3, e3, z3, w3, b3, p1, p2, p3⟩ := unchange_ok hn q2 q3
    have e5 : ii ((fun k => if k = m then allC n else M k) m) = ii (allC n) := by
      show ii (if m = m then allC n else M m) = ii (allC n)
      rw [if_pos rfl]
    have e6 : ∀ j, j < m → (fun k => if k = m then allC n else M k) j = M j := fun j hj => by
      show (if j = m then allC n else M j) = M j
      rw [if_neg (show ¬ j = m by omega)]
    first | rw [e5] at p1 | rw [show ii (if m = m then allC n else M m) = ii (allC n) by rw [if_pos rfl]] at p1
    rw [all_ii hn, hb, q1, Option.bind_some, Sum.elim_inr]
    dsimp only
    rw [p1, Option.bind_some, Sum.elim_inr]
    dsimp only
    first | rw [if_pos rfl] | rw [if_pos trivial]
    exact lj947 hy0 hr (mi_congrM p2 e6) (tt_congrM p3 e6) hE h19
theorem lx795 (hy : SY n m M bob sng c C D r6 r11 r15) (hr : GO n D rec40 (x4 + (1 : Int32))) {t : Nat} (ht : t < 5) (hx : x4 = ii t) (h19 : v19.1 = DG n m M bob sng c C)
    {x13 y2 y3 y31 y54 y55 y61 y81 : Int32} {f4 f7 f9 f11 : Nat → Int32} (hE : ETE y54 y55 y61 f7 y81 f9 f11) :
    fL_law_X795 r15 (x3, 14, 24, 336, 5, 24, 336) r6 (ii n) r11 v19 (ii m) rec40 x4 (ii (tl (LR n (c * m) (RR n m M bob sng C)))) x13 y2 y3 y31 f4 y54 y55 y61 f7 y81 f9 f11 = some () := by
  have hy0 := hy
  obtain ⟨hn, hb, hb2, g1, g2, g3, g4, g5, g6⟩ := hy
  have hm := mi_b g4
  have hc := tt_b g5
  obtain ⟨mv, m1, m2⟩ := mean_ok hn g5.2.2
  obtain ⟨r, r1, r2, r3⟩ := dig_ok hn g4 g5 hE f4
  unfold fL_law_X795
  dsimp only
  rw [hb, m1, Option.bind_some, if_neg m2, r1, Option.bind_some, Sum.elim_inr, r2, h19, if_pos (lgc_self _), told4 hn g4 g5.1, Option.bind_some, Sum.elim_inr]
  by_cases c24 : 24 ≤ c
  · rw [if_pos (show (24 : Int32) ≤ ii c from (i_le (a := 24) (by omega) (by omega)).mpr c24)]
    exact lj914 hy0 hr g5 r3 h19
  · have hq : t % 3 ≤ 2 := by omega
    have e3 : x4 - x4 / (3 : Int32) * (3 : Int32) = ii (t % 3) := by
      rw [hx]
      exact i_mod (b := 3) (by omega) (by omega)
    rw [if_neg (show ¬ (24 : Int32) ≤ ii c from fun h9 => c24 ((i_le (a := 24) (by omega) (by omega)).mp h9)), e3]
    obtain ⟨d1, e1, f1, z1, w1, b1, a1, a2⟩ := call_ok hn g4 g5 (by omega) hq
    have hl : IsR n (LR n (c * m) (RR n m M bob sng C)) := lr_isR g5.2.2
    have hC : (fun k => if k = c then t % 3 else C k) c = t % 3 := by
      show (if c = c then t % 3 else C c) = t % 3
      rw [if_pos rfl]
    have hLR : LR n (c * m) (RR n m M bob sng C) = RQ n m M bob sng C (c * m) := end_RR
    have hRQ : RQ n m M bob sng C (c * m) = RQ n m M bob sng (fun k => if k = c then t % 3 else C k) (c * m) := by
      rcases Nat.eq_zero_or_pos m with h9 | h9
      · rw [h9, Nat.mul_zero]
        rfl
      · exact rl_congr (fun j hj => by
          have hjc : j < c := Nat.lt_of_mul_lt_mul_right hj
          show C j = (if j = c then t % 3 else C j)
          rw [if_neg (show ¬ j = c by omega)]) h9
    have hLE : LE n m M bob sng (t % 3) (LR n (c * m) (RR n m M bob sng C)) m = RQ n m M bob sng (fun k => if k = c then t % 3 else C k) ((c + 1) * m) := by
      rw [hLR, hRQ, Nat.succ_mul, rl_le _ c m (Nat.le_refl m)]
      first | rw [hC] | rw [if_pos rfl]
    obtain ⟨d3, e4, z3, b3, p1, p2⟩ := uncall_ok hn g4 a2
    first | rw [hC] at p1 | rw [show (if c = c then t % 3 else C c) = t % 3 by rw [if_pos rfl]] at p1
    rw [a1, Option.bind_some, Sum.elim_inr]
    dsimp only
    rw [lead_ok hn g4 hl hq, Option.bind_some, Sum.elim_inr, hLE]
    first | rw [if_pos rfl] | rw [if_pos trivial]
    rw [p1, Option.bind_some, Sum.elim_inr]
    dsimp only
    first | rw [if_pos rfl] | rw [if_pos trivial]
    exact lj914 hy0 hr (tt_back p2) r3 h19
theorem ll795 (hy : SY n m M bob sng c C D r6 r11 r15) {K : Int32 → Int32 → Int32 → Int32 → (Nat → Int32) → Int32 → Int32 → Int32 → (Nat → Int32) → Int32 → (Nat → Int32) → (Nat → Int32) → Option Unit}
    (hK : ∀ (x13 y2 y3 y31 : Int32) (f4 : Nat → Int32) (y54 y55 y61 : Int32) (f7 : Nat → Int32) (y81 : Int32) (f9 f11 : Nat → Int32), ETE y54 y55 y61 f7 y81 f9 f11 → K x13 y2 y3 y31 f4 y54 y55 y61 f7 y81 f9 f11 = some ()) :
    ∀ (d k : Nat), k + 1 + d = 4 → ∀ f, d < f → ∀ (y2 y3 y31 : Int32) (f4 : Nat → Int32) (y54 y55 y61 : Int32) (f7 : Nat → Int32) (y81 : Int32) (f9 f11 : Nat → Int32), ETE y54 y55 y61 f7 y81 f9 f11 →
      fL_law_L795 r6 r11 (x3, 14, 24, 336, 5, 24, 336) K f (ii (k + 1)) y2 y3 y31 f4 y54 y55 y61 f7 y81 f9 f11 = some ()
  | 0, k, hk, f + 1, hf, y2, y3, y31, f4, y54, y55, y61, f7, y81, f9, f11, hE => by
    rw [fL_law_L795, if_pos (show (4 : Int32) ≤ ii (k + 1) from (i_le (a := 4) (by omega) (by omega)).mpr (by omega))]
    exact hK _ _ _ _ _ _ _ _ _ _ _ _ hE
  | d + 1, k, hk, f + 1, hf, y2, y3, y31, f4, y54, y55, y61, f7, y81, f9, f11, hE => by
    have hy0 := hy
    obtain ⟨hn, hb, hb2, g1, g2, g3, g4, g5, g6⟩ := hy
    obtain ⟨r, r1, r2⟩ := good_ok hn g4 (k := k + 1) (by omega) hE f4
    obtain ⟨y, y1, y2'⟩ := good_ok hn g4 (k := k) (by omega) r2 r.2.2.2.1
    obtain ⟨w, w1, w2⟩ := best_ok hn g4 (k := k + 1) (by omega) y2' y.2.2.2.1
    obtain ⟨u, u1, u2⟩ := best_ok hn g4 (k := k) (by omega) w2 w.2.2.2.1
    have l1 := (lk_le (n := n) (m := m) (M := M) (bob := bob) (sng := sng) k)
    have b1 := lk_bd (n := n) (m := m) (M := M) (bob := bob) (sng := sng) (k := k) (by omega)
    have b2 := lk_bd (n := n) (m := m) (M := M) (bob := bob) (sng := sng) (k := k + 1) (by omega)
    rw [fL_law_L795, if_neg (show ¬ (4 : Int32) ≤ ii (k + 1) from fun h9 => by have := (i_le (a := 4) (by omega) (by omega)).mp h9; omega)]
    dsimp only
    rw [hb, r1, Option.bind_some, Sum.elim_inr, i_sub1 (by omega), show k + 1 - 1 = k from rfl]
    dsimp only
    rw [y1, Option.bind_some, Sum.elim_inr]
    dsimp only
    rw [if_neg (show ¬ ii (LK n m M bob sng (k + 1)).1 < ii (LK n m M bob sng k).1 from fun h9 => by have := (i_lt (by omega) (by omega)).mp h9; have := l1.1; omega), w1, Option.bind_some, Sum.elim_inr]
    dsimp only
    rw [u1, Option.bind_some, Sum.elim_inr]
    dsimp only
    rw [if_pos (show (LK n m M bob sng k).2 ≤ (LK n m M bob sng (k + 1)).2 from Int32.le_iff_toInt_le.mpr l1.2), i_add1]
    exact ll795 hy0 hK d (k + 1) (by omega) f (by omega) _ _ _ _ _ _ _ _ _ _ _ u2
theorem lx767 (hy : SY n m M bob sng c C D r6 r11 r15) (hr : GO n D rec40 (x4 + (1 : Int32))) {t : Nat} (ht : t < 5) (hx : x4 = ii t) (h19 : v19.1 = DG n m M bob sng c C) (hE : ETE v19.2.2.2.2.2.1 v19.2.2.2.2.2.2.1 v19.2.2.2.2.2.2.2.1 v19.2.2.2.2.2.2.2.2.1 v19.2.2.2.2.2.2.2.2.2.1 v19.2.2.2.2.2.2.2.2.2.2.1 v19.2.2.2.2.2.2.2.2.2.2.2) (x13 : Int32) :
    fL_law_X767 r6 r11 (x3, 14, 24, 336, 5, 24, 336) r15 (ii n) v19 (ii m) rec40 x4 (ii (tl (LR n (c * m) (RR n m M bob sng C)))) x13 = some () := by
  unfold fL_law_X767
  exact ll795 hy (fun x13 y2 y3 y31 f4 y54 y55 y61 f7 y81 f9 f11 h => lx795 hy hr ht hx h19 h) 3 0 rfl 30 (by omega) _ _ _ _ _ _ _ _ _ _ _ hE
theorem ll767 (hy : SY n m M bob sng c C D r6 r11 r15) {K : Int32 → Option Unit} (hK : ∀ x, K x = some ()) : ∀ (d k : Nat), k + d = 3 → ∀ f, d < f → fL_law_L767 r15 (x3, 14, 24, 336, 5, 24, 336) r6 r11 (ii m) K f (ii k) = some ()
  | 0, k, hk, f + 1, hf => by
    rw [fL_law_L767, if_pos (show (3 : Int32) ≤ ii k from (i_le (a := 3) (by omega) (by omega)).mpr (by omega))]
    exact hK _
  | d + 1, k, hk, f + 1, hf => by
    have hy0 := hy
    obtain ⟨hn, hb, hb2, g1, g2, g3, g4, g5, g6⟩ := hy
    have hm := mi_b g4
    obtain ⟨q, q1, q2⟩ := clashes_ok hn g4 g5 (q := k) (by omega)
    rw [fL_law_L767, if_neg (show ¬ (3 : Int32) ≤ ii k from fun h9 => by have := (i_le (a := 3) (by omega) (by omega)).mp h9; omega)]
    dsimp only
    rw [hb, q1, Option.bind_some, Sum.elim_inr, if_pos ((i_le (by omega) (by omega)).mpr q2), i_add1]
    exact ll767 hy0 hK d (k + 1) (by omega) f (by omega)
theorem lx681 (hy : SY n m M bob sng c C D r6 r11 r15) (hr : GO n D rec40 (x4 + (1 : Int32))) {t : Nat} (ht : t < 5) (hx : x4 = ii t) (h19 : v19.1 = DG n m M bob sng c C) (hE : ETE v19.2.2.2.2.2.1 v19.2.2.2.2.2.2.1 v19.2.2.2.2.2.2.2.1 v19.2.2.2.2.2.2.2.2.1 v19.2.2.2.2.2.2.2.2.2.1 v19.2.2.2.2.2.2.2.2.2.2.1 v19.2.2.2.2.2.2.2.2.2.2.2) (x13 : Int32) :
    fL_law_X681 r15 (x3, 14, 24, 336, 5, 24, 336) r6 r11 (ii m) (ii n) v19 rec40 x4 (ii (tl (LR n (c * m) (RR n m M bob sng C)))) x13 = some () := by
  unfold fL_law_X681
  exact ll767 hy (fun x => lx767 hy hr ht hx h19 hE x) 3 0 rfl 30 (by omega)
theorem lj721 (hy : SY n m M bob sng c C D r6 r11 r15) {k : Nat} (hk : k < c) {rc : Int32 → Option Unit} (hrc : rc (ii (k + 1)) = some ()) :
    fL_law_J721 r15 (x3, 14, 24, 336, 5, 24, 336) r11 (ii k) r6 (ii (tl (LR n (c * m) (RR n m M bob sng C)))) rc = some () := by
  obtain ⟨hn, hb, hb2, g1, g2, g3, g4, g5, g6⟩ := hy
  have hm := mi_b g4
  have a1 : fX6_common r15.2.2.2.2.1 r15.2.2.2.2.2.2.1 336 r15.2.2.2.2.2.2.2.1 r11.2.2.2.2.2.2.2.2.2.2.2.2.2.1 (ii k) (0 : Int32) = _ := common_ok hn g4 g5 hk (o := 0) (by omega)
  have l1 := cmn_own (R := (RR n m M bob sng C)) (a := k * m) (o := 0 * m) (m := m) m (Nat.le_refl m)
  have l2 := cmn_le (R := (RR n m M bob sng C)) (a := k * m) (o := 0 * m) (m := m) m
  have l3 := cmn_le (R := (RR n m M bob sng C)) (a := k * m) (o := k * m) (m := m) m
  have hLR : LR n (c * m) (RR n m M bob sng C) = RQ n m M bob sng C (c * m) := end_RR
  unfold fL_law_J721
  dsimp only
  rw [a1, Option.bind_some, Sum.elim_inr, common_ok hn g4 g5 hk hk, Option.bind_some, Sum.elim_inr, if_neg (fun h9 => by have := (i_lt (by omega) (by omega)).mp h9; omega), callAt_ok g5.1 hk, Option.bind_some, Sum.elim_inr, hb, endWith_ok hn g4 g5 hk, Option.bind_some, Sum.elim_inr, hLR]
  first | rw [if_pos rfl] | rw [if_pos trivial]
  rw [i_add1]
  exact hrc
theorem ll681 (hy : SY n m M bob sng c C D r6 r11 r15) {K : Int32 → Option Unit} (hK : ∀ x, K x = some ()) : ∀ (d k : Nat), k + d = c → ∀ f, d < f → fL_law_L681 r15 r6 r11 (x3, 14, 24, 336, 5, 24, 336) (ii m) (ii (tl (LR n (c * m) (RR n m M bob sng C)))) K f (ii k) = some ()
  | 0, k, hk, f + 1, hf => by
    obtain ⟨hn, hb, hb2, g1, g2, g3, g4, g5, g6⟩ := hy
    have hc := tt_b g5
    rw [fL_law_L681]
    dsimp only
    rw [hb, told4 hn g4 g5.1, Option.bind_some, Sum.elim_inr, if_pos ((i_le (by omega) (by omega)).mpr (by omega))]
    exact hK _
  | d + 1, k, hk, f + 1, hf => by
    have hy0 := hy
    obtain ⟨hn, hb, hb2, g1, g2, g3, g4, g5, g6⟩ := hy
    have hc := tt_b g5
    have hm := mi_b g4
    have l3 := cmn_le (R := (RR n m M bob sng C)) (a := k * m) (o := k * m) (m := m) m
    have ih := ll681 hy0 hK d (k + 1) (by omega) f (by omega)
    rw [fL_law_L681]
    dsimp only
    rw [hb, told4 hn g4 g5.1, Option.bind_some, Sum.elim_inr, if_neg (show ¬ ii c ≤ ii k from fun h9 => by have := (i_le (by omega) (by omega)).mp h9; omega), common_ok hn g4 g5 (p := k) (o := k) (by omega) (by omega), Option.bind_some, Sum.elim_inr, if_neg (fun h9 => by have := (i_lt (by omega) (by omega)).mp h9; omega)]
    by_cases h0 : m = 0
    · rw [if_pos (show ii m ≤ 0 by rw [h0]; decide)]
      exact lj721 hy0 (by omega) ih
    · have l4 := cmn_pos (R := (RR n m M bob sng C)) (a := k * m) (m := m) (by omega) m (by omega)
      rw [if_neg (show ¬ ii m ≤ 0 from fun h9 => by have := (i_le (b := 0) (by omega) (by omega)).mp h9; omega), Option.bind_some, Sum.elim_inr, if_neg (show ¬ ii (cmn (RR n m M bob sng C) (k * m) (k * m) m m) < (1 : Int32) from fun h9 => by have := (i_lt (b := 1) (by omega) (by omega)).mp h9; omega)]
      exact lj721 hy0 (by omega) ih
theorem lx637 (hy : SY n m M bob sng c C D r6 r11 r15) (hr : GO n D rec40 (x4 + (1 : Int32))) {t : Nat} (ht : t < 5) (hx : x4 = ii t) (h19 : v19.1 = DG n m M bob sng c C) (hE : ETE v19.2.2.2.2.2.1 v19.2.2.2.2.2.2.1 v19.2.2.2.2.2.2.2.1 v19.2.2.2.2.2.2.2.2.1 v19.2.2.2.2.2.2.2.2.2.1 v19.2.2.2.2.2.2.2.2.2.2.1 v19.2.2.2.2.2.2.2.2.2.2.2) (x13 : Int32) :
    fL_law_X637 r15 r6 r11 (x3, 14, 24, 336, 5, 24, 336) (ii m) (ii (tl (LR n (c * m) (RR n m M bob sng C)))) (ii n) v19 rec40 x4 x13 = some () := by
  have hc := tt_b hy.2.2.2.2.2.2.2.1
  unfold fL_law_X637
  exact ll681 hy (fun x => lx681 hy hr ht hx h19 hE x) c 0 (by omega) 30 (by omega)
theorem ll637 (hy : SY n m M bob sng c C D r6 r11 r15) {K : Int32 → Option Unit} (hK : ∀ x, K x = some ()) : ∀ (d k : Nat), k + d = n → ∀ f, d < f → fL_law_L637 (ii n) r15 (x3, 14, 24, 336, 5, 24, 336) r6 (ii (c * m)) K f (ii (k + 1)) = some ()
  | 0, k, hk, f + 1, hf => by
    have hn7 := nb_le hy.1
    rw [fL_law_L637, if_pos ((i_lt (by omega) (by omega)).mpr (by omega))]
    exact hK _
  | d + 1, k, hk, f + 1, hf => by
    have hy0 := hy
    obtain ⟨hn, hb, hb2, g1, g2, g3, g4, g5, g6⟩ := hy
    have hn7 := nb_le hn
    have hN := ti_b g5.2.2
    have ih := ll637 hy0 hK d (k + 1) (by omega) f (by omega)
    obtain ⟨q, q1, q2, q3⟩ := longest_ok hn g5.2.2 (b := k + 1) (by omega) (by omega)
    rw [fL_law_L637, if_neg (show ¬ ii n < ii (k + 1) from fun h9 => by have := (i_lt (by omega) (by omega)).mp h9; omega)]
    dsimp only
    rw [hb, q1, Option.bind_some, Sum.elim_inr, if_neg (fun h9 => by have := (i_lt (by omega) (by omega)).mp h9; omega)]
    unfold fL_law_J672
    rw [i_add1]
    by_cases h0 : (c * m) = 0
    · rw [if_pos (show ii (c * m) ≤ 0 by rw [h0]; decide)]
      exact ih
    · rw [if_neg (show ¬ ii (c * m) ≤ 0 from fun h9 => by have := (i_le (b := 0) (by omega) (by omega)).mp h9; omega), Option.bind_some, Sum.elim_inr, if_pos (show (1 : Int32) ≤ ii q from (i_le (a := 1) (by omega) (by omega)).mpr (q3 (by omega)))]
      exact ih
theorem lj627 (hy : SY n m M bob sng c C D r6 r11 r15) (hr : GO n D rec40 (x4 + (1 : Int32))) {t : Nat} (ht : t < 5) (hx : x4 = ii t) (h19 : v19.1 = DG n m M bob sng c C) (hE : ETE v19.2.2.2.2.2.1 v19.2.2.2.2.2.2.1 v19.2.2.2.2.2.2.2.1 v19.2.2.2.2.2.2.2.2.1 v19.2.2.2.2.2.2.2.2.2.1 v19.2.2.2.2.2.2.2.2.2.2.1 v19.2.2.2.2.2.2.2.2.2.2.2) :
    fL_law_J627 r15 (x3, 14, 24, 336, 5, 24, 336) r6 (ii n) (ii (c * m)) r11 (ii m) v19 rec40 x4 = some () := by
  have hy0 := hy
  obtain ⟨hn, hb, hb2, g1, g2, g3, g4, g5, g6⟩ := hy
  have hn7 := nb_le hn
  unfold fL_law_J627
  dsimp only
  rw [hb, tch1 hn g5.2.2, Option.bind_some, Sum.elim_inr]
  exact ll637 hy0 (fun x => lx637 hy0 hr ht hx h19 hE x) n 0 (by omega) 30 (by omega)
theorem lj607 (hy : SY n m M bob sng c C D r6 r11 r15) (hr : GO n D rec40 (x4 + (1 : Int32))) {t : Nat} (ht : t < 5) (hx : x4 = ii t) (h19 : v19.1 = DG n m M bob sng c C) (hE : ETE v19.2.2.2.2.2.1 v19.2.2.2.2.2.2.1 v19.2.2.2.2.2.2.2.1 v19.2.2.2.2.2.2.2.2.1 v19.2.2.2.2.2.2.2.2.2.1 v19.2.2.2.2.2.2.2.2.2.2.1 v19.2.2.2.2.2.2.2.2.2.2.2) :
    fL_law_J607 r15 r6 (ii (tl (rowL n))) (x3, 14, 24, 336, 5, 24, 336) (ii n) (ii (c * m)) r11 (ii m) v19 rec40 x4 = some () := by
  have hy0 := hy
  obtain ⟨hn, hb, hb2, g1, g2, g3, g4, g5, g6⟩ := hy
  have hN := ti_b g5.2.2
  unfold fL_law_J607
  dsimp only
  rw [hb, where_ok hn g5.2.2 (isR_rounds n), Option.bind_some, Sum.elim_inr]
  cases e : fst (RR n m M bob sng C) (rowL n) (c * m) with
  | some i =>
    have hi := (fst_lt e).1
    try dsimp only
    rw [if_pos (show 0 ≤ ii i from (i_le (a := 0) (by omega) (by omega)).mpr (by omega))]
    exact lj627 hy0 hr ht hx h19 hE
  | none =>
    try dsimp only
    rw [if_neg (show ¬ 0 ≤ (-1 : Int32) by decide), tch2 hn g5.2.2, Option.bind_some, Sum.elim_inr, if_neg (show ¬ (0 < (c * m) ∧ (RR n m M bob sng C) ((c * m) - 1) = rowL n) from fun h9 => fst_none e ((c * m) - 1) (by omega) h9.2), if_neg (show ¬ (0 : Int32) = (1 : Int32) by decide)]
    exact lj627 hy0 hr ht hx h19 hE
theorem lx281 (hy : SY n m M bob sng c C D r6 r11 r15) (hr : GO n D rec40 (x4 + (1 : Int32))) {t : Nat} (ht : t < 5) (hx : x4 = ii t) (h19 : v19.1 = DG n m M bob sng c C) (hE : ETE v19.2.2.2.2.2.1 v19.2.2.2.2.2.2.1 v19.2.2.2.2.2.2.2.1 v19.2.2.2.2.2.2.2.2.1 v19.2.2.2.2.2.2.2.2.2.1 v19.2.2.2.2.2.2.2.2.2.2.1 v19.2.2.2.2.2.2.2.2.2.2.2) {k : Nat} (hk : (c * m) ≤ 20 → k = (c * m)) (x13 : Int32) :
    fL_law_X281 (ii (c * m)) r15 r6 (ii (tl (rowL n))) (x3, 14, 24, 336, 5, 24, 336) (ii n) r11 (ii m) v19 rec40 x4 x13 (ii (SM n (RR n m M bob sng C) k)) (ii (tl (RQ n m M bob sng C k))) = some () := by
  have hy0 := hy
  obtain ⟨hn, hb, hb2, g1, g2, g3, g4, g5, g6⟩ := hy
  have hN := ti_b g5.2.2
  have hLR : LR n (c * m) (RR n m M bob sng C) = RQ n m M bob sng C (c * m) := end_RR
  unfold fL_law_X281
  dsimp only
  by_cases h20 : (c * m) ≤ 20
  · rw [if_neg (show ¬ (20 : Int32) < ii (c * m) from fun h9 => by have := (i_lt (a := 20) (by omega) (by omega)).mp h9; omega), hb, tch1 hn g5.2.2, Option.bind_some, Sum.elim_inr, hLR, hk h20]
    first | rw [if_pos rfl] | rw [if_pos trivial]
    rw [tch6 hn g5.2.2, Option.bind_some, Sum.elim_inr]
    first | rw [if_pos rfl] | rw [if_pos trivial]
    exact lj607 hy0 hr ht hx h19 hE
  · rw [if_pos (show (20 : Int32) < ii (c * m) from (i_lt (a := 20) (by omega) (by omega)).mpr (by omega))]
    exact lj607 hy0 hr ht hx h19 hE
/-! one row -/
theorem ab_ok : ∀ a, a < 9 → ∀ b, b < 9 → a ≤ b + 1 → b ≤ a + 1 → ¬ (1 : Int32) < (if 0 ≤ (ii a - ii b) then (ii a - ii b) else 0 - (ii a - ii b)) := by decide +kernel
theorem ll503 (hy : SY n m M bob sng c C D r6 r11 r15) {k : Nat} (hk : k + 1 < (c * m)) {K : Int32 → Option Unit} (hK : ∀ x, K x = some ()) : ∀ (d b : Nat), n < b + d → ∀ f, d < f → 1 ≤ b → b ≤ n + 2 → fL_law_L503 (ii n) r15 (x3, 14, 24, 336, 5, 24, 336) r6 (ii (k + 1)) K f (ii b) = some ()
  | 0, b, hd, f + 1, hf, h1, h2 => by
    have hn7 := nb_le hy.1
    rw [fL_law_L503, if_pos ((i_lt (by omega) (by omega)).mpr (by omega))]
    exact hK _
  | d + 1, b, hd, f + 1, hf, h1, h2 => by
    have hy0 := hy
    obtain ⟨hn, hb, hb2, g1, g2, g3, g4, g5, g6⟩ := hy
    have hn7 := nb_le hn
    rw [fL_law_L503]
    by_cases hbn : n < b
    · rw [if_pos ((i_lt (by omega) (by omega)).mpr hbn)]
      exact hK _
    · have hb2' : b ≤ n := by omega
      have p1 := plac_ok hn g5.2.2 h1 hb2' hk
      have p2 := plac_ok hn g5.2.2 h1 hb2' (k := k) (by omega)
      have i1 : IsR n ((RR n m M bob sng C) (k + 1)) := g5.2.2.2.2.2.2 _ hk
      have i2 : IsR n ((RR n m M bob sng C) k) := g5.2.2.2.2.2.2 _ (by omega)
      have hm : 0 < m := by
        rcases Nat.eq_zero_or_pos m with h9 | h9
        · rw [h9] at hk
          omega
        · exact h9
      have hR : (RR n m M bob sng C) (k + 1) = chg n (rg m M bob sng ((k + 1) % m) (C ((k + 1) / m))) ((RR n m M bob sng C) k) := rfl
      have hq := pl_chg hn (rg_isC g4 (Nat.mod_lt (k + 1) hm) (C ((k + 1) / m))) i2 h1 hb2'
      rw [← hR] at hq
      have l1 := pl_le i1 h1 hb2'
      have l2 := pl_le i2 h1 hb2'
      have l3 : 1 ≤ pl b ((RR n m M bob sng C) (k + 1)) := by
        unfold pl
        omega
      rw [if_neg (show ¬ ii n < ii b from fun h9 => hbn ((i_lt (by omega) (by omega)).mp h9))]
      dsimp only
      rw [hb, p1, Option.bind_some, Sum.elim_inr, i_sub1 (by omega), show k + 1 - 1 = k from rfl, p2, Option.bind_some, Sum.elim_inr, if_neg (ab_ok _ (by omega) _ (by omega) hq.1 hq.2), Option.bind_some, Sum.elim_inr,
        if_neg (show ¬ ii (pl b ((RR n m M bob sng C) (k + 1))) < (1 : Int32) from fun h9 => by have := (i_lt (b := 1) (by omega) (by omega)).mp h9; omega), Option.bind_some, Sum.elim_inr, if_pos ((i_le (by omega) (by omega)).mpr l1), show ii b + (2 : Int32) = ii (b + 2) from i_add b 2]
      exact ll503 hy0 hk hK d (b + 2) (by omega) f (by omega) (by omega) (by omega)
theorem lj488 (hy : SY n m M bob sng c C D r6 r11 r15) {k : Nat} (hk : k < (c * m)) {rc : Int32 → Int32 → Int32 → Option Unit} {x12 v189 v166 : Int32} (hrc : rc (ii (k + 1)) (x12 + v189) v166 = some ()) :
    fL_law_J488 (ii k) rc x12 v189 v166 (ii n) r15 (x3, 14, 24, 336, 5, 24, 336) r6 = some () := by
  have hN := ti_b hy.2.2.2.2.2.2.2.1.2.2
  have hn7 := nb_le hy.1
  unfold fL_law_J488
  have hx : fL_law_J569 rc (ii k) x12 v189 v166 = some () := by
    unfold fL_law_J569
    rw [i_add1]
    exact hrc
  by_cases h0 : k = 0
  · rw [if_pos (show ii k ≤ 0 by rw [h0]; decide)]
    exact hx
  · rw [if_neg (show ¬ ii k ≤ 0 from fun h9 => by have := (i_le (b := 0) (by omega) (by omega)).mp h9; omega)]
    obtain ⟨j, rfl⟩ : ∃ j, k = j + 1 := ⟨k - 1, by omega⟩
    exact ll503 hy hk (fun x => by unfold fL_law_X503; exact hx) 8 1 (by omega) 30 (by omega) (by omega) (by omega)
theorem lj430 (hy : SY n m M bob sng c C D r6 r11 r15) {k : Nat} (hk : k < (c * m)) {rc : Int32 → Int32 → Int32 → Option Unit} {x12 : Int32} (hrc : rc (ii (k + 1)) (x12 + ii (mu n ((RR n m M bob sng C) k))) (ii (tl ((RR n m M bob sng C) k))) = some ()) :
    fL_law_J430 (ii n) (ii (mu n ((RR n m M bob sng C) k))) (ii (tl ((RR n m M bob sng C) k))) (ii (tl (rowL n))) (ii k) rc x12 r15 (x3, 14, 24, 336, 5, 24, 336) r6 = some () := by
  have hy0 := hy
  obtain ⟨hn, hb, hb2, g1, g2, g3, g4, g5, g6⟩ := hy
  have hn7 := nb_le hn
  have hl : IsR n ((RR n m M bob sng C) k) := g5.2.2.2.2.2.2 _ hk
  obtain ⟨-, m1, m2, -, m3⟩ := mu_ok hn hl
  have s1 := (f_siz hn hl).1
  have s2 := (f_siz hn (isR_rounds n)).1
  have e2 : (2 : Int32) * ii n = ii (2 * n) := i_mul 2 n
  have hnn : n * (n - 1) ≤ 7 * 6 := Nat.mul_le_mul (by omega) (by omega)
  have e3 : (ii n * (ii n - (1 : Int32))) / (2 : Int32) = ii (n * (n - 1) / 2) := by
    rw [i_sub1 (by omega), i_mul]
    exact i_div (b := 2) (by omega) (by omega)
  have hj := lj488 hy0 (x3 := x3) hk hrc
  unfold fL_law_J430
  rw [e2, if_neg (fun h9 => by have := (i_lt (by omega) (by omega)).mp h9; omega)]
  by_cases c1 : mu n ((RR n m M bob sng C) k) = 2 * n
  · rw [if_pos (by rw [c1])]
    by_cases c2 : tl ((RR n m M bob sng C) k) = tl (rowL n)
    · rw [if_pos (by rw [c2])]
      exact hj
    · rw [if_neg (fun h9 => c2 ((i_eq (by omega) (by omega)).mp h9)), hb, crossed_ok hn hl, Option.bind_some, Sum.elim_inr, e3, if_pos ((m3.mp c1).resolve_left c2)]
      exact hj
  · rw [if_neg (fun h9 => c1 ((i_eq (by omega) (by omega)).mp h9)), if_neg (fun h9 => c1 (m3.mpr (Or.inl ((i_eq (by omega) (by omega)).mp h9)))), hb, crossed_ok hn hl, Option.bind_some, Sum.elim_inr, e3, if_neg (fun h9 => c1 (m3.mpr (Or.inr h9)))]
    exact hj
theorem lj363 (hy : SY n m M bob sng c C D r6 r11 r15) {k : Nat} (hk : k < (c * m)) {rc : Int32 → Int32 → Int32 → Option Unit} {x12 : Int32} (hrc : rc (ii (k + 1)) (x12 + ii (mu n ((RR n m M bob sng C) k))) (ii (tl ((RR n m M bob sng C) k))) = some ()) :
    fL_law_J363 r6 (ii (tl (RQ n m M bob sng C k))) (ii (tl ((RR n m M bob sng C) k))) r15 (ii k) (ii n) (ii (tl (rowL n))) rc x12 (x3, 14, 24, 336, 5, 24, 336) (ii (rg m M bob sng (k % m) (C (k / m)))) = some () := by
  have hy0 := hy
  obtain ⟨hn, hb, hb2, g1, g2, g3, g4, g5, g6⟩ := hy
  have hN := ti_b g5.2.2
  have hm : 0 < m := by
    rcases Nat.eq_zero_or_pos m with h9 | h9
    · rw [h9] at hk
      omega
    · exact h9
  have hx := rg_isC g4 (Nat.mod_lt k hm) (C (k / m))
  have i1 : IsR n (RQ n m M bob sng C k) := rl_isR n m M bob sng C k
  have i2 : IsR n ((RR n m M bob sng C) k) := g5.2.2.2.2.2.2 _ hk
  have hR : chg n (rg m M bob sng (k % m) (C (k / m))) (RQ n m M bob sng C k) = (RR n m M bob sng C) k := rfl
  have hR2 : chg n (rg m M bob sng (k % m) (C (k / m))) ((RR n m M bob sng C) k) = RQ n m M bob sng C k := by
    rw [← hR]
    exact chg_chg hn hx i1
  have n1 := next_ok hn i1 hx
  have n2 := next_ok hn i2 hx
  rw [hR] at n1
  rw [hR2] at n2
  obtain ⟨j, j1, j2⟩ := fst_le (R := (RR n m M bob sng C)) hk rfl
  have w1 : fX6_where 5040 r15.2.2.2.2.2.2.2.2.1 (ii n) (ii (tl ((RR n m M bob sng C) k))) = some (.inr (ii j)) := by
    have h9 := where_ok hn g5.2.2 i2
    rw [j1] at h9
    exact h9
  obtain ⟨-, m1, m2, -⟩ := mu_ok hn i2
  have hn7 := nb_le hn
  have hj := lj430 hy0 (x3 := x3) hk hrc
  unfold fL_law_J363
  try dsimp only
  rw [hb, n1, Option.bind_some, Sum.elim_inr]
  first | rw [if_pos rfl] | rw [if_pos trivial]
  rw [n2, Option.bind_some, Sum.elim_inr]
  first | rw [if_pos rfl] | rw [if_pos trivial]
  rw [w1, Option.bind_some, Sum.elim_inr, if_neg (show ¬ ii k < ii j from fun h9 => by have := (i_lt (by omega) (by omega)).mp h9; omega), Option.bind_some, Sum.elim_inr, if_pos (show 0 ≤ ii j from (i_le (a := 0) (by omega) (by omega)).mpr (by omega)), music_ok hn i2, Option.bind_some, Sum.elim_inr]
  by_cases c0 : mu n ((RR n m M bob sng C) k) = 0
  · rw [if_pos (show ii (mu n ((RR n m M bob sng C) k)) = 0 by rw [c0]; rfl)]
    exact hj
  · rw [if_neg (show ¬ ii (mu n ((RR n m M bob sng C) k)) = 0 from fun h9 => c0 ((i_eq (b := 0) (by omega) (by omega)).mp h9)), if_neg (show ¬ ii (mu n ((RR n m M bob sng C) k)) < (3 : Int32) from fun h9 => by have := (i_lt (b := 3) (by omega) (by omega)).mp h9; omega)]
    exact hj
theorem lj320 (hy : SY n m M bob sng c C D r6 r11 r15) {k : Nat} (hk : k < (c * m)) {rc : Int32 → Int32 → Int32 → Option Unit} {x12 x15 : Int32} (hx15 : (x15 = 0 ∧ ¬ k % m + 1 = m) ∨ (x15 = 1 ∧ k % m + 1 = m)) (hrc : rc (ii (k + 1)) (x12 + ii (mu n ((RR n m M bob sng C) k))) (ii (tl ((RR n m M bob sng C) k))) = some ()) :
    fL_law_J320 (ii m) r15 (x3, 14, 24, 336, 5, 24, 336) (ii k) r11 r6 (ii (tl (RQ n m M bob sng C k))) (ii (tl ((RR n m M bob sng C) k))) (ii n) (ii (tl (rowL n))) rc x12 x15 = some () := by
  have hy0 := hy
  obtain ⟨hn, hb, hb2, g1, g2, g3, g4, g5, g6⟩ := hy
  have hN := ti_b g5.2.2
  have hmb := mi_b g4
  have hm : 0 < m := by
    rcases Nat.eq_zero_or_pos m with h9 | h9
    · rw [h9] at hk
      omega
    · exact h9
  have hkm : k % m < m := Nat.mod_lt k hm
  have hkd : k / m < c := (Nat.div_lt_iff_lt_mul hm).mpr hk
  have hq := g5.2.1 _ hkd
  have hj := lj363 hy0 (x3 := x3) hk hrc
  have ca : fX6_changeAt r11.2.2.2.2.2.2.2.2.2.2.2.2.2.1 14 r11.2.2.2.2.2.2.2.2.2.2.2.2.2.2.1 (ii (k % m)) = some (.inr (ii (M (k % m)))) := changeAt_ok g4 hkm
  unfold fL_law_J320
  dsimp only
  have em : ¬ ii m = (0 : Int32) := fun h9 => by have := (i_eq (b := 0) (by omega) (by omega)).mp h9; omega
  rw [if_neg em, i_mod (a := k) (b := m) (by omega) (by omega), i_div (a := k) (b := m) (by omega) (by omega), callAt_ok g5.1 hkd, Option.bind_some, Sum.elim_inr]
  rcases hx15 with ⟨rfl, h1⟩ | ⟨rfl, h1⟩
  · have er : rg m M bob sng (k % m) (C (k / m)) = M (k % m) := by
      unfold rg
      rw [if_neg (fun h9 => h1 h9.2)]
    rw [er] at hj
    first | rw [if_pos rfl] | rw [if_pos trivial]
    rw [if_neg em, ca, Option.bind_some, Sum.elim_inr]
    exact hj
  · rw [if_neg (show ¬ (1 : Int32) = 0 by decide)]
    by_cases c0 : C (k / m) = 0
    · have er : rg m M bob sng (k % m) (C (k / m)) = M (k % m) := by
        unfold rg
        rw [if_neg (fun h9 => h9.1 c0)]
      rw [er] at hj
      rw [if_pos (show ii (C (k / m)) ≤ 0 by rw [c0]; decide), if_neg em, ca, Option.bind_some, Sum.elim_inr]
      exact hj
    · rw [if_neg (show ¬ ii (C (k / m)) ≤ 0 from fun h9 => by have := (i_le (b := 0) (by omega) (by omega)).mp h9; omega)]
      by_cases c1 : C (k / m) = 1
      · have er : rg m M bob sng (k % m) (C (k / m)) = bob := by
          unfold rg
          rw [if_pos ⟨c0, h1⟩, if_pos c1]
        rw [er] at hj
        rw [c1, show (1 : Int32) + ii 1 = (2 : Int32) by decide, hb, told2 hn g4 g5.1, Option.bind_some, Sum.elim_inr]
        exact hj
      · have c2 : C (k / m) = 2 := by omega
        have er : rg m M bob sng (k % m) (C (k / m)) = sng := by
          unfold rg
          rw [if_pos ⟨c0, h1⟩, if_neg c1]
        rw [er] at hj
        rw [c2, show (1 : Int32) + ii 2 = (3 : Int32) by decide, hb, told3 hn g4 g5.1, Option.bind_some, Sum.elim_inr]
        exact hj
theorem ll281 (hy : SY n m M bob sng c C D r6 r11 r15) {K : Int32 → Int32 → Int32 → Option Unit} {B : Nat} (hB : B = if (c * m) ≤ 20 then (c * m) else 20) (hK : ∀ x, K x (ii (SM n (RR n m M bob sng C) B)) (ii (tl (RQ n m M bob sng C B))) = some ()) :
    ∀ (d k : Nat), k + d = B → ∀ f, d < f → fL_law_L281 (ii (c * m)) r15 (x3, 14, 24, 336, 5, 24, 336) r6 (ii m) r11 (ii n) (ii (tl (rowL n))) K f (ii k) (ii (SM n (RR n m M bob sng C) k)) (ii (tl (RQ n m M bob sng C k))) = some ()
  | 0, k, hk, f + 1, hf => by
    have hN := ti_b hy.2.2.2.2.2.2.2.1.2.2
    have hk : k = B := hk
    have e1 : (if ii (c * m) ≤ (20 : Int32) then ii (c * m) else (20 : Int32)) = ii B := by
      rw [hB]
      by_cases h20 : (c * m) ≤ 20
      · rw [if_pos h20, if_pos (show ii (c * m) ≤ (20 : Int32) from (i_le (b := 20) (by omega) (by omega)).mpr h20)]
      · rw [if_neg h20, if_neg (show ¬ ii (c * m) ≤ (20 : Int32) from fun h9 => h20 ((i_le (b := 20) (by omega) (by omega)).mp h9))]
        rfl
    have hB2 : B ≤ 20 := by
      rw [hB]
      split <;> omega
    rw [fL_law_L281, e1, if_pos ((i_le (by omega) (by omega)).mpr (by omega)), hk]
    exact hK _
  | d + 1, k, hk, f + 1, hf => by
    have hy0 := hy
    obtain ⟨hn, hb, hb2, g1, g2, g3, g4, g5, g6⟩ := hy
    have hN := ti_b g5.2.2
    have hmb := mi_b g4
    have e1 : (if ii (c * m) ≤ (20 : Int32) then ii (c * m) else (20 : Int32)) = ii B := by
      rw [hB]
      by_cases h20 : (c * m) ≤ 20
      · rw [if_pos h20, if_pos (show ii (c * m) ≤ (20 : Int32) from (i_le (b := 20) (by omega) (by omega)).mpr h20)]
      · rw [if_neg h20, if_neg (show ¬ ii (c * m) ≤ (20 : Int32) from fun h9 => h20 ((i_le (b := 20) (by omega) (by omega)).mp h9))]
        rfl
    have hB2 : B ≤ 20 ∧ B ≤ (c * m) := by
      rw [hB]
      split <;> omega
    have hkN : k < (c * m) := by omega
    have hm : 0 < m := by
      rcases Nat.eq_zero_or_pos m with h9 | h9
      · rw [h9] at hkN
        omega
      · exact h9
    have hkm : k % m < m := Nat.mod_lt k hm
    have ih := ll281 hy0 hB hK d (k + 1) (by omega) f (by omega)
    have em : ¬ ii m = (0 : Int32) := fun h9 => by have := (i_eq (b := 0) (by omega) (by omega)).mp h9; omega
    rw [fL_law_L281, e1, if_neg (show ¬ ii B ≤ ii k from fun h9 => by have := (i_le (by omega) (by omega)).mp h9; omega)]
    dsimp only
    rw [hb, row_ok hn g5.2.2 hkN, Option.bind_some, Sum.elim_inr, if_neg em, i_mod (by omega) (by omega), i_sub1 hm]
    have hrc : fL_law_L281 (ii (c * m)) r15 (x3, 14, 24, 336, 5, 24, 336) r6 (ii m) r11 (ii n) (ii (tl (rowL n))) K f (ii (k + 1)) (ii (SM n (RR n m M bob sng C) k) + ii (mu n ((RR n m M bob sng C) k))) (ii (tl ((RR n m M bob sng C) k))) = some () := by
      rw [i_add]
      exact ih
    by_cases c1 : k % m + 1 = m
    · rw [if_pos (show ii (k % m) = ii (m - 1) by rw [show m - 1 = k % m by omega])]
      exact lj320 hy0 hkN (Or.inr ⟨rfl, c1⟩) hrc
    · rw [if_neg (show ¬ ii (k % m) = ii (m - 1) from fun h9 => by have := (i_eq (by omega) (by omega)).mp h9; omega)]
      exact lj320 hy0 hkN (Or.inl ⟨rfl, c1⟩) hrc
theorem lj243 (hy : SY n m M bob sng c C D r6 r11 r15) (hr : GO n D rec40 (x4 + (1 : Int32))) {t : Nat} (ht : t < 5) (hx : x4 = ii t) (h19 : v19.1 = DG n m M bob sng c C) (hE : ETE v19.2.2.2.2.2.1 v19.2.2.2.2.2.2.1 v19.2.2.2.2.2.2.2.1 v19.2.2.2.2.2.2.2.2.1 v19.2.2.2.2.2.2.2.2.2.1 v19.2.2.2.2.2.2.2.2.2.2.1 v19.2.2.2.2.2.2.2.2.2.2.2) :
    fL_law_J243 r15 r6 r11 (x3, 14, 24, 336, 5, 24, 336) (ii n) (ii (c * m)) (ii m) (ii (tl (rowL n))) v19 rec40 x4 = some () := by
  have hy0 := hy
  obtain ⟨hn, hb, hb2, g1, g2, g3, g4, g5, g6⟩ := hy
  have hN := ti_b g5.2.2
  have hn7 := nb_le hn
  have hh := (hb_ok hn g4).2
  have hs := sm_le (R := (RR n m M bob sng C)) hn (N := (c * m)) (fun k hk => g5.2.2.2.2.2.2 k hk)
  have hs2 : 2 * n * (c * m) ≤ 14 * 336 := Nat.mul_le_mul (by omega) hN
  have e2 : ((2 : Int32) * ii n) * ii (c * m) = ii (2 * n * (c * m)) := by
    rw [show (2 : Int32) * ii n = ii (2 * n) from i_mul 2 n, i_mul]
  unfold fL_law_J243
  dsimp only
  rw [hb, told5 hn g4 g5.1, Option.bind_some, Sum.elim_inr, if_neg (fun h9 => by have := (i_lt (by omega) (by omega)).mp h9; omega), tch6 hn g5.2.2, Option.bind_some, Sum.elim_inr, e2, if_pos ((i_le (by omega) (by omega)).mpr hs)]
  have hB2 : (if (c * m) ≤ 20 then (c * m) else 20) ≤ 20 := by split <;> omega
  exact ll281 hy0 rfl (fun x => lx281 hy0 hr ht hx h19 hE (fun h9 => if_pos h9) x) _ 0 (Nat.zero_add _) 30 (by omega)
theorem lj217 (hy : SY n m M bob sng c C D r6 r11 r15) (hr : GO n D rec40 (x4 + (1 : Int32))) {t : Nat} (ht : t < 5) (hx : x4 = ii t) (h19 : v19.1 = DG n m M bob sng c C) (hE : ETE v19.2.2.2.2.2.1 v19.2.2.2.2.2.2.1 v19.2.2.2.2.2.2.2.1 v19.2.2.2.2.2.2.2.2.1 v19.2.2.2.2.2.2.2.2.2.1 v19.2.2.2.2.2.2.2.2.2.2.1 v19.2.2.2.2.2.2.2.2.2.2.2) :
    fL_law_J217 r15 (x3, 14, 24, 336, 5, 24, 336) r6 (ii (c * m)) r11 (ii n) (ii m) (ii (tl (rowL n))) v19 rec40 x4 = some () := by
  have hy0 := hy
  obtain ⟨hn, hb, hb2, g1, g2, g3, g4, g5, g6⟩ := hy
  have hN := ti_b g5.2.2
  obtain ⟨p1, q, p2, p3, p4, p5⟩ := pv_ok hn g5.2.2
  have hj := lj243 hy0 (x3 := x3) hr ht hx h19 hE
  unfold fL_law_J217
  dsimp only
  rw [hb, tch5 hn g5.2.2, Option.bind_some, Sum.elim_inr, p2]
  by_cases h0 : (c * m) = 0
  · have e0 : ii (c * m) = (0 : Int32) := by rw [h0]; rfl
    rw [if_pos (show ii q = (0 : Int32) by rw [p4 h0]; rfl), if_pos e0]
    exact hj
  · have := (p5 (by omega)).1
    rw [if_neg (show ¬ ii q = (0 : Int32) from fun h9 => by have := (i_eq (b := 0) (by omega) (by omega)).mp h9; omega), if_neg (show ¬ ii (c * m) = (0 : Int32) from fun h9 => h0 ((i_eq (b := 0) (by omega) (by omega)).mp h9))]
    exact hj
theorem lj186 (hy : SY n m M bob sng c C D r6 r11 r15) (hr : GO n D rec40 (x4 + (1 : Int32))) {t : Nat} (ht : t < 5) (hx : x4 = ii t) (h19 : v19.1 = DG n m M bob sng c C) (hE : ETE v19.2.2.2.2.2.1 v19.2.2.2.2.2.2.1 v19.2.2.2.2.2.2.2.1 v19.2.2.2.2.2.2.2.2.1 v19.2.2.2.2.2.2.2.2.2.1 v19.2.2.2.2.2.2.2.2.2.2.1 v19.2.2.2.2.2.2.2.2.2.2.2) :
    fL_law_J186 r15 (x3, 14, 24, 336, 5, 24, 336) r6 (ii (c * m)) r11 (ii n) (ii m) (ii (tl (rowL n))) v19 rec40 x4 = some () := by
  have hy0 := hy
  obtain ⟨hn, hb, hb2, g1, g2, g3, g4, g5, g6⟩ := hy
  have hN := ti_b g5.2.2
  obtain ⟨p1, q, p2, p3, p4, p5⟩ := pv_ok hn g5.2.2
  have hj := lj217 hy0 (x3 := x3) hr ht hx h19 hE
  unfold fL_law_J186
  dsimp only
  rw [hb, tch2 hn g5.2.2, Option.bind_some, Sum.elim_inr, tch5 hn g5.2.2, p2]
  by_cases h1 : 0 < (c * m) ∧ (RR n m M bob sng C) ((c * m) - 1) = rowL n
  · rw [if_pos h1, if_pos (show (1 : Int32) = 1 from rfl), Option.bind_some, Sum.elim_inr, if_pos (show ii q = (1 : Int32) by rw [(p5 h1.1).2.mpr h1.2]; rfl)]
    exact hj
  · rw [if_neg h1, if_neg (show ¬ (0 : Int32) = 1 by decide), Option.bind_some, Sum.elim_inr, if_neg (show ¬ ii q = (1 : Int32) from fun h9 => by
      have h8 := (i_eq (b := 1) (by omega) (by omega)).mp h9
      rcases Nat.eq_zero_or_pos (c * m) with h7 | h7
      · have := p4 h7
        omega
      · exact h1 ⟨h7, (p5 h7).2.mp h8⟩)]
    exact hj
theorem lj155 (hy : SY n m M bob sng c C D r6 r11 r15) (hr : GO n D rec40 (x4 + (1 : Int32))) {t : Nat} (ht : t < 5) (hx : x4 = ii t) (h19 : v19.1 = DG n m M bob sng c C) (hE : ETE v19.2.2.2.2.2.1 v19.2.2.2.2.2.2.1 v19.2.2.2.2.2.2.2.1 v19.2.2.2.2.2.2.2.2.1 v19.2.2.2.2.2.2.2.2.2.1 v19.2.2.2.2.2.2.2.2.2.2.1 v19.2.2.2.2.2.2.2.2.2.2.2) :
    fL_law_J155 r15 (x3, 14, 24, 336, 5, 24, 336) r6 (ii (c * m)) r11 (ii n) (ii m) (ii (tl (rowL n))) v19 rec40 x4 = some () := by
  have hy0 := hy
  obtain ⟨hn, hb, hb2, g1, g2, g3, g4, g5, g6⟩ := hy
  have hN := ti_b g5.2.2
  have hj := lj186 hy0 (x3 := x3) hr ht hx h19 hE
  have hp := rpI_none (R := (RR n m M bob sng C)) (N := (c * m)) (by omega)
  unfold fL_law_J155
  dsimp only
  rw [hb, tch3 hn g5.2.2, Option.bind_some, Sum.elim_inr, tch4 hn g5.2.2]
  by_cases h1 : rpR (RR n m M bob sng C) (c * m) = none
  · rw [if_pos h1, if_pos (show (1 : Int32) = 1 from rfl), Option.bind_some, Sum.elim_inr, if_pos (hp.mpr h1)]
    exact hj
  · rw [if_neg h1, if_neg (show ¬ (0 : Int32) = 1 by decide), Option.bind_some, Sum.elim_inr, if_neg (fun h9 => h1 (hp.mp h9))]
    exact hj
end LW
theorem ll40 {L : Nat} (hL : L ≤ 260) (xs : Nat → Int32) {n : Nat} (hn : NB n) {x3 : Int32} {r6 : (Int32 × Int32 × Int32 × Int32 × Int32 × Int32 × Int32 × Int32 × (Nat → Int32) × (Nat → Int32) × Int32 × Int32 × Int32 × Int32 × (Nat → Int32) × (Nat → Int32) × Nat)} (hb : r6.2.2.2.2.2.2.2.2.2.2.1 = ii n) (hb2 : r6.2.2.1 = ii n) {K : Int32 → Int32 → Int32 → Int32 → Int32 → Int32 → Int32 → (Nat → Int32) → Int32 → (Nat → Int32) → (Nat → Int32) → Int32 → Int32 → Int32 → (Nat → Int32) → Int32 → Int32 → Int32 → (Nat → Int32) → Int32 → Int32 → Int32 → (Nat → Int32) → Int32 → (Nat → Int32) → (Nat → Int32) → Nat → (Nat → Int32) → Nat → (Nat → Int32) → Option Unit} (hK : ∀ x D, GO n D K x) :
    ∀ (t k : Nat), k + t = 5 → ∀ f, t < f → ∀ D, D + 11 * t < 700000 → GO n D (fL_law_L40 L xs r6 (x3, 14, 24, 336, 5, 24, 336) K f) (ii k)
  | 0, k, hk, f + 1, hf, D, hD => by
    intro drw rb rs dif rep cz cf wz wf bf ob os chz chf good best gz gf edif erep ecz ecf ewz ewf ebf gmn gmf gcn gcf hR hE
    rw [fL_law_L40, if_pos (show (5 : Int32) ≤ ii k from (i_le (a := 5) (by omega) (by omega)).mpr (by omega))]
    exact hK _ D _ _ _ _ _ _ _ _ _ _ _ _ _ _ _ _ _ _ _ _ _ _ _ _ _ _ _ _ _ hR hE
  | t + 1, k, hk, f + 1, hf, D, hD => by
    intro drw rb rs dif rep cz cf wz wf bf ob os chz chf good best gz gf edif erep ecz ecf ewz ewf ebf gmn gmf gcn gcf hR hE
    have hn7 := nb_le hn
    obtain ⟨m, M, bob, sng, c, C, hG⟩ := hR
    obtain ⟨a1, a2, a3, a4, a5, a6, a7, a8, a9, a10, a11, a12, a13, a14, a15, a16, a17, a18, e1, m', M', bob', sng', c0', C0', hG2⟩ := ract_ok hL (xs := xs) hn (by omega) hG
    obtain ⟨b1, b2, b3, b4, b5, b6, b7, b8, b9, b10, e2, c', C', hG3⟩ := rcall_ok hL (xs := xs) hn (by omega) hG2
    have hG4 := hG3
    obtain ⟨g1, g2, g3, g4, g5, g6⟩ := hG3
    obtain ⟨r, r1, r2, r3⟩ := dig_ok hn g4 g5 hE gf
    obtain ⟨gr, gr1, gr2⟩ := rounds_ok hn
    have hN := ti_b g5.2.2
    have hmb := mi_b g4
    have hcb := tt_b g5
    have ih0 : GO n (D + 9 + 2) (fL_law_L40 L xs r6 (x3, 14, 24, 336, 5, 24, 336) K f) (ii (k + 1)) := ll40 hL xs hn hb hb2 hK t (k + 1) (by omega) f (by omega) (D + 9 + 2) (by omega)
    have ih : GO n (D + 9 + 2) (fL_law_L40 L xs r6 (x3, 14, 24, 336, 5, 24, 336) K f) (ii k + (1 : Int32)) := by
      rw [i_add1]
      exact ih0
    have hy : SY n m' M' bob' sng' c' C' (D + 9 + 2) r6 ((1 : Int32), a1, a2, a3, a4, a5, a6, a7, a8, a9, a10, a11, a12, a13, a14, a15, a16, a17, a18) ((1 : Int32), b1, b2, b3, b4, b5, b6, b7, b8, b9, b10) := ⟨hn, hb, hb2, hG4⟩
    have hj := lj155 (x3 := x3) hy ih (t := k) (by omega) rfl r2 r3
    have nd1 := ndR_le (R := RR n m' M' bob' sng' C') (c' * m')
    have nd2 := ndR_rpR (R := RR n m' M' bob' sng' C') (c' * m')
    rw [fL_law_L40, if_neg (show ¬ (5 : Int32) ≤ ii k from fun h9 => by have := (i_le (a := 5) (by omega) (by omega)).mp h9; omega)]
    dsimp only
    rw [hb, hb2, e1, Option.bind_some]
    dsimp only
    rw [if_neg (show ¬ (1 : Int32) = 0 by decide), e2, Option.bind_some]
    dsimp only
    rw [if_neg (show ¬ (1 : Int32) = 0 by decide), r1, Option.bind_some, Sum.elim_inr, told0 hn g4 g5.1, Option.bind_some, Sum.elim_inr, tch0 hn g5.2.2, Option.bind_some, Sum.elim_inr, told1 hn g4 g5.1, Option.bind_some, Sum.elim_inr, gr1, Option.bind_some]
    dsimp only
    rw [tell_ok hn (isR_rounds n) gr2, Option.bind_some, told4 hn g4 g5.1, Option.bind_some, Sum.elim_inr, i_mul, Nat.mul_comm m' c']
    first | rw [if_pos rfl] | rw [if_pos trivial]
    rw [tch7 hn g5.2.2, Option.bind_some, Sum.elim_inr, if_neg (fun h9 => by have := (i_lt (by omega) (by omega)).mp h9; omega), tch3 hn g5.2.2, Option.bind_some, Sum.elim_inr]
    by_cases h1 : rpR (RR n m' M' bob' sng' C') (c' * m') = none
    · rw [if_pos h1, if_pos (show (1 : Int32) = 1 from rfl), Option.bind_some, Sum.elim_inr, if_pos (by rw [nd2.mp h1])]
      exact hj
    · rw [if_neg h1, if_neg (show ¬ (0 : Int32) = 1 by decide), Option.bind_some, Sum.elim_inr, if_neg (fun h9 => h1 (nd2.mpr ((i_eq (by omega) (by omega)).mp h9)))]
      exact hj
theorem law_init (x : Int32) : fX7_init x = some (x, 14, 24, 336, 5, 24, 336) := by
  first
  | rfl
  | (unfold fX7_init fX6_init; rfl)
  | (unfold fX7_init; rfl)
theorem ll2 {L : Nat} (hL : L ≤ 260) (xs : Nat → Int32) {K : Int32 → Option Unit} (hK : ∀ x, K x = some ()) : ∀ (d k : Nat), k + d = 3 → ∀ f, d < f → fL_law_L2 L xs K f (ii k) = some ()
  | 0, k, hk, f + 1, hf => by
    rw [fL_law_L2, if_pos (show (3 : Int32) ≤ ii k from (i_le (a := 3) (by omega) (by omega)).mpr (by omega))]
    exact hK _
  | d + 1, k, hk, f + 1, hf => by
    have ih := ll2 hL xs hK d (k + 1) (by omega) f (by omega)
    have e : (31 : Int32) * ii k + (7 : Int32) = ii (31 * k + 7) := by
      rw [show (31 : Int32) * ii k = ii (31 * k) from i_mul 31 k]
      exact i_add _ 7
    obtain ⟨n, a1, a2, a3, a4, a5, a6, a7, a8, a9, a10, a11, a12, a13, a14, hn, e1, hR⟩ := found_ok hL xs (d := 31 * k + 7) (by omega) (fun _ => 0) (fun _ => 0) (fun _ => 0) (fun _ => 0)
    rw [fL_law_L2, if_neg (show ¬ (3 : Int32) ≤ ii k from fun h9 => by have := (i_le (a := 3) (by omega) (by omega)).mp h9; omega), e, law_init, Option.bind_some]
    dsimp only
    rw [e1, Option.bind_some]
    dsimp only
    rw [if_neg (show ¬ (1 : Int32) = 0 by decide)]
    refine ll40 hL xs hn (x3 := ii (31 * k + 7)) (r6 := ((1 : Int32), a1, ii n, a2, a3, a4, a5, a6, a7, a8, ii n, a9, a10, a11, a12, a13, a14)) rfl rfl (K := fL_law_X40 (fL_law_L2 L xs K f) (ii k)) (fun x D drw rb rs dif rep cz cf wz wf bf ob os chz chf good best gz gf edif erep ecz ecf ewz ewf ebf gmn gmf gcn gcf _ _ => ?_) 5 0 rfl 6 (by omega) (31 * k + 7 + 100) (by omega) _ _ _ _ _ _ _ _ _ _ _ _ _ _ _ _ _ _ _ _ _ _ _ _ _ _ _ _ _ hR ⟨rfl, rfl, rfl, rfl, fun q hq => ⟨by first | rfl | (show (0 : Int32) = ii 0; decide), Nat.zero_le _⟩⟩
    unfold fL_law_X40
    rw [i_add1]
    exact ih
/-- the law holds of every script of at most 260 ints -/
theorem pl_law {L : Nat} (hL : L ≤ 260) (xs : Nat → Int32) : fL_law L xs = some () := by
  unfold fL_law
  exact ll2 hL xs (fun x => rfl) 3 0 rfl 4 (by omega)
