/-! PURE: the search -/
def bmax (b x : Int32) : Int32 := if b < x then x else b
/-- a touch after one more call: good, or to be gone on with, or neither -/
def stp (n m : Nat) (M : Nat → Nat) (bob sng c : Nat) (C : Nat → Nat) (q : Nat) (rec : (Nat → Nat) → Nat × Int32 → Nat × Int32) (s : Nat × Int32) : Nat × Int32 :=
  let C' := fun k => if k = c then q else C k
  if rpR (RR n m M bob sng C') ((c + 1) * m) = none then
    (if 0 < (c + 1) * m ∧ RR n m M bob sng C' ((c + 1) * m - 1) = rowL n then (s.1 + 1, bmax s.2 (ii (SM n (RR n m M bob sng C') ((c + 1) * m)))) else rec C' s)
  else s
def EXt (n m : Nat) (M : Nat → Nat) (bob sng : Nat) : Nat → Nat → (Nat → Nat) → Nat × Int32 → Nat × Int32
  | 0, _, _, s => s
  | k + 1, c, C, s => stp n m M bob sng c C 2 (EXt n m M bob sng k (c + 1)) (stp n m M bob sng c C 1 (EXt n m M bob sng k (c + 1)) (stp n m M bob sng c C 0 (EXt n m M bob sng k (c + 1)) s))
theorem add_tot (z x : Int32) (f : Nat → Int32) : ∃ r, fX1_add z 5 f x = some r := by
  unfold fX1_add
  by_cases c0 : z < 0
  · rw [if_pos c0]
    exact ⟨_, rfl⟩
  · rw [if_neg c0]
    by_cases c1 : Int32.ofNat 5 ≤ z
    · rw [if_pos c1]
      exact ⟨_, rfl⟩
    · rw [if_neg c1]
      obtain ⟨k, hk, rfl⟩ := i_of c0
      have c2 : ¬ 5 ≤ k := fun h9 => c1 ((i_le (a := 5) (by omega) hk).mpr h9)
      rw [if_neg (i_ix (by omega) (by omega))]
      exact ⟨_, rfl⟩
theorem kp_L {c : Nat} {C : Nat → Nat} {cz : Int32} {cf : Nat → Int32} (h : LnF c 24 cz cf (fun k => ii (C k))) (g p : Int32) : ∀ (d k : Nat), k + d = c → ∀ f, d < f → ∀ (z : Int32) (w : Nat → Int32), ∃ z' w', fX4_keep_L67 cz 24 cf 5 (fX4_keep_X67 g p) f (ii k) z w = some (g + (1 : Int32), p, z', w')
  | 0, k, hk, f + 1, hf, z, w => by
    have hb := h.2.1
    refine ⟨z, w, ?_⟩
    rw [fX4_keep_L67]
    unfold fX5_callCount fX1_size
    rw [Option.bind_some, Option.bind_some, h.1, if_pos ((i_le (by omega) (by omega)).mpr (by omega)), fX4_keep_X67]
  | d + 1, k, hk, f + 1, hf, z, w => by
    have hb := h.2.1
    obtain ⟨r, hr⟩ := add_tot z (ii (C k)) w
    obtain ⟨z', w', e⟩ := kp_L h g p d (k + 1) (by omega) f (by omega) r.1 r.2
    refine ⟨z', w', ?_⟩
    rw [fX4_keep_L67]
    unfold fX5_callCount fX5_laidCall fX1_size
    rw [Option.bind_some, Option.bind_some, if_neg (show ¬ cz ≤ ii k by rw [h.1, i_le (by omega) (by omega)]; omega), ln_at h (by omega), Option.bind_some, Option.bind_some, hr, Option.bind_some, i_add1]
    exact e
theorem kp_Lb {c : Nat} {C : Nat → Nat} {cz : Int32} {cf : Nat → Int32} (h : LnF c 24 cz cf (fun k => ii (C k))) (g p : Int32) : ∀ (d k : Nat), k + d = c → ∀ f, d < f → ∀ (z : Int32) (w : Nat → Int32), ∃ z' w', fX4_keep_L67b cz 24 cf 5 (fX4_keep_X67b g p) f (ii k) z w = some (g + (1 : Int32), p, z', w')
  | 0, k, hk, f + 1, hf, z, w => by
    have hb := h.2.1
    refine ⟨z, w, ?_⟩
    rw [fX4_keep_L67b]
    unfold fX5_callCount fX1_size
    rw [Option.bind_some, Option.bind_some, h.1, if_pos ((i_le (by omega) (by omega)).mpr (by omega)), fX4_keep_X67b]
  | d + 1, k, hk, f + 1, hf, z, w => by
    have hb := h.2.1
    obtain ⟨r, hr⟩ := add_tot z (ii (C k)) w
    obtain ⟨z', w', e⟩ := kp_Lb h g p d (k + 1) (by omega) f (by omega) r.1 r.2
    refine ⟨z', w', ?_⟩
    rw [fX4_keep_L67b]
    unfold fX5_callCount fX5_laidCall fX1_size
    rw [Option.bind_some, Option.bind_some, if_neg (show ¬ cz ≤ ii k by rw [h.1, i_le (by omega) (by omega)]; omega), ln_at h (by omega), Option.bind_some, Option.bind_some, hr, Option.bind_some, i_add1]
    exact e
theorem kp_Lc {c : Nat} {C : Nat → Nat} {cz : Int32} {cf : Nat → Int32} (h : LnF c 24 cz cf (fun k => ii (C k))) (g p : Int32) : ∀ (d k : Nat), k + d = c → ∀ f, d < f → ∀ (z : Int32) (w : Nat → Int32), ∃ z' w', fX4_keep_L67c cz 24 cf 5 (fX4_keep_X67c g p) f (ii k) z w = some (g + (1 : Int32), p, z', w')
  | 0, k, hk, f + 1, hf, z, w => by
    have hb := h.2.1
    refine ⟨z, w, ?_⟩
    rw [fX4_keep_L67c]
    unfold fX5_callCount fX1_size
    rw [Option.bind_some, Option.bind_some, h.1, if_pos ((i_le (by omega) (by omega)).mpr (by omega)), fX4_keep_X67c]
  | d + 1, k, hk, f + 1, hf, z, w => by
    have hb := h.2.1
    obtain ⟨r, hr⟩ := add_tot z (ii (C k)) w
    obtain ⟨z', w', e⟩ := kp_Lc h g p d (k + 1) (by omega) f (by omega) r.1 r.2
    refine ⟨z', w', ?_⟩
    rw [fX4_keep_L67c]
    unfold fX5_callCount fX5_laidCall fX1_size
    rw [Option.bind_some, Option.bind_some, if_neg (show ¬ cz ≤ ii k by rw [h.1, i_le (by omega) (by omega)]; omega), ln_at h (by omega), Option.bind_some, Option.bind_some, hr, Option.bind_some, i_add1]
    exact e
theorem kp_Ld {c : Nat} {C : Nat → Nat} {cz : Int32} {cf : Nat → Int32} (h : LnF c 24 cz cf (fun k => ii (C k))) (g p : Int32) : ∀ (d k : Nat), k + d = c → ∀ f, d < f → ∀ (z : Int32) (w : Nat → Int32), ∃ z' w', fX4_keep_L67d cz 24 cf 5 (fX4_keep_X67d g p) f (ii k) z w = some (g + (1 : Int32), p, z', w')
  | 0, k, hk, f + 1, hf, z, w => by
    have hb := h.2.1
    refine ⟨z, w, ?_⟩
    rw [fX4_keep_L67d]
    unfold fX5_callCount fX1_size
    rw [Option.bind_some, Option.bind_some, h.1, if_pos ((i_le (by omega) (by omega)).mpr (by omega)), fX4_keep_X67d]
  | d + 1, k, hk, f + 1, hf, z, w => by
    have hb := h.2.1
    obtain ⟨r, hr⟩ := add_tot z (ii (C k)) w
    obtain ⟨z', w', e⟩ := kp_Ld h g p d (k + 1) (by omega) f (by omega) r.1 r.2
    refine ⟨z', w', ?_⟩
    rw [fX4_keep_L67d]
    unfold fX5_callCount fX5_laidCall fX1_size
    rw [Option.bind_some, Option.bind_some, if_neg (show ¬ cz ≤ ii k by rw [h.1, i_le (by omega) (by omega)]; omega), ln_at h (by omega), Option.bind_some, Option.bind_some, hr, Option.bind_some, i_add1]
    exact e
theorem kp_ok {c : Nat} {C : Nat → Nat} {cz : Int32} {cf : Nat → Int32} (h : LnF c 24 cz cf (fun k => ii (C k))) (g b z p : Int32) (w : Nat → Int32) : ∃ z' w', fX4_keep g b z 5 w cz 24 cf p = some (g + (1 : Int32), bmax b p, z', w') := by
  have hb := h.2.1
  unfold fX4_keep bmax
  by_cases c0 : p = b
  · subst c0
    have c1 : ¬ p < p := Int32.lt_irrefl
    rw [if_pos rfl]
    unfold fX5_callCount fX1_size
    rw [Option.bind_some, Option.bind_some, Option.bind_some]
    by_cases c2 : z ≤ cz
    · rw [if_pos c2, if_neg c1, if_neg c1]
      exact ⟨_, _, rfl⟩
    · rw [if_neg c2, if_neg c1, if_neg c1]
      unfold fX1_clear
      rw [Option.bind_some]
      exact kp_Ld h g p c 0 (by omega) 1000 (by omega) _ _
  · rw [if_neg c0]
    by_cases c1 : b < p
    · rw [if_pos c1, if_pos c1]
      unfold fX1_clear
      rw [Option.bind_some]
      exact kp_L h g p c 0 (by omega) 1000 (by omega) _ _
    · rw [if_neg c1, if_neg c1]
      exact ⟨_, _, rfl⟩
section SE
variable {n m : Nat} {M : Nat → Nat} {bob sng : Nat} {bells ob os chz : Int32} {chf : Nat → Int32}
/-- what extend gives -/
def XO (n m : Nat) (M : Nat → Nat) (bob sng c : Nat) (C : Nat → Nat) (s : Nat × Int32) (r : Int32 × Int32 × Int32 × (Nat → Int32) × Int32 × Int32 × Int32 × (Nat → Int32) × Int32 × (Nat → Int32) × (Nat → Int32)) : Prop :=
  r.1 = ii s.1 ∧ r.2.1 = s.2 ∧ TT n m M bob sng c C r.2.2.2.2.1 r.2.2.2.2.2.1 r.2.2.2.2.2.2.1 r.2.2.2.2.2.2.2.1 r.2.2.2.2.2.2.2.2.1 r.2.2.2.2.2.2.2.2.2.1 r.2.2.2.2.2.2.2.2.2.2
theorem tt_back {c q : Nat} {C : Nat → Nat} {dif rep cz : Int32} {cf : Nat → Int32} {wz : Int32} {wf bf : Nat → Int32} (h : TT n m M bob sng c (fun k => if k = c then q else C k) dif rep cz cf wz wf bf) : TT n m M bob sng c C dif rep cz cf wz wf bf := by
  obtain ⟨h1, h2, h3⟩ := h
  refine ⟨ln_congr h1 (fun k hk => by show ii (if k = c then q else C k) = ii (C k); rw [if_neg (show ¬ k = c by omega)]), fun k hk => ?_, ti_congr h3 (fun k hk => ?_)⟩
  · have h9 : (if k = c then q else C k) ≤ 2 := h2 k hk
    rwa [if_neg (show ¬ k = c by omega)] at h9
  · have hm : 0 < m := by
      rcases Nat.eq_zero_or_pos m with h9 | h9
      · rw [h9] at hk
        omega
      · exact h9
    refine rl_congr (fun j hj => ?_) hm
    have hjc : ¬ j = c := fun h9 => by
      rw [h9] at hj
      omega
    show (if j = c then q else C j) = C j
    rw [if_neg hjc]
/-- one turn of the loop over the three calls -/
theorem ext_turn (hn : NB n) (hM : MI n m M bob sng bells ob os chz chf) {k c : Nat} {C : Nat → Nat} (hc : c < 24) {F : Nat}
    (hrec : ∀ (C' : Nat → Nat) (s : Nat × Int32) (gz : Int32) (gf : Nat → Int32) (dif rep cz : Int32) (cf : Nat → Int32) (wz : Int32) (wf bf : Nat → Int32), TT n m M bob sng (c + 1) C' dif rep cz cf wz wf bf →
      ∃ r, fX4_extend F (ii s.1) s.2 gz 5 gf dif rep cz 24 cf wz 336 wf 5040 bf (ii n) ob os chz 14 chf (ii k) = some r ∧ XO n m M bob sng (c + 1) C' (EXt n m M bob sng k (c + 1) C' s) r)
    {q : Nat} (hq : q ≤ 2) (s : Nat × Int32) (gz : Int32) (gf : Nat → Int32) (dif rep cz : Int32) (cf : Nat → Int32) (wz : Int32) (wf bf : Nat → Int32) (h : TT n m M bob sng c C dif rep cz cf wz wf bf) (f : Nat)
    (K : Int32 → Int32 → Int32 → Int32 → (Nat → Int32) → Int32 → Int32 → Int32 → (Nat → Int32) → Int32 → (Nat → Int32) → (Nat → Int32) → Option (Int32 × Int32 × Int32 × (Nat → Int32) × Int32 × Int32 × Int32 × (Nat → Int32) × Int32 × (Nat → Int32) × (Nat → Int32))) :
    ∃ r, XO n m M bob sng c C (stp n m M bob sng c C q (EXt n m M bob sng k (c + 1)) s) r ∧
      fX4_extend_L13 24 336 5040 (ii n) ob os chz 14 chf (fX4_extend F) 5 (ii (k + 1)) K (f + 1) (ii q) (ii s.1) s.2 gz gf dif rep cz cf wz wf bf =
        fX4_extend_L13 24 336 5040 (ii n) ob os chz 14 chf (fX4_extend F) 5 (ii (k + 1)) K f (ii (q + 1)) r.1 r.2.1 r.2.2.1 r.2.2.2.1 r.2.2.2.2.1 r.2.2.2.2.2.1 r.2.2.2.2.2.2.1 r.2.2.2.2.2.2.2.1 r.2.2.2.2.2.2.2.2.1 r.2.2.2.2.2.2.2.2.2.1 r.2.2.2.2.2.2.2.2.2.2 := by
  have hm := mi_b hM
  have hz := hM.2.2.2.1.1
  obtain ⟨d1, r1, cf1, z1, w1, b1, a1, a2⟩ := lay_ok hn hM h hc hq
  have hT := a2.2.2
  rw [fX4_extend_L13, if_neg (show ¬ (2 : Int32) < ii q from fun h9 => by have := (i_lt (a := 2) (by omega) (by omega)).mp h9; omega), a1, Option.bind_some]
  simp only
  rw [tru_ok hT, Option.bind_some]
  unfold stp
  simp only
  by_cases t1 : rpR (RR n m M bob sng fun k => if k = c then q else C k) ((c + 1) * m) = none
  · rw [if_pos t1, if_pos t1, if_neg (show ¬ (1 : Int32) = 0 by decide), cmr_ok hn hT, Option.bind_some]
    by_cases t2 : 0 < (c + 1) * m ∧ RR n m M bob sng (fun k => if k = c then q else C k) ((c + 1) * m - 1) = rowL n
    · rw [if_pos t2, if_pos t2, if_neg (show ¬ (1 : Int32) = 0 by decide), mus_ok hn hT, Option.bind_some]
      obtain ⟨z', w', k1⟩ := kp_ok a2.1 (ii s.1) s.2 gz (ii (SM n (RR n m M bob sng fun k => if k = c then q else C k) ((c + 1) * m))) gf
      obtain ⟨d2, r2, z2, b2, t3, t4⟩ := take_ok hn hz hm a2
      rw [k1, Option.bind_some, t3, Option.bind_some, i_add1]
      exact ⟨(ii s.1 + (1 : Int32), bmax s.2 (ii (SM n (RR n m M bob sng fun k => if k = c then q else C k) ((c + 1) * m))), z', w', d2, r2, ii c, cf1, z2, w1, b2), ⟨by show ii s.1 + (1 : Int32) = ii (s.1 + 1); rw [i_add1], rfl, tt_back t4⟩, rfl⟩
    · rw [if_neg t2, if_neg t2, if_pos (show (0 : Int32) = 0 from rfl)]
      obtain ⟨x, x1, x2, x3, x4⟩ := hrec (fun k => if k = c then q else C k) s gz gf d1 r1 (ii (c + 1)) cf1 z1 w1 b1 a2
      obtain ⟨d2, r2, z2, b2, t3, t4⟩ := take_ok hn hz hm x4
      rw [i_sub1 (by omega), show k + 1 - 1 = k from rfl, x1, Option.bind_some, t3, Option.bind_some, i_add1]
      exact ⟨(x.1, x.2.1, x.2.2.1, x.2.2.2.1, d2, r2, ii c, x.2.2.2.2.2.2.2.1, z2, x.2.2.2.2.2.2.2.2.2.1, b2), ⟨x2, x3, tt_back t4⟩, rfl⟩
  · rw [if_neg t1, if_neg t1, if_pos (show (0 : Int32) = 0 from rfl)]
    obtain ⟨d2, r2, z2, b2, t3, t4⟩ := take_ok hn hz hm a2
    rw [t3, Option.bind_some, i_add1]
    exact ⟨(ii s.1, s.2, gz, gf, d2, r2, ii c, cf1, z2, w1, b2), ⟨rfl, rfl, tt_back t4⟩, rfl⟩
theorem ext_ok (hn : NB n) (hM : MI n m M bob sng bells ob os chz chf) : ∀ (k c : Nat), k + c ≤ 24 → k ≤ 5 → ∀ (F : Nat), k < F → ∀ (C : Nat → Nat) (s : Nat × Int32) (gz : Int32) (gf : Nat → Int32) (dif rep cz : Int32) (cf : Nat → Int32) (wz : Int32) (wf bf : Nat → Int32), TT n m M bob sng c C dif rep cz cf wz wf bf →
      ∃ r, fX4_extend F (ii s.1) s.2 gz 5 gf dif rep cz 24 cf wz 336 wf 5040 bf (ii n) ob os chz 14 chf (ii k) = some r ∧ XO n m M bob sng c C (EXt n m M bob sng k c C s) r
  | 0, c, hc, hk, F + 1, hF, C, s, gz, gf, dif, rep, cz, cf, wz, wf, bf, h => by
    rw [fX4_extend, if_pos (show ii 0 < (1 : Int32) by decide)]
    exact ⟨_, rfl, rfl, rfl, h⟩
  | k + 1, c, hc, hk, F + 1, hF, C, s, gz, gf, dif, rep, cz, cf, wz, wf, bf, h => by
    have hrec : ∀ (C' : Nat → Nat) (s : Nat × Int32) (gz : Int32) (gf : Nat → Int32) (dif rep cz : Int32) (cf : Nat → Int32) (wz : Int32) (wf bf : Nat → Int32), TT n m M bob sng (c + 1) C' dif rep cz cf wz wf bf →
      ∃ r, fX4_extend F (ii s.1) s.2 gz 5 gf dif rep cz 24 cf wz 336 wf 5040 bf (ii n) ob os chz 14 chf (ii k) = some r ∧ XO n m M bob sng (c + 1) C' (EXt n m M bob sng k (c + 1) C' s) r :=
      fun C' s gz gf dif rep cz cf wz wf bf h => ext_ok hn hM k (c + 1) (by omega) (by omega) F (by omega) C' s gz gf dif rep cz cf wz wf bf h
    obtain ⟨x, ⟨x1, x2, x3⟩, x4⟩ := ext_turn hn hM (k := k) (C := C) (by omega) hrec (q := 0) (by omega) s gz gf dif rep cz cf wz wf bf h 999 fX4_extend_X13
    obtain ⟨y, ⟨y1, y2, y3⟩, y4⟩ := ext_turn hn hM (k := k) (C := C) (by omega) hrec (q := 1) (by omega) (stp n m M bob sng c C 0 (EXt n m M bob sng k (c + 1)) s) x.2.2.1 x.2.2.2.1 _ _ _ _ _ _ _ x3 998 fX4_extend_X13
    obtain ⟨w, w3, w4⟩ := ext_turn hn hM (k := k) (C := C) (by omega) hrec (q := 2) (by omega) (stp n m M bob sng c C 1 (EXt n m M bob sng k (c + 1)) (stp n m M bob sng c C 0 (EXt n m M bob sng k (c + 1)) s)) y.2.2.1 y.2.2.2.1 _ _ _ _ _ _ _ y3 997 fX4_extend_X13
    refine ⟨w, ?_, w3⟩
    rw [fX4_extend, if_neg (show ¬ ii (k + 1) < (1 : Int32) from fun h9 => by have := (i_lt (b := 1) (by omega) (by omega)).mp h9; omega), if_pos (show ii (k + 1) ≤ (5 : Int32) from (i_le (b := 5) (by omega) (by omega)).mpr (by omega))]
    have x4 : fX4_extend_L13 24 336 5040 (ii n) ob os chz 14 chf (fX4_extend F) 5 (ii (k + 1)) fX4_extend_X13 1000 (0 : Int32) (ii s.1) s.2 gz gf dif rep cz cf wz wf bf = _ := x4
    rw [x4, x1, x2, y4, y1, y2, w4]
    show fX4_extend_L13 24 336 5040 (ii n) ob os chz 14 chf (fX4_extend F) 5 (ii (k + 1)) fX4_extend_X13 (996 + 1) (ii 3) w.1 _ _ _ _ _ _ _ _ _ _ = some w
    rw [fX4_extend_L13, if_pos (show (2 : Int32) < ii 3 by decide), fX4_extend_X13]
/-- the trial of a search between two looks -/
def ETE (dif rep cz : Int32) (cf : Nat → Int32) (wz : Int32) (wf bf : Nat → Int32) : Prop := cz = 0 ∧ wz = 0 ∧ dif = 0 ∧ rep = (-1 : Int32) ∧ BkF bf (fun _ => 0)
theorem ete_tt (C : Nat → Nat) {dif rep cz : Int32} {cf : Nat → Int32} {wz : Int32} {wf bf : Nat → Int32} (h : ETE dif rep cz cf wz wf bf) : TT n m M bob sng 0 C dif rep cz cf wz wf bf := by
  obtain ⟨rfl, rfl, rfl, rfl, h5⟩ := h
  refine ⟨ln_nil 24 (by omega) _ _, fun k hk => absurd hk (Nat.not_lt_zero _), ?_⟩
  rw [Nat.zero_mul]
  exact ti_nil h5
theorem tt_ete {C : Nat → Nat} {dif rep cz : Int32} {cf : Nat → Int32} {wz : Int32} {wf bf : Nat → Int32} (h : TT n m M bob sng 0 C dif rep cz cf wz wf bf) : ETE dif rep cz cf wz wf bf := by
  obtain ⟨h1, -, h3⟩ := h
  rw [Nat.zero_mul] at h3
  refine ⟨h1.1, h3.1.1, h3.2.2.1, h3.2.2.2.1, bk_congr h3.2.1 (fun k hk => ?_)⟩
  unfold bkw
  cases (prms n)[k]? with
  | none => rfl
  | some l => rfl
def LK (n m : Nat) (M : Nat → Nat) (bob sng k : Nat) : Nat × Int32 := EXt n m M bob sng k 0 (fun _ => 0) (0, (-1 : Int32))
theorem look_ok (hn : NB n) (hM : MI n m M bob sng bells ob os chz chf) {k : Nat} (hk : k ≤ 5) {dif rep cz : Int32} {cf : Nat → Int32} {wz : Int32} {wf bf : Nat → Int32} (h : ETE dif rep cz cf wz wf bf) (gf : Nat → Int32) :
    ∃ r : Int32 × Int32 × Int32 × (Nat → Int32) × Int32 × Int32 × Int32 × (Nat → Int32) × Int32 × (Nat → Int32) × (Nat → Int32), fX4_look 5 gf dif rep cz 24 cf wz 336 wf 5040 bf (ii n) ob os chz 14 chf (ii k) = some r ∧ r.1 = ii (LK n m M bob sng k).1 ∧ r.2.1 = (LK n m M bob sng k).2 ∧
      ETE r.2.2.2.2.1 r.2.2.2.2.2.1 r.2.2.2.2.2.2.1 r.2.2.2.2.2.2.2.1 r.2.2.2.2.2.2.2.2.1 r.2.2.2.2.2.2.2.2.2.1 r.2.2.2.2.2.2.2.2.2.2 := by
  obtain ⟨r, r1, r2, r3, r4⟩ := ext_ok hn hM k 0 (by omega) hk 6 (by omega) (fun _ => 0) (0, (-1 : Int32)) (0 : Int32) gf dif rep cz cf wz wf bf (ete_tt _ h)
  refine ⟨r, ?_, r2, r3, tt_ete r4⟩
  unfold fX4_look fX1_clear
  have r1 : fX4_extend 6 (0 : Int32) (-1 : Int32) (0 : Int32) 5 gf dif rep cz 24 cf wz 336 wf 5040 bf (ii n) ob os chz 14 chf (ii k) = some r := r1
  rw [Option.bind_some, r1, Option.bind_some]
end SE
/-! more leads, no fewer good ones -/
def sle (s t : Nat × Int32) : Prop := s.1 ≤ t.1 ∧ s.2.toInt ≤ t.2.toInt
theorem sle_rf (s : Nat × Int32) : sle s s := ⟨Nat.le_refl _, Int.le_refl _⟩
theorem sle_tr {s t u : Nat × Int32} (h : sle s t) (h2 : sle t u) : sle s u := ⟨Nat.le_trans h.1 h2.1, Int.le_trans h.2 h2.2⟩
theorem bmax_le (b x : Int32) : b.toInt ≤ (bmax b x).toInt := by
  unfold bmax
  by_cases c : b < x
  · rw [if_pos c]
    exact Int.le_of_lt (Int32.lt_iff_toInt_lt.mp c)
  · rw [if_neg c]
    exact Int.le_refl _
theorem bmax_mono {b b' : Int32} (h : b.toInt ≤ b'.toInt) (x : Int32) : (bmax b x).toInt ≤ (bmax b' x).toInt := by
  have h1 := bmax_le b' x
  unfold bmax at h1 ⊢
  by_cases c : b < x
  · rw [if_pos c]
    by_cases c2 : b' < x
    · rw [if_pos c2]
      exact Int.le_refl _
    · rw [if_neg c2]
      rw [Int32.lt_iff_toInt_lt] at c2
      omega
  · rw [if_neg c]
    exact Int.le_trans h h1
theorem stp_le {n m : Nat} {M : Nat → Nat} {bob sng c : Nat} {C : Nat → Nat} {q : Nat} {r r' : (Nat → Nat) → Nat × Int32 → Nat × Int32} (hr : ∀ C' s s', sle s s' → sle (r C' s) (r' C' s')) {s s' : Nat × Int32} (h : sle s s') : sle (stp n m M bob sng c C q r s) (stp n m M bob sng c C q r' s') := by
  unfold stp
  simp only
  split
  · split
    · exact ⟨by show s.1 + 1 ≤ s'.1 + 1; have := h.1; omega, bmax_mono h.2 _⟩
    · exact hr _ _ _ h
  · exact h
theorem stp_up {n m : Nat} {M : Nat → Nat} {bob sng c : Nat} {C : Nat → Nat} {q : Nat} {r : (Nat → Nat) → Nat × Int32 → Nat × Int32} (hr : ∀ C' s, sle s (r C' s)) (s : Nat × Int32) : sle s (stp n m M bob sng c C q r s) := by
  unfold stp
  simp only
  split
  · split
    · exact ⟨Nat.le_succ _, bmax_le _ _⟩
    · exact hr _ _
  · exact sle_rf _
theorem ex_le {n m : Nat} {M : Nat → Nat} {bob sng : Nat} : ∀ (k c : Nat) (C : Nat → Nat) (s s' : Nat × Int32), sle s s' → sle (EXt n m M bob sng k c C s) (EXt n m M bob sng (k + 1) c C s')
  | 0, c, C, s, s', h => by
    have e : ∀ C' t, sle t (EXt n m M bob sng 0 (c + 1) C' t) := fun C' t => sle_rf _
    exact sle_tr h (sle_tr (stp_up e _) (sle_tr (stp_up e _) (stp_up e _)))
  | k + 1, c, C, s, s', h => by
    have e : ∀ C' t t', sle t t' → sle (EXt n m M bob sng k (c + 1) C' t) (EXt n m M bob sng (k + 1) (c + 1) C' t') := fun C' t t' h => ex_le k (c + 1) C' t t' h
    rw [EXt]
    exact stp_le e (stp_le e (stp_le e h))
theorem lk_le {n m : Nat} {M : Nat → Nat} {bob sng : Nat} (k : Nat) : sle (LK n m M bob sng k) (LK n m M bob sng (k + 1)) := ex_le k 0 _ _ _ (sle_rf _)
theorem ex_bd {n m : Nat} {M : Nat → Nat} {bob sng : Nat} : ∀ (k c : Nat) (C : Nat → Nat) (s : Nat × Int32), (EXt n m M bob sng k c C s).1 ≤ s.1 + 4 ^ k
  | 0, c, C, s => Nat.le_succ _
  | k + 1, c, C, s => by
    have hp : 1 ≤ 4 ^ k := by
      have h9 := Nat.pow_le_pow_left (show 1 ≤ 4 by omega) k
      rwa [Nat.one_pow] at h9
    have e : ∀ (q : Nat) (t : Nat × Int32), (stp n m M bob sng c C q (EXt n m M bob sng k (c + 1)) t).1 ≤ t.1 + 4 ^ k := by
      intro q t
      unfold stp
      simp only
      split
      · split
        · show t.1 + 1 ≤ t.1 + 4 ^ k
          omega
        · exact ex_bd k (c + 1) _ t
      · omega
    have e0 := e 0 s
    have e1 := e 1 (stp n m M bob sng c C 0 (EXt n m M bob sng k (c + 1)) s)
    have e2 := e 2 (stp n m M bob sng c C 1 (EXt n m M bob sng k (c + 1)) (stp n m M bob sng c C 0 (EXt n m M bob sng k (c + 1)) s))
    rw [EXt, Nat.pow_succ]
    omega
theorem lk_bd {n m : Nat} {M : Nat → Nat} {bob sng : Nat} {k : Nat} (hk : k ≤ 5) : (LK n m M bob sng k).1 ≤ 1024 := by
  have h := ex_bd (n := n) (m := m) (M := M) (bob := bob) (sng := sng) k 0 (fun _ => 0) (0, (-1 : Int32))
  have h2 : 4 ^ k ≤ 4 ^ 5 := Nat.pow_le_pow_right (by omega) hk
  unfold LK
  have h3 : (4 : Nat) ^ 5 = 1024 := by decide
  omega
