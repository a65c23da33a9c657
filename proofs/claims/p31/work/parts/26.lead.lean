/-! PURE: the method, leads, the touch as a whole -/
def MI (n m : Nat) (M : Nat → Nat) (bob sng : Nat) (bells ob os chz : Int32) (chf : Nat → Int32) : Prop :=
  bells = ii n ∧ ob = ii bob ∧ os = ii sng ∧ LnF m 14 chz chf (fun k => ii (M k)) ∧ (∀ k, k < m → IsC n (M k)) ∧ IsC n bob ∧ IsC n sng
/-- the change that is rung at k in a lead with the call c -/
def rg (m : Nat) (M : Nat → Nat) (bob sng k c : Nat) : Nat := if c ≠ 0 ∧ k + 1 = m then (if c = 1 then bob else sng) else M k
theorem rg_isC {n m : Nat} {M : Nat → Nat} {bob sng : Nat} {bells ob os chz : Int32} {chf : Nat → Int32} (h : MI n m M bob sng bells ob os chz chf) {k : Nat} (hk : k < m) (c : Nat) : IsC n (rg m M bob sng k c) := by
  obtain ⟨-, -, -, -, h1, h2, h3⟩ := h
  unfold rg
  split
  · split
    · exact h2
    · exact h3
  · exact h1 k hk
theorem mi_b {n m : Nat} {M : Nat → Nat} {bob sng : Nat} {bells ob os chz : Int32} {chf : Nat → Int32} (h : MI n m M bob sng bells ob os chz chf) : m ≤ 14 := h.2.2.2.1.2.1
theorem rg_at {n m : Nat} {M : Nat → Nat} {bob sng : Nat} {bells ob os chz : Int32} {chf : Nat → Int32} (h : MI n m M bob sng bells ob os chz chf) {k c : Nat} (hk : k < m) (hc : c ≤ 2) :
    fX2_rungChange ob os chz 14 chf (ii k) (ii c) = some (ii (rg m M bob sng k c)) := by
  have hm := mi_b h
  obtain ⟨h0, h1, h2, h3, -⟩ := h
  unfold fX2_rungChange rg
  by_cases c0 : c = 0
  · subst c0
    rw [if_pos (show ii 0 = 0 from rfl), ln_at h3 hk, Option.bind_some, if_neg (fun h9 => h9.1 rfl)]
  · rw [if_neg (show ¬ ii c = 0 from fun h9 => c0 ((i_eq (b := 0) (by omega) (by omega)).mp h9))]
    unfold fX1_size
    rw [Option.bind_some, h3.1, i_sub1 (by omega)]
    by_cases e : k + 1 = m
    · rw [if_pos (show ii k = ii (m - 1) by rw [← e]; rfl), if_pos ⟨c0, e⟩]
      unfold fX2_insteadOfLast
      by_cases c1 : c = 1
      · subst c1
        rw [if_pos (show ii 1 = 1 from rfl), if_pos rfl, h1]
        rfl
      · rw [if_neg (show ¬ ii c = 1 from fun h9 => c1 ((i_eq (b := 1) (by omega) (by omega)).mp h9)), if_neg c1, h2]
        rfl
    · rw [if_neg (show ¬ ii k = ii (m - 1) by rw [i_eq (by omega) (by omega)]; omega), if_neg (fun h9 => e h9.2), ← h3.1, ln_at h3 hk, Option.bind_some]
/-- the row behind the k-th change of a touch; at 0 rounds -/
def RQ (n m : Nat) (M : Nat → Nat) (bob sng : Nat) (C : Nat → Nat) : Nat → List Nat
  | 0 => rowL n
  | k + 1 => chg n (rg m M bob sng (k % m) (C (k / m))) (RQ n m M bob sng C k)
def RR (n m : Nat) (M : Nat → Nat) (bob sng : Nat) (C : Nat → Nat) (k : Nat) : List Nat := RQ n m M bob sng C (k + 1)
theorem rl_isR (n m : Nat) (M : Nat → Nat) (bob sng : Nat) (C : Nat → Nat) : ∀ k, IsR n (RQ n m M bob sng C k)
  | 0 => isR_rounds n
  | k + 1 => chg_isR (rl_isR n m M bob sng C k)
theorem rl_congr {n m : Nat} {M : Nat → Nat} {bob sng : Nat} {C C' : Nat → Nat} : ∀ {k : Nat}, (∀ j, j * m < k → C j = C' j) → 0 < m → RQ n m M bob sng C k = RQ n m M bob sng C' k
  | 0, h, hm => rfl
  | k + 1, h, hm => by
    rw [RQ, RQ, rl_congr (k := k) (fun j hj => h j (by omega)) hm, h (k / m) (by have := Nat.div_mul_le_self k m; omega)]
/-- the end of the rows -/
theorem end_ok {n N : Nat} {R : Nat → List Nat} {dif rep wz : Int32} {wf bf : Nat → Int32} (hn : NB n) (h : TI n N R dif rep wz wf bf) : fX5_end wz 336 wf (ii n) = some (pk (if N = 0 then rowL n else R (N - 1))) := by
  obtain ⟨h1, -⟩ := h
  have hb := h1.2.1
  unfold fX5_end fX1_size
  rw [Option.bind_some, h1.1]
  by_cases c : N = 0
  · subst c
    rw [if_pos (show ii 0 = 0 from rfl), if_pos rfl]
    unfold fX2_bells
    rw [Option.bind_some, f_rnd hn, Option.bind_some]
  · rw [if_neg (show ¬ ii N = 0 from fun h9 => c ((i_eq (b := 0) (by omega) (by omega)).mp h9)), if_neg c, Option.bind_some, i_sub1 (by omega), ← h1.1, ln_at h1 (by omega), Option.bind_some]
theorem end_RR {n m : Nat} {M : Nat → Nat} {bob sng : Nat} {C : Nat → Nat} {N : Nat} : (if N = 0 then rowL n else RR n m M bob sng C (N - 1)) = RQ n m M bob sng C N := by
  by_cases c : N = 0
  · rw [if_pos c, c]
    rfl
  · rw [if_neg c]
    unfold RR
    rw [show N - 1 + 1 = N by omega]
/-- one lead -/
theorem lead_L {n m : Nat} {M : Nat → Nat} {bob sng : Nat} {bells ob os chz : Int32} {chf : Nat → Int32} {C : Nat → Nat} (hn : NB n) (hM : MI n m M bob sng bells ob os chz chf) {j : Nat} (hj : j < 24) (hc : C j ≤ 2) :
    ∀ (d k : Nat), k + d = m → ∀ (f : Nat), d < f → ∀ (dif rep wz : Int32) (wf bf : Nat → Int32), TI n (j * m + k) (RR n m M bob sng C) dif rep wz wf bf →
      ∃ dif' rep' wz' wf' bf', fX5_ringLead_L7 chz ob os 14 chf (ii (C j)) (ii n) 336 5040 fX5_ringLead_X7 f (ii k) (pk (RQ n m M bob sng C (j * m + k))) dif rep wz wf bf = some (dif', rep', wz', wf', bf') ∧ TI n (j * m + m) (RR n m M bob sng C) dif' rep' wz' wf' bf'
  | 0, k, hk, f + 1, hf, dif, rep, wz, wf, bf, h => by
    have hm := mi_b hM
    have hz := hM.2.2.2.1.1
    refine ⟨dif, rep, wz, wf, bf, ?_, by rw [show m = k by omega] at h ⊢; exact h⟩
    rw [fX5_ringLead_L7]
    unfold fX2_length fX1_size
    rw [Option.bind_some, Option.bind_some, hz]
    exact (if_pos ((i_le (by omega) (by omega)).mpr (by omega))).trans rfl
  | d + 1, k, hk, f + 1, hf, dif, rep, wz, wf, bf, h => by
    have hm := mi_b hM
    have hz := hM.2.2.2.1.1
    have hjm : j * m ≤ 23 * m := Nat.mul_le_mul_right m (by omega)
    have hmod : (j * m + k) % m = k := by rw [Nat.add_comm, Nat.add_mul_mod_self_right]; exact Nat.mod_eq_of_lt (by omega)
    have hdiv : (j * m + k) / m = j := by rw [Nat.add_comm, Nat.add_mul_div_right _ _ (by omega), Nat.div_eq_of_lt (by omega)]; omega
    have hrow : RR n m M bob sng C (j * m + k) = chg n (rg m M bob sng k (C j)) (RQ n m M bob sng C (j * m + k)) := by
      unfold RR
      rw [RQ, hmod, hdiv]
    have hR := rl_isR n m M bob sng C (j * m + k + 1)
    obtain ⟨dif', rep', wz', wf', bf', a1, a2⟩ := ti_add hn h (by omega) hR
    obtain ⟨d2, r2, z2, w2, b2, c1, c2⟩ := lead_L hn hM hj hc d (k + 1) (by omega) f (by omega) dif' rep' wz' wf' bf' a2
    refine ⟨d2, r2, z2, w2, b2, ?_, c2⟩
    rw [fX5_ringLead_L7]
    unfold fX2_length fX1_size fX2_bells
    rw [Option.bind_some, Option.bind_some, if_neg (show ¬ chz ≤ ii k by rw [hz, i_le (by omega) (by omega)]; omega), rg_at hM (by omega) hc, Option.bind_some, Option.bind_some, f_chg hn (rg_isC hM (by omega) _) (rl_isR n m M bob sng C _), Option.bind_some, ← hrow, a1, Option.bind_some, i_add1]
    exact c1
/-- the calls and the rows of a touch -/
def TT (n m : Nat) (M : Nat → Nat) (bob sng c : Nat) (C : Nat → Nat) (dif rep cz : Int32) (cf : Nat → Int32) (wz : Int32) (wf bf : Nat → Int32) : Prop :=
  LnF c 24 cz cf (fun k => ii (C k)) ∧ (∀ k, k < c → C k ≤ 2) ∧ TI n (c * m) (RR n m M bob sng C) dif rep wz wf bf
theorem tt_b {n m : Nat} {M : Nat → Nat} {bob sng c : Nat} {C : Nat → Nat} {dif rep cz : Int32} {cf : Nat → Int32} {wz : Int32} {wf bf : Nat → Int32} (h : TT n m M bob sng c C dif rep cz cf wz wf bf) : c ≤ 24 := h.1.2.1
theorem ring_ok {n m : Nat} {M : Nat → Nat} {bob sng : Nat} {bells ob os chz : Int32} {chf : Nat → Int32} {C : Nat → Nat} (hn : NB n) (hM : MI n m M bob sng bells ob os chz chf) {j : Nat} (hj : j < 24) (hc : C j ≤ 2) {dif rep wz : Int32} {wf bf : Nat → Int32}
    (h : TI n (j * m) (RR n m M bob sng C) dif rep wz wf bf) :
    ∃ dif' rep' wz' wf' bf', fX5_ringLead dif rep wz 336 wf 5040 bf (ii n) ob os chz 14 chf (ii (C j)) = some (dif', rep', wz', wf', bf') ∧ TI n ((j + 1) * m) (RR n m M bob sng C) dif' rep' wz' wf' bf' := by
  have hm := mi_b hM
  obtain ⟨d2, r2, z2, w2, b2, c1, c2⟩ := lead_L hn hM hj hc m 0 (by omega) 1000 (by omega) dif rep wz wf bf h
  refine ⟨d2, r2, z2, w2, b2, ?_, by rw [Nat.succ_mul]; exact c2⟩
  unfold fX5_ringLead
  rw [end_ok hn h, Option.bind_some, end_RR]
  exact c1
theorem lay_ok {n m : Nat} {M : Nat → Nat} {bob sng : Nat} {bells ob os chz : Int32} {chf : Nat → Int32} {c : Nat} {C : Nat → Nat} (hn : NB n) (hM : MI n m M bob sng bells ob os chz chf) {dif rep cz : Int32} {cf : Nat → Int32} {wz : Int32} {wf bf : Nat → Int32}
    (h : TT n m M bob sng c C dif rep cz cf wz wf bf) (hc : c < 24) {q : Nat} (hq : q ≤ 2) :
    ∃ dif' rep' cf' wz' wf' bf', fX5_lay dif rep cz 24 cf wz 336 wf 5040 bf (ii n) ob os chz 14 chf (ii q) = some (dif', rep', ii (c + 1), cf', wz', wf', bf') ∧ TT n m M bob sng (c + 1) (fun k => if k = c then q else C k) dif' rep' (ii (c + 1)) cf' wz' wf' bf' := by
  obtain ⟨h1, h2, h3⟩ := h
  obtain ⟨a1, a2⟩ := ln_add (x := ii q) h1 hc
  have e : ∀ k, k < c * m → RR n m M bob sng C k = RR n m M bob sng (fun k => if k = c then q else C k) k := by
    intro k hk
    have hm : 0 < m := by
      rcases Nat.eq_zero_or_pos m with h9 | h9
      · rw [h9] at hk
        omega
      · exact h9
    refine rl_congr (fun j hj => ?_) hm
    have hjc : ¬ j = c := fun h9 => by
      rw [h9] at hj
      omega
    show C j = if j = c then q else C j
    rw [if_neg hjc]
  have h3' := ti_congr h3 e
  obtain ⟨d2, r2, z2, w2, b2, c1, c2⟩ := ring_ok (C := fun k => if k = c then q else C k) hn hM hc (by show (if c = c then q else C c) ≤ 2; rw [if_pos rfl]; exact hq) h3'
  refine ⟨d2, r2, upd cf c (ii q), z2, w2, b2, ?_, ?_, ?_, c2⟩
  · unfold fX5_lay
    have c1 : fX5_ringLead dif rep wz 336 wf 5040 bf (ii n) ob os chz 14 chf (ii (if c = c then q else C c)) = _ := c1
    rw [if_pos rfl] at c1
    rw [a1, Option.bind_some, c1, Option.bind_some]
  · refine ln_congr a2 (fun k hk => ?_)
    unfold upd
    by_cases e9 : k = c
    · rw [if_pos e9]
      simp only [if_pos e9]
    · rw [if_neg e9]
      simp only [if_neg e9]
  · intro k hk
    show (if k = c then q else C k) ≤ 2
    split
    · exact hq
    · exact h2 k (by omega)
theorem drop_L {n m : Nat} {R : Nat → List Nat} {chz : Int32} {cz : Int32} {cf : Nat → Int32} {c : Nat} {C : Nat → Nat} (hn : NB n) (hz : chz = ii m) (hm : m ≤ 14) (hcl : LnF (c + 1) 24 cz cf (fun k => ii (C k))) {B : Nat} :
    ∀ (d k : Nat), k + d = m → ∀ (f : Nat), d < f → ∀ (dif rep wz : Int32) (wf bf : Nat → Int32), TI n (B + d) R dif rep wz wf bf →
      ∃ dif' rep' wz' bf', fX5_takeLast_L2 chz 336 wf 5040 (ii n) (fX5_takeLast_X2 cz 24 cf) f (ii k) dif rep wz bf = some (ii (C c), dif', rep', ii c, wz', bf') ∧ TI n B R dif' rep' wz' wf bf'
  | 0, k, hk, f + 1, hf, dif, rep, wz, wf, bf, h => by
    refine ⟨dif, rep, wz, bf, ?_, h⟩
    rw [fX5_takeLast_L2]
    unfold fX2_length fX1_size
    rw [Option.bind_some, Option.bind_some, hz, if_pos ((i_le (by omega) (by omega)).mpr (by omega)), fX5_takeLast_X2, (ln_rem hcl).1, Option.bind_some]
  | d + 1, k, hk, f + 1, hf, dif, rep, wz, wf, bf, h => by
    obtain ⟨dif', rep', wz', bf', a1, a2⟩ := ti_drop (N := B + d) hn h
    obtain ⟨d2, r2, z2, b2, c1, c2⟩ := drop_L hn hz hm hcl d (k + 1) (by omega) f (by omega) dif' rep' wz' wf bf' a2
    refine ⟨d2, r2, z2, b2, ?_, c2⟩
    rw [fX5_takeLast_L2]
    unfold fX2_length fX1_size
    rw [Option.bind_some, Option.bind_some, if_neg (show ¬ chz ≤ ii k by rw [hz, i_le (by omega) (by omega)]; omega), a1, Option.bind_some, i_add1]
    exact c1
theorem take_ok {n m : Nat} {M : Nat → Nat} {bob sng : Nat} {c : Nat} {C : Nat → Nat} {chz : Int32} (hn : NB n) (hz : chz = ii m) (hm : m ≤ 14) {dif rep cz : Int32} {cf : Nat → Int32} {wz : Int32} {wf bf : Nat → Int32}
    (h : TT n m M bob sng (c + 1) C dif rep cz cf wz wf bf) :
    ∃ dif' rep' wz' bf', fX5_takeLast dif rep cz 24 cf wz 336 wf 5040 bf (ii n) chz = some (ii (C c), dif', rep', ii c, wz', bf') ∧ TT n m M bob sng c C dif' rep' (ii c) cf wz' wf bf' := by
  obtain ⟨h1, h2, h3⟩ := h
  rw [Nat.succ_mul] at h3
  obtain ⟨d2, r2, z2, b2, c1, c2⟩ := drop_L hn hz hm h1 m 0 (by omega) 1000 (by omega) dif rep wz wf bf h3
  exact ⟨d2, r2, z2, b2, c1, (ln_rem h1).2, fun k hk => h2 k (by omega), c2⟩
theorem again_L {n m : Nat} {M : Nat → Nat} {bob sng : Nat} {bells ob os chz : Int32} {chf : Nat → Int32} {c : Nat} {C : Nat → Nat} (hn : NB n) (hM : MI n m M bob sng bells ob os chz chf) {cz : Int32} {cf : Nat → Int32} (h1 : LnF c 24 cz cf (fun k => ii (C k))) (h2 : ∀ k, k < c → C k ≤ 2) :
    ∀ (d k : Nat), k + d = c → ∀ (f : Nat), d < f → ∀ (dif rep wz : Int32) (wf bf : Nat → Int32), TI n (k * m) (RR n m M bob sng C) dif rep wz wf bf →
      ∃ dif' rep' wz' wf' bf', fX5_ringAgain_L6 cz 24 cf 336 5040 (ii n) ob os chz 14 chf fX5_ringAgain_X6 f (ii k) dif rep wz wf bf = some (dif', rep', wz', wf', bf') ∧ TI n (c * m) (RR n m M bob sng C) dif' rep' wz' wf' bf'
  | 0, k, hk, f + 1, hf, dif, rep, wz, wf, bf, h => by
    have hb := h1.2.1
    refine ⟨dif, rep, wz, wf, bf, ?_, by rw [show c = k by omega]; exact h⟩
    rw [fX5_ringAgain_L6]
    unfold fX1_size
    rw [Option.bind_some, h1.1]
    exact (if_pos ((i_le (by omega) (by omega)).mpr (by omega))).trans rfl
  | d + 1, k, hk, f + 1, hf, dif, rep, wz, wf, bf, h => by
    have hb := h1.2.1
    obtain ⟨dif', rep', wz', wf', bf', a1, a2⟩ := ring_ok hn hM (j := k) (by omega) (h2 k (by omega)) h
    obtain ⟨d2, r2, z2, w2, b2, c1, c2⟩ := again_L hn hM h1 h2 d (k + 1) (by omega) f (by omega) dif' rep' wz' wf' bf' a2
    refine ⟨d2, r2, z2, w2, b2, ?_, c2⟩
    rw [fX5_ringAgain_L6]
    unfold fX1_size
    rw [Option.bind_some, if_neg (show ¬ cz ≤ ii k by rw [h1.1, i_le (by omega) (by omega)]; omega), ln_at h1 (by omega), Option.bind_some, a1, Option.bind_some, i_add1]
    exact c1
theorem again_ok {n m : Nat} {M : Nat → Nat} {bob sng : Nat} {bells ob os chz : Int32} {chf : Nat → Int32} {c : Nat} {C : Nat → Nat} (hn : NB n) (hM : MI n m M bob sng bells ob os chz chf) {cz : Int32} {cf : Nat → Int32} (h1 : LnF c 24 cz cf (fun k => ii (C k))) (h2 : ∀ k, k < c → C k ≤ 2) (wf bf : Nat → Int32) :
    ∃ dif' rep' wz' wf' bf', fX5_ringAgain cz 24 cf 336 wf 5040 bf (ii n) ob os chz 14 chf = some (dif', rep', wz', wf', bf') ∧ TT n m M bob sng c C dif' rep' cz cf wz' wf' bf' := by
  obtain ⟨g, g1, g2⟩ := bk_clear bf
  have hb := h1.2.1
  obtain ⟨d2, r2, z2, w2, b2, c1, c2⟩ := again_L hn hM h1 h2 c 0 (by omega) 1000 (by omega) (0 : Int32) (-1 : Int32) (0 : Int32) wf g (by rw [Nat.zero_mul]; exact ti_nil g2)
  refine ⟨d2, r2, z2, w2, b2, ?_, h1, h2, c2⟩
  unfold fX5_ringAgain fX5_clearRows fX1_clear
  rw [Option.bind_some, g1, Option.bind_some, Option.bind_some]
  exact c1
