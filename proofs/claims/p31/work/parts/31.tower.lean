/-! PURE: the tower's calls -/
section TW
variable {n m : Nat} {M : Nat → Nat} {bob sng : Nat} {bells ob os chz : Int32} {chf : Nat → Int32} {c : Nat} {C : Nat → Nat} {dif rep wz cz : Int32} {wf bf cf : Nat → Int32}
theorem rnc_ok (hn : NB n) {x : Nat} (hx : IsC n x) : fX6_refuseNoChange (ii n) (ii x) = some (.inr ()) := by
  unfold fX6_refuseNoChange fX2_bells
  rw [Option.bind_some, f_can hn hx, Option.bind_some, if_neg (by decide)]
theorem rcl_ok {q : Nat} (hq : q ≤ 2) : fX6_refuseNoCall (ii q) = some (.inr ()) := by
  unfold fX6_refuseNoCall
  rw [if_neg (i_pos (by omega)), if_pos (show ii q ≤ (2 : Int32) from (i_le (b := 2) (by omega) (by omega)).mpr hq)]
theorem rcp_ok (h : LnF c 24 cz cf (fun k => ii (C k))) {k : Nat} (hk : k < c) : fX6_refuseNoCallPlace cz (ii k) = some (.inr ()) := by
  have hb := h.2.1
  unfold fX6_refuseNoCallPlace fX5_callCount fX1_size
  rw [if_neg (i_pos (by omega)), Option.bind_some, Option.bind_some, if_pos (by rw [h.1, i_lt (by omega) (by omega)]; exact hk)]
theorem rrn_ok {N : Nat} {R : Nat → List Nat} (h : TI n N R dif rep wz wf bf) {k : Nat} (hk : k < N) : fX6_refuseNoRowNumber wz (ii k) = some (.inr ()) := by
  have hb := ti_b h
  unfold fX6_refuseNoRowNumber fX5_rowCount fX1_size
  rw [if_neg (i_pos (by omega)), Option.bind_some, Option.bind_some, if_pos (by rw [h.1.1, i_lt (by omega) (by omega)]; exact hk)]
theorem rnb_ok (hn : NB n) {b : Nat} (h1 : 1 ≤ b) (h2 : b ≤ n) : fX6_refuseNoBell (ii n) (ii b) = some (.inr ()) := by
  have := nb_le hn
  unfold fX6_refuseNoBell fX2_bells
  rw [if_neg (show ¬ ii b < (1 : Int32) from fun h9 => by have := (i_lt (b := 1) (by omega) (by omega)).mp h9; omega), Option.bind_some, if_pos ((i_le (by omega) (by omega)).mpr h2)]
theorem rnl_ok {k : Nat} (hk : k ≤ 5) : fX6_refuseNoLeads (ii k) = some (.inr ()) := by
  unfold fX6_refuseNoLeads
  rw [if_neg (i_pos (by omega)), if_pos (show ii k ≤ (5 : Int32) from (i_le (b := 5) (by omega) (by omega)).mpr hk)]
theorem por_ok (hn : NB n) {l : List Nat} (hl : IsR n l) : fX6_packedOrRefused (ii n) (ii (tl l)) = some (.inr (pk l)) := by
  unfold fX6_packedOrRefused fX2_bells
  rw [Option.bind_some, f_pack hn hl, Option.bind_some, if_neg (pk_pos hn hl)]
/-! what writes -/
def allC (n : Nat) : Nat := 2 ^ n - 1
theorem allC_ok (hn : NB n) : IsC n (allC n) := by
  rcases hn with h | h | h | h <;> subst h
  · exact ⟨[], by decide⟩
  · exact ⟨[], by decide⟩
  · exact ⟨[], by decide⟩
  · exact ⟨[], by decide⟩
theorem begin_ok (hn : NB n) (bf : Nat → Int32) : ∃ g, fX6_begin 5040 bf (ii n) = some (.inr (ii (tl (rowL n)), g, ii n, ii (allC n), ii (allC n))) ∧ BkF g (fun _ => 0) := by
  have h7 := nb_le hn
  obtain ⟨g, g1, g2⟩ := bk_clear bf
  refine ⟨g, ?_, g2⟩
  have e : ((1 : Int32) <<< (ii n &&& 31)) - (1 : Int32) = ii (allC n) := by
    rcases hn with h | h | h | h <;> subst h <;> decide
  unfold fX6_begin fX2_restart fX5_clear fX5_clearRows fX1_clear
  rw [if_neg (show ¬ ii n < (4 : Int32) from fun h9 => by have := (i_lt (b := 4) (by omega) (by omega)).mp h9; omega), if_pos (show ii n ≤ (7 : Int32) from (i_le (b := 7) (by omega) (by omega)).mpr h7.2)]
  rw [Option.bind_some, Option.bind_some, Option.bind_some, Option.bind_some, g1, Option.bind_some, Option.bind_some, Option.bind_some, f_rnd hn, Option.bind_some, f_num hn (isR_rounds n), Option.bind_some, e]
theorem mi_add (hM : MI n m M bob sng bells ob os chz chf) (hm : m < 14) {x : Nat} (hx : IsC n x) : ∃ chf', fX2_add chz 14 chf (ii x) = some (ii (m + 1), chf') ∧ MI n (m + 1) (fun k => if k = m then x else M k) bob sng bells ob os (ii (m + 1)) chf' := by
  obtain ⟨h0, h1, h2, h3, h4, h5, h6⟩ := hM
  obtain ⟨a1, a2⟩ := ln_add (x := ii x) h3 hm
  refine ⟨upd chf m (ii x), ?_, h0, h1, h2, ln_congr a2 (fun k hk => ?_), fun k hk => ?_, h5, h6⟩
  · unfold fX2_add
    rw [a1, Option.bind_some]
  · unfold upd
    by_cases e : k = m
    · rw [if_pos e]
      simp only [if_pos e]
    · rw [if_neg e]
      simp only [if_neg e]
  · show IsC n (if k = m then x else M k)
    split
    · exact hx
    · exact h4 k (by omega)
theorem change_ok (hn : NB n) (hM : MI n m M bob sng bells ob os chz chf) (hT : TT n m M bob sng c C dif rep cz cf wz wf bf) (hm : m < 14) {x : Nat} (hx : IsC n x) :
    ∃ dif' rep' wz' wf' bf' chf', fX6_change cz 24 cf 336 wf 5040 bf (ii n) ob os chz 14 chf (ii x) = some (.inr (ii (m + 1), dif', rep', wz', wf', bf', ii (m + 1), chf')) ∧
      MI n (m + 1) (fun k => if k = m then x else M k) bob sng bells ob os (ii (m + 1)) chf' ∧ TT n (m + 1) (fun k => if k = m then x else M k) bob sng c C dif' rep' cz cf wz' wf' bf' := by
  obtain ⟨chf', a1, a2⟩ := mi_add hM hm hx
  obtain ⟨d2, r2, z2, w2, b2, c1, c2⟩ := again_ok hn a2 hT.1 hT.2.1 wf bf
  refine ⟨d2, r2, z2, w2, b2, chf', ?_, a2, c2⟩
  unfold fX6_change
  rw [rnc_ok hn hx, Option.bind_some, Sum.elim_inr]
  unfold fX2_length fX1_size
  rw [Option.bind_some, Option.bind_some, if_pos (show chz < (14 : Int32) by rw [hM.2.2.2.1.1]; exact (i_lt (b := 14) (by omega) (by omega)).mpr hm), a1, Option.bind_some, c1, Option.bind_some, Option.bind_some, Option.bind_some]
theorem mi_rem (hM : MI n (m + 1) M bob sng bells ob os chz chf) : fX2_removeLast chz 14 chf = some (ii (M m), ii m) ∧ MI n m M bob sng bells ob os (ii m) chf := by
  obtain ⟨h0, h1, h2, h3, h4, h5, h6⟩ := hM
  obtain ⟨a1, a2⟩ := ln_rem h3
  refine ⟨?_, h0, h1, h2, a2, fun k hk => h4 k (by omega), h5, h6⟩
  unfold fX2_removeLast
  rw [a1, Option.bind_some]
theorem unchange_ok (hn : NB n) (hM : MI n (m + 1) M bob sng bells ob os chz chf) (hT : TT n (m + 1) M bob sng c C dif rep cz cf wz wf bf) :
    ∃ dif' rep' wz' wf' bf', fX6_unchange cz 24 cf 336 wf 5040 bf (ii n) ob os chz 14 chf = some (.inr (ii (M m), dif', rep', wz', wf', bf', ii m)) ∧ MI n m M bob sng bells ob os (ii m) chf ∧ TT n m M bob sng c C dif' rep' cz cf wz' wf' bf' := by
  have hm := mi_b hM
  obtain ⟨a1, a2⟩ := mi_rem hM
  obtain ⟨d2, r2, z2, w2, b2, c1, c2⟩ := again_ok hn a2 hT.1 hT.2.1 wf bf
  refine ⟨d2, r2, z2, w2, b2, ?_, a2, c2⟩
  unfold fX6_unchange fX2_length fX1_size
  rw [Option.bind_some, Option.bind_some, if_neg (show ¬ chz = 0 by rw [hM.2.2.2.1.1]; exact fun h9 => by have := (i_eq (b := 0) (by omega) (by omega)).mp h9; omega), a1, Option.bind_some, c1, Option.bind_some]
theorem at_ok (hn : NB n) (hM : MI n m M bob sng bells ob os chz chf) (hT : TT n m M bob sng c C dif rep cz cf wz wf bf) {x : Nat} (hx : IsC n x) :
    (∃ dif' rep' wz' wf' bf', fX6_at cz 24 cf 336 wf 5040 bf (ii n) ob os chz 14 chf (1 : Int32) (ii x) = some (.inr (ii bob, dif', rep', wz', wf', bf', ii x, ii sng)) ∧ MI n m M x sng bells (ii x) (ii sng) chz chf ∧ TT n m M x sng c C dif' rep' cz cf wz' wf' bf') ∧
    (∃ dif' rep' wz' wf' bf', fX6_at cz 24 cf 336 wf 5040 bf (ii n) ob os chz 14 chf (2 : Int32) (ii x) = some (.inr (ii sng, dif', rep', wz', wf', bf', ii bob, ii x)) ∧ MI n m M bob x bells (ii bob) (ii x) chz chf ∧ TT n m M bob x c C dif' rep' cz cf wz' wf' bf') := by
  obtain ⟨h0, h1, h2, h3, h4, h5, h6⟩ := hM
  constructor
  · have a2 : MI n m M x sng bells (ii x) (ii sng) chz chf := ⟨h0, rfl, rfl, h3, h4, hx, h6⟩
    obtain ⟨d2, r2, z2, w2, b2, c1, c2⟩ := again_ok hn a2 hT.1 hT.2.1 wf bf
    refine ⟨d2, r2, z2, w2, b2, ?_, a2, c2⟩
    unfold fX6_at
    rw [if_pos rfl, rnc_ok hn hx, Option.bind_some, Sum.elim_inr]
    unfold fX2_insteadOfLast fX2_setInsteadOfLast
    rw [if_pos rfl, if_pos rfl, Option.bind_some, Option.bind_some, h2, c1, Option.bind_some, h1]
  · have a2 : MI n m M bob x bells (ii bob) (ii x) chz chf := ⟨h0, rfl, rfl, h3, h4, h5, hx⟩
    obtain ⟨d2, r2, z2, w2, b2, c1, c2⟩ := again_ok hn a2 hT.1 hT.2.1 wf bf
    refine ⟨d2, r2, z2, w2, b2, ?_, a2, c2⟩
    unfold fX6_at
    rw [if_neg (by decide), if_pos rfl, rnc_ok hn hx, Option.bind_some, Sum.elim_inr]
    unfold fX2_insteadOfLast fX2_setInsteadOfLast
    rw [if_neg (by decide), if_neg (by decide), Option.bind_some, Option.bind_some, h1, c1, Option.bind_some, h2]
theorem call_ok (hn : NB n) (hM : MI n m M bob sng bells ob os chz chf) (hT : TT n m M bob sng c C dif rep cz cf wz wf bf) (hc : c < 24) {q : Nat} (hq : q ≤ 2) :
    ∃ dif' rep' cf' wz' wf' bf', fX6_call dif rep cz 24 cf wz 336 wf 5040 bf (ii n) ob os chz 14 chf (ii q) = some (.inr (ii (tl (RQ n m M bob sng (fun k => if k = c then q else C k) ((c + 1) * m))), dif', rep', ii (c + 1), cf', wz', wf', bf')) ∧
      TT n m M bob sng (c + 1) (fun k => if k = c then q else C k) dif' rep' (ii (c + 1)) cf' wz' wf' bf' := by
  obtain ⟨d1, r1, cf1, z1, w1, b1, a1, a2⟩ := lay_ok hn hM hT hc hq
  refine ⟨d1, r1, cf1, z1, w1, b1, ?_, a2⟩
  unfold fX6_call
  rw [rcl_ok hq, Option.bind_some, Sum.elim_inr]
  unfold fX5_callCount fX1_size
  rw [Option.bind_some, Option.bind_some, if_pos (show cz < (24 : Int32) by rw [hT.1.1]; exact (i_lt (b := 24) (by omega) (by omega)).mpr hc), a1, Option.bind_some]
  simp only
  rw [end_ok hn a2.2.2, Option.bind_some, end_RR, num_ok hn (rl_isR n m M bob sng _ _), Option.bind_some]
theorem uncall_ok (hn : NB n) (hM : MI n m M bob sng bells ob os chz chf) (hT : TT n m M bob sng (c + 1) C dif rep cz cf wz wf bf) :
    ∃ dif' rep' wz' bf', fX6_uncall dif rep cz 24 cf wz 336 wf 5040 bf (ii n) chz = some (.inr (ii (C c), dif', rep', ii c, wz', bf')) ∧ TT n m M bob sng c C dif' rep' (ii c) cf wz' wf bf' := by
  have hb := tt_b hT
  obtain ⟨d2, r2, z2, b2, t3, t4⟩ := take_ok hn hM.2.2.2.1.1 (mi_b hM) hT
  refine ⟨d2, r2, z2, b2, ?_, t4⟩
  unfold fX6_uncall fX5_callCount fX1_size
  rw [Option.bind_some, Option.bind_some, if_neg (show ¬ cz = 0 by rw [hT.1.1]; exact fun h9 => by have := (i_eq (b := 0) (by omega) (by omega)).mp h9; omega), t3, Option.bind_some]
/-! what reads -/
theorem row_ok {N : Nat} {R : Nat → List Nat} (hn : NB n) (h : TI n N R dif rep wz wf bf) {k : Nat} (hk : k < N) : fX6_row wz 336 wf (ii n) (ii k) = some (.inr (ii (tl (R k)))) := by
  unfold fX6_row
  rw [rrn_ok h hk, Option.bind_some, Sum.elim_inr]
  unfold fX5_packedRow
  rw [ln_at h.1 hk, Option.bind_some, Option.bind_some, num_ok hn (h.2.2.2.2 k hk), Option.bind_some]
theorem where_ok {N : Nat} {R : Nat → List Nat} (hn : NB n) (h : TI n N R dif rep wz wf bf) {l : List Nat} (hl : IsR n l) : fX6_where 5040 bf (ii n) (ii (tl l)) = some (.inr (match fst R l N with | none => (-1 : Int32) | some i => ii i)) := by
  unfold fX6_where
  rw [por_ok hn hl, Option.bind_some, Sum.elim_inr, fno_ok hn h hl, Option.bind_some]
  cases fst R l N <;> rfl
theorem plac_ok {N : Nat} {R : Nat → List Nat} (hn : NB n) (h : TI n N R dif rep wz wf bf) {b k : Nat} (h1 : 1 ≤ b) (h2 : b ≤ n) (hk : k < N) : fX6_place wz 336 wf (ii n) (ii b) (ii k) = some (.inr (ii (pl b (R k)))) := by
  unfold fX6_place
  rw [rnb_ok hn h1 h2, Option.bind_some, Sum.elim_inr, rrn_ok h hk, Option.bind_some, Sum.elim_inr]
  unfold fX5_packedRow fX2_bells
  rw [ln_at h.1 hk, Option.bind_some, Option.bind_some, Option.bind_some, f_plc hn (h.2.2.2.2 k hk) h1 h2, Option.bind_some]
  rfl
theorem longest_ok {N : Nat} {R : Nat → List Nat} (hn : NB n) (h : TI n N R dif rep wz wf bf) {b : Nat} (h1 : 1 ≤ b) (h2 : b ≤ n) : ∃ q, fX6_longest wz 336 wf (ii n) (ii b) = some (.inr (ii q)) ∧ q ≤ N ∧ (0 < N → 1 ≤ q) := by
  obtain ⟨q, q1, q2, q3⟩ := lng_ok hn h1 h2 h
  refine ⟨q, ?_, q2, q3⟩
  unfold fX6_longest
  rw [rnb_ok hn h1 h2, Option.bind_some, Sum.elim_inr, q1, Option.bind_some]
theorem music_ok {l : List Nat} (hn : NB n) (hl : IsR n l) : fX6_music (ii n) (ii (tl l)) = some (.inr (ii (mu n l))) := by
  unfold fX6_music
  rw [por_ok hn hl, Option.bind_some, Sum.elim_inr]
  unfold fX2_bells
  rw [Option.bind_some, (mu_ok hn hl).1, Option.bind_some]
theorem crossed_ok {l : List Nat} (hn : NB n) (hl : IsR n l) : fX6_crossed (ii n) (ii (tl l)) = some (.inr (cp n l)) := by
  unfold fX6_crossed
  rw [por_ok hn hl, Option.bind_some, Sum.elim_inr]
  unfold fX2_bells
  rw [Option.bind_some, (mu_ok hn hl).2.2.2.1, Option.bind_some]
theorem next_ok {l : List Nat} {x : Nat} (hn : NB n) (hl : IsR n l) (hx : IsC n x) : fX6_next (ii n) (ii (tl l)) (ii x) = some (.inr (ii (tl (chg n x l)))) := by
  unfold fX6_next
  rw [por_ok hn hl, Option.bind_some, Sum.elim_inr, rnc_ok hn hx, Option.bind_some, Sum.elim_inr]
  unfold fX2_bells
  rw [Option.bind_some, f_chg hn hx hl, Option.bind_some, num_ok hn (chg_isR hl), Option.bind_some]
theorem lead_ok (hn : NB n) (hM : MI n m M bob sng bells ob os chz chf) {l : List Nat} {q : Nat} (hl : IsR n l) (hq : q ≤ 2) : fX6_lead (ii n) ob os chz 14 chf (ii (tl l)) (ii q) = some (.inr (ii (tl (LE n m M bob sng q l m)))) := by
  unfold fX6_lead
  rw [por_ok hn hl, Option.bind_some, Sum.elim_inr, rcl_ok hq, Option.bind_some, Sum.elim_inr, led_ok hn hM hq hl, Option.bind_some, num_ok hn (le_isR hl m), Option.bind_some]
theorem callAt_ok (h : LnF c 24 cz cf (fun k => ii (C k))) {k : Nat} (hk : k < c) : fX6_callAt cz 24 cf (ii k) = some (.inr (ii (C k))) := by
  unfold fX6_callAt
  rw [rcp_ok h hk, Option.bind_some, Sum.elim_inr]
  unfold fX5_laidCall
  rw [ln_at h hk, Option.bind_some, Option.bind_some]
theorem changeAt_ok (hM : MI n m M bob sng bells ob os chz chf) {k : Nat} (hk : k < m) : fX6_changeAt chz 14 chf (ii k) = some (.inr (ii (M k))) := by
  have hm := mi_b hM
  unfold fX6_changeAt fX2_length fX1_size fX2_plainChange
  rw [if_neg (i_pos (by omega)), Option.bind_some, Option.bind_some, if_pos (by rw [hM.2.2.2.1.1, i_lt (by omega) (by omega)]; exact hk), ln_at hM.2.2.2.1 hk, Option.bind_some, Option.bind_some]
theorem common_ok (hn : NB n) (hM : MI n m M bob sng bells ob os chz chf) (hT : TT n m M bob sng c C dif rep cz cf wz wf bf) {p o : Nat} (hp : p < c) (ho : o < c) : fX6_common cz wz 336 wf chz (ii p) (ii o) = some (.inr (ii (cmn (RR n m M bob sng C) (p * m) (o * m) m m))) := by
  unfold fX6_common
  rw [rcp_ok hT.1 hp, Option.bind_some, Sum.elim_inr, rcp_ok hT.1 ho, Option.bind_some, Sum.elim_inr, hM.2.2.2.1.1, cmn_ok hn hT.2.2 (Nat.mul_le_mul_right m hp) (Nat.mul_le_mul_right m ho) (mi_b hM), Option.bind_some]
theorem endWith_ok (hn : NB n) (hM : MI n m M bob sng bells ob os chz chf) (hT : TT n m M bob sng c C dif rep cz cf wz wf bf) {p : Nat} (hp : p < c) : fX6_endWith cz 24 cf (ii n) ob os chz 14 chf (ii p) (ii (C p)) = some (.inr (ii (tl (RQ n m M bob sng C (c * m))))) := by
  unfold fX6_endWith
  rw [rcp_ok hT.1 hp, Option.bind_some, Sum.elim_inr, rcl_ok (hT.2.1 p hp), Option.bind_some, Sum.elim_inr, ewc_ok hn hM hT.1 hT.2.1 hp, Option.bind_some, num_ok hn (rl_isR n m M bob sng C _), Option.bind_some]
theorem clashes_ok (hn : NB n) (hM : MI n m M bob sng bells ob os chz chf) (hT : TT n m M bob sng c C dif rep cz cf wz wf bf) {q : Nat} (hq : q ≤ 2) : ∃ k, fX6_clashes wz 336 wf 5040 bf (ii n) ob os chz 14 chf (ii q) = some (.inr (ii k)) ∧ k ≤ m := by
  refine ⟨_, ?_, cls_le (n := n) (m := m) (N := c * m) (R := RR n m M bob sng C) (M := M) (bob := bob) (sng := sng) (q := q) (l := if c * m = 0 then rowL n else RR n m M bob sng C (c * m - 1)) m⟩
  unfold fX6_clashes
  rw [rcl_ok hq, Option.bind_some, Sum.elim_inr, cls_ok hn hT.2.2 hM hq, Option.bind_some]
theorem good_ok (hn : NB n) (hM : MI n m M bob sng bells ob os chz chf) {k : Nat} (hk : k ≤ 5) {edif erep ecz ewz : Int32} {ecf ewf ebf : Nat → Int32} (h : ETE edif erep ecz ecf ewz ewf ebf) (gf : Nat → Int32) :
    ∃ r : Int32 × Int32 × Int32 × (Nat → Int32) × Int32 × Int32 × Int32 × (Nat → Int32) × Int32 × (Nat → Int32) × (Nat → Int32), fX6_good (ii n) ob os chz 14 chf 5 gf edif erep ecz 24 ecf ewz 336 ewf 5040 ebf (ii k) = some (.inr (ii (LK n m M bob sng k).1, r)) ∧
      ETE r.2.2.2.2.1 r.2.2.2.2.2.1 r.2.2.2.2.2.2.1 r.2.2.2.2.2.2.2.1 r.2.2.2.2.2.2.2.2.1 r.2.2.2.2.2.2.2.2.2.1 r.2.2.2.2.2.2.2.2.2.2 := by
  obtain ⟨r, r1, r2, r3, r4⟩ := look_ok hn hM hk h gf
  refine ⟨r, ?_, r4⟩
  unfold fX6_good
  rw [rnl_ok hk, Option.bind_some, Sum.elim_inr, r1, Option.bind_some]
  unfold fX4_goodCount
  rw [Option.bind_some, r2, ← r2]
theorem best_ok (hn : NB n) (hM : MI n m M bob sng bells ob os chz chf) {k : Nat} (hk : k ≤ 5) {edif erep ecz ewz : Int32} {ecf ewf ebf : Nat → Int32} (h : ETE edif erep ecz ecf ewz ewf ebf) (gf : Nat → Int32) :
    ∃ r : Int32 × Int32 × Int32 × (Nat → Int32) × Int32 × Int32 × Int32 × (Nat → Int32) × Int32 × (Nat → Int32) × (Nat → Int32), fX6_best (ii n) ob os chz 14 chf 5 gf edif erep ecz 24 ecf ewz 336 ewf 5040 ebf (ii k) = some (.inr ((LK n m M bob sng k).2, r)) ∧
      ETE r.2.2.2.2.1 r.2.2.2.2.2.1 r.2.2.2.2.2.2.1 r.2.2.2.2.2.2.2.1 r.2.2.2.2.2.2.2.2.1 r.2.2.2.2.2.2.2.2.2.1 r.2.2.2.2.2.2.2.2.2.2 := by
  obtain ⟨r, r1, r2, r3, r4⟩ := look_ok hn hM hk h gf
  refine ⟨r, ?_, r4⟩
  unfold fX6_best
  rw [rnl_ok hk, Option.bind_some, Sum.elim_inr, r1, Option.bind_some]
  unfold fX4_bestMusic
  rw [Option.bind_some, r3, ← r3]
end TW
