/-! PURE: told, touch, digest -/
theorem hb_L (n : Nat) (a b c : Int32) (hn : n ≤ 7) : ∀ (d k : Nat), k + d = n → ∀ f, d < f → ∀ s, s ≤ k → ∃ h, fX2_huntBells_L36 (ii n) a b c fX2_huntBells_X36 f (ii (k + 1)) (ii s) = some (ii h) ∧ h ≤ n
  | 0, k, hk, f + 1, hf, s, hs => by
    refine ⟨s, ?_, by omega⟩
    rw [fX2_huntBells_L36, if_pos ((i_lt (by omega) (by omega)).mpr (by omega)), fX2_huntBells_X36]
  | d + 1, k, hk, f + 1, hf, s, hs => by
    have i1 := hb_L n a b c hn d (k + 1) (by omega) f (by omega) s (by omega)
    have i2 := hb_L n a b c hn d (k + 1) (by omega) f (by omega) (s + 1) (by omega)
    rw [fX2_huntBells_L36, if_neg (show ¬ ii n < ii (k + 1) by rw [i_lt (by omega) (by omega)]; omega), i_add1, i_add1]
    unfold fX3_bellAt
    rw [Option.bind_some, Option.bind_some, Option.bind_some]
    split
    · split
      · split
        · exact i2
        · exact i1
      · exact i1
    · exact i1
def HBv (n m : Nat) (M : Nat → Nat) (bob sng : Nat) : Nat := ((fX2_huntBells_L36 (ii n) (pk (LE n m M bob sng 0 (rowL n) m)) (pk (LE n m M bob sng 1 (rowL n) m)) (pk (LE n m M bob sng 2 (rowL n) m)) fX2_huntBells_X36 1000 (1 : Int32) (0 : Int32)).getD 0).toNatClampNeg
theorem nb_le {n : Nat} (hn : NB n) : 4 ≤ n ∧ n ≤ 7 := by rcases hn with h | h | h | h <;> omega
section DG
variable {n m : Nat} {M : Nat → Nat} {bob sng : Nat} {bells ob os chz : Int32} {chf : Nat → Int32}
theorem hb_ok (hn : NB n) (hM : MI n m M bob sng bells ob os chz chf) : fX2_huntBells (ii n) ob os chz 14 chf = some (ii (HBv n m M bob sng)) ∧ HBv n m M bob sng ≤ n := by
  have hn7 := nb_le hn
  obtain ⟨h, h1, h2⟩ := hb_L n (pk (LE n m M bob sng 0 (rowL n) m)) (pk (LE n m M bob sng 1 (rowL n) m)) (pk (LE n m M bob sng 2 (rowL n) m)) hn7.2 n 0 (by omega) 1000 (by omega) 0 (by omega)
  have h1 : fX2_huntBells_L36 (ii n) (pk (LE n m M bob sng 0 (rowL n) m)) (pk (LE n m M bob sng 1 (rowL n) m)) (pk (LE n m M bob sng 2 (rowL n) m)) fX2_huntBells_X36 1000 (1 : Int32) (0 : Int32) = some (ii h) := h1
  have e : HBv n m M bob sng = h := by
    unfold HBv
    rw [h1]
    exact i_nat (by omega)
  constructor
  · unfold fX2_huntBells
    have l0 : fX2_leadEnd (ii n) ob os chz 14 chf (pk (rowL n)) (0 : Int32) = _ := led_ok hn hM (q := 0) (by omega) (isR_rounds n)
    have l1 : fX2_leadEnd (ii n) ob os chz 14 chf (pk (rowL n)) (1 : Int32) = _ := led_ok hn hM (q := 1) (by omega) (isR_rounds n)
    have l2 : fX2_leadEnd (ii n) ob os chz 14 chf (pk (rowL n)) (2 : Int32) = _ := led_ok hn hM (q := 2) (by omega) (isR_rounds n)
    rw [f_rnd hn, Option.bind_some, l0, Option.bind_some, l1, Option.bind_some, l2, Option.bind_some, h1, e]
  · rw [e]
    exact h2
theorem told0 (hn : NB n) (hM : MI n m M bob sng bells ob os chz chf) {c : Nat} {C : Nat → Nat} {cz : Int32} {cf : Nat → Int32} (hc : LnF c 24 cz cf (fun k => ii (C k))) : fX6_told cz (ii n) ob os chz 14 chf (0 : Int32) = some (.inr (ii n)) := by
  unfold fX6_told
  rw [if_neg (show ¬ (0 : Int32) < 0 by decide), if_neg (show ¬ (5 : Int32) < 0 by decide), if_pos rfl]
  unfold fX2_bells
  rfl
theorem told1 (hn : NB n) (hM : MI n m M bob sng bells ob os chz chf) {c : Nat} {C : Nat → Nat} {cz : Int32} {cf : Nat → Int32} (hc : LnF c 24 cz cf (fun k => ii (C k))) : fX6_told cz (ii n) ob os chz 14 chf (1 : Int32) = some (.inr (ii m)) := by
  unfold fX6_told
  rw [if_neg (show ¬ (1 : Int32) < 0 by decide), if_neg (show ¬ (5 : Int32) < 1 by decide), if_neg (show ¬ (1 : Int32) = 0 by decide), if_pos rfl]
  unfold fX2_length fX1_size
  rw [hM.2.2.2.1.1]
  rfl
theorem told2 (hn : NB n) (hM : MI n m M bob sng bells ob os chz chf) {c : Nat} {C : Nat → Nat} {cz : Int32} {cf : Nat → Int32} (hc : LnF c 24 cz cf (fun k => ii (C k))) : fX6_told cz (ii n) ob os chz 14 chf (2 : Int32) = some (.inr (ii bob)) := by
  unfold fX6_told
  rw [if_neg (show ¬ (2 : Int32) < 0 by decide), if_neg (show ¬ (5 : Int32) < 2 by decide), if_neg (show ¬ (2 : Int32) = 0 by decide), if_neg (show ¬ (2 : Int32) = 1 by decide), if_pos rfl]
  unfold fX2_insteadOfLast
  rw [if_pos rfl, hM.2.1]
  rfl
theorem told3 (hn : NB n) (hM : MI n m M bob sng bells ob os chz chf) {c : Nat} {C : Nat → Nat} {cz : Int32} {cf : Nat → Int32} (hc : LnF c 24 cz cf (fun k => ii (C k))) : fX6_told cz (ii n) ob os chz 14 chf (3 : Int32) = some (.inr (ii sng)) := by
  unfold fX6_told
  rw [if_neg (show ¬ (3 : Int32) < 0 by decide), if_neg (show ¬ (5 : Int32) < 3 by decide), if_neg (show ¬ (3 : Int32) = 0 by decide), if_neg (show ¬ (3 : Int32) = 1 by decide), if_neg (show ¬ (3 : Int32) = 2 by decide), if_pos rfl]
  unfold fX2_insteadOfLast
  rw [if_neg (by decide), hM.2.2.1]
  rfl
theorem told4 (hn : NB n) (hM : MI n m M bob sng bells ob os chz chf) {c : Nat} {C : Nat → Nat} {cz : Int32} {cf : Nat → Int32} (hc : LnF c 24 cz cf (fun k => ii (C k))) : fX6_told cz (ii n) ob os chz 14 chf (4 : Int32) = some (.inr (ii c)) := by
  unfold fX6_told
  rw [if_neg (show ¬ (4 : Int32) < 0 by decide), if_neg (show ¬ (5 : Int32) < 4 by decide), if_neg (show ¬ (4 : Int32) = 0 by decide), if_neg (show ¬ (4 : Int32) = 1 by decide), if_neg (show ¬ (4 : Int32) = 2 by decide), if_neg (show ¬ (4 : Int32) = 3 by decide), if_pos rfl]
  unfold fX5_callCount fX1_size
  rw [hc.1]
  rfl
theorem told5 (hn : NB n) (hM : MI n m M bob sng bells ob os chz chf) {c : Nat} {C : Nat → Nat} {cz : Int32} {cf : Nat → Int32} (hc : LnF c 24 cz cf (fun k => ii (C k))) : fX6_told cz (ii n) ob os chz 14 chf (5 : Int32) = some (.inr (ii (HBv n m M bob sng))) := by
  unfold fX6_told
  rw [if_neg (show ¬ (5 : Int32) < 0 by decide), if_neg (show ¬ (5 : Int32) < 5 by decide), if_neg (show ¬ (5 : Int32) = 0 by decide), if_neg (show ¬ (5 : Int32) = 1 by decide), if_neg (show ¬ (5 : Int32) = 2 by decide), if_neg (show ¬ (5 : Int32) = 3 by decide), if_neg (show ¬ (5 : Int32) = 4 by decide), if_pos rfl]
  rw [(hb_ok hn hM).1]
  rfl
end DG
section TC
variable {n N : Nat} {R : Nat → List Nat} {dif rep wz : Int32} {wf bf : Nat → Int32}
def LR (n N : Nat) (R : Nat → List Nat) : List Nat := if N = 0 then rowL n else R (N - 1)
theorem lr_isR (h : TI n N R dif rep wz wf bf) : IsR n (LR n N R) := by
  unfold LR
  split
  · exact isR_rounds n
  · exact h.2.2.2.2 _ (by omega)
theorem num_ok {l : List Nat} (hn : NB n) (hl : IsR n l) : fX6_numberOf (ii n) (pk l) = some (ii (tl l)) := by
  unfold fX6_numberOf fX2_bells
  rw [Option.bind_some, f_num hn hl, Option.bind_some]
def PV (n N : Nat) (R : Nat → List Nat) : Int32 := (fX5_parts (ii N) 336 (fun k => pk (R k)) (ii n)).getD 0
theorem pv_ok (hn : NB n) (h : TI n N R dif rep wz wf bf) : fX5_parts wz 336 wf (ii n) = some (PV n N R) ∧ ∃ q, PV n N R = ii q ∧ q ≤ 5040 ∧ (N = 0 → q = 0) ∧ (0 < N → 1 ≤ q ∧ (q = 1 ↔ R (N - 1) = rowL n)) := by
  obtain ⟨q, h1, h2, h3, h4⟩ := prt_ok hn h
  have e : PV n N R = ii q := by
    unfold PV
    rw [← prt_cg h, h1]
    rfl
  exact ⟨by rw [e]; exact h1, q, e, h2, h3, h4⟩
theorem tch0 (hn : NB n) (h : TI n N R dif rep wz wf bf) : fX6_touch dif rep wz 336 wf (ii n) (0 : Int32) = some (.inr (ii N)) := by
  unfold fX6_touch
  rw [if_neg (show ¬ (0 : Int32) < 0 by decide), if_neg (show ¬ (7 : Int32) < 0 by decide), if_pos rfl]
  unfold fX5_rowCount fX1_size
  rw [h.1.1]
  rfl
theorem tch1 (hn : NB n) (h : TI n N R dif rep wz wf bf) : fX6_touch dif rep wz 336 wf (ii n) (1 : Int32) = some (.inr (ii (tl (LR n N R)))) := by
  unfold fX6_touch
  rw [if_neg (show ¬ (1 : Int32) < 0 by decide), if_neg (show ¬ (7 : Int32) < 1 by decide), if_neg (show ¬ (1 : Int32) = 0 by decide), if_pos rfl]
  rw [end_ok hn h, Option.bind_some]
  have := num_ok hn (lr_isR h)
  unfold LR at this ⊢
  rw [this]
  rfl
theorem tch2 (hn : NB n) (h : TI n N R dif rep wz wf bf) : fX6_touch dif rep wz 336 wf (ii n) (2 : Int32) = some (.inr ((if 0 < N ∧ R (N - 1) = rowL n then (1 : Int32) else 0))) := by
  unfold fX6_touch
  rw [if_neg (show ¬ (2 : Int32) < 0 by decide), if_neg (show ¬ (7 : Int32) < 2 by decide), if_neg (show ¬ (2 : Int32) = 0 by decide), if_neg (show ¬ (2 : Int32) = 1 by decide), if_pos rfl]
  rw [cmr_ok hn h, Option.bind_some]
  by_cases c : 0 < N ∧ R (N - 1) = rowL n
  · rw [if_pos c, if_neg (by decide)]
  · rw [if_neg c, if_pos rfl]
theorem tch3 (hn : NB n) (h : TI n N R dif rep wz wf bf) : fX6_touch dif rep wz 336 wf (ii n) (3 : Int32) = some (.inr ((if rpR R N = none then (1 : Int32) else 0))) := by
  unfold fX6_touch
  rw [if_neg (show ¬ (3 : Int32) < 0 by decide), if_neg (show ¬ (7 : Int32) < 3 by decide), if_neg (show ¬ (3 : Int32) = 0 by decide), if_neg (show ¬ (3 : Int32) = 1 by decide), if_neg (show ¬ (3 : Int32) = 2 by decide), if_pos rfl]
  rw [tru_ok h, Option.bind_some]
  by_cases c : rpR R N = none
  · rw [if_pos c, if_neg (by decide)]
  · rw [if_neg c, if_pos rfl]
theorem tch4 (hn : NB n) (h : TI n N R dif rep wz wf bf) : fX6_touch dif rep wz 336 wf (ii n) (4 : Int32) = some (.inr (rpI R N)) := by
  unfold fX6_touch
  rw [if_neg (show ¬ (4 : Int32) < 0 by decide), if_neg (show ¬ (7 : Int32) < 4 by decide), if_neg (show ¬ (4 : Int32) = 0 by decide), if_neg (show ¬ (4 : Int32) = 1 by decide), if_neg (show ¬ (4 : Int32) = 2 by decide), if_neg (show ¬ (4 : Int32) = 3 by decide), if_pos rfl]
  unfold fX5_firstRepeat
  rw [h.2.2.2.1]
  rfl
theorem tch5 (hn : NB n) (h : TI n N R dif rep wz wf bf) : fX6_touch dif rep wz 336 wf (ii n) (5 : Int32) = some (.inr (PV n N R)) := by
  unfold fX6_touch
  rw [if_neg (show ¬ (5 : Int32) < 0 by decide), if_neg (show ¬ (7 : Int32) < 5 by decide), if_neg (show ¬ (5 : Int32) = 0 by decide), if_neg (show ¬ (5 : Int32) = 1 by decide), if_neg (show ¬ (5 : Int32) = 2 by decide), if_neg (show ¬ (5 : Int32) = 3 by decide), if_neg (show ¬ (5 : Int32) = 4 by decide), if_pos rfl]
  rw [(pv_ok hn h).1]
  rfl
theorem tch6 (hn : NB n) (h : TI n N R dif rep wz wf bf) : fX6_touch dif rep wz 336 wf (ii n) (6 : Int32) = some (.inr (ii (SM n R N))) := by
  unfold fX6_touch
  rw [if_neg (show ¬ (6 : Int32) < 0 by decide), if_neg (show ¬ (7 : Int32) < 6 by decide), if_neg (show ¬ (6 : Int32) = 0 by decide), if_neg (show ¬ (6 : Int32) = 1 by decide), if_neg (show ¬ (6 : Int32) = 2 by decide), if_neg (show ¬ (6 : Int32) = 3 by decide), if_neg (show ¬ (6 : Int32) = 4 by decide), if_neg (show ¬ (6 : Int32) = 5 by decide), if_pos rfl]
  rw [mus_ok hn h]
  rfl
theorem tch7 (hn : NB n) (h : TI n N R dif rep wz wf bf) : fX6_touch dif rep wz 336 wf (ii n) (7 : Int32) = some (.inr (ii (ndR R N))) := by
  unfold fX6_touch
  rw [if_neg (show ¬ (7 : Int32) < 0 by decide), if_neg (show ¬ (7 : Int32) < 7 by decide), if_neg (show ¬ (7 : Int32) = 0 by decide), if_neg (show ¬ (7 : Int32) = 1 by decide), if_neg (show ¬ (7 : Int32) = 2 by decide), if_neg (show ¬ (7 : Int32) = 3 by decide), if_neg (show ¬ (7 : Int32) = 4 by decide), if_neg (show ¬ (7 : Int32) = 5 by decide), if_neg (show ¬ (7 : Int32) = 6 by decide), if_pos rfl]
  unfold fX5_differentRows
  rw [h.2.2.1]
  rfl
end TC
def DF (v : Nat → Int32) : Nat → Int64 → Int64
  | 0, d => d
  | k + 1, d => (DF v k d * (31 : Int64)) + (v k).toInt64
section DH
variable {n m : Nat} {M : Nat → Nat} {bob sng : Nat} {bells ob os chz : Int32} {chf : Nat → Int32} {N c : Nat} {R : Nat → List Nat} {C : Nat → Nat} {dif rep wz cz : Int32} {wf bf cf : Nat → Int32}
theorem dg32 (hM : MI n m M bob sng bells ob os chz chf) (K : Int32 → Int64 → Option (Sum (String × Unit) (Int64 × Int32 × Int32 × Int32 × (Nat → Int32) × Int32 × Int32 × Int32 × (Nat → Int32) × Int32 × (Nat → Int32) × (Nat → Int32)))) (x : Int64) : ∀ (d k : Nat), k + d = m → ∀ f, d < f → fX6_digest_L32 chz 14 chf K f (ii k) (DF (fun k => ii (M k)) k x) = K (ii m) (DF (fun k => ii (M k)) m x)
  | 0, k, hk, f + 1, hf => by
    have hm := mi_b hM
    rw [fX6_digest_L32]
    unfold fX2_length fX2_plainChange fX1_size
    rw [Option.bind_some, Option.bind_some, if_pos (show chz ≤ ii k by rw [hM.2.2.2.1.1, i_le (by omega) (by omega)]; omega), show k = m by omega]
  | d + 1, k, hk, f + 1, hf => by
    have hm := mi_b hM
    rw [fX6_digest_L32]
    unfold fX2_length fX2_plainChange fX1_size
    rw [Option.bind_some, Option.bind_some, if_neg (show ¬ chz ≤ ii k by rw [hM.2.2.2.1.1, i_le (by omega) (by omega)]; omega), ln_at hM.2.2.2.1 (by omega), Option.bind_some, Option.bind_some, i_add1]
    exact dg32 hM K x d (k + 1) (by omega) f (by omega)
theorem dg67 (hc : LnF c 24 cz cf (fun k => ii (C k))) (K : Int32 → Int64 → Option (Sum (String × Unit) (Int64 × Int32 × Int32 × Int32 × (Nat → Int32) × Int32 × Int32 × Int32 × (Nat → Int32) × Int32 × (Nat → Int32) × (Nat → Int32)))) (x : Int64) : ∀ (d k : Nat), k + d = c → ∀ f, d < f → fX6_digest_L67 cz 24 cf K f (ii k) (DF (fun k => ii (C k)) k x) = K (ii c) (DF (fun k => ii (C k)) c x)
  | 0, k, hk, f + 1, hf => by
    have hm := hc.2.1
    rw [fX6_digest_L67]
    unfold fX5_callCount fX5_laidCall fX1_size
    rw [Option.bind_some, Option.bind_some, if_pos (show cz ≤ ii k by rw [hc.1, i_le (by omega) (by omega)]; omega), show k = c by omega]
  | d + 1, k, hk, f + 1, hf => by
    have hm := hc.2.1
    rw [fX6_digest_L67]
    unfold fX5_callCount fX5_laidCall fX1_size
    rw [Option.bind_some, Option.bind_some, if_neg (show ¬ cz ≤ ii k by rw [hc.1, i_le (by omega) (by omega)]; omega), ln_at hc (by omega), Option.bind_some, Option.bind_some, i_add1]
    exact dg67 hc K x d (k + 1) (by omega) f (by omega)
theorem dg129 (hn : NB n) (h : TI n N R dif rep wz wf bf) (K : Int32 → Int64 → Option (Sum (String × Unit) (Int64 × Int32 × Int32 × Int32 × (Nat → Int32) × Int32 × Int32 × Int32 × (Nat → Int32) × Int32 × (Nat → Int32) × (Nat → Int32)))) (x : Int64) : ∀ (d k : Nat), k + d = N → ∀ f, d < f → fX6_digest_L129 wz 336 wf (ii n) K f (ii k) (DF (fun k => ii (tl (R k))) k x) = K (ii N) (DF (fun k => ii (tl (R k))) N x)
  | 0, k, hk, f + 1, hf => by
    have hm := ti_b h
    rw [fX6_digest_L129]
    unfold fX5_rowCount fX5_packedRow fX1_size
    rw [Option.bind_some, Option.bind_some, if_pos (show wz ≤ ii k by rw [h.1.1, i_le (by omega) (by omega)]; omega), show k = N by omega]
  | d + 1, k, hk, f + 1, hf => by
    have hm := ti_b h
    rw [fX6_digest_L129]
    unfold fX5_rowCount fX5_packedRow fX1_size
    rw [Option.bind_some, Option.bind_some, if_neg (show ¬ wz ≤ ii k by rw [h.1.1, i_le (by omega) (by omega)]; omega), ln_at h.1 (by omega), Option.bind_some, Option.bind_some, num_ok hn (h.2.2.2.2 k (by omega)), Option.bind_some, i_add1]
    exact dg129 hn h K x d (k + 1) (by omega) f (by omega)
def LGv (n N : Nat) (R : Nat → List Nat) (b : Nat) : Int32 := (fX5_longestStay (ii N) 336 (fun k => pk (R k)) (ii n) (ii b)).getD 0
theorem lgv_ok (hn : NB n) (h : TI n N R dif rep wz wf bf) {b : Nat} (h1 : 1 ≤ b) (h2 : b ≤ n) : fX5_longestStay wz 336 wf (ii n) (ii b) = some (LGv n N R b) ∧ ∃ q, LGv n N R b = ii q ∧ q ≤ N ∧ (0 < N → 1 ≤ q) := by
  obtain ⟨q, h3, h4, h5⟩ := lng_ok hn h1 h2 h
  have e : LGv n N R b = ii q := by
    unfold LGv
    rw [← lng_cg h, h3]
    rfl
  exact ⟨by rw [e]; exact h3, q, e, h4, h5⟩
theorem dg168 (hn : NB n) (h : TI n N R dif rep wz wf bf) (K : Int32 → Int64 → Option (Sum (String × Unit) (Int64 × Int32 × Int32 × Int32 × (Nat → Int32) × Int32 × Int32 × Int32 × (Nat → Int32) × Int32 × (Nat → Int32) × (Nat → Int32)))) (x : Int64) : ∀ (d k : Nat), k + d = n → ∀ f, d < f → fX6_digest_L168 (ii n) wz 336 wf K f (ii (k + 1)) (DF (fun k => LGv n N R (k + 1)) k x) = K (ii (n + 1)) (DF (fun k => LGv n N R (k + 1)) n x)
  | 0, k, hk, f + 1, hf => by
    have hm := nb_le hn
    rw [fX6_digest_L168]
    unfold fX2_bells
    rw [Option.bind_some, if_pos ((i_lt (by omega) (by omega)).mpr (by omega)), show k = n by omega]
  | d + 1, k, hk, f + 1, hf => by
    have hm := nb_le hn
    rw [fX6_digest_L168]
    unfold fX2_bells
    rw [Option.bind_some, if_neg (show ¬ ii n < ii (k + 1) by rw [i_lt (by omega) (by omega)]; omega), (lgv_ok hn h (b := k + 1) (by omega) (by omega)).1, Option.bind_some, i_add1]
    exact dg168 hn h K x d (k + 1) (by omega) f (by omega)
theorem dg203 (hn : NB n) (h : TI n N R dif rep wz wf bf) (hM : MI n m M bob sng bells ob os chz chf) (K : Int32 → Int64 → Option (Sum (String × Unit) (Int64 × Int32 × Int32 × Int32 × (Nat → Int32) × Int32 × Int32 × Int32 × (Nat → Int32) × Int32 × (Nat → Int32) × (Nat → Int32)))) (x : Int64) : ∀ (d k : Nat), k + d = 3 → ∀ f, d < f → fX6_digest_L203 wz 336 wf 5040 bf (ii n) ob os chz 14 chf K f (ii k) (DF (fun q => ii (cls n m M bob sng q R N (LR n N R) m)) k x) = K (ii 3) (DF (fun q => ii (cls n m M bob sng q R N (LR n N R) m)) 3 x)
  | 0, k, hk, f + 1, hf => by
    rw [fX6_digest_L203, if_pos (show (2 : Int32) < ii k from (i_lt (a := 2) (by omega) (by omega)).mpr (by omega)), show k = 3 by omega]
  | d + 1, k, hk, f + 1, hf => by
    rw [fX6_digest_L203, if_neg (show ¬ (2 : Int32) < ii k from fun h9 => by have := (i_lt (a := 2) (by omega) (by omega)).mp h9; omega), cls_ok hn h hM (q := k) (by omega), Option.bind_some, i_add1]
    exact dg203 hn h hM K x d (k + 1) (by omega) f (by omega)
theorem dg32z (hM : MI n m M bob sng bells ob os chz chf) (K : (Int32 → Int64 → Option (Sum (String × Unit) (Int64 × Int32 × Int32 × Int32 × (Nat → Int32) × Int32 × Int32 × Int32 × (Nat → Int32) × Int32 × (Nat → Int32) × (Nat → Int32))))) (x : Int64) : fX6_digest_L32 chz 14 chf K 1000 (0 : Int32) x = K (ii m) (DF (fun k => ii (M k)) m x) :=
  dg32 hM K x m 0 (Nat.zero_add m) 1000 (by have := mi_b hM; omega)
theorem dg67z (hc : LnF c 24 cz cf (fun k => ii (C k))) (K : (Int32 → Int64 → Option (Sum (String × Unit) (Int64 × Int32 × Int32 × Int32 × (Nat → Int32) × Int32 × Int32 × Int32 × (Nat → Int32) × Int32 × (Nat → Int32) × (Nat → Int32))))) (x : Int64) : fX6_digest_L67 cz 24 cf K 1000 (0 : Int32) x = K (ii c) (DF (fun k => ii (C k)) c x) :=
  dg67 hc K x c 0 (Nat.zero_add c) 1000 (by have := hc.2.1; omega)
theorem dg129z (hn : NB n) (h : TI n N R dif rep wz wf bf) (K : (Int32 → Int64 → Option (Sum (String × Unit) (Int64 × Int32 × Int32 × Int32 × (Nat → Int32) × Int32 × Int32 × Int32 × (Nat → Int32) × Int32 × (Nat → Int32) × (Nat → Int32))))) (x : Int64) : fX6_digest_L129 wz 336 wf (ii n) K 1000 (0 : Int32) x = K (ii N) (DF (fun k => ii (tl (R k))) N x) :=
  dg129 hn h K x N 0 (Nat.zero_add N) 1000 (by have := ti_b h; omega)
theorem dg168z (hn : NB n) (h : TI n N R dif rep wz wf bf) (K : (Int32 → Int64 → Option (Sum (String × Unit) (Int64 × Int32 × Int32 × Int32 × (Nat → Int32) × Int32 × Int32 × Int32 × (Nat → Int32) × Int32 × (Nat → Int32) × (Nat → Int32))))) (x : Int64) : fX6_digest_L168 (ii n) wz 336 wf K 1000 (1 : Int32) x = K (ii (n + 1)) (DF (fun k => LGv n N R (k + 1)) n x) :=
  dg168 hn h K x n 0 (Nat.zero_add n) 1000 (by have := nb_le hn; omega)
theorem dg203z (hn : NB n) (h : TI n N R dif rep wz wf bf) (hM : MI n m M bob sng bells ob os chz chf) (K : (Int32 → Int64 → Option (Sum (String × Unit) (Int64 × Int32 × Int32 × Int32 × (Nat → Int32) × Int32 × Int32 × Int32 × (Nat → Int32) × Int32 × (Nat → Int32) × (Nat → Int32))))) (x : Int64) : fX6_digest_L203 wz 336 wf 5040 bf (ii n) ob os chz 14 chf K 1000 (0 : Int32) x = K (ii 3) (DF (fun q => ii (cls n m M bob sng q R N (LR n N R) m)) 3 x) :=
  dg203 hn h hM K x 3 0 (Nat.zero_add 3) 1000 (by omega)
/-- the digest of a tower -/
def DG (n m : Nat) (M : Nat → Nat) (bob sng c : Nat) (C : Nat → Nat) : Int64 :=
  let R := RR n m M bob sng C
  let N := c * m
  let d1 : Int64 := ((((((((((((1045 : Int64) * (31 : Int64)) + (ii n).toInt64) * (31 : Int64)) + (ii m).toInt64) * (31 : Int64)) + (ii bob).toInt64) * (31 : Int64)) + (ii sng).toInt64) * (31 : Int64)) + (ii c).toInt64) * (31 : Int64)) + (ii (HBv n m M bob sng)).toInt64
  let d2 := DF (fun k => ii (C k)) c (DF (fun k => ii (M k)) m d1)
  let d3 := (((((((((((((((d2 * (31 : Int64)) + (ii N).toInt64) * (31 : Int64)) + (ii (tl (LR n N R))).toInt64) * (31 : Int64)) + (if 0 < N ∧ R (N - 1) = rowL n then (1 : Int32) else 0).toInt64) * (31 : Int64)) + (if rpR R N = none then (1 : Int32) else 0).toInt64) * (31 : Int64)) + (rpI R N).toInt64) * (31 : Int64)) + (PV n N R).toInt64) * (31 : Int64)) + (ii (SM n R N)).toInt64) * (31 : Int64)) + (ii (ndR R N)).toInt64
  let d4 := DF (fun q => ii (cls n m M bob sng q R N (LR n N R) m)) 3 (DF (fun k => LGv n N R (k + 1)) n (DF (fun k => ii (tl (R k))) N d3))
  (((d4 * (31 : Int64)) + (ii (LK n m M bob sng 3).1).toInt64) * (31 : Int64)) + ((LK n m M bob sng 3).2).toInt64
theorem dig_ok (hn : NB n) (hM : MI n m M bob sng bells ob os chz chf) (hT : TT n m M bob sng c C dif rep cz cf wz wf bf) {edif erep ecz ewz : Int32} {ecf ewf ebf : Nat → Int32} (hE : ETE edif erep ecz ecf ewz ewf ebf) (gf : Nat → Int32) :
    ∃ r : Int64 × Int32 × Int32 × Int32 × (Nat → Int32) × Int32 × Int32 × Int32 × (Nat → Int32) × Int32 × (Nat → Int32) × (Nat → Int32), fX6_digest dif rep cz 24 cf wz 336 wf 5040 bf (ii n) ob os chz 14 chf 5 gf edif erep ecz 24 ecf ewz 336 ewf 5040 ebf = some (.inr r) ∧ r.1 = DG n m M bob sng c C ∧
      ETE r.2.2.2.2.2.1 r.2.2.2.2.2.2.1 r.2.2.2.2.2.2.2.1 r.2.2.2.2.2.2.2.2.1 r.2.2.2.2.2.2.2.2.2.1 r.2.2.2.2.2.2.2.2.2.2.1 r.2.2.2.2.2.2.2.2.2.2.2 := by
  obtain ⟨h1, h2, h3⟩ := hT
  have hm := mi_b hM
  have hN := ti_b h3
  have hc := h1.2.1
  have hn7 := nb_le hn
  obtain ⟨y, y1, y2, y3, y4⟩ := look_ok hn hM (k := 3) (by omega) hE gf
  have y1 : fX4_look 5 gf edif erep ecz 24 ecf ewz 336 ewf 5040 ebf (ii n) ob os chz 14 chf (3 : Int32) = some y := y1
  refine ⟨(DG n m M bob sng c C, ii (LK n m M bob sng 3).1, (LK n m M bob sng 3).2, y.2.2), ?_, rfl, y4⟩
  unfold fX6_digest
  rw [told0 hn hM h1, Option.bind_some, Sum.elim_inr, told1 hn hM h1, Option.bind_some, Sum.elim_inr, told2 hn hM h1, Option.bind_some, Sum.elim_inr, told3 hn hM h1, Option.bind_some, Sum.elim_inr, told4 hn hM h1, Option.bind_some, Sum.elim_inr, told5 hn hM h1, Option.bind_some, Sum.elim_inr]
  rw [dg32z hM]
  rw [fX6_digest_X32]
  rw [dg67z h1]
  rw [fX6_digest_X67]
  rw [tch0 hn h3, Option.bind_some, Sum.elim_inr, tch1 hn h3, Option.bind_some, Sum.elim_inr, tch2 hn h3, Option.bind_some, Sum.elim_inr, tch3 hn h3, Option.bind_some, Sum.elim_inr, tch4 hn h3, Option.bind_some, Sum.elim_inr, tch5 hn h3, Option.bind_some, Sum.elim_inr, tch6 hn h3, Option.bind_some, Sum.elim_inr, tch7 hn h3, Option.bind_some, Sum.elim_inr]
  rw [dg129z hn h3]
  rw [fX6_digest_X129]
  rw [dg168z hn h3]
  rw [fX6_digest_X168]
  rw [dg203z hn h3 hM]
  rw [fX6_digest_X203, y1, Option.bind_some]
  unfold fX4_goodCount fX4_bestMusic
  rw [Option.bind_some, Option.bind_some, y2, y3]
  rfl
end DH
