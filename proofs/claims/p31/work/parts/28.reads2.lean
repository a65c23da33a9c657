/-! PURE: leads from a row, rows in common, clashes; what does not depend on what lies behind a line's end -/
def LE (n m : Nat) (M : Nat → Nat) (bob sng q : Nat) (l : List Nat) : Nat → List Nat
  | 0 => l
  | k + 1 => chg n (rg m M bob sng k q) (LE n m M bob sng q l k)
theorem le_isR {n m : Nat} {M : Nat → Nat} {bob sng q : Nat} {l : List Nat} (h : IsR n l) : ∀ k, IsR n (LE n m M bob sng q l k)
  | 0 => h
  | k + 1 => chg_isR (le_isR h k)
section LD
variable {n m : Nat} {M : Nat → Nat} {bob sng : Nat} {bells ob os chz : Int32} {chf : Nat → Int32}
theorem led_L (hn : NB n) (hM : MI n m M bob sng bells ob os chz chf) {q : Nat} (hq : q ≤ 2) {l : List Nat} (hl : IsR n l) :
    ∀ (d k : Nat), k + d = m → ∀ f, d < f → fX2_leadEnd_L5 chz ob os 14 chf (ii q) (ii n) fX2_leadEnd_X5 f (ii k) (pk (LE n m M bob sng q l k)) = some (pk (LE n m M bob sng q l m))
  | 0, k, hk, f + 1, hf => by
    have hm := mi_b hM
    rw [fX2_leadEnd_L5]
    unfold fX1_size
    rw [Option.bind_some, hM.2.2.2.1.1, if_pos ((i_le (by omega) (by omega)).mpr (by omega)), fX2_leadEnd_X5, show k = m by omega]
  | d + 1, k, hk, f + 1, hf => by
    have hm := mi_b hM
    rw [fX2_leadEnd_L5]
    unfold fX1_size
    rw [Option.bind_some, if_neg (show ¬ chz ≤ ii k by rw [hM.2.2.2.1.1, i_le (by omega) (by omega)]; omega), rg_at hM (by omega) hq, Option.bind_some, f_chg hn (rg_isC hM (by omega) _) (le_isR hl k), Option.bind_some, i_add1]
    exact led_L hn hM hq hl d (k + 1) (by omega) f (by omega)
theorem led_ok (hn : NB n) (hM : MI n m M bob sng bells ob os chz chf) {q : Nat} (hq : q ≤ 2) {l : List Nat} (hl : IsR n l) : fX2_leadEnd (ii n) ob os chz 14 chf (pk l) (ii q) = some (pk (LE n m M bob sng q l m)) :=
  led_L hn hM hq hl m 0 (by omega) 1000 (by have := mi_b hM; omega)
theorem rl_le (C : Nat → Nat) (j : Nat) : ∀ k, k ≤ m → RQ n m M bob sng C (j * m + k) = LE n m M bob sng (C j) (RQ n m M bob sng C (j * m)) k
  | 0, h => rfl
  | k + 1, h => by
    have hmod : (j * m + k) % m = k := by rw [Nat.add_comm, Nat.add_mul_mod_self_right]; exact Nat.mod_eq_of_lt (by omega)
    have hdiv : (j * m + k) / m = j := by rw [Nat.add_comm, Nat.add_mul_div_right _ _ (by omega), Nat.div_eq_of_lt (by omega)]; omega
    rw [← Nat.add_assoc, RQ, LE, hmod, hdiv, rl_le C j k (by omega)]
theorem ewc_L (hn : NB n) (hM : MI n m M bob sng bells ob os chz chf) {c : Nat} {C : Nat → Nat} {cz : Int32} {cf : Nat → Int32} (h1 : LnF c 24 cz cf (fun k => ii (C k))) (h2 : ∀ k, k < c → C k ≤ 2) {p : Nat} (hp : p < c) :
    ∀ (d k : Nat), k + d = c → ∀ f, d < f → fX5_endWithCall_L14 cz (ii p) (ii n) ob os chz 14 chf (ii (C p)) 24 cf fX5_endWithCall_X14 f (ii k) (pk (RQ n m M bob sng C (k * m))) = some (pk (RQ n m M bob sng C (c * m)))
  | 0, k, hk, f + 1, hf => by
    have hb := h1.2.1
    rw [fX5_endWithCall_L14]
    unfold fX1_size
    rw [Option.bind_some, h1.1, if_pos ((i_le (by omega) (by omega)).mpr (by omega)), fX5_endWithCall_X14, show k = c by omega]
  | d + 1, k, hk, f + 1, hf => by
    have hb := h1.2.1
    have hnext : LE n m M bob sng (C k) (RQ n m M bob sng C (k * m)) m = RQ n m M bob sng C ((k + 1) * m) := by
      rw [← rl_le C k m (Nat.le_refl _), Nat.succ_mul]
    rw [fX5_endWithCall_L14]
    unfold fX1_size
    rw [Option.bind_some, if_neg (show ¬ cz ≤ ii k by rw [h1.1, i_le (by omega) (by omega)]; omega)]
    by_cases e : k = p
    · rw [if_pos (by rw [e]), ← e, led_ok hn hM (h2 k (by omega)) (rl_isR n m M bob sng C _), Option.bind_some, hnext, i_add1]
      have := ewc_L hn hM h1 h2 hp d (k + 1) (by omega) f (by omega)
      rw [← e] at this
      exact this
    · rw [if_neg (show ¬ ii k = ii p from fun h9 => e ((i_eq (by omega) (by omega)).mp h9)), ln_at h1 (by omega), Option.bind_some, led_ok hn hM (h2 k (by omega)) (rl_isR n m M bob sng C _), Option.bind_some, hnext, i_add1]
      exact ewc_L hn hM h1 h2 hp d (k + 1) (by omega) f (by omega)
theorem ewc_ok (hn : NB n) (hM : MI n m M bob sng bells ob os chz chf) {c : Nat} {C : Nat → Nat} {cz : Int32} {cf : Nat → Int32} (h1 : LnF c 24 cz cf (fun k => ii (C k))) (h2 : ∀ k, k < c → C k ≤ 2) {p : Nat} (hp : p < c) :
    fX5_endWithCall cz 24 cf (ii n) ob os chz 14 chf (ii p) (ii (C p)) = some (pk (RQ n m M bob sng C (c * m))) := by
  have hb := h1.2.1
  unfold fX5_endWithCall fX2_bells
  rw [Option.bind_some, f_rnd hn, Option.bind_some]
  have := ewc_L hn hM h1 h2 hp c 0 (by omega) 1000 (by omega)
  rw [Nat.zero_mul] at this
  exact this
end LD
/-! rows in common -/
def amg (R : Nat → List Nat) (l : List Nat) (a : Nat) : Nat → Bool
  | 0 => false
  | d + 1 => (R a == l) || amg R l (a + 1) d
theorem amg_at {R : Nat → List Nat} {l : List Nat} : ∀ {d a k : Nat}, a ≤ k → k < a + d → R k = l → amg R l a d = true
  | 0, a, k, h1, h2, h3 => absurd h2 (by omega)
  | d + 1, a, k, h1, h2, h3 => by
    rw [amg]
    by_cases e : k = a
    · rw [e] at h3
      rw [h3, beq_self_eq_true, Bool.true_or]
    · rw [amg_at (d := d) (a := a + 1) (k := k) (by omega) (by omega) h3, Bool.or_true]
section CM
variable {n N : Nat} {R : Nat → List Nat} {dif rep wz : Int32} {wf bf : Nat → Int32}
theorem amg_L (hn : NB n) (h : TI n N R dif rep wz wf bf) {l : List Nat} (hl : IsR n l) {b : Nat} (hb : b ≤ N) : ∀ (d k : Nat), k + d = b → ∀ f, d < f → fX5_isAmong_L3 (ii b) wz 336 wf (pk l) fX5_isAmong_X3 f (ii k) = some (if amg R l k d = true then (1 : Int32) else 0)
  | 0, k, hk, f + 1, hf => by
    have hN := ti_b h
    rw [fX5_isAmong_L3, if_pos ((i_le (by omega) (by omega)).mpr (by omega)), fX5_isAmong_X3, amg, if_neg (by decide)]
  | d + 1, k, hk, f + 1, hf => by
    have hN := ti_b h
    rw [fX5_isAmong_L3, if_neg (show ¬ ii b ≤ ii k by rw [i_le (by omega) (by omega)]; omega), ln_at h.1 (by omega), Option.bind_some, amg]
    have hR := h.2.2.2.2 k (by omega)
    by_cases e : R k = l
    · rw [if_pos (by rw [e]), e, beq_self_eq_true, Bool.true_or, if_pos rfl]
    · rw [if_neg (fun h9 => e (pk_inj hn hR hl h9)), i_add1, amg_L hn h hl hb d (k + 1) (by omega) f (by omega), show (R k == l) = false from beq_false_of_ne e, Bool.false_or]
theorem amg_ok (hn : NB n) (h : TI n N R dif rep wz wf bf) {l : List Nat} (hl : IsR n l) {a d : Nat} (hb : a + d ≤ N) : fX5_isAmong wz 336 wf (pk l) (ii a) (ii (a + d)) = some (if amg R l a d = true then (1 : Int32) else 0) :=
  amg_L hn h hl hb d a rfl 1000 (by have := ti_b h; omega)
def cmn (R : Nat → List Nat) (a o m : Nat) : Nat → Nat
  | 0 => 0
  | i + 1 => cmn R a o m i + (if amg R (R (a + i)) a i = true then 0 else if amg R (R (a + i)) o m = true then 1 else 0)
theorem cmn_le {a o m : Nat} : ∀ i, cmn R a o m i ≤ i
  | 0 => Nat.le_refl _
  | i + 1 => by
    have := cmn_le (a := a) (o := o) (m := m) i
    rw [cmn]
    split
    · omega
    · split <;> omega
theorem cmn_own {a o m : Nat} : ∀ i, i ≤ m → cmn R a o m i ≤ cmn R a a m i
  | 0, h => Nat.le_refl _
  | i + 1, h => by
    have := cmn_own (a := a) (o := o) (m := m) i (by omega)
    rw [cmn, cmn]
    split
    · omega
    · rw [if_pos (show amg R (R (a + i)) a m = true from amg_at (k := a + i) (by omega) (by omega) rfl)]
      split <;> omega
theorem cmn_pos {a m : Nat} (hm : 0 < m) : ∀ i, 0 < i → 1 ≤ cmn R a a m i
  | 0, h => absurd h (by omega)
  | i + 1, h => by
    rw [cmn]
    by_cases e : i = 0
    · subst e
      rw [cmn, if_neg (by rw [amg]; decide), if_pos (show amg R (R (a + 0)) a m = true from amg_at (k := a + 0) (by omega) (by omega) rfl)]
      omega
    · have := cmn_pos (a := a) hm i (by omega)
      omega
theorem cmn_L (hn : NB n) (h : TI n N R dif rep wz wf bf) {p o m : Nat} (hp : (p + 1) * m ≤ N) (ho : (o + 1) * m ≤ N) (hm : m ≤ 14) : ∀ (d i : Nat), i + d = m → ∀ f, d < f →
    fX5_commonRows_L16 (ii p) (ii m) wz 336 wf (ii o) fX5_commonRows_X16 f (ii (p * m + i)) (ii (cmn R (p * m) (o * m) m i)) = some (ii (cmn R (p * m) (o * m) m m))
  | 0, i, hi, f + 1, hf => by
    have hN := ti_b h
    rw [Nat.succ_mul] at hp
    rw [fX5_commonRows_L16, i_add1, i_mul, Nat.succ_mul, if_pos ((i_le (by omega) (by omega)).mpr (by omega)), fX5_commonRows_X16, show i = m by omega]
  | d + 1, i, hi, f + 1, hf => by
    have hN := ti_b h
    have hp' := hp
    have ho' := ho
    rw [Nat.succ_mul] at hp' ho'
    have hR := h.2.2.2.2 (p * m + i) (by omega)
    have ih := cmn_L hn h hp ho hm d (i + 1) (by omega) f (by omega)
    rw [fX5_commonRows_L16, i_add1, i_mul, if_neg (show ¬ ii ((p + 1) * m) ≤ ii (p * m + i) by rw [Nat.succ_mul, i_le (by omega) (by omega)]; omega), ln_at h.1 (by omega), Option.bind_some, i_mul, amg_ok hn h hR (by omega), Option.bind_some]
    rw [cmn, ← Nat.add_assoc] at ih
    by_cases c : amg R (R (p * m + i)) (p * m) i = true
    · rw [if_pos c] at ih ⊢
      rw [if_neg (by decide), i_add1]
      exact ih
    · rw [if_neg c] at ih ⊢
      rw [if_pos rfl, i_add1, i_mul, i_mul, Nat.succ_mul, amg_ok hn h hR (by omega), Option.bind_some]
      by_cases c2 : amg R (R (p * m + i)) (o * m) m = true
      · rw [if_pos c2] at ih ⊢
        rw [if_neg (by decide), i_add1, i_add1]
        exact ih
      · rw [if_neg c2] at ih ⊢
        rw [if_pos rfl, i_add1]
        exact ih
theorem cmn_ok (hn : NB n) (h : TI n N R dif rep wz wf bf) {p o m : Nat} (hp : (p + 1) * m ≤ N) (ho : (o + 1) * m ≤ N) (hm : m ≤ 14) : fX5_commonRows wz 336 wf (ii m) (ii p) (ii o) = some (ii (cmn R (p * m) (o * m) m m)) := by
  unfold fX5_commonRows fX2_length fX1_size
  rw [Option.bind_some, Option.bind_some, i_mul]
  exact cmn_L hn h hp ho hm m 0 (by omega) 1000 (by omega)
/-! clashes -/
def cls (n m : Nat) (M : Nat → Nat) (bob sng q : Nat) (R : Nat → List Nat) (N : Nat) (l : List Nat) : Nat → Nat
  | 0 => 0
  | k + 1 => cls n m M bob sng q R N l k + (if fst R (LE n m M bob sng q l (k + 1)) N = none then 0 else 1)
theorem cls_le {m : Nat} {M : Nat → Nat} {bob sng q : Nat} {l : List Nat} : ∀ k, cls n m M bob sng q R N l k ≤ k
  | 0 => Nat.le_refl _
  | k + 1 => by
    have := cls_le (m := m) (M := M) (bob := bob) (sng := sng) (q := q) (l := l) k
    rw [cls]
    split <;> omega
theorem cls_L {m : Nat} {M : Nat → Nat} {bob sng : Nat} {bells ob os chz : Int32} {chf : Nat → Int32} (hn : NB n) (h : TI n N R dif rep wz wf bf) (hM : MI n m M bob sng bells ob os chz chf) {q : Nat} (hq : q ≤ 2) {l : List Nat} (hl : IsR n l) :
    ∀ (d k : Nat), k + d = m → ∀ f, d < f → fX5_clashesBehindEnd_L10 chz ob os 14 chf (ii q) (ii n) 5040 bf fX5_clashesBehindEnd_X10 f (ii k) (pk (LE n m M bob sng q l k)) (ii (cls n m M bob sng q R N l k)) = some (ii (cls n m M bob sng q R N l m))
  | 0, k, hk, f + 1, hf => by
    have hm := mi_b hM
    rw [fX5_clashesBehindEnd_L10]
    unfold fX2_length fX1_size
    rw [Option.bind_some, Option.bind_some, hM.2.2.2.1.1, if_pos ((i_le (by omega) (by omega)).mpr (by omega)), fX5_clashesBehindEnd_X10, show k = m by omega]
  | d + 1, k, hk, f + 1, hf => by
    have hm := mi_b hM
    have hN := ti_b h
    have ih := cls_L hn h hM hq hl d (k + 1) (by omega) f (by omega)
    have hR : IsR n (LE n m M bob sng q l (k + 1)) := le_isR hl _
    rw [fX5_clashesBehindEnd_L10]
    unfold fX2_length fX1_size fX2_bells
    rw [Option.bind_some, Option.bind_some, if_neg (show ¬ chz ≤ ii k by rw [hM.2.2.2.1.1, i_le (by omega) (by omega)]; omega), rg_at hM (by omega) hq, Option.bind_some, Option.bind_some, f_chg hn (rg_isC hM (by omega) _) (le_isR hl k), Option.bind_some]
    have hE : chg n (rg m M bob sng k q) (LE n m M bob sng q l k) = LE n m M bob sng q l (k + 1) := rfl
    rw [hE, fno_ok hn h hR, Option.bind_some]
    rw [cls] at ih
    cases e : fst R (LE n m M bob sng q l (k + 1)) N with
    | none =>
      rw [if_pos e] at ih
      rw [if_pos rfl, i_add1]
      exact ih
    | some i =>
      have := fst_lt e
      rw [if_neg (by rw [e]; intro h9; cases h9)] at ih
      rw [if_neg (i_m1 (by omega)), i_add1, i_add1]
      exact ih
theorem cls_ok {m : Nat} {M : Nat → Nat} {bob sng : Nat} {bells ob os chz : Int32} {chf : Nat → Int32} (hn : NB n) (h : TI n N R dif rep wz wf bf) (hM : MI n m M bob sng bells ob os chz chf) {q : Nat} (hq : q ≤ 2) :
    fX5_clashesBehindEnd wz 336 wf 5040 bf (ii n) ob os chz 14 chf (ii q) = some (ii (cls n m M bob sng q R N (if N = 0 then rowL n else R (N - 1)) m)) := by
  unfold fX5_clashesBehindEnd
  rw [end_ok hn h, Option.bind_some]
  have hl : IsR n (if N = 0 then rowL n else R (N - 1)) := by
    split
    · exact isR_rounds n
    · exact h.2.2.2.2 _ (by omega)
  exact cls_L hn h hM hq hl m 0 (by omega) 1000 (by have := mi_b hM; omega)
/-! the same, whatever lies behind the end -/
theorem get_cg {N cap : Nat} {z : Int32} {f v : Nat → Int32} (h : LnF N cap z f v) : fX1_get z cap f = fX1_get (ii N) cap v := by
  funext p
  rw [ln_get h, ln_get (f := v) ⟨rfl, h.2.1, h.2.2.1, fun k _ => rfl⟩]
theorem end_cg (h : TI n N R dif rep wz wf bf) : fX5_end wz 336 wf (ii n) = fX5_end (ii N) 336 (fun k => pk (R k)) (ii n) := by
  unfold fX5_end
  rw [get_cg h.1, h.1.1]
theorem prt_cgL {wz wz' : Int32} {wf wf' : Nat → Int32} {e b : Int32} (h : fX5_end wz 336 wf b = fX5_end wz' 336 wf' b) : ∀ (f : Nat) (p x : Int32), fX5_parts_L30 e wz 336 wf b fX5_parts_X30 f p x = fX5_parts_L30 e wz' 336 wf' b fX5_parts_X30 f p x
  | 0, p, x => rfl
  | f + 1, p, x => by
    rw [fX5_parts_L30, fX5_parts_L30, h]
    simp only [prt_cgL h f]
theorem prt_cg (h : TI n N R dif rep wz wf bf) : fX5_parts wz 336 wf (ii n) = fX5_parts (ii N) 336 (fun k => pk (R k)) (ii n) := by
  unfold fX5_parts
  simp only [end_cg h, prt_cgL (end_cg h)]
  rw [h.1.1]
theorem lng_cgL {z : Int32} {wf wf' : Nat → Int32} {b c : Int32} (h : fX1_get z 336 wf = fX1_get z 336 wf') : ∀ (f : Nat) (x y s g : Int32), fX5_longestStay_L10 z 336 wf b c fX5_longestStay_X10 f x y s g = fX5_longestStay_L10 z 336 wf' b c fX5_longestStay_X10 f x y s g
  | 0, x, y, s, g => rfl
  | f + 1, x, y, s, g => by
    rw [fX5_longestStay_L10, fX5_longestStay_L10, h]
    simp only [lng_cgL h f]
theorem lng_cg (h : TI n N R dif rep wz wf bf) (b : Int32) : fX5_longestStay wz 336 wf (ii n) b = fX5_longestStay (ii N) 336 (fun k => pk (R k)) (ii n) b := by
  unfold fX5_longestStay
  rw [h.1.1]
  exact lng_cgL (get_cg (by have := h.1; rw [h.1.1] at this; exact this)) _ _ _ _ _
end CM
