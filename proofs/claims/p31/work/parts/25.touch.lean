/-! PURE: rows of a touch: what is known of the kernel's facts, and the touch's invariant -/
theorem all_get {α : Type} {P : α → Bool} {xs : List α} (h : xs.all P = true) {x : α} (hx : x ∈ xs) : P x = true := List.all_eq_true.mp h x hx
theorem f_sw {n p : Nat} {l : List Nat} (hn : NB n) (h : IsR n l) (h1 : 1 ≤ p) (h2 : p < n) : fX3_swapped (pk l) (ii p) = some (pk (sw p l)) := by
  have key : ∀ k, k < n - 1 → fX3_swapped (pk l) (ii (k + 1)) = some (pk (sw (k + 1) l)) := by
    intro k hk
    have hm := isR_mem h
    rcases hn with hn | hn | hn | hn <;> subst hn
    · exact of_decide_eq_true (all_get (all_get fs_4 hm) (List.mem_range.mpr hk))
    · exact of_decide_eq_true (all_get (all_get fs_5 hm) (List.mem_range.mpr hk))
    · exact of_decide_eq_true (all_get (all_get fs_6 hm) (List.mem_range.mpr hk))
    · exact of_decide_eq_true (all_get (all_get fs_7 hm) (List.mem_range.mpr hk))
  have := key (p - 1) (by omega)
  rwa [show p - 1 + 1 = p by omega] at this
theorem f_num {n : Nat} {l : List Nat} (hn : NB n) (h : IsR n l) : fX3_number (pk l) (ii n) = some (ii (tl l)) := by
  have hm := isR_mem h
  rcases hn with hn | hn | hn | hn <;> subst hn
  · exact of_decide_eq_true (all_get fn_4 hm)
  · exact of_decide_eq_true (all_get fn_5 hm)
  · exact of_decide_eq_true (all_get fn_6 hm)
  · exact of_decide_eq_true (all_get fn_7 hm)
theorem f_pack {n : Nat} {l : List Nat} (hn : NB n) (h : IsR n l) : fX3_packed (ii (tl l)) (ii n) = some (pk l) := by
  have hm := isR_mem h
  rcases hn with hn | hn | hn | hn <;> subst hn
  · exact of_decide_eq_true (all_get fp_4 hm)
  · exact of_decide_eq_true (all_get fp_5 hm)
  · exact of_decide_eq_true (all_get fp_6 hm)
  · exact of_decide_eq_true (all_get fp_7 hm)
theorem f_siz {n : Nat} {l : List Nat} (hn : NB n) (h : IsR n l) : tl l < 10000000 ∧ pkN l < 268435456 := by
  have hm := isR_mem h
  have key : (decide (tl l < 10000000) && decide (pkN l < 268435456)) = true := by
    rcases hn with hn | hn | hn | hn <;> subst hn
    · exact all_get fz_4 hm
    · exact all_get fz_5 hm
    · exact all_get fz_6 hm
    · exact all_get fz_7 hm
  obtain ⟨h1, h2⟩ := Bool.and_eq_true_iff.mp key
  exact ⟨of_decide_eq_true h1, of_decide_eq_true h2⟩
theorem f_rnd {n : Nat} (hn : NB n) : fX3_rounds (ii n) = some (pk (rowL n)) := by
  rcases hn with hn | hn | hn | hn <;> subst hn
  · exact fo_4
  · exact fo_5
  · exact fo_6
  · exact fo_7
theorem f_mus {n : Nat} {l : List Nat} (hn : NB n) (h : IsR n l) : ∃ m c : Int32, fX3_musicOf (pk l) (ii n) = some m ∧ fX3_crossedPairs (pk l) (ii n) = some c ∧ (m = 0 ∨ ¬ m < (3 : Int32)) ∧ ¬ m < 0 ∧ ¬ ii (2 * n) < m ∧ (m = ii (2 * n) ↔ (tl l = tl (rowL n) ∨ c = ii (n * (n - 1) / 2))) := by
  have hm := isR_mem h
  have key : mC n l = true := by
    rcases hn with hn | hn | hn | hn <;> subst hn
    · exact all_get fm_4 hm
    · exact all_get fm_5 hm
    · exact all_get fm_6 hm
    · exact all_get fm_7 hm
  unfold mC at key
  generalize fX3_musicOf (pk l) (ii n) = x at *
  generalize fX3_crossedPairs (pk l) (ii n) = y at *
  cases x with
  | none => cases key
  | some m =>
    cases y with
    | none => cases key
    | some c =>
      have k2 := of_decide_eq_true key
      exact ⟨m, c, rfl, rfl, k2.1, k2.2.1, k2.2.2.1, k2.2.2.2⟩
theorem f_plc {n b : Nat} {l : List Nat} (hn : NB n) (h : IsR n l) (h1 : 1 ≤ b) (h2 : b ≤ n) : fX3_placeOf (pk l) (ii b) (ii n) = some (ii (List.idxOf b l + 1)) := by
  have key : ∀ k, k < n → fX3_placeOf (pk l) (ii (k + 1)) (ii n) = some (ii (List.idxOf (k + 1) l + 1)) := by
    intro k hk
    have hm := isR_mem h
    rcases hn with hn | hn | hn | hn <;> subst hn
    · exact of_decide_eq_true (all_get (all_get fl_4 hm) (List.mem_range.mpr hk))
    · exact of_decide_eq_true (all_get (all_get fl_5 hm) (List.mem_range.mpr hk))
    · exact of_decide_eq_true (all_get (all_get fl_6 hm) (List.mem_range.mpr hk))
    · exact of_decide_eq_true (all_get (all_get fl_7 hm) (List.mem_range.mpr hk))
  have := key (b - 1) (by omega)
  rwa [show b - 1 + 1 = b by omega] at this
/-- a row's number among all rows -/
def rk (n : Nat) (l : List Nat) : Nat := (prms n).idxOf l
theorem f_rk0 {n k : Nat} {l : List Nat} (hn : NB n) (h : (prms n)[k]? = some l) : fX3_rank (pk l) (ii n) = some (ii k) ∧ k < 5040 := by
  have hm : (l, k) ∈ (prms n).zipIdx := List.mk_mem_zipIdx_iff_getElem?.mpr h
  have hk : k < (prms n).length := (List.getElem?_eq_some_iff.mp h).1
  rcases hn with hn | hn | hn | hn <;> subst hn
  · have e := all_get fr_4 hm
    exact ⟨of_decide_eq_true e, Nat.lt_of_lt_of_le hk fc_4⟩
  · have e := all_get fr_5 hm
    exact ⟨of_decide_eq_true e, Nat.lt_of_lt_of_le hk fc_5⟩
  · have e := all_get fr_6 hm
    exact ⟨of_decide_eq_true e, Nat.lt_of_lt_of_le hk fc_6⟩
  · have e := all_get fr_7 hm
    exact ⟨of_decide_eq_true e, Nat.lt_of_lt_of_le hk fc_7⟩
theorem rk_at {n : Nat} {l : List Nat} (h : IsR n l) : (prms n)[rk n l]? = some l := by
  have hm := isR_mem h
  have hk : rk n l < (prms n).length := List.idxOf_lt_length_of_mem hm
  rw [List.getElem?_eq_getElem hk]
  exact congrArg some (List.getElem_idxOf hk)
theorem f_rk {n : Nat} {l : List Nat} (hn : NB n) (h : IsR n l) : fX3_rank (pk l) (ii n) = some (ii (rk n l)) ∧ rk n l < 5040 := f_rk0 hn (rk_at h)
theorem rk_inj {n k : Nat} {l : List Nat} (hn : NB n) (h : IsR n l) (hk : (prms n)[k]? = some l) : k = rk n l := by
  have h1 := f_rk0 hn hk
  have h2 := f_rk hn h
  rw [h1.1] at h2
  exact (i_eq (by omega) (by omega)).mp (Option.some.inj h2.1)
theorem pk_inj {n : Nat} {l l' : List Nat} (hn : NB n) (h : IsR n l) (h' : IsR n l') (e : pk l = pk l') : l = l' := by
  have h1 := f_rk hn h
  have h2 := f_rk hn h'
  rw [e, h2.1] at h1
  have h3 := (i_eq (by omega) (by omega)).mp (Option.some.inj h1.1)
  have h4 := rk_at h
  rw [← h3, rk_at h'] at h4
  exact (Option.some.inj h4).symm
theorem pk_pos {n : Nat} {l : List Nat} (hn : NB n) (h : IsR n l) : ¬ pk l = (-1 : Int32) := i_m1 (by have := (f_siz hn h).2; omega)
/-! changes of rows -/
theorem ch_fold {n : Nat} (hn : NB n) : ∀ (ps : List Nat) (l : List Nat), IsR n l → (∀ p ∈ ps, 1 ≤ p ∧ p < n) → ps.foldl (fun o p => o.bind (fun r => fX3_swapped r (ii p))) (some (pk l)) = some (pk (sws ps l))
  | [], l, h, hp => rfl
  | p :: ps, l, h, hp => by
    show ps.foldl (fun o p => o.bind (fun r => fX3_swapped r (ii p))) (fX3_swapped (pk l) (ii p)) = some (pk (sws ps (sw p l)))
    have h1 := hp p List.mem_cons_self
    rw [f_sw hn h h1.1 h1.2]
    exact ch_fold hn ps (sw p l) ((sw_perm p l).trans h) (fun q hq => hp q (List.mem_cons_of_mem _ hq))
theorem f_chg {n c : Nat} {l : List Nat} (hn : NB n) (hc : IsC n c) (h : IsR n l) : fX3_changed (pk l) (ii c) (ii n) = some (pk (chg n c l)) := by
  have k := ch_ok hn hc
  rw [k.1]
  exact ch_fold hn _ l h k.2.2.2.2.2.2
theorem chg_chg {n c : Nat} {l : List Nat} (hn : NB n) (hc : IsC n c) (h : IsR n l) : chg n c (chg n c l) = l := (ch_ok hn hc).2.2.2.2.1 l (isR_len h)
theorem f_can {n c : Nat} (hn : NB n) (hc : IsC n c) : fX3_canBeRung (ii c) (ii n) = some (1 : Int32) := (ch_ok hn hc).2.2.1
/-! rows rung, one behind the other -/
def fst (R : Nat → List Nat) (l : List Nat) : Nat → Option Nat
  | 0 => none
  | N + 1 => match fst R l N with
    | some i => some i
    | none => if R N = l then some N else none
def ndR (R : Nat → List Nat) : Nat → Nat
  | 0 => 0
  | N + 1 => ndR R N + (if fst R (R N) N = none then 1 else 0)
def rpR (R : Nat → List Nat) : Nat → Option Nat
  | 0 => none
  | N + 1 => match rpR R N with
    | some i => some i
    | none => if fst R (R N) N = none then none else some N
def rpI (R : Nat → List Nat) (N : Nat) : Int32 := match rpR R N with
  | none => (-1 : Int32)
  | some i => ii i
def wN : Option Nat → Nat
  | none => 0
  | some i => i + 1
def bkw (n : Nat) (R : Nat → List Nat) (N k : Nat) : Nat := match (prms n)[k]? with
  | none => 0
  | some l => wN (fst R l N)
theorem fst_lt {R : Nat → List Nat} {l : List Nat} : ∀ {N i : Nat}, fst R l N = some i → i < N ∧ R i = l
  | 0, i, h => by cases h
  | N + 1, i, h => by
    rw [fst] at h
    cases e : fst R l N with
    | some j =>
      rw [e] at h
      cases h
      have := fst_lt e
      exact ⟨by omega, this.2⟩
    | none =>
      rw [e] at h
      by_cases c : R N = l
      · have h : (if R N = l then some N else none) = some i := h
        rw [if_pos c] at h
        cases h
        exact ⟨by omega, c⟩
      · have h : (if R N = l then some N else none) = some i := h
        rw [if_neg c] at h
        cases h
theorem fst_none {R : Nat → List Nat} {l : List Nat} : ∀ {N : Nat}, fst R l N = none → ∀ i, i < N → R i ≠ l
  | 0, h, i, hi => absurd hi (Nat.not_lt_zero _)
  | N + 1, h, i, hi => by
    rw [fst] at h
    cases e : fst R l N with
    | some j =>
      rw [e] at h
      cases h
    | none =>
      rw [e] at h
      have h : (if R N = l then some N else none) = none := h
      by_cases c : R N = l
      · rw [if_pos c] at h
        cases h
      · by_cases c2 : i = N
        · rw [c2]; exact c
        · exact fst_none e i (by omega)
theorem fst_le {R : Nat → List Nat} {l : List Nat} {N i : Nat} (hi : i < N) (h : R i = l) : ∃ j, fst R l N = some j ∧ j ≤ i := by
  induction N with
  | zero => exact absurd hi (Nat.not_lt_zero _)
  | succ N ih =>
    by_cases c : i = N
    · rw [fst]
      cases e : fst R l N with
      | some j => exact ⟨j, rfl, by have := (fst_lt e).1; omega⟩
      | none => exact ⟨N, by show (if R N = l then some N else none) = some N; rw [if_pos (by rw [← c]; exact h)], by omega⟩
    · obtain ⟨j, h1, h2⟩ := ih (by omega)
      exact ⟨j, by rw [fst, h1], h2⟩
theorem fst_self {R : Nat → List Nat} {N : Nat} : fst R (R N) (N + 1) = match fst R (R N) N with
    | some i => some i
    | none => some N := by
  rw [fst]
  cases fst R (R N) N with
  | some i => rfl
  | none => exact if_pos rfl
theorem fst_other {R : Nat → List Nat} {l : List Nat} {N : Nat} (h : R N ≠ l) : fst R l (N + 1) = fst R l N := by
  rw [fst]
  cases fst R l N with
  | some i => rfl
  | none => exact if_neg h
theorem rpR_lt {R : Nat → List Nat} : ∀ {N i : Nat}, rpR R N = some i → i < N
  | 0, i, h => by cases h
  | N + 1, i, h => by
    rw [rpR] at h
    cases e : rpR R N with
    | some j =>
      rw [e] at h
      cases h
      have := rpR_lt e
      omega
    | none =>
      rw [e] at h
      have h : (if fst R (R N) N = none then none else some N) = some i := h
      by_cases c : fst R (R N) N = none
      · rw [if_pos c] at h
        cases h
      · rw [if_neg c] at h
        cases h
        omega
theorem ndR_le {R : Nat → List Nat} : ∀ N : Nat, ndR R N ≤ N
  | 0 => Nat.le_refl _
  | N + 1 => by
    rw [ndR]
    have := ndR_le (R := R) N
    split <;> omega
theorem ndR_rpR {R : Nat → List Nat} : ∀ N : Nat, rpR R N = none ↔ ndR R N = N
  | 0 => by simp [rpR, ndR]
  | N + 1 => by
    have h1 := ndR_rpR (R := R) N
    have h2 := ndR_le (R := R) N
    rw [rpR, ndR]
    cases e : rpR R N with
    | some j =>
      have h3 : ¬ ndR R N = N := fun h9 => by
        have := h1.mpr h9
        rw [e] at this
        cases this
      constructor
      · intro h
        cases h
      · intro h
        split at h <;> omega
    | none =>
      have h3 := h1.mp e
      by_cases c : fst R (R N) N = none
      · simp only [if_pos c]
        simp [h3]
      · simp only [if_neg c]
        constructor
        · intro h
          cases h
        · intro h
          omega
/-- the rows of a touch, its book and what it counts -/
def TI (n N : Nat) (R : Nat → List Nat) (dif rep wz : Int32) (wf bf : Nat → Int32) : Prop :=
  LnF N 336 wz wf (fun k => pk (R k)) ∧ BkF bf (bkw n R N) ∧ dif = ii (ndR R N) ∧ rep = rpI R N ∧ ∀ k, k < N → IsR n (R k)
theorem bkw_rk {n N : Nat} {R : Nat → List Nat} {l : List Nat} (h : IsR n l) : bkw n R N (rk n l) = wN (fst R l N) := by
  unfold bkw
  rw [rk_at h]
theorem bkw_other {n N k : Nat} {R : Nat → List Nat} (hn : NB n) (h : IsR n (R N)) (hk : k ≠ rk n (R N)) : bkw n R (N + 1) k = bkw n R N k := by
  unfold bkw
  cases e : (prms n)[k]? with
  | none => rfl
  | some l =>
    show wN (fst R l (N + 1)) = wN (fst R l N)
    rw [fst_other]
    intro h9
    rw [← h9] at e
    exact hk (rk_inj hn h e)
theorem rpI_none {R : Nat → List Nat} {N : Nat} (hN : N < 2147483648) : rpI R N = (-1 : Int32) ↔ rpR R N = none := by
  unfold rpI
  cases e : rpR R N with
  | none => exact ⟨fun _ => rfl, fun _ => rfl⟩
  | some i =>
    have := rpR_lt e
    exact ⟨fun h => absurd h (i_m1 (by omega)), fun h => by cases h⟩
theorem ti_add {n N : Nat} {R : Nat → List Nat} {dif rep wz : Int32} {wf bf : Nat → Int32} (hn : NB n) (h : TI n N R dif rep wz wf bf) (hN : N < 336) (hR : IsR n (R N)) :
    ∃ dif' rep' wz' wf' bf', fX5_addRow dif rep wz 336 wf 5040 bf (ii n) (pk (R N)) = some (dif', rep', wz', wf', bf') ∧ TI n (N + 1) R dif' rep' wz' wf' bf' := by
  obtain ⟨h1, h2, h3, h4, h5⟩ := h
  have hrk := f_rk hn hR
  have hz := h1.1
  obtain ⟨a1, a2⟩ := ln_add (x := pk (R N)) h1 hN
  have a3 : LnF (N + 1) 336 (ii (N + 1)) (upd wf N (pk (R N))) (fun k => pk (R k)) := ln_congr a2 (fun k hk => by
    unfold upd
    by_cases e : k = N
    · rw [if_pos e, e]
    · rw [if_neg e])
  have h5' : ∀ k, k < N + 1 → IsR n (R k) := fun k hk => by
    by_cases e : k = N
    · rw [e]; exact hR
    · exact h5 k (by omega)
  have hget := bk_get h2 (ii (rk n (R N)))
  cases e : fst R (R N) N with
  | none =>
    have hw : bkw n R N (rk n (R N)) = 0 := by rw [bkw_rk hR, e]; rfl
    obtain ⟨b1, b2⟩ := bk_note h2 hrk.2 hN
    refine ⟨dif + (1 : Int32), rep, ii (N + 1), upd wf N (pk (R N)), upd bf (rk n (R N)) (ii (N + 1)), ?_, a3, ?_, ?_, ?_, h5'⟩
    · unfold fX5_addRow fX1_size fX2_bells
      rw [Option.bind_some, Option.bind_some, hrk.1, Option.bind_some, hget, nv_none hrk.2 hw, Option.bind_some, if_pos rfl, hz, b1, Option.bind_some, ← hz, a1, Option.bind_some]
    · refine bk_congr b2 (fun k hk => ?_)
      by_cases e2 : k = rk n (R N)
      · rw [if_pos e2, e2, bkw_rk hR, fst_self, e]
        rfl
      · rw [if_neg e2, bkw_other hn hR e2]
    · rw [h3, i_add1, ndR, if_pos e]
    · rw [h4]
      unfold rpI
      rw [rpR]
      cases rpR R N with
      | some i => rfl
      | none => simp only [if_pos e]
  | some i =>
    have hi := fst_lt e
    have hw : bkw n R N (rk n (R N)) = i + 1 := by rw [bkw_rk hR, e]; rfl
    have hne : ¬ ii i = (-1 : Int32) := i_m1 (by omega)
    have hb : BkF bf (bkw n R (N + 1)) := bk_congr h2 (fun k hk => by
      by_cases e2 : k = rk n (R N)
      · rw [e2, bkw_rk hR, bkw_rk hR, fst_self, e]
      · rw [bkw_other hn hR e2])
    have hd : dif = ii (ndR R (N + 1)) := by
      rw [h3, ndR, if_neg (by rw [e]; intro h9; cases h9), Nat.add_zero]
    by_cases c : rep = (-1 : Int32)
    · have c2 : rpR R N = none := (rpI_none (by omega)).mp (h4.symm.trans c)
      refine ⟨dif, wz, ii (N + 1), upd wf N (pk (R N)), bf, ?_, a3, hb, hd, ?_, h5'⟩
      · unfold fX5_addRow fX1_size fX2_bells
        rw [Option.bind_some, Option.bind_some, hrk.1, Option.bind_some, hget, nv_some hrk.2 hw, Option.bind_some, if_neg hne, if_pos c, a1, Option.bind_some]
      · rw [hz]
        unfold rpI
        rw [rpR, c2]
        simp only [e]
        rfl
    · have c2 : ¬ rpR R N = none := fun h9 => c (h4.trans ((rpI_none (by omega)).mpr h9))
      refine ⟨dif, rep, ii (N + 1), upd wf N (pk (R N)), bf, ?_, a3, hb, hd, ?_, h5'⟩
      · unfold fX5_addRow fX1_size fX2_bells
        rw [Option.bind_some, Option.bind_some, hrk.1, Option.bind_some, hget, nv_some hrk.2 hw, Option.bind_some, if_neg hne, if_neg c, a1, Option.bind_some]
      · rw [h4]
        unfold rpI
        rw [rpR]
        cases e9 : rpR R N with
        | some j => rfl
        | none => exact absurd e9 c2
theorem ti_drop {n N : Nat} {R : Nat → List Nat} {dif rep wz : Int32} {wf bf : Nat → Int32} (hn : NB n) (h : TI n (N + 1) R dif rep wz wf bf) :
    ∃ dif' rep' wz' bf', fX5_dropLastRow dif rep wz 336 wf 5040 bf (ii n) = some (dif', rep', wz', bf') ∧ TI n N R dif' rep' wz' wf bf' := by
  obtain ⟨h1, h2, h3, h4, h5⟩ := h
  have hb := h1.2.1
  have hR := h5 N (by omega)
  have hrk := f_rk hn hR
  have hz := h1.1
  obtain ⟨a1, a2⟩ := ln_rem h1
  have hget := bk_get h2 (ii (rk n (R N)))
  have h5' : ∀ k, k < N → IsR n (R k) := fun k hk => h5 k (by omega)
  have hzs : wz - (1 : Int32) = ii N := by rw [hz, i_sub1 (by omega)]; rfl
  cases e : fst R (R N) N with
  | none =>
    have hw : bkw n R (N + 1) (rk n (R N)) = N + 1 := by rw [bkw_rk hR, fst_self, e]; rfl
    obtain ⟨g, b1, b2⟩ := bk_strike h2 hrk.2
    refine ⟨dif - (1 : Int32), rep, ii N, g, ?_, a2, ?_, ?_, ?_, h5'⟩
    · unfold fX5_dropLastRow fX1_size fX2_bells
      rw [Option.bind_some, a1, Option.bind_some, Option.bind_some, hrk.1, Option.bind_some, hget, nv_some hrk.2 hw, Option.bind_some, hzs, if_pos rfl, b1, Option.bind_some]
    · refine bk_congr b2 (fun k hk => ?_)
      by_cases e2 : k = rk n (R N)
      · rw [if_pos e2, e2, bkw_rk hR, e]
        rfl
      · rw [if_neg e2, bkw_other hn hR e2]
    · rw [h3, ndR, if_pos e, i_sub1 (by omega)]
      rfl
    · rw [h4]
      unfold rpI
      rw [rpR]
      cases rpR R N with
      | some i => rfl
      | none => simp only [if_pos e]
  | some i =>
    have hi := fst_lt e
    have hw : bkw n R (N + 1) (rk n (R N)) = i + 1 := by rw [bkw_rk hR, fst_self, e]; rfl
    have hne : ¬ ii i = ii N := by rw [i_eq (by omega) (by omega)]; omega
    have hb' : BkF bf (bkw n R N) := bk_congr h2 (fun k hk => by
      by_cases e2 : k = rk n (R N)
      · rw [e2, bkw_rk hR, bkw_rk hR, fst_self, e]
      · rw [bkw_other hn hR e2])
    have hd : dif = ii (ndR R N) := by
      rw [h3, ndR, if_neg (by rw [e]; intro h9; cases h9)]
      rfl
    cases e9 : rpR R N with
    | some j =>
      have hj := rpR_lt e9
      have hr : rep = ii j := by
        rw [h4]
        unfold rpI
        rw [rpR, e9]
      have hr2 : ¬ rep = ii N := by rw [hr, i_eq (by omega) (by omega)]; omega
      refine ⟨dif, rep, ii N, bf, ?_, a2, hb', hd, ?_, h5'⟩
      · unfold fX5_dropLastRow fX1_size fX2_bells
        rw [Option.bind_some, a1, Option.bind_some, Option.bind_some, hrk.1, Option.bind_some, hget, nv_some hrk.2 hw, Option.bind_some, hzs, if_neg hne, if_neg hr2]
      · rw [hr]
        unfold rpI
        rw [e9]
    | none =>
      have hr : rep = ii N := by
        rw [h4]
        unfold rpI
        rw [rpR, e9]
        simp only [e]
        rfl
      refine ⟨dif, (-1 : Int32), ii N, bf, ?_, a2, hb', hd, ?_, h5'⟩
      · unfold fX5_dropLastRow fX1_size fX2_bells
        rw [Option.bind_some, a1, Option.bind_some, Option.bind_some, hrk.1, Option.bind_some, hget, nv_some hrk.2 hw, Option.bind_some, hzs, if_neg hne, if_pos hr]
      · unfold rpI
        rw [e9]
theorem ti_nil {n : Nat} {R : Nat → List Nat} {wf bf : Nat → Int32} (h : BkF bf (fun _ => 0)) : TI n 0 R (0 : Int32) (-1 : Int32) (0 : Int32) wf bf := by
  refine ⟨ln_nil 336 (by omega) _ _, bk_congr h (fun k hk => ?_), rfl, rfl, fun k hk => absurd hk (Nat.not_lt_zero _)⟩
  unfold bkw
  cases (prms n)[k]? with
  | none => rfl
  | some l => rfl
theorem fst_congr {R R' : Nat → List Nat} {l : List Nat} : ∀ {N : Nat}, (∀ k, k < N → R k = R' k) → fst R l N = fst R' l N
  | 0, h => rfl
  | N + 1, h => by
    rw [fst, fst, fst_congr (N := N) (fun k hk => h k (by omega)), h N (by omega)]
theorem ndR_congr {R R' : Nat → List Nat} : ∀ {N : Nat}, (∀ k, k < N → R k = R' k) → ndR R N = ndR R' N
  | 0, h => rfl
  | N + 1, h => by
    rw [ndR, ndR, ndR_congr (N := N) (fun k hk => h k (by omega)), h N (by omega), fst_congr (N := N) (fun k hk => h k (by omega))]
theorem rpR_congr {R R' : Nat → List Nat} : ∀ {N : Nat}, (∀ k, k < N → R k = R' k) → rpR R N = rpR R' N
  | 0, h => rfl
  | N + 1, h => by
    rw [rpR, rpR, rpR_congr (N := N) (fun k hk => h k (by omega)), h N (by omega), fst_congr (N := N) (fun k hk => h k (by omega))]
theorem ti_congr {n N : Nat} {R R' : Nat → List Nat} {dif rep wz : Int32} {wf bf : Nat → Int32} (h : TI n N R dif rep wz wf bf) (e : ∀ k, k < N → R k = R' k) : TI n N R' dif rep wz wf bf := by
  obtain ⟨h1, h2, h3, h4, h5⟩ := h
  refine ⟨ln_congr h1 (fun k hk => by rw [e k hk]), bk_congr h2 (fun k hk => ?_), by rw [h3, ndR_congr e], ?_, fun k hk => by rw [← e k hk]; exact h5 k hk⟩
  · unfold bkw
    cases (prms n)[k]? with
    | none => rfl
    | some l => exact congrArg wN (fst_congr e)
  · rw [h4]
    unfold rpI
    rw [rpR_congr e]
