/-! PURE: a bell goes by one place at most; the mean place -/
theorem pl_chg {n x b : Nat} {l : List Nat} (hn : NB n) (hx : IsC n x) (h : IsR n l) (h1 : 1 ≤ b) (h2 : b ≤ n) : pl b (chg n x l) ≤ pl b l + 1 ∧ pl b l ≤ pl b (chg n x l) + 1 := by
  have hl := isR_len h
  have hc : IsR n (chg n x l) := chg_isR h
  have hcl := isR_len hc
  have hσ := (ch_ok hn hx).2.2.2.2.2.1
  have eσ : chg n x l = (sws (psw n x) (List.range n)).map (fun i => l.getD i 0) := by
    unfold chg
    rw [← sws_map]
    congr 1
    refine List.ext_getElem (by rw [List.length_map, List.length_range, hl]) (fun i p1 p2 => ?_)
    rw [List.getElem_map, List.getElem_range, List.getD_eq_getElem?_getD, List.getElem?_eq_getElem p1]
    rfl
  have σl : (sws (psw n x) (List.range n)).length = n := by
    rw [(sws_perm _ _).length_eq, List.length_range]
  have hbm : b ∈ chg n x l := (isR_bell hc).mpr ⟨h1, h2⟩
  have hbl : b ∈ l := (isR_bell h).mpr ⟨h1, h2⟩
  obtain ⟨j, hj, ej, hj9⟩ : ∃ (j : Nat) (hj : j < (chg n x l).length), (chg n x l)[j] = b ∧ List.idxOf b (chg n x l) = j := ⟨_, List.idxOf_lt_length_of_mem hbm, List.getElem_idxOf _, rfl⟩
  obtain ⟨i, hi, ei, hi9⟩ : ∃ (i : Nat) (hi : i < l.length), l[i] = b ∧ List.idxOf b l = i := ⟨_, List.idxOf_lt_length_of_mem hbl, List.getElem_idxOf _, rfl⟩
  unfold pl
  rw [hj9, hi9]
  have hjn : j < n := by omega
  have hs := hσ j hjn
  have hjs : j < (sws (psw n x) (List.range n)).length := by omega
  have es : (sws (psw n x) (List.range n)).getD j 0 = (sws (psw n x) (List.range n))[j] := by
    rw [List.getD_eq_getElem?_getD, List.getElem?_eq_getElem hjs]
    rfl
  rw [es] at hs
  have hm : (sws (psw n x) (List.range n))[j] < n := List.mem_range.mp ((sws_perm _ _).mem_iff.mp (List.getElem_mem hjs))
  have e3 : (chg n x l)[j] = l.getD ((sws (psw n x) (List.range n))[j]) 0 := by
    have e4 : (chg n x l)[j]? = ((sws (psw n x) (List.range n)).map (fun i => l.getD i 0))[j]? := by rw [← eσ]
    rw [List.getElem?_eq_getElem hj, List.getElem?_map, List.getElem?_eq_getElem hjs] at e4
    exact Option.some.inj e4
  obtain ⟨s, hs9⟩ : ∃ s, (sws (psw n x) (List.range n))[j] = s := ⟨_, rfl⟩
  rw [hs9] at hs hm e3
  have hsl : s < l.length := by omega
  rw [ej, List.getD_eq_getElem?_getD, List.getElem?_eq_getElem hsl] at e3
  have e5 : l[i] = l[s] := ei.trans e3
  have e6 : i = s := (List.getElem_inj (isR_nd h)).mp e5
  omega
section MEAN
theorem wh_nat {i : Nat} {a : UInt64} (h : FP.Core.DInt (i : Int) a) : ∃ s c q, FP.Core.val64 a = .fin s c q ∧ FP.Core.zmag FP.Core.b64 (FP.Core.val64 a) = i * FP.Core.one64 ∧ (c = 0 ↔ i = 0) ∧ (i ≠ 0 → s = false) := by
  have hz := FP.Core.DInt_zval h
  unfold FP.Core.DInt at h
  cases e : FP.Core.val64 a with
  | nan => rw [e] at h; exact False.elim h
  | inf s => rw [e] at h; exact False.elim h
  | fin s c q =>
    rw [e] at h hz
    have h1 := FP.Core.whole_zero h
    refine ⟨s, c, q, rfl, ?_, ⟨fun h9 => by have := h1.mp h9; omega, fun h9 => h1.mpr (by omega)⟩, fun h9 => by rw [FP.Core.whole_sign h (by omega)]; exact decide_eq_false (by omega)⟩
    unfold FP.Core.zval at hz
    have h2 := congrArg Int.natAbs hz
    rw [FP.Core.natAbs_signed, Int.natAbs_mul, Int.natAbs_natCast, Int.natAbs_natCast] at h2
    exact h2
theorem mean_le {S N n : Nat} {a b v : UInt64} (ha : FP.Core.DInt (S : Int) a) (hb : FP.Core.DInt (N : Int) b) (hv : FP.Core.DInt (n : Int) v) (hN : 0 < N) (hn : 0 < n) (hS : S ≤ n * N) : FP.Core.val64 (FP.Core.ddiv a b) ≠ .nan ∧ FP.Core.dcmp (FP.Core.ddiv a b) v ≠ some .gt := by
  obtain ⟨sa, ca, qa, ea, za, ca0, -⟩ := wh_nat ha
  obtain ⟨sb, cb, qb, eb, zb, cb0, -⟩ := wh_nat hb
  obtain ⟨sv, cv, qv, ev, zv, cv0, sv0⟩ := wh_nat hv
  have fa := FP.Core.val64_fits a
  have fb := FP.Core.val64_fits b
  have fv := FP.Core.val64_fits v
  have hcb : ¬ cb = 0 := fun h9 => by have := cb0.mp h9; omega
  have eq : FP.Core.val64 (FP.Core.ddiv a b) = FP.Core.roundRatio FP.Core.b64 (sa != sb) ca cb (qa - qb) := by
    rw [FP.Core.val64_ddiv, ea, eb]
    show (if cb = 0 then _ else _) = _
    rw [if_neg hcb]
  have hvn : FP.Core.val64 v ≠ .nan := FP.Core.DInt_ne_nan hv
  rw [ea] at fa za
  rw [eb] at fb zb
  have za : ca * 2 ^ (qa - FP.Core.b64.qmin).toNat = S * FP.Core.one64 := za
  have zb : cb * 2 ^ (qb - FP.Core.b64.qmin).toNat = N * FP.Core.one64 := zb
  have qa1 : FP.Core.b64.qmin ≤ qa := fa.2.1
  have qb1 : FP.Core.b64.qmin ≤ qb := fb.2.1
  have h1074 : (2 : Nat) ^ 1074 = FP.Core.one64 := rfl
  have key : FP.Core.inUnits ca (qa - qb) (FP.Core.b64.qmin - ((qb - FP.Core.b64.qmin).toNat : Int)) ≤ FP.Core.zmag FP.Core.b64 (FP.Core.val64 v) * 2 ^ (FP.Core.b64.qmin - (FP.Core.b64.qmin - ((qb - FP.Core.b64.qmin).toNat : Int))).toNat * cb := by
    have e1 : (FP.Core.b64.qmin - (FP.Core.b64.qmin - ((qb - FP.Core.b64.qmin).toNat : Int))).toNat = (qb - FP.Core.b64.qmin).toNat := by omega
    have hq : FP.Core.b64.qmin = -1074 := by decide
    have e2 : ((qa - qb) - (FP.Core.b64.qmin - ((qb - FP.Core.b64.qmin).toNat : Int))).toNat = (qa - FP.Core.b64.qmin).toNat + 1074 := by omega
    unfold FP.Core.inUnits
    rw [e1, e2, Nat.pow_add, h1074, zv, ← Nat.mul_assoc, za]
    have e3 : n * FP.Core.one64 * 2 ^ (qb - FP.Core.b64.qmin).toNat * cb = n * FP.Core.one64 * (N * FP.Core.one64) := by
      rw [← zb, Nat.mul_assoc, Nat.mul_comm (2 ^ (qb - FP.Core.b64.qmin).toNat) cb]
    rw [e3, Nat.mul_assoc, Nat.mul_assoc]
    have e4 : FP.Core.one64 * (N * FP.Core.one64) = N * (FP.Core.one64 * FP.Core.one64) := by rw [← Nat.mul_assoc, Nat.mul_comm FP.Core.one64 N, Nat.mul_assoc]
    rw [e4, ← Nat.mul_assoc n N]
    exact Nat.mul_le_mul_right _ hS
  have hq : FP.Core.b64.qmin = -1074 := by decide
  have hle := FP.Core.zmag_roundRatio_le FP.Core.good_b64 (s := (sa != sb)) (by omega : 0 < cb) fv hvn (by omega) (by omega) key
  rw [← eq] at hle
  have hnn : FP.Core.val64 (FP.Core.ddiv a b) ≠ .nan := by
    have h1 : FP.Core.dIsNaN a = false := (FP.Core.notNaN_iff a).mpr (FP.Core.DInt_ne_nan ha)
    exact (FP.Core.notNaN_iff _).mp (FP.Core.ddiv_out h1 ⟨sb, cb, qb, eb⟩ (fun ⟨s, q, h9⟩ => by rw [eb] at h9; injection h9 with _ h8 _; exact hcb h8))
  refine ⟨hnn, fun h => ?_⟩
  have h2 := (FP.Core.dcmp_gt.mp h).2.2
  have h3 : FP.Core.zval FP.Core.b64 (FP.Core.val64 v) = (FP.Core.zmag FP.Core.b64 (FP.Core.val64 v) : Int) := by
    unfold FP.Core.zval
    rw [ev, show FP.Core.sgn (FP.Core.Datum.fin sv cv qv) = sv from rfl, sv0 (by omega)]
    rfl
  have h4 : FP.Core.zval FP.Core.b64 (FP.Core.val64 (FP.Core.ddiv a b)) ≤ (FP.Core.zmag FP.Core.b64 (FP.Core.val64 (FP.Core.ddiv a b)) : Int) := by
    unfold FP.Core.zval FP.Core.signed
    split <;> omega
  omega
theorem num_guard {x : UInt64} (h : FP.Core.val64 x ≠ .nan) : x &&& 0x7fffffffffffffff ≤ 0x7ff0000000000000 := by
  have h1 := (FP.Core.ne_nan x).mp h
  rw [UInt64.le_iff_toNat_le, UInt64.toNat_and]
  have e : (0x7fffffffffffffff : UInt64).toNat = 2 ^ 63 - 1 := rfl
  rw [e, Nat.and_two_pow_sub_one_eq_mod]
  exact h1
end MEAN
theorem i2d_ii {k : Nat} (hk : k < 2147483648) : FP.Core.DInt (k : Int) (FP.i2d (ii k)) := by
  have h := FP.Core.i2d_int (ii k)
  rw [i_toInt hk] at h
  exact h
theorem mean_ok {n N : Nat} {R : Nat → List Nat} {dif rep wz : Int32} {wf bf : Nat → Int32} (hn : NB n) (h : TI n N R dif rep wz wf bf) :
    ∃ r, fX6_meanPlace wz 336 wf (ii n) = some r ∧ ¬ 0 < Op.cmpValue (FP.dcmp r (FP.i2d (ii n))) .l := by
  have hN := ti_b h
  have hn7 := nb_le hn
  unfold fX6_meanPlace fX5_rowCount fX1_size fX2_bells
  rw [Option.bind_some, Option.bind_some, h.1.1]
  by_cases c0 : N = 0
  · rw [if_pos (show ii N ≤ 0 by rw [c0]; decide)]
    refine ⟨_, rfl, ?_⟩
    rcases hn with h9 | h9 | h9 | h9 <;> subst h9 <;> decide +kernel
  · have hp := plc_ok hn (b := n) (by omega) (Nat.le_refl n) h
    rw [h.1.1] at hp
    rw [if_neg (show ¬ ii N ≤ 0 from fun h9 => by have := (i_le (b := 0) (by omega) (by omega)).mp h9; omega), Option.bind_some, hp, Option.bind_some]
    have hs := sp_le (R := R) (b := n) (n := n) (by omega) (Nat.le_refl n) (N := N) (fun k hk => h.2.2.2.2 k hk)
    have hb : n * N ≤ 7 * 336 := Nat.mul_le_mul hn7.2 hN
    obtain ⟨m1, m2⟩ := mean_le (i2d_ii (k := SP n R N) (by omega)) (i2d_ii (k := N) (by omega)) (i2d_ii (k := n) (by omega)) (by omega) (by omega) hs
    have m3 : (FP.ddiv (FP.i2d (ii (SP n R N))) (FP.i2d (ii N))) &&& 0x7fffffffffffffff ≤ 0x7ff0000000000000 := num_guard m1
    rw [if_pos m3]
    refine ⟨_, rfl, ?_⟩
    have m2 : FP.dcmp (FP.ddiv (FP.i2d (ii (SP n R N))) (FP.i2d (ii N))) (FP.i2d (ii n)) ≠ some .gt := m2
    generalize FP.dcmp (FP.ddiv (FP.i2d (ii (SP n R N))) (FP.i2d (ii N))) (FP.i2d (ii n)) = o at m2 ⊢
    cases o with
    | none => decide
    | some o =>
      cases o with
      | lt => decide
      | eq => decide
      | gt => exact absurd rfl m2
