/-! RINGING 3: the rows of leads, of which the last is known, the others are forgotten -/
def RI (n : Nat) : Type := {x : Nat × Nat × (Nat → Option Nat) // ∀ k : Nat, k + 1 = n → x.2.2 k = some x.2.1}
def ZR (cI : ClassId) (n : Nat) (F : Nat → Option Nat) (fz g : Nat → Int32) (x : Int32) (zt : va_W) : Prop :=
  (zt = [] ∧ fz = g ∧ x.toNatClampNeg = 0) ∨ ∃ q, zt = [(q, .inl (cI, n, .inl fz))] ∧ F (x.toNatClampNeg - 1) = some q
theorem zr_next {cI : ClassId} {n N q : Nat} {F : Nat → Option Nat} {fz g : Nat → Int32} {x : Int32} (h : ¬ (x < 0 ∨ N ≤ x.toNatClampNeg)) (hN : N ≤ 336) : ZR cI n (va_up F x.toNatClampNeg (some q)) fz g (x + (1 : Int32)) [(q, .inl (cI, n, .inl fz))] := by
  refine Or.inr ⟨q, rfl, ?_⟩
  have h1 : ¬ x < 0 := fun h9 => h (Or.inl h9)
  have h2 : ¬ N ≤ x.toNatClampNeg := fun h9 => h (Or.inr h9)
  have h3 : 0 ≤ x.toInt := by
    rw [Int32.lt_iff_toInt_lt, show (0 : Int32).toInt = 0 from rfl] at h1
    omega
  have h4 : x.toNatClampNeg = x.toInt.toNat := rfl
  have e : (x + (1 : Int32)).toInt = x.toInt + 1 := by
    rw [Int32.toInt_add, show (1 : Int32).toInt = 1 from rfl]
    exact Int.bmod_eq_of_le (by omega) (by omega)
  have e2 : (x + (1 : Int32)).toNatClampNeg - 1 = x.toNatClampNeg := by
    show (x + (1 : Int32)).toInt.toNat - 1 = _
    rw [e]
    omega
  rw [e2]
  exact if_pos rfl
theorem gd_lastS {n q : Nat} {F : Nat → Option Nat} (hz : ∀ k : Nat, k + 1 = n → F k = some q) (h : ¬ (((Int32.ofNat n) - (1 : Int32)) < 0 ∨ n ≤ ((Int32.ofNat n) - (1 : Int32)).toNatClampNeg)) (hn : n < 2147483648) : F ((Int32.ofNat n) - (1 : Int32)).toNatClampNeg = some q := by
  refine hz _ ?_
  rcases Nat.eq_zero_or_pos n with h0 | h0
  · subst h0
    exact absurd (Or.inl (by decide)) h
  · have e1 : (Int32.ofNat n).toInt = (n : Int) := Int32.toInt_ofNat_of_lt (by omega)
    have e2 : ((Int32.ofNat n) - (1 : Int32)).toInt = (n : Int) - 1 := by
      rw [Int32.toInt_sub, e1, show (1 : Int32).toInt = 1 from rfl]
      exact Int.bmod_eq_of_le (by omega) (by omega)
    show ((Int32.ofNat n) - (1 : Int32)).toInt.toNat + 1 = n
    rw [e2]
    omega
def fX7_rows_X46 (pbn : Nat) (gmn : Nat) (x8_46 : Int32) (x5_46 : Int32) (z4_46 : (Nat → Int32)) (f5_46 : (Nat → Int32)) : Option ((Nat → Int32) × Nat) := if x5_46.toNatClampNeg = ((Int32.ofNat pbn) * (Int32.ofNat gmn)).toNatClampNeg then some (z4_46, ((Int32.ofNat pbn) * (Int32.ofNat gmn)).toNatClampNeg) else none
def fX7_rows_X63 (rec46 : Int32 → Int32 → (Nat → Int32) → (Nat → Int32) → Option ((Nat → Int32) × Nat)) (x8_46 : Int32) (x10_63 : Int32) (x5_63 : Int32) (z4_63 : (Nat → Int32)) (f5_63 : (Nat → Int32)) : Option ((Nat → Int32) × Nat) := rec46 (x8_46 + (1 : Int32)) x5_63 z4_63 f5_63
def fX7_rows_L63 (gmn : Nat) (rbob : Int32) (rsng : Int32) (gmf : (Nat → Int32)) (pbf : (Nat → Int32)) (x8_46 : Int32) (rn : Int32) (pbn : Nat) (K63 : Int32 → Int32 → (Nat → Int32) → (Nat → Int32) → Option ((Nat → Int32) × Nat)) : Nat → Int32 → Int32 → (Nat → Int32) → (Nat → Int32) → Option ((Nat → Int32) × Nat)
  | 0, _, _, _, _ => none
  | n + 1, x10_63, x5_63, z4_63, f5_63 => if (Int32.ofNat gmn) ≤ x10_63 then (K63 x10_63 x5_63 z4_63 f5_63) else (if (Int32.ofNat gmn) ≤ (x10_63 + (1 : Int32)) then ((fX7_last rbob rsng gmn gmf (pbf x8_46.toNatClampNeg)).bind (fun r13 => (fX7_ring rn rn.toNatClampNeg f5_63 r13).bind (fun r16 => if rn < 0 then none else if ¬ rn.toNatClampNeg ≤ 7 then none else (if (x5_63 < 0 ∨ ((Int32.ofNat pbn) * (Int32.ofNat gmn)).toNatClampNeg ≤ x5_63.toNatClampNeg) then none else (if (x5_63 < 0 ∨ ((Int32.ofNat pbn) * (Int32.ofNat gmn)).toNatClampNeg ≤ x5_63.toNatClampNeg) then none else (if rn < 0 then none else if ¬ (rn.toNatClampNeg ≤ rn.toNatClampNeg ∧ rn.toNatClampNeg ≤ rn.toNatClampNeg) then none else ((fX7_rows_L63 gmn rbob rsng gmf pbf x8_46 rn pbn K63 n) (x10_63 + (1 : Int32)) (x5_63 + (1 : Int32)) (va_cpy r16 (fun _ => 0) 0 0 rn.toNatClampNeg) r16))))))) else (if (x10_63 < 0 ∨ gmn ≤ x10_63.toNatClampNeg) then none else ((fX7_ring rn rn.toNatClampNeg f5_63 (gmf x10_63.toNatClampNeg)).bind (fun r27 => if rn < 0 then none else if ¬ rn.toNatClampNeg ≤ 7 then none else (if (x5_63 < 0 ∨ ((Int32.ofNat pbn) * (Int32.ofNat gmn)).toNatClampNeg ≤ x5_63.toNatClampNeg) then none else (if (x5_63 < 0 ∨ ((Int32.ofNat pbn) * (Int32.ofNat gmn)).toNatClampNeg ≤ x5_63.toNatClampNeg) then none else (if rn < 0 then none else if ¬ (rn.toNatClampNeg ≤ rn.toNatClampNeg ∧ rn.toNatClampNeg ≤ rn.toNatClampNeg) then none else ((fX7_rows_L63 gmn rbob rsng gmf pbf x8_46 rn pbn K63 n) (x10_63 + (1 : Int32)) (x5_63 + (1 : Int32)) (va_cpy r27 (fun _ => 0) 0 0 rn.toNatClampNeg) r27))))))))
def fX7_rows_L46 (pbn : Nat) (gmn : Nat) (rbob : Int32) (rsng : Int32) (gmf : (Nat → Int32)) (pbf : (Nat → Int32)) (rn : Int32) (K46 : Int32 → Int32 → (Nat → Int32) → (Nat → Int32) → Option ((Nat → Int32) × Nat)) : Nat → Int32 → Int32 → (Nat → Int32) → (Nat → Int32) → Option ((Nat → Int32) × Nat)
  | 0, _, _, _, _ => none
  | n + 1, x8_46, x5_46, z4_46, f5_46 => if (Int32.ofNat pbn) ≤ x8_46 then (K46 x8_46 x5_46 z4_46 f5_46) else (if (x8_46 < 0 ∨ pbn ≤ x8_46.toNatClampNeg) then none else (fX7_rows_L63 gmn rbob rsng gmf pbf x8_46 rn pbn (fX7_rows_X63 (fX7_rows_L46 pbn gmn rbob rsng gmf pbf rn K46 n) x8_46) 16 (0 : Int32) x5_46 z4_46 f5_46))
def fX7_rows (rn : Int32) (rbob : Int32) (rsng : Int32) (gmn : Nat) (gmf : (Nat → Int32)) (pan : Nat) (paf : (Nat → Int32)) (pbn : Nat) (pbf : (Nat → Int32)) : Option ((Nat → Int32) × Nat) := if ((Int32.ofNat pbn) * (Int32.ofNat gmn)) < 0 then none else if ¬ ((Int32.ofNat pbn) * (Int32.ofNat gmn)).toNatClampNeg ≤ 336 then none else (if rn < 0 then none else if ¬ rn.toNatClampNeg ≤ 7 then none else (if rn < 0 then none else if ¬ (rn.toNatClampNeg ≤ pan ∧ rn.toNatClampNeg ≤ rn.toNatClampNeg) then none else (fX7_rows_L46 pbn gmn rbob rsng gmf pbf rn (fX7_rows_X46 pbn gmn) 26 (0 : Int32) (0 : Int32) (va_cpy paf (fun _ => 0) 0 0 rn.toNatClampNeg) (va_cpy paf (fun _ => 0) 0 0 rn.toNatClampNeg))))
abbrev rmX7_rows : Room := { frames := 1, cells := 418, slots := 3255, locals := 60 }
set_option maxHeartbeats 4000000 in
set_option maxRecDepth 100000 in
theorem kX7_rows (l : Launch) (dC : Nat → ClassId) (dI : Nat → Nat → Nat) (tys : List (ClassId × FieldType)) (cI : ClassId) (ht0 : tys[0]? = some (cI, .int)) (cR : ClassId) (ht3 : tys[3]? = some (cR, .array .int)) (o mt b gm gc pa pb : Nat) (drw : Int32) (rn : Int32) (rbob : Int32) (rsng : Int32) (gmn : Nat) (gmf : (Nat → Int32)) (pan : Nat) (paf : (Nat → Int32)) (pbn : Nat) (pbf : (Nat → Int32)) (r : ((Nat → Int32) × Nat)) (hF : fX7_rows rn rbob rsng gmn gmf pan paf pbn pbf = some r) : ct l (dC, dI) tys yX7_rows wsX7_rows rmX7_rows [.ref o, .ref pa, .ref pb] [(o, .inr (6, [.ref mt, .ref b, .int drw, .int rn, .ref gm, .int rbob, .int rsng, .ref gc])), (gm, .inl (cI, gmn, .inl gmf)), (pa, .inl (cI, pan, .inl paf)), (pb, .inl (cI, pbn, .inl pbf))] (fun i : RI r.2 => some (.ref i.1.1)) (fun i : RI r.2 => [(o, .inr (6, [.ref mt, .ref b, .int drw, .int rn, .ref gm, .int rbob, .int rsng, .ref gc])), (gm, .inl (cI, gmn, .inl gmf)), (pa, .inl (cI, pan, .inl paf)), (pb, .inl (cI, pbn, .inl pbf)), (i.1.1, .inl (cR, r.2, .inr (.inr (.inr (.inr i.1.2.2))))), (i.1.2.1, .inl (cI, rn.toNatClampNeg, .inl r.1))]) := by
  refine ct_of (cc := cX7_rows) (maxL := 11) (ret := (some (.array (.array .int)))) (by decide) rfl (Nat.le_of_ble_eq_true rfl) ?_
  intro p e s m below meth c A ls hx hb hr hml hts hown hlocks hname hE hK hP hD hA hS hl
  have hown : s.vm.findClass RX7 = some m.cls := hown
  have hl : lv_has ls 11 [(0, .ref o), (1, .ref pa), (2, .ref pb)] := hl
  unfold fX7_rows at hF
  have uX7 : ∀ w ∈ wsX70, w ∈ wsX7_rows := (fun _ h => (List.mem_cons_of_mem _ (List.mem_append_right _ h)))
  have w1 := hts (.fieldLink RX7 20 "BellfounderTowerLaw$Ringing" "method" "[I") (List.mem_cons_of_mem _ (List.mem_append_left _ (List.mem_of_getElem? (i := 0) rfl)))
  have w2 := hts (.classLink RX7 106 "[I") (List.mem_cons_of_mem _ (List.mem_append_left _ (List.mem_of_getElem? (i := 1) rfl)))
  have w3 := hts (.fieldLink RX7 16 "BellfounderTowerLaw$Ringing" "n" "I") (List.mem_cons_of_mem _ (List.mem_append_left _ (List.mem_of_getElem? (i := 2) rfl)))
  have w4 := hts (.arrayClass .int) (List.mem_cons_of_mem _ (List.mem_append_left _ (List.mem_of_getElem? (i := 3) rfl)))
  have w5 := hts (.methodLink RX7 49 arraycopyName) (List.mem_cons_of_mem _ (List.mem_append_left _ (List.mem_of_getElem? (i := 4) rfl)))
  have w6 := hts (.native arraycopyName) (List.mem_cons_of_mem _ (List.mem_append_left _ (List.mem_of_getElem? (i := 5) rfl)))
  have w7 := hts (.static arraycopyName) (List.mem_cons_of_mem _ (List.mem_append_left _ (List.mem_of_getElem? (i := 6) rfl)))
  have w8 := hts (.initialized "java/lang/System") (List.mem_cons_of_mem _ (List.mem_append_left _ (List.mem_of_getElem? (i := 7) rfl)))
  refine lv_aload_n hx hb dX7_rows_0 rfl (lv_at hl 2 rfl) ?_
  refine va_alen hx hb hK hP 3 0 rfl ht0 (v := Int32.ofNat pbn) rfl dX7_rows_1 ?_
  refine lv_aload_n hx hb dX7_rows_2 rfl (lv_at hl 0 rfl) ?_
  refine va_get (D := (dC, dI)) (ci := 6) (v := .ref gm) (C := RX7) (T := TX7) (N := 8) hx hb hts uX7 hown hK hP 0 rfl rfl 4 (by decide) w1 (fun _ h9 => h9) rfl dX7_rows_3 ?_
  refine va_alen hx hb hK hP 1 0 rfl ht0 (v := Int32.ofNat gmn) rfl dX7_rows_6 ?_
  refine lv_imul hx hb dX7_rows_7 ?_
  obtain ⟨g2, hF⟩ := gd_n hF
  obtain ⟨g3, hF⟩ := gd_n hF
  have g3 := Decidable.not_not.mp g3
  refine ct_newA hx hb hown w2 hE ht3 hK hP hD hS hA (N' := ((Int32.ofNat pbn) * (Int32.ofNat gmn)).toNatClampNeg) g2 rfl (by omega) (Nat.le_of_ble_eq_true rfl) (Nat.le_trans (Nat.add_le_add_left g3 _) (Nat.le_of_ble_eq_true rfl)) dX7_rows_8 (fun q1 H hP hD hS => ?_)
  refine W.widen (k := 1) (n := 336) (show 0 + 1 ≤ 1 from Nat.le_refl _) (show 0 + ((Int32.ofNat pbn) * (Int32.ofNat gmn)).toNatClampNeg ≤ 336 from Nat.add_le_add_left g3 _) ?_
  have hP : va_P (dC, dI) vwCl [(o, .inr (6, [.ref mt, .ref b, .int drw, .int rn, .ref gm, .int rbob, .int rsng, .ref gc])), (gm, .inl (cI, gmn, .inl gmf)), (pa, .inl (cI, pan, .inl paf)), (pb, .inl (cI, pbn, .inl pbf)), (q1, .inl (cR, ((Int32.ofNat pbn) * (Int32.ofNat gmn)).toNatClampNeg, .inr (.inr (.inr (.inr (fun _ => none))))))] H := hP
  have hD : va_D A [(o, .inr (6, [.ref mt, .ref b, .int drw, .int rn, .ref gm, .int rbob, .int rsng, .ref gc])), (gm, .inl (cI, gmn, .inl gmf)), (pa, .inl (cI, pan, .inl paf)), (pb, .inl (cI, pbn, .inl pbf)), (q1, .inl (cR, ((Int32.ofNat pbn) * (Int32.ofNat gmn)).toNatClampNeg, .inr (.inr (.inr (.inr (fun _ => none))))))] := hD
  refine lv_astore_n (lv' := [(3, .ref q1), (0, .ref o), (1, .ref pa), (2, .ref pb)]) hx hb dX7_rows_11 rfl hl (by decide) rfl (fun ls hl => ?_)
  refine lv_aload_n hx hb dX7_rows_12 rfl (lv_at hl 1 rfl) ?_
  refine va_get (D := (dC, dI)) (ci := 6) (v := .int rn) (C := RX7) (T := TX7) (N := 8) hx hb hts uX7 hown hK hP 0 rfl rfl 3 (by decide) w3 (fun _ h9 => h9) rfl dX7_rows_13 ?_
  obtain ⟨g4, hF⟩ := gd_n hF
  obtain ⟨g5, hF⟩ := gd_n hF
  have g5 := Decidable.not_not.mp g5
  refine ct_newi hx hb w4 ht0 hK hP hD hS hA (N' := rn.toNatClampNeg) g4 rfl (by omega) (Nat.le_of_ble_eq_true rfl) (Nat.le_trans (Nat.add_le_add_left g5 _) (Nat.le_of_ble_eq_true rfl)) dX7_rows_16 (fun q6 H hP hD hS => ?_)
  refine W.widen (k := 2) (n := 343) (show 1 + 1 ≤ 2 from Nat.le_refl _) (show 336 + rn.toNatClampNeg ≤ 343 from Nat.add_le_add_left g5 _) ?_
  have hP : va_P (dC, dI) vwCl [(o, .inr (6, [.ref mt, .ref b, .int drw, .int rn, .ref gm, .int rbob, .int rsng, .ref gc])), (gm, .inl (cI, gmn, .inl gmf)), (pa, .inl (cI, pan, .inl paf)), (pb, .inl (cI, pbn, .inl pbf)), (q1, .inl (cR, ((Int32.ofNat pbn) * (Int32.ofNat gmn)).toNatClampNeg, .inr (.inr (.inr (.inr (fun _ => none)))))), (q6, .inl (cI, rn.toNatClampNeg, .inl (fun _ => 0)))] H := hP
  have hD : va_D A [(o, .inr (6, [.ref mt, .ref b, .int drw, .int rn, .ref gm, .int rbob, .int rsng, .ref gc])), (gm, .inl (cI, gmn, .inl gmf)), (pa, .inl (cI, pan, .inl paf)), (pb, .inl (cI, pbn, .inl pbf)), (q1, .inl (cR, ((Int32.ofNat pbn) * (Int32.ofNat gmn)).toNatClampNeg, .inr (.inr (.inr (.inr (fun _ => none)))))), (q6, .inl (cI, rn.toNatClampNeg, .inl (fun _ => 0)))] := hD
  refine lv_astore (lv' := [(4, .ref q6), (3, .ref q1), (0, .ref o), (1, .ref pa), (2, .ref pb)]) hx hb dX7_rows_18 hl (by decide) rfl (fun ls hl => ?_)
  refine lv_aload_n hx hb dX7_rows_20 rfl (lv_at hl 3 rfl) ?_
  refine lv_iconst (v := (0 : Int32)) hx hb dX7_rows_21 (by decide) ?_
  refine lv_aload hx hb dX7_rows_22 (lv_at hl 0 rfl) ?_
  refine lv_iconst (v := (0 : Int32)) hx hb dX7_rows_24 (by decide) ?_
  refine lv_aload_n hx hb dX7_rows_25 rfl (lv_at hl 2 rfl) ?_
  refine va_get (D := (dC, dI)) (ci := 6) (v := .int rn) (C := RX7) (T := TX7) (N := 8) hx hb hts uX7 hown hK hP 0 rfl rfl 3 (by decide) w3 (fun _ h9 => h9) rfl dX7_rows_26 ?_
  obtain ⟨g7, hF⟩ := gd_n hF
  obtain ⟨g8, hF⟩ := gd_n hF
  have g8 := Decidable.not_not.mp g8
  refine va_copyi (sp := (0 : Int32)) (dp := (0 : Int32)) hx hb (hml.trans hl.1.symm) hown w5 w6 w7 w8 hK hP hD hS 2 5 0 0 rfl rfl ht0 ht0 rfl (by decide) (by decide) g7 (by show 0 + _ ≤ _; rw [Nat.zero_add]; exact g8.1) (by show 0 + _ ≤ _; rw [Nat.zero_add]; exact g8.2) (fun i hi => rfl) (Nat.le_of_ble_eq_true rfl) (Nat.le_of_ble_eq_true rfl) dX7_rows_29 (fun H locs hP hD hS => ?_)
  have hP : va_P (dC, dI) vwCl [(o, .inr (6, [.ref mt, .ref b, .int drw, .int rn, .ref gm, .int rbob, .int rsng, .ref gc])), (gm, .inl (cI, gmn, .inl gmf)), (pa, .inl (cI, pan, .inl paf)), (pb, .inl (cI, pbn, .inl pbf)), (q1, .inl (cR, ((Int32.ofNat pbn) * (Int32.ofNat gmn)).toNatClampNeg, .inr (.inr (.inr (.inr (fun _ => none)))))), (q6, .inl (cI, rn.toNatClampNeg, .inl (va_cpy paf (fun _ => 0) 0 0 rn.toNatClampNeg)))] H := hP
  have hD : va_D A [(o, .inr (6, [.ref mt, .ref b, .int drw, .int rn, .ref gm, .int rbob, .int rsng, .ref gc])), (gm, .inl (cI, gmn, .inl gmf)), (pa, .inl (cI, pan, .inl paf)), (pb, .inl (cI, pbn, .inl pbf)), (q1, .inl (cR, ((Int32.ofNat pbn) * (Int32.ofNat gmn)).toNatClampNeg, .inr (.inr (.inr (.inr (fun _ => none)))))), (q6, .inl (cI, rn.toNatClampNeg, .inl (va_cpy paf (fun _ => 0) 0 0 rn.toNatClampNeg)))] := hD
  refine lv_iconst (v := (0 : Int32)) hx hb dX7_rows_32 (by decide) ?_
  refine lv_istore (lv' := [(5, .int (0 : Int32)), (4, .ref q6), (3, .ref q1), (0, .ref o), (1, .ref pa), (2, .ref pb)]) hx hb dX7_rows_33 hl (by decide) rfl (fun ls hl => ?_)
  refine lv_aload_n hx hb dX7_rows_35 rfl (lv_at hl 5 rfl) ?_
  refine lv_astore (lv' := [(6, .ref pb), (5, .int (0 : Int32)), (4, .ref q6), (3, .ref q1), (0, .ref o), (1, .ref pa), (2, .ref pb)]) hx hb dX7_rows_36 hl (by decide) rfl (fun ls hl => ?_)
  refine lv_aload hx hb dX7_rows_38 (lv_at hl 0 rfl) ?_
  refine va_alen hx hb hK hP 3 0 rfl ht0 (v := Int32.ofNat pbn) rfl dX7_rows_40 ?_
  refine lv_istore (lv' := [(7, .int (Int32.ofNat pbn)), (6, .ref pb), (5, .int (0 : Int32)), (4, .ref q6), (3, .ref q1), (0, .ref o), (1, .ref pa), (2, .ref pb)]) hx hb dX7_rows_41 hl (by decide) rfl (fun ls hl => ?_)
  refine lv_iconst (v := (0 : Int32)) hx hb dX7_rows_43 (by decide) ?_
  refine lv_istore (lv' := [(8, .int (0 : Int32)), (7, .int (Int32.ofNat pbn)), (6, .ref pb), (5, .int (0 : Int32)), (4, .ref q6), (3, .ref q1), (0, .ref o), (1, .ref pa), (2, .ref pb)]) hx hb dX7_rows_44 hl (by decide) rfl (fun ls hl => ?_)
  have X46 : ∀ (zt46 : va_W) (z4_46 : (Nat → Int32)) (x8_46 : Int32) (x5_46 : Int32) (f4_46 : (Nat → Option Nat)) (f5_46 : (Nat → Int32)) (H : Heap) (locs : List Loc) (ls : Array Slot), ZR cI rn.toNatClampNeg f4_46 z4_46 f5_46 x5_46 zt46 → fX7_rows_X46 pbn gmn x8_46 x5_46 z4_46 f5_46 = some r → va_P (dC, dI) vwCl ((o, .inr (6, [.ref mt, .ref b, .int drw, .int rn, .ref gm, .int rbob, .int rsng, .ref gc])) :: (gm, .inl (cI, gmn, .inl gmf)) :: (pa, .inl (cI, pan, .inl paf)) :: (pb, .inl (cI, pbn, .inl pbf)) :: (q1, .inl (cR, ((Int32.ofNat pbn) * (Int32.ofNat gmn)).toNatClampNeg, .inr (.inr (.inr (.inr f4_46))))) :: (q6, .inl (cI, rn.toNatClampNeg, .inl f5_46)) :: zt46) H → va_D A ((o, .inr (6, [.ref mt, .ref b, .int drw, .int rn, .ref gm, .int rbob, .int rsng, .ref gc])) :: (gm, .inl (cI, gmn, .inl gmf)) :: (pa, .inl (cI, pan, .inl paf)) :: (pb, .inl (cI, pbn, .inl pbf)) :: (q1, .inl (cR, ((Int32.ofNat pbn) * (Int32.ofNat gmn)).toNatClampNeg, .inr (.inr (.inr (.inr f4_46))))) :: (q6, .inl (cI, rn.toNatClampNeg, .inl f5_46)) :: zt46) → va_S A s.heap H locs → lv_has ls 11 [(8, .int x8_46), (7, .int (Int32.ofNat pbn)), (6, .ref pb), (5, .int x5_46), (4, .ref q6), (3, .ref q1), (0, .ref o), (1, .ref pa), (2, .ref pb)] → W p l e rmX7_rows s m ([.ref o, .ref pa, .ref pb] : List Value).toArray below meth c H locs 418 3255 (MQ below (ct_Q (dC, dI) tys (fun i : RI r.2 => some (.ref i.1.1)) (fun i : RI r.2 => [(o, .inr (6, [.ref mt, .ref b, .int drw, .int rn, .ref gm, .int rbob, .int rsng, .ref gc])), (gm, .inl (cI, gmn, .inl gmf)), (pa, .inl (cI, pan, .inl paf)), (pb, .inl (cI, pbn, .inl pbf)), (i.1.1, .inl (cR, r.2, .inr (.inr (.inr (.inr i.1.2.2))))), (i.1.2.1, .inl (cI, rn.toNatClampNeg, .inl r.1))]) A) ([.ref o, .ref pa, .ref pb] : List Value).toArray s rmX7_rows.cells rmX7_rows.slots A) (F0 m 147 ls []) := by
    intro zt46 z4_46 x8_46 x5_46 f4_46 f5_46 H locs ls hz hF hP hD hS hl
    unfold fX7_rows_X46 at hF
    refine lv_aload_n hx hb dX7_rows_147 rfl (lv_at hl 5 rfl) ?_
    by_cases hN : x5_46.toNatClampNeg = ((Int32.ofNat pbn) * (Int32.ofNat gmn)).toNatClampNeg
    · have hF := (if_pos hN).symm.trans hF
      obtain rfl := Option.some.inj hF
      rcases hz with ⟨hz1, hz2, hz3⟩ | ⟨q, hz1, hz2⟩
      · subst hz1
        subst hz2
        exact ct_a hx hb hr hlocks hK hP hD hS (⟨(q1, q6, f4_46), fun k hk => by exfalso; have hk : k + 1 = ((Int32.ofNat pbn) * (Int32.ofNat gmn)).toNatClampNeg := hk; omega⟩ : RI _) rfl [0, 1, 2, 3, 4, 5] (by decide) rfl (Nat.le_of_ble_eq_true rfl) (Nat.le_of_ble_eq_true rfl) dX7_rows_148
      · subst hz1
        exact ct_a hx hb hr hlocks hK hP hD hS (⟨(q1, q, f4_46), fun k hk => by have hk : k + 1 = ((Int32.ofNat pbn) * (Int32.ofNat gmn)).toNatClampNeg := hk; show f4_46 k = some q; rw [← hz2]; congr 1; omega⟩ : RI _) rfl [0, 1, 2, 3, 4, 6] (by decide) rfl (Nat.le_of_ble_eq_true rfl) (Nat.le_of_ble_eq_true rfl) dX7_rows_148
    · have hF := (if_neg hN).symm.trans hF
      cases hF
  have L46 : ∀ (n46 : Nat) (zt46 : va_W) (z4_46 : (Nat → Int32)) (x8_46 : Int32) (x5_46 : Int32) (f4_46 : (Nat → Option Nat)) (f5_46 : (Nat → Int32)) (H : Heap) (locs : List Loc) (ls : Array Slot) (cc46 ss46 : Nat), cc46 + n46 * 16 ≤ 418 → ss46 + n46 * 112 ≤ 3255 → ZR cI rn.toNatClampNeg f4_46 z4_46 f5_46 x5_46 zt46 → fX7_rows_L46 pbn gmn rbob rsng gmf pbf rn (fX7_rows_X46 pbn gmn) n46 x8_46 x5_46 z4_46 f5_46 = some r → va_P (dC, dI) vwCl ((o, .inr (6, [.ref mt, .ref b, .int drw, .int rn, .ref gm, .int rbob, .int rsng, .ref gc])) :: (gm, .inl (cI, gmn, .inl gmf)) :: (pa, .inl (cI, pan, .inl paf)) :: (pb, .inl (cI, pbn, .inl pbf)) :: (q1, .inl (cR, ((Int32.ofNat pbn) * (Int32.ofNat gmn)).toNatClampNeg, .inr (.inr (.inr (.inr f4_46))))) :: (q6, .inl (cI, rn.toNatClampNeg, .inl f5_46)) :: zt46) H → va_D A ((o, .inr (6, [.ref mt, .ref b, .int drw, .int rn, .ref gm, .int rbob, .int rsng, .ref gc])) :: (gm, .inl (cI, gmn, .inl gmf)) :: (pa, .inl (cI, pan, .inl paf)) :: (pb, .inl (cI, pbn, .inl pbf)) :: (q1, .inl (cR, ((Int32.ofNat pbn) * (Int32.ofNat gmn)).toNatClampNeg, .inr (.inr (.inr (.inr f4_46))))) :: (q6, .inl (cI, rn.toNatClampNeg, .inl f5_46)) :: zt46) → va_S A s.heap H locs → lv_has ls 11 [(8, .int x8_46), (7, .int (Int32.ofNat pbn)), (6, .ref pb), (5, .int x5_46), (4, .ref q6), (3, .ref q1), (0, .ref o), (1, .ref pa), (2, .ref pb)] → W p l e rmX7_rows s m ([.ref o, .ref pa, .ref pb] : List Value).toArray below meth c H locs cc46 ss46 (MQ below (ct_Q (dC, dI) tys (fun i : RI r.2 => some (.ref i.1.1)) (fun i : RI r.2 => [(o, .inr (6, [.ref mt, .ref b, .int drw, .int rn, .ref gm, .int rbob, .int rsng, .ref gc])), (gm, .inl (cI, gmn, .inl gmf)), (pa, .inl (cI, pan, .inl paf)), (pb, .inl (cI, pbn, .inl pbf)), (i.1.1, .inl (cR, r.2, .inr (.inr (.inr (.inr i.1.2.2))))), (i.1.2.1, .inl (cI, rn.toNatClampNeg, .inl r.1))]) A) ([.ref o, .ref pa, .ref pb] : List Value).toArray s rmX7_rows.cells rmX7_rows.slots A) (F0 m 46 ls []) := by
    intro n46
    induction n46 with
    | zero => intro zt46 z4_46 x8_46 x5_46 f4_46 f5_46 H locs ls cc46 ss46 hcc46 hss46 hz hF; rw [fX7_rows_L46] at hF; cases hF
    | succ n46 ih46 =>
      intro zt46 z4_46 x8_46 x5_46 f4_46 f5_46 H locs ls cc46 ss46 hcc46 hss46 hz hF hP hD hS hl
      rw [fX7_rows_L46] at hF
      refine lv_iload hx hb dX7_rows_46 (lv_at hl 0 rfl) ?_
      refine lv_iload hx hb dX7_rows_48 (lv_at hl 1 rfl) ?_
      refine lv_icmp_ge (tgt := 147) hx hb dX7_rows_50 (by decide) (fun c9 => ?_) (fun c9 => ?_)
      · have hF := (if_pos c9).symm.trans hF
        refine W.widen (k := 418) (n := 3255) (al_le (k := 0) (c1 := 16) hcc46 (Nat.le_refl _) (Nat.le_of_ble_eq_true rfl)) (al_le (k := 0) (c1 := 112) hss46 (Nat.le_refl _) (Nat.le_of_ble_eq_true rfl)) ?_
        exact X46 zt46 z4_46 x8_46 x5_46 f4_46 f5_46 _ _ _ hz hF hP hD hS (lv_sub hl [0, 1, 2, 3, 4, 5, 6, 7, 8] rfl)
      · have hF := (if_neg c9).symm.trans hF
        refine lv_aload hx hb dX7_rows_53 (lv_at hl 2 rfl) ?_
        refine lv_iload hx hb dX7_rows_55 (lv_at hl 0 rfl) ?_
        obtain ⟨g10, hF⟩ := gd_n hF
        refine va_iald hx hb hK hP 3 0 rfl ht0 g10 dX7_rows_57 ?_
        refine lv_istore (lv' := [(9, .int (pbf x8_46.toNatClampNeg)), (8, .int x8_46), (7, .int (Int32.ofNat pbn)), (6, .ref pb), (5, .int x5_46), (4, .ref q6), (3, .ref q1), (0, .ref o), (1, .ref pa), (2, .ref pb)]) hx hb dX7_rows_58 hl (by decide) rfl (fun ls hl => ?_)
        refine lv_iconst (v := (0 : Int32)) hx hb dX7_rows_60 (by decide) ?_
        refine lv_istore (lv' := [(10, .int (0 : Int32)), (9, .int (pbf x8_46.toNatClampNeg)), (8, .int x8_46), (7, .int (Int32.ofNat pbn)), (6, .ref pb), (5, .int x5_46), (4, .ref q6), (3, .ref q1), (0, .ref o), (1, .ref pa), (2, .ref pb)]) hx hb dX7_rows_61 hl (by decide) rfl (fun ls hl => ?_)
        have X63 : ∀ (zt63 : va_W) (z4_63 : (Nat → Int32)) (x10_63 : Int32) (x5_63 : Int32) (f4_63 : (Nat → Option Nat)) (f5_63 : (Nat → Int32)) (H : Heap) (locs : List Loc) (ls : Array Slot), ZR cI rn.toNatClampNeg f4_63 z4_63 f5_63 x5_63 zt63 → fX7_rows_X63 (fX7_rows_L46 pbn gmn rbob rsng gmf pbf rn (fX7_rows_X46 pbn gmn) n46) x8_46 x10_63 x5_63 z4_63 f5_63 = some r → va_P (dC, dI) vwCl ((o, .inr (6, [.ref mt, .ref b, .int drw, .int rn, .ref gm, .int rbob, .int rsng, .ref gc])) :: (gm, .inl (cI, gmn, .inl gmf)) :: (pa, .inl (cI, pan, .inl paf)) :: (pb, .inl (cI, pbn, .inl pbf)) :: (q1, .inl (cR, ((Int32.ofNat pbn) * (Int32.ofNat gmn)).toNatClampNeg, .inr (.inr (.inr (.inr f4_63))))) :: (q6, .inl (cI, rn.toNatClampNeg, .inl f5_63)) :: zt63) H → va_D A ((o, .inr (6, [.ref mt, .ref b, .int drw, .int rn, .ref gm, .int rbob, .int rsng, .ref gc])) :: (gm, .inl (cI, gmn, .inl gmf)) :: (pa, .inl (cI, pan, .inl paf)) :: (pb, .inl (cI, pbn, .inl pbf)) :: (q1, .inl (cR, ((Int32.ofNat pbn) * (Int32.ofNat gmn)).toNatClampNeg, .inr (.inr (.inr (.inr f4_63))))) :: (q6, .inl (cI, rn.toNatClampNeg, .inl f5_63)) :: zt63) → va_S A s.heap H locs → lv_has ls 11 [(10, .int x10_63), (9, .int (pbf x8_46.toNatClampNeg)), (8, .int x8_46), (7, .int (Int32.ofNat pbn)), (6, .ref pb), (5, .int x5_63), (4, .ref q6), (3, .ref q1), (0, .ref o), (1, .ref pa), (2, .ref pb)] → W p l e rmX7_rows s m ([.ref o, .ref pa, .ref pb] : List Value).toArray below meth c H locs (cc46 + 16) (ss46 + 112) (MQ below (ct_Q (dC, dI) tys (fun i : RI r.2 => some (.ref i.1.1)) (fun i : RI r.2 => [(o, .inr (6, [.ref mt, .ref b, .int drw, .int rn, .ref gm, .int rbob, .int rsng, .ref gc])), (gm, .inl (cI, gmn, .inl gmf)), (pa, .inl (cI, pan, .inl paf)), (pb, .inl (cI, pbn, .inl pbf)), (i.1.1, .inl (cR, r.2, .inr (.inr (.inr (.inr i.1.2.2))))), (i.1.2.1, .inl (cI, rn.toNatClampNeg, .inl r.1))]) A) ([.ref o, .ref pa, .ref pb] : List Value).toArray s rmX7_rows.cells rmX7_rows.slots A) (F0 m 141 ls []) := by
          intro zt63 z4_63 x10_63 x5_63 f4_63 f5_63 H locs ls hz hF hP hD hS hl
          unfold fX7_rows_X63 at hF
          refine lv_iinc (v := x8_46 + (1 : Int32)) (lv' := [(8, .int (x8_46 + (1 : Int32))), (10, .int x10_63), (9, .int (pbf x8_46.toNatClampNeg)), (7, .int (Int32.ofNat pbn)), (6, .ref pb), (5, .int x5_63), (4, .ref q6), (3, .ref q1), (0, .ref o), (1, .ref pa), (2, .ref pb)]) hx hb dX7_rows_141 hl (k := 2) rfl rfl (by decide) rfl (fun ls hl => ?_)
          refine lv_goto (tgt := 46) hx hb dX7_rows_144 (by decide) ?_
          exact ih46 zt63 z4_63 (x8_46 + (1 : Int32)) x5_63 f4_63 f5_63 _ _ _ (cc46 + 16) (ss46 + 112) (al_back (k := 16) hcc46 (Nat.le_of_ble_eq_true rfl)) (al_back (k := 112) hss46 (Nat.le_of_ble_eq_true rfl)) hz hF hP hD hS (lv_sub hl [0, 3, 4, 5, 6, 7, 8, 9, 10] rfl)
        have L63 : ∀ (n63 : Nat) (zt63 : va_W) (z4_63 : (Nat → Int32)) (x10_63 : Int32) (x5_63 : Int32) (f4_63 : (Nat → Option Nat)) (f5_63 : (Nat → Int32)) (H : Heap) (locs : List Loc) (ls : Array Slot) (cc63 ss63 : Nat), cc63 + n63 * 1 ≤ cc46 + 16 → ss63 + n63 * 7 ≤ ss46 + 112 → ZR cI rn.toNatClampNeg f4_63 z4_63 f5_63 x5_63 zt63 → fX7_rows_L63 gmn rbob rsng gmf pbf x8_46 rn pbn (fX7_rows_X63 (fX7_rows_L46 pbn gmn rbob rsng gmf pbf rn (fX7_rows_X46 pbn gmn) n46) x8_46) n63 x10_63 x5_63 z4_63 f5_63 = some r → va_P (dC, dI) vwCl ((o, .inr (6, [.ref mt, .ref b, .int drw, .int rn, .ref gm, .int rbob, .int rsng, .ref gc])) :: (gm, .inl (cI, gmn, .inl gmf)) :: (pa, .inl (cI, pan, .inl paf)) :: (pb, .inl (cI, pbn, .inl pbf)) :: (q1, .inl (cR, ((Int32.ofNat pbn) * (Int32.ofNat gmn)).toNatClampNeg, .inr (.inr (.inr (.inr f4_63))))) :: (q6, .inl (cI, rn.toNatClampNeg, .inl f5_63)) :: zt63) H → va_D A ((o, .inr (6, [.ref mt, .ref b, .int drw, .int rn, .ref gm, .int rbob, .int rsng, .ref gc])) :: (gm, .inl (cI, gmn, .inl gmf)) :: (pa, .inl (cI, pan, .inl paf)) :: (pb, .inl (cI, pbn, .inl pbf)) :: (q1, .inl (cR, ((Int32.ofNat pbn) * (Int32.ofNat gmn)).toNatClampNeg, .inr (.inr (.inr (.inr f4_63))))) :: (q6, .inl (cI, rn.toNatClampNeg, .inl f5_63)) :: zt63) → va_S A s.heap H locs → lv_has ls 11 [(10, .int x10_63), (9, .int (pbf x8_46.toNatClampNeg)), (8, .int x8_46), (7, .int (Int32.ofNat pbn)), (6, .ref pb), (5, .int x5_63), (4, .ref q6), (3, .ref q1), (0, .ref o), (1, .ref pa), (2, .ref pb)] → W p l e rmX7_rows s m ([.ref o, .ref pa, .ref pb] : List Value).toArray below meth c H locs cc63 ss63 (MQ below (ct_Q (dC, dI) tys (fun i : RI r.2 => some (.ref i.1.1)) (fun i : RI r.2 => [(o, .inr (6, [.ref mt, .ref b, .int drw, .int rn, .ref gm, .int rbob, .int rsng, .ref gc])), (gm, .inl (cI, gmn, .inl gmf)), (pa, .inl (cI, pan, .inl paf)), (pb, .inl (cI, pbn, .inl pbf)), (i.1.1, .inl (cR, r.2, .inr (.inr (.inr (.inr i.1.2.2))))), (i.1.2.1, .inl (cI, rn.toNatClampNeg, .inl r.1))]) A) ([.ref o, .ref pa, .ref pb] : List Value).toArray s rmX7_rows.cells rmX7_rows.slots A) (F0 m 63 ls []) := by
          intro n63
          induction n63 with
          | zero => intro zt63 z4_63 x10_63 x5_63 f4_63 f5_63 H locs ls cc63 ss63 hcc63 hss63 hz hF; rw [fX7_rows_L63] at hF; cases hF
          | succ n63 ih63 =>
            intro zt63 z4_63 x10_63 x5_63 f4_63 f5_63 H locs ls cc63 ss63 hcc63 hss63 hz hF hP hD hS hl
            rw [fX7_rows_L63] at hF
            refine lv_iload hx hb dX7_rows_63 (lv_at hl 0 rfl) ?_
            refine lv_aload_n hx hb dX7_rows_65 rfl (lv_at hl 8 rfl) ?_
            refine va_get (D := (dC, dI)) (ci := 6) (v := .ref gm) (C := RX7) (T := TX7) (N := 8) hx hb hts uX7 hown hK hP 0 rfl rfl 4 (by decide) w1 (fun _ h9 => h9) rfl dX7_rows_66 ?_
            refine va_alen hx hb hK hP 1 0 rfl ht0 (v := Int32.ofNat gmn) rfl dX7_rows_69 ?_
            refine lv_icmp_ge (tgt := 141) hx hb dX7_rows_70 (by decide) (fun c11 => ?_) (fun c11 => ?_)
            · have hF := (if_pos c11).symm.trans hF
              refine W.widen (k := cc46 + 16) (n := ss46 + 112) (al_le (k := 0) (c1 := 1) hcc63 (Nat.le_refl _) (Nat.le_of_ble_eq_true rfl)) (al_le (k := 0) (c1 := 7) hss63 (Nat.le_refl _) (Nat.le_of_ble_eq_true rfl)) ?_
              exact X63 zt63 z4_63 x10_63 x5_63 f4_63 f5_63 _ _ _ hz hF hP hD hS (lv_sub hl [0, 1, 2, 3, 4, 5, 6, 7, 8, 9, 10] rfl)
            · have hF := (if_neg c11).symm.trans hF
              refine lv_aload_n hx hb dX7_rows_73 rfl (lv_at hl 8 rfl) ?_
              refine lv_aload hx hb dX7_rows_74 (lv_at hl 6 rfl) ?_
              refine lv_iload hx hb dX7_rows_76 (lv_at hl 0 rfl) ?_
              refine lv_iconst (v := (1 : Int32)) hx hb dX7_rows_78 (by decide) ?_
              refine lv_iadd hx hb dX7_rows_79 ?_
              refine lv_aload_n hx hb dX7_rows_80 rfl (lv_at hl 8 rfl) ?_
              refine va_get (D := (dC, dI)) (ci := 6) (v := .ref gm) (C := RX7) (T := TX7) (N := 8) hx hb hts uX7 hown hK hP 0 rfl rfl 4 (by decide) w1 (fun _ h9 => h9) rfl dX7_rows_81 ?_
              refine va_alen hx hb hK hP 1 0 rfl ht0 (v := Int32.ofNat gmn) rfl dX7_rows_84 ?_
              refine lv_icmp_ge (tgt := 98) hx hb dX7_rows_85 (by decide) (fun c12 => ?_) (fun c12 => ?_)
              · have hF := (if_pos c12).symm.trans hF
                refine lv_aload_n hx hb dX7_rows_98 rfl (lv_at hl 8 rfl) ?_
                refine lv_iload hx hb dX7_rows_99 (lv_at hl 1 rfl) ?_
                obtain ⟨r13, hC14, hF⟩ := gd_b hF
                refine ct_callV (C := RX7) (As := [.int (pbf x8_46.toNatClampNeg)]) (rest := [.ref q6, .ref o]) ⟨hx, hb, hml, hown, hts⟩ (kX7_last l dC dI tys cI ht0 o mt b gm gc drw rn rbob rsng gmn gmf (pbf x8_46.toNatClampNeg) r13 hC14) (cwV 1 hts gX7_rows_X7_last rfl rfl rfl (by decide +kernel) ⟨Nat.le_of_ble_eq_true rfl, Nat.le_of_ble_eq_true rfl⟩) hE hK hP hD hS hA [0, 1] [2, 3, 4, 5] (by decide) rfl (by decide) (wr := [(pa, .inl (cI, pan, .inl paf)), (pb, .inl (cI, pbn, .inl pbf)), (q1, .inl (cR, ((Int32.ofNat pbn) * (Int32.ofNat gmn)).toNatClampNeg, .inr (.inr (.inr (.inr f4_63))))), (q6, .inl (cI, rn.toNatClampNeg, .inl f5_63))]) rfl (by decide) (ci := 6) (T := TX7) (N := 8) (q0 := 0) rfl rfl hl.1 rfl rfl (Nat.le_of_ble_eq_true rfl) dX7_rows_101 ⟨(show cc63 + 0 ≤ 418 from (al_le (k := 0) (c1 := 1) hcc63 (al_le (k := 16) (c1 := 16) hcc46 (Nat.le_of_ble_eq_true rfl) (Nat.le_of_ble_eq_true rfl)) (Nat.le_of_ble_eq_true rfl))), (show ss63 + 0 ≤ 3255 from (al_le (k := 0) (c1 := 7) hss63 (al_le (k := 112) (c1 := 112) hss46 (Nat.le_of_ble_eq_true rfl) (Nat.le_of_ble_eq_true rfl)) (Nat.le_of_ble_eq_true rfl)))⟩ (fun i15 H locs hP hD hS => ?_)
                refine W.widen (k := cc63) (n := ss63) (show cc63 + 0 ≤ cc63 from Nat.le_refl _) (show ss63 + 0 ≤ ss63 from Nat.le_refl _) ?_
                have hP : va_P (dC, dI) vwCl [(pa, .inl (cI, pan, .inl paf)), (pb, .inl (cI, pbn, .inl pbf)), (q1, .inl (cR, ((Int32.ofNat pbn) * (Int32.ofNat gmn)).toNatClampNeg, .inr (.inr (.inr (.inr f4_63))))), (q6, .inl (cI, rn.toNatClampNeg, .inl f5_63)), (o, .inr (6, [.ref mt, .ref b, .int drw, .int rn, .ref gm, .int rbob, .int rsng, .ref gc])), (gm, .inl (cI, gmn, .inl gmf))] H := hP
                have hD : va_D A [(pa, .inl (cI, pan, .inl paf)), (pb, .inl (cI, pbn, .inl pbf)), (q1, .inl (cR, ((Int32.ofNat pbn) * (Int32.ofNat gmn)).toNatClampNeg, .inr (.inr (.inr (.inr f4_63))))), (q6, .inl (cI, rn.toNatClampNeg, .inl f5_63)), (o, .inr (6, [.ref mt, .ref b, .int drw, .int rn, .ref gm, .int rbob, .int rsng, .ref gc])), (gm, .inl (cI, gmn, .inl gmf))] := hD
                obtain ⟨r16, hC17, hF⟩ := gd_b hF
                refine ct_callV (C := RX7) (As := [.ref q6, .int r13]) (rest := []) ⟨hx, hb, hml, hown, hts⟩ (kX7_ring l dC dI tys cI ht0 o mt b gm gc q6 drw rn rbob rsng rn.toNatClampNeg f5_63 r13 r16 hC17) (cwV 2 hts gX7_rows_X7_ring rfl rfl rfl (by decide +kernel) ⟨Nat.le_of_ble_eq_true rfl, Nat.le_of_ble_eq_true rfl⟩) hE hK hP hD hS hA [4, 3] [0, 1, 2, 5] (by decide) rfl (by decide) (wr := [(pa, .inl (cI, pan, .inl paf)), (pb, .inl (cI, pbn, .inl pbf)), (q1, .inl (cR, ((Int32.ofNat pbn) * (Int32.ofNat gmn)).toNatClampNeg, .inr (.inr (.inr (.inr f4_63))))), (gm, .inl (cI, gmn, .inl gmf))]) rfl (by decide) (ci := 6) (T := TX7) (N := 8) (q0 := 0) rfl rfl hl.1 rfl rfl (Nat.le_of_ble_eq_true rfl) dX7_rows_104 ⟨(show cc63 + 0 ≤ 418 from (al_le (k := 0) (c1 := 1) hcc63 (al_le (k := 16) (c1 := 16) hcc46 (Nat.le_of_ble_eq_true rfl) (Nat.le_of_ble_eq_true rfl)) (Nat.le_of_ble_eq_true rfl))), (show ss63 + 0 ≤ 3255 from (al_le (k := 0) (c1 := 7) hss63 (al_le (k := 112) (c1 := 112) hss46 (Nat.le_of_ble_eq_true rfl) (Nat.le_of_ble_eq_true rfl)) (Nat.le_of_ble_eq_true rfl)))⟩ (fun i18 H locs hP hD hS => ?_)
                refine W.widen (k := cc63) (n := ss63) (show cc63 + 0 ≤ cc63 from Nat.le_refl _) (show ss63 + 0 ≤ ss63 from Nat.le_refl _) ?_
                have hP : va_P (dC, dI) vwCl [(pa, .inl (cI, pan, .inl paf)), (pb, .inl (cI, pbn, .inl pbf)), (q1, .inl (cR, ((Int32.ofNat pbn) * (Int32.ofNat gmn)).toNatClampNeg, .inr (.inr (.inr (.inr f4_63))))), (gm, .inl (cI, gmn, .inl gmf)), (o, .inr (6, [.ref mt, .ref b, .int drw, .int rn, .ref gm, .int rbob, .int rsng, .ref gc])), (q6, .inl (cI, rn.toNatClampNeg, .inl r16))] H := hP
                have hD : va_D A [(pa, .inl (cI, pan, .inl paf)), (pb, .inl (cI, pbn, .inl pbf)), (q1, .inl (cR, ((Int32.ofNat pbn) * (Int32.ofNat gmn)).toNatClampNeg, .inr (.inr (.inr (.inr f4_63))))), (gm, .inl (cI, gmn, .inl gmf)), (o, .inr (6, [.ref mt, .ref b, .int drw, .int rn, .ref gm, .int rbob, .int rsng, .ref gc])), (q6, .inl (cI, rn.toNatClampNeg, .inl r16))] := hD
                refine lv_aload_n hx hb dX7_rows_107 rfl (lv_at hl 7 rfl) ?_
                refine lv_iload hx hb dX7_rows_108 (lv_at hl 5 rfl) ?_
                refine lv_aload_n hx hb dX7_rows_110 rfl (lv_at hl 8 rfl) ?_
                refine va_get (D := (dC, dI)) (ci := 6) (v := .int rn) (C := RX7) (T := TX7) (N := 8) hx hb hts uX7 hown hK hP 4 rfl rfl 3 (by decide) w3 (fun _ h9 => h9) rfl dX7_rows_111 ?_
                obtain ⟨g19, hF⟩ := gd_n hF
                obtain ⟨g20, hF⟩ := gd_n hF
                have g20 := Decidable.not_not.mp g20
                refine ct_newi hx hb w4 ht0 hK hP hD hS hA (N' := rn.toNatClampNeg) g19 rfl (by omega) (show cc63 + 1 ≤ 418 from (al_le (k := 1) (c1 := 1) hcc63 (al_le (k := 16) (c1 := 16) hcc46 (Nat.le_of_ble_eq_true rfl) (Nat.le_of_ble_eq_true rfl)) (Nat.le_of_ble_eq_true rfl))) (Nat.le_trans (Nat.add_le_add_left g20 _) (show ss63 + 7 ≤ 3255 from (al_le (k := 7) (c1 := 7) hss63 (al_le (k := 112) (c1 := 112) hss46 (Nat.le_of_ble_eq_true rfl) (Nat.le_of_ble_eq_true rfl)) (Nat.le_of_ble_eq_true rfl)))) dX7_rows_114 (fun q21 H hP hD hS => ?_)
                refine W.widen (k := cc63 + 1) (n := ss63 + 7) (show cc63 + 1 ≤ cc63 + 1 from Nat.le_refl _) (show ss63 + rn.toNatClampNeg ≤ ss63 + 7 from Nat.add_le_add_left g20 _) ?_
                have hP : va_P (dC, dI) vwCl [(pa, .inl (cI, pan, .inl paf)), (pb, .inl (cI, pbn, .inl pbf)), (q1, .inl (cR, ((Int32.ofNat pbn) * (Int32.ofNat gmn)).toNatClampNeg, .inr (.inr (.inr (.inr f4_63))))), (gm, .inl (cI, gmn, .inl gmf)), (o, .inr (6, [.ref mt, .ref b, .int drw, .int rn, .ref gm, .int rbob, .int rsng, .ref gc])), (q6, .inl (cI, rn.toNatClampNeg, .inl r16)), (q21, .inl (cI, rn.toNatClampNeg, .inl (fun _ => 0)))] H := hP
                have hD : va_D A [(pa, .inl (cI, pan, .inl paf)), (pb, .inl (cI, pbn, .inl pbf)), (q1, .inl (cR, ((Int32.ofNat pbn) * (Int32.ofNat gmn)).toNatClampNeg, .inr (.inr (.inr (.inr f4_63))))), (gm, .inl (cI, gmn, .inl gmf)), (o, .inr (6, [.ref mt, .ref b, .int drw, .int rn, .ref gm, .int rbob, .int rsng, .ref gc])), (q6, .inl (cI, rn.toNatClampNeg, .inl r16)), (q21, .inl (cI, rn.toNatClampNeg, .inl (fun _ => 0)))] := hD
                obtain ⟨g22, hF⟩ := gd_n hF
                refine ct_astA (qk := 6) hx hb hE hK hP hD hS (q0 := 2) rfl ht3 rfl ht0 g22 dX7_rows_116 (fun H locs hP hD hS => ?_)
                have hP : va_P (dC, dI) vwCl [(pa, .inl (cI, pan, .inl paf)), (pb, .inl (cI, pbn, .inl pbf)), (q1, .inl (cR, ((Int32.ofNat pbn) * (Int32.ofNat gmn)).toNatClampNeg, .inr (.inr (.inr (.inr (va_up f4_63 x5_63.toNatClampNeg (some q21))))))), (gm, .inl (cI, gmn, .inl gmf)), (o, .inr (6, [.ref mt, .ref b, .int drw, .int rn, .ref gm, .int rbob, .int rsng, .ref gc])), (q6, .inl (cI, rn.toNatClampNeg, .inl r16)), (q21, .inl (cI, rn.toNatClampNeg, .inl (fun _ => 0)))] H := hP
                have hD : va_D A [(pa, .inl (cI, pan, .inl paf)), (pb, .inl (cI, pbn, .inl pbf)), (q1, .inl (cR, ((Int32.ofNat pbn) * (Int32.ofNat gmn)).toNatClampNeg, .inr (.inr (.inr (.inr (va_up f4_63 x5_63.toNatClampNeg (some q21))))))), (gm, .inl (cI, gmn, .inl gmf)), (o, .inr (6, [.ref mt, .ref b, .int drw, .int rn, .ref gm, .int rbob, .int rsng, .ref gc])), (q6, .inl (cI, rn.toNatClampNeg, .inl r16)), (q21, .inl (cI, rn.toNatClampNeg, .inl (fun _ => 0)))] := hD
                refine lv_aload hx hb dX7_rows_117 (lv_at hl 6 rfl) ?_
                refine lv_iconst (v := (0 : Int32)) hx hb dX7_rows_119 (by decide) ?_
                refine lv_aload_n hx hb dX7_rows_120 rfl (lv_at hl 7 rfl) ?_
                refine lv_iload hx hb dX7_rows_121 (lv_at hl 5 rfl) ?_
                refine lv_iinc (v := x5_63 + (1 : Int32)) (lv' := [(5, .int (x5_63 + (1 : Int32))), (10, .int x10_63), (9, .int (pbf x8_46.toNatClampNeg)), (8, .int x8_46), (7, .int (Int32.ofNat pbn)), (6, .ref pb), (4, .ref q6), (3, .ref q1), (0, .ref o), (1, .ref pa), (2, .ref pb)]) hx hb dX7_rows_123 hl (k := 5) rfl rfl (by decide) rfl (fun ls hl => ?_)
                obtain ⟨g23, hF⟩ := gd_n hF
                refine ct_aald (v := q21) (q0 := 2) hx hb hK hP rfl ht3 g23 (if_pos rfl) dX7_rows_126 ?_
                refine lv_iconst (v := (0 : Int32)) hx hb dX7_rows_127 (by decide) ?_
                refine lv_aload_n hx hb dX7_rows_128 rfl (lv_at hl 8 rfl) ?_
                refine va_get (D := (dC, dI)) (ci := 6) (v := .int rn) (C := RX7) (T := TX7) (N := 8) hx hb hts uX7 hown hK hP 4 rfl rfl 3 (by decide) w3 (fun _ h9 => h9) rfl dX7_rows_129 ?_
                obtain ⟨g24, hF⟩ := gd_n hF
                obtain ⟨g25, hF⟩ := gd_n hF
                have g25 := Decidable.not_not.mp g25
                refine va_copyi (sp := (0 : Int32)) (dp := (0 : Int32)) hx hb (hml.trans hl.1.symm) hown w5 w6 w7 w8 hK hP hD hS 5 6 0 0 rfl rfl ht0 ht0 rfl (by decide) (by decide) g24 (by show 0 + _ ≤ _; rw [Nat.zero_add]; exact g25.1) (by show 0 + _ ≤ _; rw [Nat.zero_add]; exact g25.2) (fun i hi => rfl) (Nat.le_of_ble_eq_true rfl) (Nat.le_of_ble_eq_true rfl) dX7_rows_132 (fun H locs hP hD hS => ?_)
                have hP : va_P (dC, dI) vwCl [(pa, .inl (cI, pan, .inl paf)), (pb, .inl (cI, pbn, .inl pbf)), (q1, .inl (cR, ((Int32.ofNat pbn) * (Int32.ofNat gmn)).toNatClampNeg, .inr (.inr (.inr (.inr (va_up f4_63 x5_63.toNatClampNeg (some q21))))))), (gm, .inl (cI, gmn, .inl gmf)), (o, .inr (6, [.ref mt, .ref b, .int drw, .int rn, .ref gm, .int rbob, .int rsng, .ref gc])), (q6, .inl (cI, rn.toNatClampNeg, .inl r16)), (q21, .inl (cI, rn.toNatClampNeg, .inl (va_cpy r16 (fun _ => 0) 0 0 rn.toNatClampNeg)))] H := hP
                have hD : va_D A [(pa, .inl (cI, pan, .inl paf)), (pb, .inl (cI, pbn, .inl pbf)), (q1, .inl (cR, ((Int32.ofNat pbn) * (Int32.ofNat gmn)).toNatClampNeg, .inr (.inr (.inr (.inr (va_up f4_63 x5_63.toNatClampNeg (some q21))))))), (gm, .inl (cI, gmn, .inl gmf)), (o, .inr (6, [.ref mt, .ref b, .int drw, .int rn, .ref gm, .int rbob, .int rsng, .ref gc])), (q6, .inl (cI, rn.toNatClampNeg, .inl r16)), (q21, .inl (cI, rn.toNatClampNeg, .inl (va_cpy r16 (fun _ => 0) 0 0 rn.toNatClampNeg)))] := hD
                refine lv_iinc (v := x10_63 + (1 : Int32)) (lv' := [(10, .int (x10_63 + (1 : Int32))), (5, .int (x5_63 + (1 : Int32))), (9, .int (pbf x8_46.toNatClampNeg)), (8, .int x8_46), (7, .int (Int32.ofNat pbn)), (6, .ref pb), (4, .ref q6), (3, .ref q1), (0, .ref o), (1, .ref pa), (2, .ref pb)]) hx hb dX7_rows_135 hl (k := 1) rfl rfl (by decide) rfl (fun ls hl => ?_)
                refine lv_goto (tgt := 63) hx hb dX7_rows_138 (by decide) ?_
                exact ih63 [(q21, .inl (cI, rn.toNatClampNeg, .inl (va_cpy r16 (fun _ => 0) 0 0 rn.toNatClampNeg)))] (va_cpy r16 (fun _ => 0) 0 0 rn.toNatClampNeg) (x10_63 + (1 : Int32)) (x5_63 + (1 : Int32)) (va_up f4_63 x5_63.toNatClampNeg (some q21)) r16 _ _ _ (cc63 + 1) (ss63 + 7) (al_back (k := 1) hcc63 (Nat.le_of_ble_eq_true rfl)) (al_back (k := 7) hss63 (Nat.le_of_ble_eq_true rfl)) (zr_next g23 g3) hF (hP.sub [4, 3, 0, 1, 2, 5, 6] rfl) (hD.sub [4, 3, 0, 1, 2, 5, 6] (by decide) rfl) hS (lv_sub hl [0, 2, 3, 4, 5, 1, 6, 7, 8, 9, 10] rfl)
              · have hF := (if_neg c12).symm.trans hF
                refine lv_aload_n hx hb dX7_rows_88 rfl (lv_at hl 8 rfl) ?_
                refine va_get (D := (dC, dI)) (ci := 6) (v := .ref gm) (C := RX7) (T := TX7) (N := 8) hx hb hts uX7 hown hK hP 0 rfl rfl 4 (by decide) w1 (fun _ h9 => h9) rfl dX7_rows_89 ?_
                refine lv_iload hx hb dX7_rows_92 (lv_at hl 0 rfl) ?_
                obtain ⟨g26, hF⟩ := gd_n hF
                refine va_iald hx hb hK hP 1 0 rfl ht0 g26 dX7_rows_94 ?_
                refine lv_goto (tgt := 104) hx hb dX7_rows_95 (by decide) ?_
                obtain ⟨r27, hC28, hF⟩ := gd_b hF
                refine ct_callV (C := RX7) (As := [.ref q6, .int (gmf x10_63.toNatClampNeg)]) (rest := []) ⟨hx, hb, hml, hown, hts⟩ (kX7_ring l dC dI tys cI ht0 o mt b gm gc q6 drw rn rbob rsng rn.toNatClampNeg f5_63 (gmf x10_63.toNatClampNeg) r27 hC28) (cwV 2 hts gX7_rows_X7_ring rfl rfl rfl (by decide +kernel) ⟨Nat.le_of_ble_eq_true rfl, Nat.le_of_ble_eq_true rfl⟩) hE hK hP hD hS hA [0, 5] [1, 2, 3, 4] (by decide) rfl (by decide) (wr := [(gm, .inl (cI, gmn, .inl gmf)), (pa, .inl (cI, pan, .inl paf)), (pb, .inl (cI, pbn, .inl pbf)), (q1, .inl (cR, ((Int32.ofNat pbn) * (Int32.ofNat gmn)).toNatClampNeg, .inr (.inr (.inr (.inr f4_63)))))]) rfl (by decide) (ci := 6) (T := TX7) (N := 8) (q0 := 0) rfl rfl hl.1 rfl rfl (Nat.le_of_ble_eq_true rfl) dX7_rows_104 ⟨(show cc63 + 0 ≤ 418 from (al_le (k := 0) (c1 := 1) hcc63 (al_le (k := 16) (c1 := 16) hcc46 (Nat.le_of_ble_eq_true rfl) (Nat.le_of_ble_eq_true rfl)) (Nat.le_of_ble_eq_true rfl))), (show ss63 + 0 ≤ 3255 from (al_le (k := 0) (c1 := 7) hss63 (al_le (k := 112) (c1 := 112) hss46 (Nat.le_of_ble_eq_true rfl) (Nat.le_of_ble_eq_true rfl)) (Nat.le_of_ble_eq_true rfl)))⟩ (fun i29 H locs hP hD hS => ?_)
                refine W.widen (k := cc63) (n := ss63) (show cc63 + 0 ≤ cc63 from Nat.le_refl _) (show ss63 + 0 ≤ ss63 from Nat.le_refl _) ?_
                have hP : va_P (dC, dI) vwCl [(gm, .inl (cI, gmn, .inl gmf)), (pa, .inl (cI, pan, .inl paf)), (pb, .inl (cI, pbn, .inl pbf)), (q1, .inl (cR, ((Int32.ofNat pbn) * (Int32.ofNat gmn)).toNatClampNeg, .inr (.inr (.inr (.inr f4_63))))), (o, .inr (6, [.ref mt, .ref b, .int drw, .int rn, .ref gm, .int rbob, .int rsng, .ref gc])), (q6, .inl (cI, rn.toNatClampNeg, .inl r27))] H := hP
                have hD : va_D A [(gm, .inl (cI, gmn, .inl gmf)), (pa, .inl (cI, pan, .inl paf)), (pb, .inl (cI, pbn, .inl pbf)), (q1, .inl (cR, ((Int32.ofNat pbn) * (Int32.ofNat gmn)).toNatClampNeg, .inr (.inr (.inr (.inr f4_63))))), (o, .inr (6, [.ref mt, .ref b, .int drw, .int rn, .ref gm, .int rbob, .int rsng, .ref gc])), (q6, .inl (cI, rn.toNatClampNeg, .inl r27))] := hD
                refine lv_aload_n hx hb dX7_rows_107 rfl (lv_at hl 7 rfl) ?_
                refine lv_iload hx hb dX7_rows_108 (lv_at hl 5 rfl) ?_
                refine lv_aload_n hx hb dX7_rows_110 rfl (lv_at hl 8 rfl) ?_
                refine va_get (D := (dC, dI)) (ci := 6) (v := .int rn) (C := RX7) (T := TX7) (N := 8) hx hb hts uX7 hown hK hP 4 rfl rfl 3 (by decide) w3 (fun _ h9 => h9) rfl dX7_rows_111 ?_
                obtain ⟨g30, hF⟩ := gd_n hF
                obtain ⟨g31, hF⟩ := gd_n hF
                have g31 := Decidable.not_not.mp g31
                refine ct_newi hx hb w4 ht0 hK hP hD hS hA (N' := rn.toNatClampNeg) g30 rfl (by omega) (show cc63 + 1 ≤ 418 from (al_le (k := 1) (c1 := 1) hcc63 (al_le (k := 16) (c1 := 16) hcc46 (Nat.le_of_ble_eq_true rfl) (Nat.le_of_ble_eq_true rfl)) (Nat.le_of_ble_eq_true rfl))) (Nat.le_trans (Nat.add_le_add_left g31 _) (show ss63 + 7 ≤ 3255 from (al_le (k := 7) (c1 := 7) hss63 (al_le (k := 112) (c1 := 112) hss46 (Nat.le_of_ble_eq_true rfl) (Nat.le_of_ble_eq_true rfl)) (Nat.le_of_ble_eq_true rfl)))) dX7_rows_114 (fun q32 H hP hD hS => ?_)
                refine W.widen (k := cc63 + 1) (n := ss63 + 7) (show cc63 + 1 ≤ cc63 + 1 from Nat.le_refl _) (show ss63 + rn.toNatClampNeg ≤ ss63 + 7 from Nat.add_le_add_left g31 _) ?_
                have hP : va_P (dC, dI) vwCl [(gm, .inl (cI, gmn, .inl gmf)), (pa, .inl (cI, pan, .inl paf)), (pb, .inl (cI, pbn, .inl pbf)), (q1, .inl (cR, ((Int32.ofNat pbn) * (Int32.ofNat gmn)).toNatClampNeg, .inr (.inr (.inr (.inr f4_63))))), (o, .inr (6, [.ref mt, .ref b, .int drw, .int rn, .ref gm, .int rbob, .int rsng, .ref gc])), (q6, .inl (cI, rn.toNatClampNeg, .inl r27)), (q32, .inl (cI, rn.toNatClampNeg, .inl (fun _ => 0)))] H := hP
                have hD : va_D A [(gm, .inl (cI, gmn, .inl gmf)), (pa, .inl (cI, pan, .inl paf)), (pb, .inl (cI, pbn, .inl pbf)), (q1, .inl (cR, ((Int32.ofNat pbn) * (Int32.ofNat gmn)).toNatClampNeg, .inr (.inr (.inr (.inr f4_63))))), (o, .inr (6, [.ref mt, .ref b, .int drw, .int rn, .ref gm, .int rbob, .int rsng, .ref gc])), (q6, .inl (cI, rn.toNatClampNeg, .inl r27)), (q32, .inl (cI, rn.toNatClampNeg, .inl (fun _ => 0)))] := hD
                obtain ⟨g33, hF⟩ := gd_n hF
                refine ct_astA (qk := 6) hx hb hE hK hP hD hS (q0 := 3) rfl ht3 rfl ht0 g33 dX7_rows_116 (fun H locs hP hD hS => ?_)
                have hP : va_P (dC, dI) vwCl [(gm, .inl (cI, gmn, .inl gmf)), (pa, .inl (cI, pan, .inl paf)), (pb, .inl (cI, pbn, .inl pbf)), (q1, .inl (cR, ((Int32.ofNat pbn) * (Int32.ofNat gmn)).toNatClampNeg, .inr (.inr (.inr (.inr (va_up f4_63 x5_63.toNatClampNeg (some q32))))))), (o, .inr (6, [.ref mt, .ref b, .int drw, .int rn, .ref gm, .int rbob, .int rsng, .ref gc])), (q6, .inl (cI, rn.toNatClampNeg, .inl r27)), (q32, .inl (cI, rn.toNatClampNeg, .inl (fun _ => 0)))] H := hP
                have hD : va_D A [(gm, .inl (cI, gmn, .inl gmf)), (pa, .inl (cI, pan, .inl paf)), (pb, .inl (cI, pbn, .inl pbf)), (q1, .inl (cR, ((Int32.ofNat pbn) * (Int32.ofNat gmn)).toNatClampNeg, .inr (.inr (.inr (.inr (va_up f4_63 x5_63.toNatClampNeg (some q32))))))), (o, .inr (6, [.ref mt, .ref b, .int drw, .int rn, .ref gm, .int rbob, .int rsng, .ref gc])), (q6, .inl (cI, rn.toNatClampNeg, .inl r27)), (q32, .inl (cI, rn.toNatClampNeg, .inl (fun _ => 0)))] := hD
                refine lv_aload hx hb dX7_rows_117 (lv_at hl 6 rfl) ?_
                refine lv_iconst (v := (0 : Int32)) hx hb dX7_rows_119 (by decide) ?_
                refine lv_aload_n hx hb dX7_rows_120 rfl (lv_at hl 7 rfl) ?_
                refine lv_iload hx hb dX7_rows_121 (lv_at hl 5 rfl) ?_
                refine lv_iinc (v := x5_63 + (1 : Int32)) (lv' := [(5, .int (x5_63 + (1 : Int32))), (10, .int x10_63), (9, .int (pbf x8_46.toNatClampNeg)), (8, .int x8_46), (7, .int (Int32.ofNat pbn)), (6, .ref pb), (4, .ref q6), (3, .ref q1), (0, .ref o), (1, .ref pa), (2, .ref pb)]) hx hb dX7_rows_123 hl (k := 5) rfl rfl (by decide) rfl (fun ls hl => ?_)
                obtain ⟨g34, hF⟩ := gd_n hF
                refine ct_aald (v := q32) (q0 := 3) hx hb hK hP rfl ht3 g34 (if_pos rfl) dX7_rows_126 ?_
                refine lv_iconst (v := (0 : Int32)) hx hb dX7_rows_127 (by decide) ?_
                refine lv_aload_n hx hb dX7_rows_128 rfl (lv_at hl 8 rfl) ?_
                refine va_get (D := (dC, dI)) (ci := 6) (v := .int rn) (C := RX7) (T := TX7) (N := 8) hx hb hts uX7 hown hK hP 4 rfl rfl 3 (by decide) w3 (fun _ h9 => h9) rfl dX7_rows_129 ?_
                obtain ⟨g35, hF⟩ := gd_n hF
                obtain ⟨g36, hF⟩ := gd_n hF
                have g36 := Decidable.not_not.mp g36
                refine va_copyi (sp := (0 : Int32)) (dp := (0 : Int32)) hx hb (hml.trans hl.1.symm) hown w5 w6 w7 w8 hK hP hD hS 5 6 0 0 rfl rfl ht0 ht0 rfl (by decide) (by decide) g35 (by show 0 + _ ≤ _; rw [Nat.zero_add]; exact g36.1) (by show 0 + _ ≤ _; rw [Nat.zero_add]; exact g36.2) (fun i hi => rfl) (Nat.le_of_ble_eq_true rfl) (Nat.le_of_ble_eq_true rfl) dX7_rows_132 (fun H locs hP hD hS => ?_)
                have hP : va_P (dC, dI) vwCl [(gm, .inl (cI, gmn, .inl gmf)), (pa, .inl (cI, pan, .inl paf)), (pb, .inl (cI, pbn, .inl pbf)), (q1, .inl (cR, ((Int32.ofNat pbn) * (Int32.ofNat gmn)).toNatClampNeg, .inr (.inr (.inr (.inr (va_up f4_63 x5_63.toNatClampNeg (some q32))))))), (o, .inr (6, [.ref mt, .ref b, .int drw, .int rn, .ref gm, .int rbob, .int rsng, .ref gc])), (q6, .inl (cI, rn.toNatClampNeg, .inl r27)), (q32, .inl (cI, rn.toNatClampNeg, .inl (va_cpy r27 (fun _ => 0) 0 0 rn.toNatClampNeg)))] H := hP
                have hD : va_D A [(gm, .inl (cI, gmn, .inl gmf)), (pa, .inl (cI, pan, .inl paf)), (pb, .inl (cI, pbn, .inl pbf)), (q1, .inl (cR, ((Int32.ofNat pbn) * (Int32.ofNat gmn)).toNatClampNeg, .inr (.inr (.inr (.inr (va_up f4_63 x5_63.toNatClampNeg (some q32))))))), (o, .inr (6, [.ref mt, .ref b, .int drw, .int rn, .ref gm, .int rbob, .int rsng, .ref gc])), (q6, .inl (cI, rn.toNatClampNeg, .inl r27)), (q32, .inl (cI, rn.toNatClampNeg, .inl (va_cpy r27 (fun _ => 0) 0 0 rn.toNatClampNeg)))] := hD
                refine lv_iinc (v := x10_63 + (1 : Int32)) (lv' := [(10, .int (x10_63 + (1 : Int32))), (5, .int (x5_63 + (1 : Int32))), (9, .int (pbf x8_46.toNatClampNeg)), (8, .int x8_46), (7, .int (Int32.ofNat pbn)), (6, .ref pb), (4, .ref q6), (3, .ref q1), (0, .ref o), (1, .ref pa), (2, .ref pb)]) hx hb dX7_rows_135 hl (k := 1) rfl rfl (by decide) rfl (fun ls hl => ?_)
                refine lv_goto (tgt := 63) hx hb dX7_rows_138 (by decide) ?_
                exact ih63 [(q32, .inl (cI, rn.toNatClampNeg, .inl (va_cpy r27 (fun _ => 0) 0 0 rn.toNatClampNeg)))] (va_cpy r27 (fun _ => 0) 0 0 rn.toNatClampNeg) (x10_63 + (1 : Int32)) (x5_63 + (1 : Int32)) (va_up f4_63 x5_63.toNatClampNeg (some q32)) r27 _ _ _ (cc63 + 1) (ss63 + 7) (al_back (k := 1) hcc63 (Nat.le_of_ble_eq_true rfl)) (al_back (k := 7) hss63 (Nat.le_of_ble_eq_true rfl)) (zr_next g34 g3) hF (hP.sub [4, 0, 1, 2, 3, 5, 6] rfl) (hD.sub [4, 0, 1, 2, 3, 5, 6] (by decide) rfl) hS (lv_sub hl [0, 2, 3, 4, 5, 1, 6, 7, 8, 9, 10] rfl)
        exact L63 16 zt46 z4_46 (0 : Int32) x5_46 f4_46 f5_46 _ _ _ (cc46) (ss46) (Nat.le_refl _) (Nat.le_refl _) hz hF hP hD hS (lv_sub hl [0, 1, 2, 3, 4, 5, 6, 7, 8, 9, 10] rfl)
  exact L46 26 [] (va_cpy paf (fun _ => 0) 0 0 rn.toNatClampNeg) (0 : Int32) (0 : Int32) (fun _ => none) (va_cpy paf (fun _ => 0) 0 0 rn.toNatClampNeg) _ _ _ (2) (343) (Nat.le_refl _) (Nat.le_refl _) (Or.inl ⟨rfl, rfl, rfl⟩) hF (hP.sub [0, 1, 2, 3, 4, 5] rfl) (hD.sub [0, 1, 2, 3, 4, 5] (by decide) rfl) hS (lv_sub hl [0, 1, 2, 3, 4, 5, 6, 7, 8] rfl)

def fX7_rows_ (rn : Int32) (rbob : Int32) (rsng : Int32) (gmn : Nat) (gmf : (Nat → Int32)) (gcn : Nat) (gcf : (Nat → Int32)) : Option ((Nat → Int32) × Nat) := (fX7_rounds rn).bind (fun r1 => (fX7_rows rn rbob rsng gmn gmf r1.2 r1.1 gcn gcf).bind (fun r4 => some r4))
abbrev rmX7_rows_ : Room := { frames := 2, cells := 419, slots := 3262, locals := 90 }
set_option maxHeartbeats 4000000 in
set_option maxRecDepth 100000 in
theorem kX7_rows_ (l : Launch) (dC : Nat → ClassId) (dI : Nat → Nat → Nat) (tys : List (ClassId × FieldType)) (cI : ClassId) (ht0 : tys[0]? = some (cI, .int)) (cR : ClassId) (ht3 : tys[3]? = some (cR, .array .int)) (o mt b gm gc : Nat) (drw : Int32) (rn : Int32) (rbob : Int32) (rsng : Int32) (gmn : Nat) (gmf : (Nat → Int32)) (gcn : Nat) (gcf : (Nat → Int32)) (r : ((Nat → Int32) × Nat)) (hF : fX7_rows_ rn rbob rsng gmn gmf gcn gcf = some r) : ct l (dC, dI) tys yX7_rows_ wsX7_rows_ rmX7_rows_ [.ref o] [(o, .inr (6, [.ref mt, .ref b, .int drw, .int rn, .ref gm, .int rbob, .int rsng, .ref gc])), (gm, .inl (cI, gmn, .inl gmf)), (gc, .inl (cI, gcn, .inl gcf))] (fun i : RI r.2 => some (.ref i.1.1)) (fun i : RI r.2 => [(o, .inr (6, [.ref mt, .ref b, .int drw, .int rn, .ref gm, .int rbob, .int rsng, .ref gc])), (gm, .inl (cI, gmn, .inl gmf)), (gc, .inl (cI, gcn, .inl gcf)), (i.1.1, .inl (cR, r.2, .inr (.inr (.inr (.inr i.1.2.2))))), (i.1.2.1, .inl (cI, rn.toNatClampNeg, .inl r.1))]) := by
  refine ct_of (cc := cX7_rows_) (maxL := 1) (ret := (some (.array (.array .int)))) (by decide) rfl (Nat.le_of_ble_eq_true rfl) ?_
  intro p e s m below meth c A ls hx hb hr hml hts hown hlocks hname hE hK hP hD hA hS hl
  have hown : s.vm.findClass RX7 = some m.cls := hown
  have hl : lv_has ls 1 [(0, .ref o)] := hl
  unfold fX7_rows_ at hF
  have uX7 : ∀ w ∈ wsX70, w ∈ wsX7_rows_ := (fun _ h => (List.mem_cons_of_mem _ (List.mem_append_right _ h)))
  have w1 := hts (.fieldLink RX7 30 "BellfounderTowerLaw$Ringing" "calls" "[I") (List.mem_cons_of_mem _ (List.mem_append_left _ (List.mem_append_left _ (List.mem_of_getElem? (i := 0) rfl))))
  refine lv_aload_n hx hb dX7_rows__0 rfl (lv_at hl 0 rfl) ?_
  refine lv_aload_n hx hb dX7_rows__1 rfl (lv_at hl 0 rfl) ?_
  obtain ⟨r1, hC2, hF⟩ := gd_b hF
  refine ct_callV (C := RX7) (As := []) (rest := [.ref o]) ⟨hx, hb, hml, hown, hts⟩ (kX7_rounds l dC dI tys cI ht0 o mt b gm gc drw rn rbob rsng r1 hC2) (cwV 0 hts gX7_rows__X7_rounds rfl rfl rfl (by decide +kernel) ⟨Nat.le_of_ble_eq_true rfl, Nat.le_of_ble_eq_true rfl⟩) hE hK hP hD hS hA [0] [1, 2] (by decide) rfl (by decide) (wr := [(gm, .inl (cI, gmn, .inl gmf)), (gc, .inl (cI, gcn, .inl gcf))]) rfl (by decide) (ci := 6) (T := TX7) (N := 8) (q0 := 0) rfl rfl hl.1 rfl rfl (Nat.le_of_ble_eq_true rfl) dX7_rows__2 ⟨(Nat.le_of_ble_eq_true rfl), (Nat.le_of_ble_eq_true rfl)⟩ (fun i3 H locs hP hD hS => ?_)
  have hP : va_P (dC, dI) vwCl [(gm, .inl (cI, gmn, .inl gmf)), (gc, .inl (cI, gcn, .inl gcf)), (o, .inr (6, [.ref mt, .ref b, .int drw, .int rn, .ref gm, .int rbob, .int rsng, .ref gc])), (i3, .inl (cI, r1.2, .inl r1.1))] H := hP
  have hD : va_D A [(gm, .inl (cI, gmn, .inl gmf)), (gc, .inl (cI, gcn, .inl gcf)), (o, .inr (6, [.ref mt, .ref b, .int drw, .int rn, .ref gm, .int rbob, .int rsng, .ref gc])), (i3, .inl (cI, r1.2, .inl r1.1))] := hD
  refine lv_aload_n hx hb dX7_rows__5 rfl (lv_at hl 0 rfl) ?_
  refine va_get (D := (dC, dI)) (ci := 6) (v := .ref gc) (C := RX7) (T := TX7) (N := 8) hx hb hts uX7 hown hK hP 2 rfl rfl 7 (by decide) w1 (fun _ h9 => h9) rfl dX7_rows__6 ?_
  obtain ⟨r4, hC5, hF⟩ := gd_b hF
  refine ct_callV (C := RX7) (As := [.ref i3, .ref gc]) (rest := []) ⟨hx, hb, hml, hown, hts⟩ (kX7_rows l dC dI tys cI ht0 cR ht3 o mt b gm gc i3 gc drw rn rbob rsng gmn gmf r1.2 r1.1 gcn gcf r4 hC5) (cwV 2 hts gX7_rows__X7_rows rfl rfl rfl (by decide +kernel) ⟨Nat.le_of_ble_eq_true rfl, Nat.le_of_ble_eq_true rfl⟩) hE hK hP hD hS hA [2, 0, 3, 1] [] (by decide) rfl (by decide) (wr := []) rfl (by decide) (ci := 6) (T := TX7) (N := 8) (q0 := 0) rfl rfl hl.1 rfl rfl (Nat.le_of_ble_eq_true rfl) dX7_rows__9 ⟨(Nat.le_of_ble_eq_true rfl), (Nat.le_of_ble_eq_true rfl)⟩ (fun i6 H locs hP hD hS => ?_)
  have hP : va_P (dC, dI) vwCl [(o, .inr (6, [.ref mt, .ref b, .int drw, .int rn, .ref gm, .int rbob, .int rsng, .ref gc])), (gm, .inl (cI, gmn, .inl gmf)), (i3, .inl (cI, r1.2, .inl r1.1)), (gc, .inl (cI, gcn, .inl gcf)), (i6.1.1, .inl (cR, r4.2, .inr (.inr (.inr (.inr i6.1.2.2))))), (i6.1.2.1, .inl (cI, rn.toNatClampNeg, .inl r4.1))] H := hP
  have hD : va_D A [(o, .inr (6, [.ref mt, .ref b, .int drw, .int rn, .ref gm, .int rbob, .int rsng, .ref gc])), (gm, .inl (cI, gmn, .inl gmf)), (i3, .inl (cI, r1.2, .inl r1.1)), (gc, .inl (cI, gcn, .inl gcf)), (i6.1.1, .inl (cR, r4.2, .inr (.inr (.inr (.inr i6.1.2.2))))), (i6.1.2.1, .inl (cI, rn.toNatClampNeg, .inl r4.1))] := hD
  obtain rfl := Option.some.inj hF
  exact ct_a hx hb hr hlocks hK hP hD hS i6 rfl [0, 1, 3, 4, 5] (by decide) rfl (Nat.le_of_ble_eq_true rfl) (Nat.le_of_ble_eq_true rfl) dX7_rows__12

