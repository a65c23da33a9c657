def fX7_rows_X23 (p2 : Int32) (mch : Int32) (x6_23 : Int32) (f0_23 : (Nat → Int32)) (f8_23 : (Nat → Int32)) : Option ((Nat → Int32) × Nat) := some (f0_23, ((p2 * mch).toNatClampNeg))
def fX7_rows_X90 (r7 : ((Nat → Int32) × Nat)) (x6_23 : Int32) (p2 : Int32) (mch : Int32) (rec23 : Int32 → (Nat → Int32) → (Nat → Int32) → Option ((Nat → Int32) × Nat)) (f0_23 : (Nat → Int32)) (x9_90 : Int32) (f8_90 : (Nat → Int32)) : Option ((Nat → Int32) × Nat) := (fX7_number r7.2 f8_90).bind (fun r17 => if (x6_23 < 0 ∨ (p2 * mch).toNatClampNeg ≤ x6_23.toNatClampNeg) then none else (rec23 (x6_23 + (1 : Int32)) (upd f0_23 x6_23.toNatClampNeg r17) f8_90))
def fX7_rows_L90 (mn : Int32) (mcf : (Nat → Int32)) (x6_23 : Int32) (mch : Int32) (r7 : ((Nat → Int32) × Nat)) (K90 : Int32 → (Nat → Int32) → Option ((Nat → Int32) × Nat)) : Nat → Int32 → (Nat → Int32) → Option ((Nat → Int32) × Nat)
  | 0, _, _ => none
  | n + 1, x9_90, f8_90 => if mn ≤ (x9_90 + (1 : Int32)) then (K90 x9_90 f8_90) else (if (((mcf (x6_23 - x6_23 / mch * mch).toNatClampNeg) >>> (x9_90 &&& 31)) &&& (1 : Int32)) = (1 : Int32) then ((fX7_rows_L90 mn mcf x6_23 mch r7 K90 n) (x9_90 + (1 : Int32)) f8_90) else (if (x9_90 < 0 ∨ r7.2 ≤ x9_90.toNatClampNeg) then none else (if ((x9_90 + (1 : Int32)) < 0 ∨ r7.2 ≤ (x9_90 + (1 : Int32)).toNatClampNeg) then none else (if (x9_90 < 0 ∨ r7.2 ≤ x9_90.toNatClampNeg) then none else (if ((x9_90 + (1 : Int32)) < 0 ∨ r7.2 ≤ (x9_90 + (1 : Int32)).toNatClampNeg) then none else ((fX7_rows_L90 mn mcf x6_23 mch r7 K90 n) ((x9_90 + (1 : Int32)) + (1 : Int32)) (upd (upd f8_90 x9_90.toNatClampNeg (f8_90 (x9_90 + (1 : Int32)).toNatClampNeg)) (x9_90 + (1 : Int32)).toNatClampNeg (f8_90 x9_90.toNatClampNeg))))))))
def fX7_rows_X90b (r7 : ((Nat → Int32) × Nat)) (x6_23 : Int32) (p2 : Int32) (mch : Int32) (rec23 : Int32 → (Nat → Int32) → (Nat → Int32) → Option ((Nat → Int32) × Nat)) (f0_23 : (Nat → Int32)) (x9_90 : Int32) (f8_90 : (Nat → Int32)) : Option ((Nat → Int32) × Nat) := (fX7_number r7.2 f8_90).bind (fun r30 => if (x6_23 < 0 ∨ (p2 * mch).toNatClampNeg ≤ x6_23.toNatClampNeg) then none else (rec23 (x6_23 + (1 : Int32)) (upd f0_23 x6_23.toNatClampNeg r30) f8_90))
def fX7_rows_L90b (mn : Int32) (mcf : (Nat → Int32)) (x6_23 : Int32) (mch : Int32) (r7 : ((Nat → Int32) × Nat)) (K90 : Int32 → (Nat → Int32) → Option ((Nat → Int32) × Nat)) : Nat → Int32 → (Nat → Int32) → Option ((Nat → Int32) × Nat)
  | 0, _, _ => none
  | n + 1, x9_90, f8_90 => if mn ≤ (x9_90 + (1 : Int32)) then (K90 x9_90 f8_90) else (if (((mcf (x6_23 - x6_23 / mch * mch).toNatClampNeg) >>> (x9_90 &&& 31)) &&& (1 : Int32)) = (1 : Int32) then ((fX7_rows_L90b mn mcf x6_23 mch r7 K90 n) (x9_90 + (1 : Int32)) f8_90) else (if (x9_90 < 0 ∨ r7.2 ≤ x9_90.toNatClampNeg) then none else (if ((x9_90 + (1 : Int32)) < 0 ∨ r7.2 ≤ (x9_90 + (1 : Int32)).toNatClampNeg) then none else (if (x9_90 < 0 ∨ r7.2 ≤ x9_90.toNatClampNeg) then none else (if ((x9_90 + (1 : Int32)) < 0 ∨ r7.2 ≤ (x9_90 + (1 : Int32)).toNatClampNeg) then none else ((fX7_rows_L90b mn mcf x6_23 mch r7 K90 n) ((x9_90 + (1 : Int32)) + (1 : Int32)) (upd (upd f8_90 x9_90.toNatClampNeg (f8_90 (x9_90 + (1 : Int32)).toNatClampNeg)) (x9_90 + (1 : Int32)).toNatClampNeg (f8_90 x9_90.toNatClampNeg))))))))
def fX7_rows_X90c (r7 : ((Nat → Int32) × Nat)) (x6_23 : Int32) (p2 : Int32) (mch : Int32) (rec23 : Int32 → (Nat → Int32) → (Nat → Int32) → Option ((Nat → Int32) × Nat)) (f0_23 : (Nat → Int32)) (x9_90 : Int32) (f8_90 : (Nat → Int32)) : Option ((Nat → Int32) × Nat) := (fX7_number r7.2 f8_90).bind (fun r41 => if (x6_23 < 0 ∨ (p2 * mch).toNatClampNeg ≤ x6_23.toNatClampNeg) then none else (rec23 (x6_23 + (1 : Int32)) (upd f0_23 x6_23.toNatClampNeg r41) f8_90))
def fX7_rows_L90c (mn : Int32) (mif : (Nat → Int32)) (mlf : (Nat → Int32)) (x6_23 : Int32) (mch : Int32) (r7 : ((Nat → Int32) × Nat)) (K90 : Int32 → (Nat → Int32) → Option ((Nat → Int32) × Nat)) : Nat → Int32 → (Nat → Int32) → Option ((Nat → Int32) × Nat)
  | 0, _, _ => none
  | n + 1, x9_90, f8_90 => if mn ≤ (x9_90 + (1 : Int32)) then (K90 x9_90 f8_90) else (if (((mif (mlf (x6_23 / mch).toNatClampNeg).toNatClampNeg) >>> (x9_90 &&& 31)) &&& (1 : Int32)) = (1 : Int32) then ((fX7_rows_L90c mn mif mlf x6_23 mch r7 K90 n) (x9_90 + (1 : Int32)) f8_90) else (if (x9_90 < 0 ∨ r7.2 ≤ x9_90.toNatClampNeg) then none else (if ((x9_90 + (1 : Int32)) < 0 ∨ r7.2 ≤ (x9_90 + (1 : Int32)).toNatClampNeg) then none else (if (x9_90 < 0 ∨ r7.2 ≤ x9_90.toNatClampNeg) then none else (if ((x9_90 + (1 : Int32)) < 0 ∨ r7.2 ≤ (x9_90 + (1 : Int32)).toNatClampNeg) then none else ((fX7_rows_L90c mn mif mlf x6_23 mch r7 K90 n) ((x9_90 + (1 : Int32)) + (1 : Int32)) (upd (upd f8_90 x9_90.toNatClampNeg (f8_90 (x9_90 + (1 : Int32)).toNatClampNeg)) (x9_90 + (1 : Int32)).toNatClampNeg (f8_90 x9_90.toNatClampNeg))))))))
def fX7_rows_L23 (p2 : Int32) (mch : Int32) (mlf : (Nat → Int32)) (mn : Int32) (mcf : (Nat → Int32)) (r7 : ((Nat → Int32) × Nat)) (mif : (Nat → Int32)) (K23 : Int32 → (Nat → Int32) → (Nat → Int32) → Option ((Nat → Int32) × Nat)) : Nat → Int32 → (Nat → Int32) → (Nat → Int32) → Option ((Nat → Int32) × Nat)
  | 0, _, _, _ => none
  | n + 1, x6_23, f0_23, f8_23 => if (Int32.ofNat ((p2 * mch).toNatClampNeg)) ≤ x6_23 then (K23 x6_23 f0_23 f8_23) else (if mch = 0 then none else (if ((x6_23 / mch) < 0 ∨ 24 ≤ (x6_23 / mch).toNatClampNeg) then none else (if mch = 0 then none else (if (x6_23 - x6_23 / mch * mch) = (mch - (1 : Int32)) then (if (mlf (x6_23 / mch).toNatClampNeg) ≤ 0 then (if mch = 0 then none else (if ((x6_23 - x6_23 / mch * mch) < 0 ∨ 14 ≤ (x6_23 - x6_23 / mch * mch).toNatClampNeg) then none else (fX7_rows_L90b mn mcf x6_23 mch r7 (fX7_rows_X90b r7 x6_23 p2 mch (fX7_rows_L23 p2 mch mlf mn mcf r7 mif K23 n) f0_23) 1000 (0 : Int32) f8_23))) else (if ((mlf (x6_23 / mch).toNatClampNeg) < 0 ∨ 3 ≤ (mlf (x6_23 / mch).toNatClampNeg).toNatClampNeg) then none else (fX7_rows_L90c mn mif mlf x6_23 mch r7 (fX7_rows_X90c r7 x6_23 p2 mch (fX7_rows_L23 p2 mch mlf mn mcf r7 mif K23 n) f0_23) 1000 (0 : Int32) f8_23))) else (if mch = 0 then none else (if ((x6_23 - x6_23 / mch * mch) < 0 ∨ 14 ≤ (x6_23 - x6_23 / mch * mch).toNatClampNeg) then none else (fX7_rows_L90 mn mcf x6_23 mch r7 (fX7_rows_X90 r7 x6_23 p2 mch (fX7_rows_L23 p2 mch mlf mn mcf r7 mif K23 n) f0_23) 1000 (0 : Int32) f8_23)))))))
def fX7_rows (mn : Int32) (mch : Int32) (mcf : (Nat → Int32)) (mif : (Nat → Int32)) (mlf : (Nat → Int32)) (pan : Nat) (paf : (Nat → Int32)) (p2 : Int32) : Option ((Nat → Int32) × Nat) := if (p2 * mch) < 0 then none else if ¬ (p2 * mch).toNatClampNeg ≤ 336 then none else ((fX7_same mn).bind (fun r4 => (fX7_join pan paf r4.2 r4.1).bind (fun r7 => fX7_rows_L23 p2 mch mlf mn mcf r7 mif (fX7_rows_X23 p2 mch) 1000 (0 : Int32) (fun _ => 0) r7.1)))
abbrev rmX7_rows : Room := { frames := 1, cells := 3, slots := 350, locals := 25 }
set_option maxHeartbeats 4000000 in
set_option maxRecDepth 100000 in
theorem kX7_rows (l : Launch) (dC : Nat → ClassId) (dI : Nat → Nat → Nat) (tys : List (ClassId × FieldType)) (cI : ClassId) (ht0 : tys[0]? = some (cI, .int)) (o oc oi ol ob pa : Nat) (mth : Int32) (mn : Int32) (mch : Int32) (mcl : Int32) (mgo : Int32) (mmo : Int32) (mcf : (Nat → Int32)) (mif : (Nat → Int32)) (mlf : (Nat → Int32)) (mbn : Nat) (mbf : (Nat → Int32)) (pan : Nat) (paf : (Nat → Int32)) (p2 : Int32) (r : ((Nat → Int32) × Nat)) (hF : fX7_rows mn mch mcf mif mlf pan paf p2 = some r) : ct l (dC, dI) tys yX7_rows wsX7_rows rmX7_rows [.ref o, .ref pa, .ref ol, .int p2] [(o, .inr (6, [.int mth, .int mn, .int mch, .ref oc, .ref oi, .int mcl, .ref ol, .int mgo, .int mmo, .ref ob])), (oc, .inl (cI, 14, .inl mcf)), (oi, .inl (cI, 3, .inl mif)), (ol, .inl (cI, 24, .inl mlf)), (ob, .inl (cI, mbn, .inl mbf)), (pa, .inl (cI, pan, .inl paf))] (fun i : Nat => some (.ref i)) (fun i : Nat => [(o, .inr (6, [.int mth, .int mn, .int mch, .ref oc, .ref oi, .int mcl, .ref ol, .int mgo, .int mmo, .ref ob])), (oc, .inl (cI, 14, .inl mcf)), (oi, .inl (cI, 3, .inl mif)), (ol, .inl (cI, 24, .inl mlf)), (ob, .inl (cI, mbn, .inl mbf)), (pa, .inl (cI, pan, .inl paf)), (i, .inl (cI, r.2, .inl r.1))]) := by
  refine ct_of (cc := cX7_rows) (maxL := 11) (ret := (some (.array .int))) (by decide) rfl (Nat.le_of_ble_eq_true rfl) ?_
  intro p e s m below meth c A ls hx hb hr hml hts hown hlocks hname hE hK hP hD hA hS hl
  have hown : s.vm.findClass RX7 = some m.cls := hown
  have hl : lv_has ls 11 [(0, .ref o), (1, .ref pa), (2, .ref ol), (3, .int p2)] := hl
  unfold fX7_rows at hF
  have uX7 : ∀ w ∈ wsX70, w ∈ wsX7_rows := (fun _ h => (List.mem_cons_of_mem _ (List.mem_append_right _ h)))
  have w1 := hts (.fieldLink RX7 30 "BellfounderTowerModel" "changes" "I") (List.mem_cons_of_mem _ (List.mem_append_left _ (List.mem_of_getElem? (i := 0) rfl)))
  have w2 := hts (.arrayClass .int) (List.mem_cons_of_mem _ (List.mem_append_left _ (List.mem_of_getElem? (i := 1) rfl)))
  have w3 := hts (.fieldLink RX7 9 "BellfounderTowerModel" "change" "[I") (List.mem_cons_of_mem _ (List.mem_append_left _ (List.mem_of_getElem? (i := 3) rfl)))
  have w4 := hts (.fieldLink RX7 26 "BellfounderTowerModel" "n" "I") (List.mem_cons_of_mem _ (List.mem_append_left _ (List.mem_of_getElem? (i := 4) rfl)))
  have w5 := hts (.fieldLink RX7 13 "BellfounderTowerModel" "instead" "[I") (List.mem_cons_of_mem _ (List.mem_append_left _ (List.mem_of_getElem? (i := 2) rfl)))
  refine lv_iload_n hx hb dX7_rows_0 rfl (lv_at hl 3 rfl) ?_
  refine lv_aload_n hx hb dX7_rows_1 rfl (lv_at hl 0 rfl) ?_
  refine va_get (D := (dC, dI)) (ci := 6) (v := .int mch) (C := RX7) (T := TX7) (N := 10) hx hb hts uX7 hown hK hP 0 rfl rfl 2 (by decide) w1 (fun _ h9 => h9) rfl dX7_rows_2 ?_
  refine lv_imul hx hb dX7_rows_5 ?_
  obtain ⟨g1, hF⟩ := gd_n hF
  obtain ⟨g2, hF⟩ := gd_n hF
  have g2 := Decidable.not_not.mp g2
  refine ct_newi hx hb w2 ht0 hK hP hD hS hA (N' := (p2 * mch).toNatClampNeg) g1 rfl (by omega) (Nat.le_of_ble_eq_true rfl) (Nat.le_trans (Nat.add_le_add_left g2 _) (Nat.le_of_ble_eq_true rfl)) dX7_rows_6 (fun q3 H hP hD hS => ?_)
  refine W.widen (k := 1) (n := 336) (show 0 + 1 ≤ 1 from Nat.le_refl _) (show 0 + (p2 * mch).toNatClampNeg ≤ 336 from Nat.add_le_add_left g2 _) ?_
  have hP : va_P (dC, dI) vwCl [(o, .inr (6, [.int mth, .int mn, .int mch, .ref oc, .ref oi, .int mcl, .ref ol, .int mgo, .int mmo, .ref ob])), (oc, .inl (cI, 14, .inl mcf)), (oi, .inl (cI, 3, .inl mif)), (ol, .inl (cI, 24, .inl mlf)), (ob, .inl (cI, mbn, .inl mbf)), (pa, .inl (cI, pan, .inl paf)), (q3, .inl (cI, (p2 * mch).toNatClampNeg, .inl (fun _ => 0)))] H := hP
  have hD : va_D A [(o, .inr (6, [.int mth, .int mn, .int mch, .ref oc, .ref oi, .int mcl, .ref ol, .int mgo, .int mmo, .ref ob])), (oc, .inl (cI, 14, .inl mcf)), (oi, .inl (cI, 3, .inl mif)), (ol, .inl (cI, 24, .inl mlf)), (ob, .inl (cI, mbn, .inl mbf)), (pa, .inl (cI, pan, .inl paf)), (q3, .inl (cI, (p2 * mch).toNatClampNeg, .inl (fun _ => 0)))] := hD
  refine lv_astore (lv' := [(4, .ref q3), (0, .ref o), (1, .ref pa), (2, .ref ol), (3, .int p2)]) hx hb dX7_rows_8 hl (by decide) rfl (fun ls hl => ?_)
  refine lv_aload_n hx hb dX7_rows_10 rfl (lv_at hl 2 rfl) ?_
  refine lv_aload_n hx hb dX7_rows_11 rfl (lv_at hl 1 rfl) ?_
  obtain ⟨r4, hC5, hF⟩ := gd_b hF
  refine ct_callV (C := RX7) (As := []) (rest := [.ref pa]) ⟨hx, hb, hml, hown, hts⟩ (kX7_same l dC dI tys cI ht0 o oc oi ol ob mth mn mch mcl mgo mmo mcf mif mlf mbn mbf r4 hC5) (cwV 0 hts gX7_rows_X7_same rfl rfl rfl (by decide +kernel) ⟨Nat.le_of_ble_eq_true rfl, Nat.le_of_ble_eq_true rfl⟩) hE hK hP hD hS hA [0, 1, 2, 3, 4] [5, 6] (by decide) rfl (by decide) (wr := [(pa, .inl (cI, pan, .inl paf)), (q3, .inl (cI, (p2 * mch).toNatClampNeg, .inl (fun _ => 0)))]) rfl (by decide) (ci := 6) (T := TX7) (N := 10) (q0 := 0) rfl rfl hl.1 rfl rfl (Nat.le_of_ble_eq_true rfl) dX7_rows_12 ⟨(Nat.le_of_ble_eq_true rfl), (Nat.le_of_ble_eq_true rfl)⟩ (fun i6 H locs hP hD hS => ?_)
  have hP : va_P (dC, dI) vwCl [(pa, .inl (cI, pan, .inl paf)), (q3, .inl (cI, (p2 * mch).toNatClampNeg, .inl (fun _ => 0))), (o, .inr (6, [.int mth, .int mn, .int mch, .ref oc, .ref oi, .int mcl, .ref ol, .int mgo, .int mmo, .ref ob])), (oc, .inl (cI, 14, .inl mcf)), (oi, .inl (cI, 3, .inl mif)), (ol, .inl (cI, 24, .inl mlf)), (ob, .inl (cI, mbn, .inl mbf)), (i6, .inl (cI, r4.2, .inl r4.1))] H := hP
  have hD : va_D A [(pa, .inl (cI, pan, .inl paf)), (q3, .inl (cI, (p2 * mch).toNatClampNeg, .inl (fun _ => 0))), (o, .inr (6, [.int mth, .int mn, .int mch, .ref oc, .ref oi, .int mcl, .ref ol, .int mgo, .int mmo, .ref ob])), (oc, .inl (cI, 14, .inl mcf)), (oi, .inl (cI, 3, .inl mif)), (ol, .inl (cI, 24, .inl mlf)), (ob, .inl (cI, mbn, .inl mbf)), (i6, .inl (cI, r4.2, .inl r4.1))] := hD
  obtain ⟨r7, hC8, hF⟩ := gd_b hF
  refine ct_callS (As := [.ref pa, .ref i6]) (rest := []) ⟨hx, hb, hml, hown, hts⟩ (kX7_join l dC dI tys cI ht0 pa i6 pan paf r4.2 r4.1 r7 hC8) (va_cwS 2 hts gX7_rows_X7_join rfl rfl rfl (by decide +kernel) ⟨Nat.le_of_ble_eq_true rfl, Nat.le_of_ble_eq_true rfl⟩) hE hK hP hD hS hA [0, 7] [1, 2, 3, 4, 5, 6] (by decide) rfl (by decide) (wr := [(q3, .inl (cI, (p2 * mch).toNatClampNeg, .inl (fun _ => 0))), (o, .inr (6, [.int mth, .int mn, .int mch, .ref oc, .ref oi, .int mcl, .ref ol, .int mgo, .int mmo, .ref ob])), (oc, .inl (cI, 14, .inl mcf)), (oi, .inl (cI, 3, .inl mif)), (ol, .inl (cI, 24, .inl mlf)), (ob, .inl (cI, mbn, .inl mbf))]) rfl (by decide) hl.1 rfl rfl (Nat.le_of_ble_eq_true rfl) dX7_rows_15 ⟨(Nat.le_of_ble_eq_true rfl), (Nat.le_of_ble_eq_true rfl)⟩ (fun i9 H locs hP hD hS => ?_)
  have hP : va_P (dC, dI) vwCl [(q3, .inl (cI, (p2 * mch).toNatClampNeg, .inl (fun _ => 0))), (o, .inr (6, [.int mth, .int mn, .int mch, .ref oc, .ref oi, .int mcl, .ref ol, .int mgo, .int mmo, .ref ob])), (oc, .inl (cI, 14, .inl mcf)), (oi, .inl (cI, 3, .inl mif)), (ol, .inl (cI, 24, .inl mlf)), (ob, .inl (cI, mbn, .inl mbf)), (pa, .inl (cI, pan, .inl paf)), (i6, .inl (cI, r4.2, .inl r4.1)), (i9, .inl (cI, r7.2, .inl r7.1))] H := hP
  have hD : va_D A [(q3, .inl (cI, (p2 * mch).toNatClampNeg, .inl (fun _ => 0))), (o, .inr (6, [.int mth, .int mn, .int mch, .ref oc, .ref oi, .int mcl, .ref ol, .int mgo, .int mmo, .ref ob])), (oc, .inl (cI, 14, .inl mcf)), (oi, .inl (cI, 3, .inl mif)), (ol, .inl (cI, 24, .inl mlf)), (ob, .inl (cI, mbn, .inl mbf)), (pa, .inl (cI, pan, .inl paf)), (i6, .inl (cI, r4.2, .inl r4.1)), (i9, .inl (cI, r7.2, .inl r7.1))] := hD
  refine lv_astore (lv' := [(5, .ref i9), (4, .ref q3), (0, .ref o), (1, .ref pa), (2, .ref ol), (3, .int p2)]) hx hb dX7_rows_18 hl (by decide) rfl (fun ls hl => ?_)
  refine lv_iconst (v := (0 : Int32)) hx hb dX7_rows_20 (by decide) ?_
  refine lv_istore (lv' := [(6, .int (0 : Int32)), (5, .ref i9), (4, .ref q3), (0, .ref o), (1, .ref pa), (2, .ref ol), (3, .int p2)]) hx hb dX7_rows_21 hl (by decide) rfl (fun ls hl => ?_)
  have X23 : ∀ (x6_23 : Int32) (f0_23 : (Nat → Int32)) (f8_23 : (Nat → Int32)) (H : Heap) (locs : List Loc) (ls : Array Slot), fX7_rows_X23 p2 mch x6_23 f0_23 f8_23 = some r → va_P (dC, dI) vwCl [(q3, .inl (cI, (p2 * mch).toNatClampNeg, .inl f0_23)), (o, .inr (6, [.int mth, .int mn, .int mch, .ref oc, .ref oi, .int mcl, .ref ol, .int mgo, .int mmo, .ref ob])), (oc, .inl (cI, 14, .inl mcf)), (oi, .inl (cI, 3, .inl mif)), (ol, .inl (cI, 24, .inl mlf)), (ob, .inl (cI, mbn, .inl mbf)), (pa, .inl (cI, pan, .inl paf)), (i6, .inl (cI, r4.2, .inl r4.1)), (i9, .inl (cI, r7.2, .inl f8_23))] H → va_D A [(q3, .inl (cI, (p2 * mch).toNatClampNeg, .inl f0_23)), (o, .inr (6, [.int mth, .int mn, .int mch, .ref oc, .ref oi, .int mcl, .ref ol, .int mgo, .int mmo, .ref ob])), (oc, .inl (cI, 14, .inl mcf)), (oi, .inl (cI, 3, .inl mif)), (ol, .inl (cI, 24, .inl mlf)), (ob, .inl (cI, mbn, .inl mbf)), (pa, .inl (cI, pan, .inl paf)), (i6, .inl (cI, r4.2, .inl r4.1)), (i9, .inl (cI, r7.2, .inl f8_23))] → va_S A s.heap H locs → lv_has ls 11 [(6, .int x6_23), (5, .ref i9), (4, .ref q3), (0, .ref o), (1, .ref pa), (2, .ref ol), (3, .int p2)] → W p l e rmX7_rows s m ([.ref o, .ref pa, .ref ol, .int p2] : List Value).toArray below meth c H locs 3 350 (MQ below (ct_Q (dC, dI) tys (fun i : Nat => some (.ref i)) (fun i : Nat => [(o, .inr (6, [.int mth, .int mn, .int mch, .ref oc, .ref oi, .int mcl, .ref ol, .int mgo, .int mmo, .ref ob])), (oc, .inl (cI, 14, .inl mcf)), (oi, .inl (cI, 3, .inl mif)), (ol, .inl (cI, 24, .inl mlf)), (ob, .inl (cI, mbn, .inl mbf)), (pa, .inl (cI, pan, .inl paf)), (i, .inl (cI, r.2, .inl r.1))]) A) ([.ref o, .ref pa, .ref ol, .int p2] : List Value).toArray s rmX7_rows.cells rmX7_rows.slots A) (F0 m 166 ls []) := by
    intro x6_23 f0_23 f8_23 H locs ls hF hP hD hS hl
    unfold fX7_rows_X23 at hF
    refine lv_aload hx hb dX7_rows_166 (lv_at hl 2 rfl) ?_
    obtain rfl := Option.some.inj hF
    exact ct_a hx hb hr hlocks hK hP hD hS q3 rfl [1, 2, 3, 4, 5, 6, 0] (by decide) rfl (Nat.le_of_ble_eq_true rfl) (Nat.le_of_ble_eq_true rfl) dX7_rows_168
  have L23 : ∀ (n23 : Nat) (x6_23 : Int32) (f0_23 : (Nat → Int32)) (f8_23 : (Nat → Int32)) (H : Heap) (locs : List Loc) (ls : Array Slot), fX7_rows_L23 p2 mch mlf mn mcf r7 mif (fX7_rows_X23 p2 mch) n23 x6_23 f0_23 f8_23 = some r → va_P (dC, dI) vwCl [(q3, .inl (cI, (p2 * mch).toNatClampNeg, .inl f0_23)), (o, .inr (6, [.int mth, .int mn, .int mch, .ref oc, .ref oi, .int mcl, .ref ol, .int mgo, .int mmo, .ref ob])), (oc, .inl (cI, 14, .inl mcf)), (oi, .inl (cI, 3, .inl mif)), (ol, .inl (cI, 24, .inl mlf)), (ob, .inl (cI, mbn, .inl mbf)), (pa, .inl (cI, pan, .inl paf)), (i6, .inl (cI, r4.2, .inl r4.1)), (i9, .inl (cI, r7.2, .inl f8_23))] H → va_D A [(q3, .inl (cI, (p2 * mch).toNatClampNeg, .inl f0_23)), (o, .inr (6, [.int mth, .int mn, .int mch, .ref oc, .ref oi, .int mcl, .ref ol, .int mgo, .int mmo, .ref ob])), (oc, .inl (cI, 14, .inl mcf)), (oi, .inl (cI, 3, .inl mif)), (ol, .inl (cI, 24, .inl mlf)), (ob, .inl (cI, mbn, .inl mbf)), (pa, .inl (cI, pan, .inl paf)), (i6, .inl (cI, r4.2, .inl r4.1)), (i9, .inl (cI, r7.2, .inl f8_23))] → va_S A s.heap H locs → lv_has ls 11 [(6, .int x6_23), (5, .ref i9), (4, .ref q3), (0, .ref o), (1, .ref pa), (2, .ref ol), (3, .int p2)] → W p l e rmX7_rows s m ([.ref o, .ref pa, .ref ol, .int p2] : List Value).toArray below meth c H locs 3 350 (MQ below (ct_Q (dC, dI) tys (fun i : Nat => some (.ref i)) (fun i : Nat => [(o, .inr (6, [.int mth, .int mn, .int mch, .ref oc, .ref oi, .int mcl, .ref ol, .int mgo, .int mmo, .ref ob])), (oc, .inl (cI, 14, .inl mcf)), (oi, .inl (cI, 3, .inl mif)), (ol, .inl (cI, 24, .inl mlf)), (ob, .inl (cI, mbn, .inl mbf)), (pa, .inl (cI, pan, .inl paf)), (i, .inl (cI, r.2, .inl r.1))]) A) ([.ref o, .ref pa, .ref ol, .int p2] : List Value).toArray s rmX7_rows.cells rmX7_rows.slots A) (F0 m 23 ls []) := by
    intro n23
    induction n23 with
    | zero => intro x6_23 f0_23 f8_23 H locs ls hF; rw [fX7_rows_L23] at hF; cases hF
    | succ n23 ih23 =>
      intro x6_23 f0_23 f8_23 H locs ls hF hP hD hS hl
      rw [fX7_rows_L23] at hF
      refine lv_iload hx hb dX7_rows_23 (lv_at hl 0 rfl) ?_
      refine lv_aload hx hb dX7_rows_25 (lv_at hl 2 rfl) ?_
      refine va_alen hx hb hK hP 0 0 rfl ht0 (v := Int32.ofNat ((p2 * mch).toNatClampNeg)) rfl dX7_rows_27 ?_
      refine lv_icmp_ge (tgt := 166) hx hb dX7_rows_28 (by decide) (fun c10 => ?_) (fun c10 => ?_)
      · have hF := (if_pos c10).symm.trans hF
        exact X23 x6_23 f0_23 f8_23 _ _ _ hF (hP.sub [0, 1, 2, 3, 4, 5, 6, 7, 8] rfl) (hD.sub [0, 1, 2, 3, 4, 5, 6, 7, 8] (by decide) rfl) hS (lv_sub hl [0, 1, 2, 3, 4, 5, 6] rfl)
      · have hF := (if_neg c10).symm.trans hF
        refine lv_aload_n hx hb dX7_rows_31 rfl (lv_at hl 5 rfl) ?_
        refine lv_iload hx hb dX7_rows_32 (lv_at hl 0 rfl) ?_
        refine lv_aload_n hx hb dX7_rows_34 rfl (lv_at hl 3 rfl) ?_
        refine va_get (D := (dC, dI)) (ci := 6) (v := .int mch) (C := RX7) (T := TX7) (N := 10) hx hb hts uX7 hown hK hP 1 rfl rfl 2 (by decide) w1 (fun _ h9 => h9) rfl dX7_rows_35 ?_
        obtain ⟨g11, hF⟩ := gd_n hF
        refine lv_idiv hx hb dX7_rows_38 g11 ?_
        obtain ⟨g12, hF⟩ := gd_n hF
        refine va_iald hx hb hK hP 4 0 rfl ht0 g12 dX7_rows_39 ?_
        refine lv_istore (lv' := [(7, .int (mlf (x6_23 / mch).toNatClampNeg)), (6, .int x6_23), (5, .ref i9), (4, .ref q3), (0, .ref o), (1, .ref pa), (2, .ref ol), (3, .int p2)]) hx hb dX7_rows_40 hl (by decide) rfl (fun ls hl => ?_)
        refine lv_iload hx hb dX7_rows_42 (lv_at hl 1 rfl) ?_
        refine lv_aload_n hx hb dX7_rows_44 rfl (lv_at hl 4 rfl) ?_
        refine va_get (D := (dC, dI)) (ci := 6) (v := .int mch) (C := RX7) (T := TX7) (N := 10) hx hb hts uX7 hown hK hP 1 rfl rfl 2 (by decide) w1 (fun _ h9 => h9) rfl dX7_rows_45 ?_
        obtain ⟨g13, hF⟩ := gd_n hF
        refine lv_irem hx hb dX7_rows_48 g13 ?_
        refine lv_aload_n hx hb dX7_rows_49 rfl (lv_at hl 4 rfl) ?_
        refine va_get (D := (dC, dI)) (ci := 6) (v := .int mch) (C := RX7) (T := TX7) (N := 10) hx hb hts uX7 hown hK hP 1 rfl rfl 2 (by decide) w1 (fun _ h9 => h9) rfl dX7_rows_50 ?_
        refine lv_iconst (v := (1 : Int32)) hx hb dX7_rows_53 (by decide) ?_
        refine lv_isub hx hb dX7_rows_54 ?_
        refine lv_icmp_ne (tgt := 73) hx hb dX7_rows_55 (by decide) (fun c14 => ?_) (fun c14 => ?_)
        · have hF := (if_neg c14).symm.trans hF
          refine lv_aload_n hx hb dX7_rows_73 rfl (lv_at hl 4 rfl) ?_
          refine va_get (D := (dC, dI)) (ci := 6) (v := .ref oc) (C := RX7) (T := TX7) (N := 10) hx hb hts uX7 hown hK hP 1 rfl rfl 3 (by decide) w3 (fun _ h9 => h9) rfl dX7_rows_74 ?_
          refine lv_iload hx hb dX7_rows_77 (lv_at hl 1 rfl) ?_
          refine lv_aload_n hx hb dX7_rows_79 rfl (lv_at hl 4 rfl) ?_
          refine va_get (D := (dC, dI)) (ci := 6) (v := .int mch) (C := RX7) (T := TX7) (N := 10) hx hb hts uX7 hown hK hP 1 rfl rfl 2 (by decide) w1 (fun _ h9 => h9) rfl dX7_rows_80 ?_
          obtain ⟨g15, hF⟩ := gd_n hF
          refine lv_irem hx hb dX7_rows_83 g15 ?_
          obtain ⟨g16, hF⟩ := gd_n hF
          refine va_iald hx hb hK hP 2 0 rfl ht0 g16 dX7_rows_84 ?_
          refine lv_istore (lv' := [(8, .int (mcf (x6_23 - x6_23 / mch * mch).toNatClampNeg)), (7, .int (mlf (x6_23 / mch).toNatClampNeg)), (6, .int x6_23), (5, .ref i9), (4, .ref q3), (0, .ref o), (1, .ref pa), (2, .ref ol), (3, .int p2)]) hx hb dX7_rows_85 hl (by decide) rfl (fun ls hl => ?_)
          refine lv_iconst (v := (0 : Int32)) hx hb dX7_rows_87 (by decide) ?_
          refine lv_istore (lv' := [(9, .int (0 : Int32)), (8, .int (mcf (x6_23 - x6_23 / mch * mch).toNatClampNeg)), (7, .int (mlf (x6_23 / mch).toNatClampNeg)), (6, .int x6_23), (5, .ref i9), (4, .ref q3), (0, .ref o), (1, .ref pa), (2, .ref ol), (3, .int p2)]) hx hb dX7_rows_88 hl (by decide) rfl (fun ls hl => ?_)
          have X90 : ∀ (x9_90 : Int32) (f8_90 : (Nat → Int32)) (H : Heap) (locs : List Loc) (ls : Array Slot), fX7_rows_X90 r7 x6_23 p2 mch (fX7_rows_L23 p2 mch mlf mn mcf r7 mif (fX7_rows_X23 p2 mch) n23) f0_23 x9_90 f8_90 = some r → va_P (dC, dI) vwCl [(q3, .inl (cI, (p2 * mch).toNatClampNeg, .inl f0_23)), (o, .inr (6, [.int mth, .int mn, .int mch, .ref oc, .ref oi, .int mcl, .ref ol, .int mgo, .int mmo, .ref ob])), (oc, .inl (cI, 14, .inl mcf)), (oi, .inl (cI, 3, .inl mif)), (ol, .inl (cI, 24, .inl mlf)), (ob, .inl (cI, mbn, .inl mbf)), (pa, .inl (cI, pan, .inl paf)), (i6, .inl (cI, r4.2, .inl r4.1)), (i9, .inl (cI, r7.2, .inl f8_90))] H → va_D A [(q3, .inl (cI, (p2 * mch).toNatClampNeg, .inl f0_23)), (o, .inr (6, [.int mth, .int mn, .int mch, .ref oc, .ref oi, .int mcl, .ref ol, .int mgo, .int mmo, .ref ob])), (oc, .inl (cI, 14, .inl mcf)), (oi, .inl (cI, 3, .inl mif)), (ol, .inl (cI, 24, .inl mlf)), (ob, .inl (cI, mbn, .inl mbf)), (pa, .inl (cI, pan, .inl paf)), (i6, .inl (cI, r4.2, .inl r4.1)), (i9, .inl (cI, r7.2, .inl f8_90))] → va_S A s.heap H locs → lv_has ls 11 [(9, .int x9_90), (8, .int (mcf (x6_23 - x6_23 / mch * mch).toNatClampNeg)), (7, .int (mlf (x6_23 / mch).toNatClampNeg)), (6, .int x6_23), (5, .ref i9), (4, .ref q3), (0, .ref o), (1, .ref pa), (2, .ref ol), (3, .int p2)] → W p l e rmX7_rows s m ([.ref o, .ref pa, .ref ol, .int p2] : List Value).toArray below meth c H locs 3 350 (MQ below (ct_Q (dC, dI) tys (fun i : Nat => some (.ref i)) (fun i : Nat => [(o, .inr (6, [.int mth, .int mn, .int mch, .ref oc, .ref oi, .int mcl, .ref ol, .int mgo, .int mmo, .ref ob])), (oc, .inl (cI, 14, .inl mcf)), (oi, .inl (cI, 3, .inl mif)), (ol, .inl (cI, 24, .inl mlf)), (ob, .inl (cI, mbn, .inl mbf)), (pa, .inl (cI, pan, .inl paf)), (i, .inl (cI, r.2, .inl r.1))]) A) ([.ref o, .ref pa, .ref ol, .int p2] : List Value).toArray s rmX7_rows.cells rmX7_rows.slots A) (F0 m 150 ls []) := by
            intro x9_90 f8_90 H locs ls hF hP hD hS hl
            unfold fX7_rows_X90 at hF
            refine lv_aload hx hb dX7_rows_150 (lv_at hl 5 rfl) ?_
            refine lv_iload hx hb dX7_rows_152 (lv_at hl 3 rfl) ?_
            refine lv_aload hx hb dX7_rows_154 (lv_at hl 4 rfl) ?_
            obtain ⟨r17, hC18, hF⟩ := gd_b hF
            refine ct_callS (As := [.ref i9]) (rest := [.int x6_23, .ref q3]) ⟨hx, hb, hml, hown, hts⟩ (kX7_number l dC dI tys cI ht0 i9 r7.2 f8_90 r17 hC18) (va_cwS 1 hts gX7_rows_X7_number rfl rfl rfl (by decide +kernel) ⟨Nat.le_of_ble_eq_true rfl, Nat.le_of_ble_eq_true rfl⟩) hE hK hP hD hS hA [8] [0, 1, 2, 3, 4, 5, 6, 7] (by decide) rfl (by decide) (wr := [(q3, .inl (cI, (p2 * mch).toNatClampNeg, .inl f0_23)), (o, .inr (6, [.int mth, .int mn, .int mch, .ref oc, .ref oi, .int mcl, .ref ol, .int mgo, .int mmo, .ref ob])), (oc, .inl (cI, 14, .inl mcf)), (oi, .inl (cI, 3, .inl mif)), (ol, .inl (cI, 24, .inl mlf)), (ob, .inl (cI, mbn, .inl mbf)), (pa, .inl (cI, pan, .inl paf)), (i6, .inl (cI, r4.2, .inl r4.1))]) rfl (by decide) hl.1 rfl rfl (Nat.le_of_ble_eq_true rfl) dX7_rows_156 ⟨(Nat.le_of_ble_eq_true rfl), (Nat.le_of_ble_eq_true rfl)⟩ (fun i19 H locs hP hD hS => ?_)
            have hP : va_P (dC, dI) vwCl [(q3, .inl (cI, (p2 * mch).toNatClampNeg, .inl f0_23)), (o, .inr (6, [.int mth, .int mn, .int mch, .ref oc, .ref oi, .int mcl, .ref ol, .int mgo, .int mmo, .ref ob])), (oc, .inl (cI, 14, .inl mcf)), (oi, .inl (cI, 3, .inl mif)), (ol, .inl (cI, 24, .inl mlf)), (ob, .inl (cI, mbn, .inl mbf)), (pa, .inl (cI, pan, .inl paf)), (i6, .inl (cI, r4.2, .inl r4.1)), (i9, .inl (cI, r7.2, .inl f8_90))] H := hP
            have hD : va_D A [(q3, .inl (cI, (p2 * mch).toNatClampNeg, .inl f0_23)), (o, .inr (6, [.int mth, .int mn, .int mch, .ref oc, .ref oi, .int mcl, .ref ol, .int mgo, .int mmo, .ref ob])), (oc, .inl (cI, 14, .inl mcf)), (oi, .inl (cI, 3, .inl mif)), (ol, .inl (cI, 24, .inl mlf)), (ob, .inl (cI, mbn, .inl mbf)), (pa, .inl (cI, pan, .inl paf)), (i6, .inl (cI, r4.2, .inl r4.1)), (i9, .inl (cI, r7.2, .inl f8_90))] := hD
            obtain ⟨g20, hF⟩ := gd_n hF
            refine va_iast hx hb hK hP hD hS 0 0 rfl ht0 g20 dX7_rows_159 (fun H locs hP hD hS => ?_)
            have hP : va_P (dC, dI) vwCl [(q3, .inl (cI, (p2 * mch).toNatClampNeg, .inl (upd f0_23 x6_23.toNatClampNeg r17))), (o, .inr (6, [.int mth, .int mn, .int mch, .ref oc, .ref oi, .int mcl, .ref ol, .int mgo, .int mmo, .ref ob])), (oc, .inl (cI, 14, .inl mcf)), (oi, .inl (cI, 3, .inl mif)), (ol, .inl (cI, 24, .inl mlf)), (ob, .inl (cI, mbn, .inl mbf)), (pa, .inl (cI, pan, .inl paf)), (i6, .inl (cI, r4.2, .inl r4.1)), (i9, .inl (cI, r7.2, .inl f8_90))] H := hP
            have hD : va_D A [(q3, .inl (cI, (p2 * mch).toNatClampNeg, .inl (upd f0_23 x6_23.toNatClampNeg r17))), (o, .inr (6, [.int mth, .int mn, .int mch, .ref oc, .ref oi, .int mcl, .ref ol, .int mgo, .int mmo, .ref ob])), (oc, .inl (cI, 14, .inl mcf)), (oi, .inl (cI, 3, .inl mif)), (ol, .inl (cI, 24, .inl mlf)), (ob, .inl (cI, mbn, .inl mbf)), (pa, .inl (cI, pan, .inl paf)), (i6, .inl (cI, r4.2, .inl r4.1)), (i9, .inl (cI, r7.2, .inl f8_90))] := hD
            refine lv_iinc (v := x6_23 + (1 : Int32)) (lv' := [(6, .int (x6_23 + (1 : Int32))), (9, .int x9_90), (8, .int (mcf (x6_23 - x6_23 / mch * mch).toNatClampNeg)), (7, .int (mlf (x6_23 / mch).toNatClampNeg)), (5, .ref i9), (4, .ref q3), (0, .ref o), (1, .ref pa), (2, .ref ol), (3, .int p2)]) hx hb dX7_rows_160 hl (k := 3) rfl rfl (by decide) rfl (fun ls hl => ?_)
            refine lv_goto (tgt := 23) hx hb dX7_rows_163 (by decide) ?_
            exact ih23 (x6_23 + (1 : Int32)) (upd f0_23 x6_23.toNatClampNeg r17) f8_90 _ _ _ hF (hP.sub [0, 1, 2, 3, 4, 5, 6, 7, 8] rfl) (hD.sub [0, 1, 2, 3, 4, 5, 6, 7, 8] (by decide) rfl) hS (lv_sub hl [0, 4, 5, 6, 7, 8, 9] rfl)
          have L90 : ∀ (n90 : Nat) (x9_90 : Int32) (f8_90 : (Nat → Int32)) (H : Heap) (locs : List Loc) (ls : Array Slot), fX7_rows_L90 mn mcf x6_23 mch r7 (fX7_rows_X90 r7 x6_23 p2 mch (fX7_rows_L23 p2 mch mlf mn mcf r7 mif (fX7_rows_X23 p2 mch) n23) f0_23) n90 x9_90 f8_90 = some r → va_P (dC, dI) vwCl [(q3, .inl (cI, (p2 * mch).toNatClampNeg, .inl f0_23)), (o, .inr (6, [.int mth, .int mn, .int mch, .ref oc, .ref oi, .int mcl, .ref ol, .int mgo, .int mmo, .ref ob])), (oc, .inl (cI, 14, .inl mcf)), (oi, .inl (cI, 3, .inl mif)), (ol, .inl (cI, 24, .inl mlf)), (ob, .inl (cI, mbn, .inl mbf)), (pa, .inl (cI, pan, .inl paf)), (i6, .inl (cI, r4.2, .inl r4.1)), (i9, .inl (cI, r7.2, .inl f8_90))] H → va_D A [(q3, .inl (cI, (p2 * mch).toNatClampNeg, .inl f0_23)), (o, .inr (6, [.int mth, .int mn, .int mch, .ref oc, .ref oi, .int mcl, .ref ol, .int mgo, .int mmo, .ref ob])), (oc, .inl (cI, 14, .inl mcf)), (oi, .inl (cI, 3, .inl mif)), (ol, .inl (cI, 24, .inl mlf)), (ob, .inl (cI, mbn, .inl mbf)), (pa, .inl (cI, pan, .inl paf)), (i6, .inl (cI, r4.2, .inl r4.1)), (i9, .inl (cI, r7.2, .inl f8_90))] → va_S A s.heap H locs → lv_has ls 11 [(9, .int x9_90), (8, .int (mcf (x6_23 - x6_23 / mch * mch).toNatClampNeg)), (7, .int (mlf (x6_23 / mch).toNatClampNeg)), (6, .int x6_23), (5, .ref i9), (4, .ref q3), (0, .ref o), (1, .ref pa), (2, .ref ol), (3, .int p2)] → W p l e rmX7_rows s m ([.ref o, .ref pa, .ref ol, .int p2] : List Value).toArray below meth c H locs 3 350 (MQ below (ct_Q (dC, dI) tys (fun i : Nat => some (.ref i)) (fun i : Nat => [(o, .inr (6, [.int mth, .int mn, .int mch, .ref oc, .ref oi, .int mcl, .ref ol, .int mgo, .int mmo, .ref ob])), (oc, .inl (cI, 14, .inl mcf)), (oi, .inl (cI, 3, .inl mif)), (ol, .inl (cI, 24, .inl mlf)), (ob, .inl (cI, mbn, .inl mbf)), (pa, .inl (cI, pan, .inl paf)), (i, .inl (cI, r.2, .inl r.1))]) A) ([.ref o, .ref pa, .ref ol, .int p2] : List Value).toArray s rmX7_rows.cells rmX7_rows.slots A) (F0 m 90 ls []) := by
            intro n90
            induction n90 with
            | zero => intro x9_90 f8_90 H locs ls hF; rw [fX7_rows_L90] at hF; cases hF
            | succ n90 ih90 =>
              intro x9_90 f8_90 H locs ls hF hP hD hS hl
              rw [fX7_rows_L90] at hF
              refine lv_iload hx hb dX7_rows_90 (lv_at hl 0 rfl) ?_
              refine lv_iconst (v := (1 : Int32)) hx hb dX7_rows_92 (by decide) ?_
              refine lv_iadd hx hb dX7_rows_93 ?_
              refine lv_aload_n hx hb dX7_rows_94 rfl (lv_at hl 6 rfl) ?_
              refine va_get (D := (dC, dI)) (ci := 6) (v := .int mn) (C := RX7) (T := TX7) (N := 10) hx hb hts uX7 hown hK hP 1 rfl rfl 1 (by decide) w4 (fun _ h9 => h9) rfl dX7_rows_95 ?_
              refine lv_icmp_ge (tgt := 150) hx hb dX7_rows_98 (by decide) (fun c21 => ?_) (fun c21 => ?_)
              · have hF := (if_pos c21).symm.trans hF
                exact X90 x9_90 f8_90 _ _ _ hF (hP.sub [0, 1, 2, 3, 4, 5, 6, 7, 8] rfl) (hD.sub [0, 1, 2, 3, 4, 5, 6, 7, 8] (by decide) rfl) hS (lv_sub hl [0, 1, 2, 3, 4, 5, 6, 7, 8, 9] rfl)
              · have hF := (if_neg c21).symm.trans hF
                refine lv_iload hx hb dX7_rows_101 (lv_at hl 1 rfl) ?_
                refine lv_iload hx hb dX7_rows_103 (lv_at hl 0 rfl) ?_
                refine lv_ishr hx hb dX7_rows_105 ?_
                refine lv_iconst (v := (1 : Int32)) hx hb dX7_rows_106 (by decide) ?_
                refine lv_iand hx hb dX7_rows_107 ?_
                refine lv_iconst (v := (1 : Int32)) hx hb dX7_rows_108 (by decide) ?_
                refine lv_icmp_ne (tgt := 115) hx hb dX7_rows_109 (by decide) (fun c22 => ?_) (fun c22 => ?_)
                · have hF := (if_neg c22).symm.trans hF
                  refine lv_aload hx hb dX7_rows_115 (lv_at hl 4 rfl) ?_
                  refine lv_iload hx hb dX7_rows_117 (lv_at hl 0 rfl) ?_
                  obtain ⟨g23, hF⟩ := gd_n hF
                  refine va_iald hx hb hK hP 8 0 rfl ht0 g23 dX7_rows_119 ?_
                  refine lv_istore (lv' := [(10, .int (f8_90 x9_90.toNatClampNeg)), (9, .int x9_90), (8, .int (mcf (x6_23 - x6_23 / mch * mch).toNatClampNeg)), (7, .int (mlf (x6_23 / mch).toNatClampNeg)), (6, .int x6_23), (5, .ref i9), (4, .ref q3), (0, .ref o), (1, .ref pa), (2, .ref ol), (3, .int p2)]) hx hb dX7_rows_120 hl (by decide) rfl (fun ls hl => ?_)
                  refine lv_aload hx hb dX7_rows_122 (lv_at hl 5 rfl) ?_
                  refine lv_iload hx hb dX7_rows_124 (lv_at hl 1 rfl) ?_
                  refine lv_aload hx hb dX7_rows_126 (lv_at hl 5 rfl) ?_
                  refine lv_iload hx hb dX7_rows_128 (lv_at hl 1 rfl) ?_
                  refine lv_iconst (v := (1 : Int32)) hx hb dX7_rows_130 (by decide) ?_
                  refine lv_iadd hx hb dX7_rows_131 ?_
                  obtain ⟨g24, hF⟩ := gd_n hF
                  refine va_iald hx hb hK hP 8 0 rfl ht0 g24 dX7_rows_132 ?_
                  obtain ⟨g25, hF⟩ := gd_n hF
                  refine va_iast hx hb hK hP hD hS 8 0 rfl ht0 g25 dX7_rows_133 (fun H locs hP hD hS => ?_)
                  have hP : va_P (dC, dI) vwCl [(q3, .inl (cI, (p2 * mch).toNatClampNeg, .inl f0_23)), (o, .inr (6, [.int mth, .int mn, .int mch, .ref oc, .ref oi, .int mcl, .ref ol, .int mgo, .int mmo, .ref ob])), (oc, .inl (cI, 14, .inl mcf)), (oi, .inl (cI, 3, .inl mif)), (ol, .inl (cI, 24, .inl mlf)), (ob, .inl (cI, mbn, .inl mbf)), (pa, .inl (cI, pan, .inl paf)), (i6, .inl (cI, r4.2, .inl r4.1)), (i9, .inl (cI, r7.2, .inl (upd f8_90 x9_90.toNatClampNeg (f8_90 (x9_90 + (1 : Int32)).toNatClampNeg))))] H := hP
                  have hD : va_D A [(q3, .inl (cI, (p2 * mch).toNatClampNeg, .inl f0_23)), (o, .inr (6, [.int mth, .int mn, .int mch, .ref oc, .ref oi, .int mcl, .ref ol, .int mgo, .int mmo, .ref ob])), (oc, .inl (cI, 14, .inl mcf)), (oi, .inl (cI, 3, .inl mif)), (ol, .inl (cI, 24, .inl mlf)), (ob, .inl (cI, mbn, .inl mbf)), (pa, .inl (cI, pan, .inl paf)), (i6, .inl (cI, r4.2, .inl r4.1)), (i9, .inl (cI, r7.2, .inl (upd f8_90 x9_90.toNatClampNeg (f8_90 (x9_90 + (1 : Int32)).toNatClampNeg))))] := hD
                  refine lv_aload hx hb dX7_rows_134 (lv_at hl 5 rfl) ?_
                  refine lv_iinc (v := x9_90 + (1 : Int32)) (lv' := [(9, .int (x9_90 + (1 : Int32))), (10, .int (f8_90 x9_90.toNatClampNeg)), (8, .int (mcf (x6_23 - x6_23 / mch * mch).toNatClampNeg)), (7, .int (mlf (x6_23 / mch).toNatClampNeg)), (6, .int x6_23), (5, .ref i9), (4, .ref q3), (0, .ref o), (1, .ref pa), (2, .ref ol), (3, .int p2)]) hx hb dX7_rows_136 hl (k := 1) rfl rfl (by decide) rfl (fun ls hl => ?_)
                  refine lv_iload hx hb dX7_rows_139 (lv_at hl 0 rfl) ?_
                  refine lv_iload hx hb dX7_rows_141 (lv_at hl 1 rfl) ?_
                  obtain ⟨g26, hF⟩ := gd_n hF
                  refine va_iast hx hb hK hP hD hS 8 0 rfl ht0 g26 dX7_rows_143 (fun H locs hP hD hS => ?_)
                  have hP : va_P (dC, dI) vwCl [(q3, .inl (cI, (p2 * mch).toNatClampNeg, .inl f0_23)), (o, .inr (6, [.int mth, .int mn, .int mch, .ref oc, .ref oi, .int mcl, .ref ol, .int mgo, .int mmo, .ref ob])), (oc, .inl (cI, 14, .inl mcf)), (oi, .inl (cI, 3, .inl mif)), (ol, .inl (cI, 24, .inl mlf)), (ob, .inl (cI, mbn, .inl mbf)), (pa, .inl (cI, pan, .inl paf)), (i6, .inl (cI, r4.2, .inl r4.1)), (i9, .inl (cI, r7.2, .inl (upd (upd f8_90 x9_90.toNatClampNeg (f8_90 (x9_90 + (1 : Int32)).toNatClampNeg)) (x9_90 + (1 : Int32)).toNatClampNeg (f8_90 x9_90.toNatClampNeg))))] H := hP
                  have hD : va_D A [(q3, .inl (cI, (p2 * mch).toNatClampNeg, .inl f0_23)), (o, .inr (6, [.int mth, .int mn, .int mch, .ref oc, .ref oi, .int mcl, .ref ol, .int mgo, .int mmo, .ref ob])), (oc, .inl (cI, 14, .inl mcf)), (oi, .inl (cI, 3, .inl mif)), (ol, .inl (cI, 24, .inl mlf)), (ob, .inl (cI, mbn, .inl mbf)), (pa, .inl (cI, pan, .inl paf)), (i6, .inl (cI, r4.2, .inl r4.1)), (i9, .inl (cI, r7.2, .inl (upd (upd f8_90 x9_90.toNatClampNeg (f8_90 (x9_90 + (1 : Int32)).toNatClampNeg)) (x9_90 + (1 : Int32)).toNatClampNeg (f8_90 x9_90.toNatClampNeg))))] := hD
                  refine lv_iinc (v := (x9_90 + (1 : Int32)) + (1 : Int32)) (lv' := [(9, .int ((x9_90 + (1 : Int32)) + (1 : Int32))), (10, .int (f8_90 x9_90.toNatClampNeg)), (8, .int (mcf (x6_23 - x6_23 / mch * mch).toNatClampNeg)), (7, .int (mlf (x6_23 / mch).toNatClampNeg)), (6, .int x6_23), (5, .ref i9), (4, .ref q3), (0, .ref o), (1, .ref pa), (2, .ref ol), (3, .int p2)]) hx hb dX7_rows_144 hl (k := 0) rfl rfl (by decide) rfl (fun ls hl => ?_)
                  refine lv_goto (tgt := 90) hx hb dX7_rows_147 (by decide) ?_
                  exact ih90 ((x9_90 + (1 : Int32)) + (1 : Int32)) (upd (upd f8_90 x9_90.toNatClampNeg (f8_90 (x9_90 + (1 : Int32)).toNatClampNeg)) (x9_90 + (1 : Int32)).toNatClampNeg (f8_90 x9_90.toNatClampNeg)) _ _ _ hF (hP.sub [0, 1, 2, 3, 4, 5, 6, 7, 8] rfl) (hD.sub [0, 1, 2, 3, 4, 5, 6, 7, 8] (by decide) rfl) hS (lv_sub hl [0, 2, 3, 4, 5, 6, 7, 8, 9, 10] rfl)
                · have hF := (if_pos c22).symm.trans hF
                  refine lv_goto (tgt := 144) hx hb dX7_rows_112 (by decide) ?_
                  refine lv_iinc (v := x9_90 + (1 : Int32)) (lv' := [(9, .int (x9_90 + (1 : Int32))), (8, .int (mcf (x6_23 - x6_23 / mch * mch).toNatClampNeg)), (7, .int (mlf (x6_23 / mch).toNatClampNeg)), (6, .int x6_23), (5, .ref i9), (4, .ref q3), (0, .ref o), (1, .ref pa), (2, .ref ol), (3, .int p2)]) hx hb dX7_rows_144 hl (k := 0) rfl rfl (by decide) rfl (fun ls hl => ?_)
                  refine lv_goto (tgt := 90) hx hb dX7_rows_147 (by decide) ?_
                  exact ih90 (x9_90 + (1 : Int32)) f8_90 _ _ _ hF (hP.sub [0, 1, 2, 3, 4, 5, 6, 7, 8] rfl) (hD.sub [0, 1, 2, 3, 4, 5, 6, 7, 8] (by decide) rfl) hS (lv_sub hl [0, 1, 2, 3, 4, 5, 6, 7, 8, 9] rfl)
          exact L90 1000 (0 : Int32) f8_23 _ _ _ hF (hP.sub [0, 1, 2, 3, 4, 5, 6, 7, 8] rfl) (hD.sub [0, 1, 2, 3, 4, 5, 6, 7, 8] (by decide) rfl) hS (lv_sub hl [0, 1, 2, 3, 4, 5, 6, 7, 8, 9] rfl)
        · have hF := (if_pos c14).symm.trans hF
          refine lv_iload hx hb dX7_rows_58 (lv_at hl 0 rfl) ?_
          refine lv_if_le (tgt := 73) hx hb dX7_rows_60 (by decide) (fun c27 => ?_) (fun c27 => ?_)
          · have hF := (if_pos c27).symm.trans hF
            refine lv_aload_n hx hb dX7_rows_73 rfl (lv_at hl 4 rfl) ?_
            refine va_get (D := (dC, dI)) (ci := 6) (v := .ref oc) (C := RX7) (T := TX7) (N := 10) hx hb hts uX7 hown hK hP 1 rfl rfl 3 (by decide) w3 (fun _ h9 => h9) rfl dX7_rows_74 ?_
            refine lv_iload hx hb dX7_rows_77 (lv_at hl 1 rfl) ?_
            refine lv_aload_n hx hb dX7_rows_79 rfl (lv_at hl 4 rfl) ?_
            refine va_get (D := (dC, dI)) (ci := 6) (v := .int mch) (C := RX7) (T := TX7) (N := 10) hx hb hts uX7 hown hK hP 1 rfl rfl 2 (by decide) w1 (fun _ h9 => h9) rfl dX7_rows_80 ?_
            obtain ⟨g28, hF⟩ := gd_n hF
            refine lv_irem hx hb dX7_rows_83 g28 ?_
            obtain ⟨g29, hF⟩ := gd_n hF
            refine va_iald hx hb hK hP 2 0 rfl ht0 g29 dX7_rows_84 ?_
            refine lv_istore (lv' := [(8, .int (mcf (x6_23 - x6_23 / mch * mch).toNatClampNeg)), (7, .int (mlf (x6_23 / mch).toNatClampNeg)), (6, .int x6_23), (5, .ref i9), (4, .ref q3), (0, .ref o), (1, .ref pa), (2, .ref ol), (3, .int p2)]) hx hb dX7_rows_85 hl (by decide) rfl (fun ls hl => ?_)
            refine lv_iconst (v := (0 : Int32)) hx hb dX7_rows_87 (by decide) ?_
            refine lv_istore (lv' := [(9, .int (0 : Int32)), (8, .int (mcf (x6_23 - x6_23 / mch * mch).toNatClampNeg)), (7, .int (mlf (x6_23 / mch).toNatClampNeg)), (6, .int x6_23), (5, .ref i9), (4, .ref q3), (0, .ref o), (1, .ref pa), (2, .ref ol), (3, .int p2)]) hx hb dX7_rows_88 hl (by decide) rfl (fun ls hl => ?_)
            have X90 : ∀ (x9_90 : Int32) (f8_90 : (Nat → Int32)) (H : Heap) (locs : List Loc) (ls : Array Slot), fX7_rows_X90b r7 x6_23 p2 mch (fX7_rows_L23 p2 mch mlf mn mcf r7 mif (fX7_rows_X23 p2 mch) n23) f0_23 x9_90 f8_90 = some r → va_P (dC, dI) vwCl [(q3, .inl (cI, (p2 * mch).toNatClampNeg, .inl f0_23)), (o, .inr (6, [.int mth, .int mn, .int mch, .ref oc, .ref oi, .int mcl, .ref ol, .int mgo, .int mmo, .ref ob])), (oc, .inl (cI, 14, .inl mcf)), (oi, .inl (cI, 3, .inl mif)), (ol, .inl (cI, 24, .inl mlf)), (ob, .inl (cI, mbn, .inl mbf)), (pa, .inl (cI, pan, .inl paf)), (i6, .inl (cI, r4.2, .inl r4.1)), (i9, .inl (cI, r7.2, .inl f8_90))] H → va_D A [(q3, .inl (cI, (p2 * mch).toNatClampNeg, .inl f0_23)), (o, .inr (6, [.int mth, .int mn, .int mch, .ref oc, .ref oi, .int mcl, .ref ol, .int mgo, .int mmo, .ref ob])), (oc, .inl (cI, 14, .inl mcf)), (oi, .inl (cI, 3, .inl mif)), (ol, .inl (cI, 24, .inl mlf)), (ob, .inl (cI, mbn, .inl mbf)), (pa, .inl (cI, pan, .inl paf)), (i6, .inl (cI, r4.2, .inl r4.1)), (i9, .inl (cI, r7.2, .inl f8_90))] → va_S A s.heap H locs → lv_has ls 11 [(9, .int x9_90), (8, .int (mcf (x6_23 - x6_23 / mch * mch).toNatClampNeg)), (7, .int (mlf (x6_23 / mch).toNatClampNeg)), (6, .int x6_23), (5, .ref i9), (4, .ref q3), (0, .ref o), (1, .ref pa), (2, .ref ol), (3, .int p2)] → W p l e rmX7_rows s m ([.ref o, .ref pa, .ref ol, .int p2] : List Value).toArray below meth c H locs 3 350 (MQ below (ct_Q (dC, dI) tys (fun i : Nat => some (.ref i)) (fun i : Nat => [(o, .inr (6, [.int mth, .int mn, .int mch, .ref oc, .ref oi, .int mcl, .ref ol, .int mgo, .int mmo, .ref ob])), (oc, .inl (cI, 14, .inl mcf)), (oi, .inl (cI, 3, .inl mif)), (ol, .inl (cI, 24, .inl mlf)), (ob, .inl (cI, mbn, .inl mbf)), (pa, .inl (cI, pan, .inl paf)), (i, .inl (cI, r.2, .inl r.1))]) A) ([.ref o, .ref pa, .ref ol, .int p2] : List Value).toArray s rmX7_rows.cells rmX7_rows.slots A) (F0 m 150 ls []) := by
              intro x9_90 f8_90 H locs ls hF hP hD hS hl
              unfold fX7_rows_X90b at hF
              refine lv_aload hx hb dX7_rows_150 (lv_at hl 5 rfl) ?_
              refine lv_iload hx hb dX7_rows_152 (lv_at hl 3 rfl) ?_
              refine lv_aload hx hb dX7_rows_154 (lv_at hl 4 rfl) ?_
              obtain ⟨r30, hC31, hF⟩ := gd_b hF
              refine ct_callS (As := [.ref i9]) (rest := [.int x6_23, .ref q3]) ⟨hx, hb, hml, hown, hts⟩ (kX7_number l dC dI tys cI ht0 i9 r7.2 f8_90 r30 hC31) (va_cwS 1 hts gX7_rows_X7_number rfl rfl rfl (by decide +kernel) ⟨Nat.le_of_ble_eq_true rfl, Nat.le_of_ble_eq_true rfl⟩) hE hK hP hD hS hA [8] [0, 1, 2, 3, 4, 5, 6, 7] (by decide) rfl (by decide) (wr := [(q3, .inl (cI, (p2 * mch).toNatClampNeg, .inl f0_23)), (o, .inr (6, [.int mth, .int mn, .int mch, .ref oc, .ref oi, .int mcl, .ref ol, .int mgo, .int mmo, .ref ob])), (oc, .inl (cI, 14, .inl mcf)), (oi, .inl (cI, 3, .inl mif)), (ol, .inl (cI, 24, .inl mlf)), (ob, .inl (cI, mbn, .inl mbf)), (pa, .inl (cI, pan, .inl paf)), (i6, .inl (cI, r4.2, .inl r4.1))]) rfl (by decide) hl.1 rfl rfl (Nat.le_of_ble_eq_true rfl) dX7_rows_156 ⟨(Nat.le_of_ble_eq_true rfl), (Nat.le_of_ble_eq_true rfl)⟩ (fun i32 H locs hP hD hS => ?_)
              have hP : va_P (dC, dI) vwCl [(q3, .inl (cI, (p2 * mch).toNatClampNeg, .inl f0_23)), (o, .inr (6, [.int mth, .int mn, .int mch, .ref oc, .ref oi, .int mcl, .ref ol, .int mgo, .int mmo, .ref ob])), (oc, .inl (cI, 14, .inl mcf)), (oi, .inl (cI, 3, .inl mif)), (ol, .inl (cI, 24, .inl mlf)), (ob, .inl (cI, mbn, .inl mbf)), (pa, .inl (cI, pan, .inl paf)), (i6, .inl (cI, r4.2, .inl r4.1)), (i9, .inl (cI, r7.2, .inl f8_90))] H := hP
              have hD : va_D A [(q3, .inl (cI, (p2 * mch).toNatClampNeg, .inl f0_23)), (o, .inr (6, [.int mth, .int mn, .int mch, .ref oc, .ref oi, .int mcl, .ref ol, .int mgo, .int mmo, .ref ob])), (oc, .inl (cI, 14, .inl mcf)), (oi, .inl (cI, 3, .inl mif)), (ol, .inl (cI, 24, .inl mlf)), (ob, .inl (cI, mbn, .inl mbf)), (pa, .inl (cI, pan, .inl paf)), (i6, .inl (cI, r4.2, .inl r4.1)), (i9, .inl (cI, r7.2, .inl f8_90))] := hD
              obtain ⟨g33, hF⟩ := gd_n hF
              refine va_iast hx hb hK hP hD hS 0 0 rfl ht0 g33 dX7_rows_159 (fun H locs hP hD hS => ?_)
              have hP : va_P (dC, dI) vwCl [(q3, .inl (cI, (p2 * mch).toNatClampNeg, .inl (upd f0_23 x6_23.toNatClampNeg r30))), (o, .inr (6, [.int mth, .int mn, .int mch, .ref oc, .ref oi, .int mcl, .ref ol, .int mgo, .int mmo, .ref ob])), (oc, .inl (cI, 14, .inl mcf)), (oi, .inl (cI, 3, .inl mif)), (ol, .inl (cI, 24, .inl mlf)), (ob, .inl (cI, mbn, .inl mbf)), (pa, .inl (cI, pan, .inl paf)), (i6, .inl (cI, r4.2, .inl r4.1)), (i9, .inl (cI, r7.2, .inl f8_90))] H := hP
              have hD : va_D A [(q3, .inl (cI, (p2 * mch).toNatClampNeg, .inl (upd f0_23 x6_23.toNatClampNeg r30))), (o, .inr (6, [.int mth, .int mn, .int mch, .ref oc, .ref oi, .int mcl, .ref ol, .int mgo, .int mmo, .ref ob])), (oc, .inl (cI, 14, .inl mcf)), (oi, .inl (cI, 3, .inl mif)), (ol, .inl (cI, 24, .inl mlf)), (ob, .inl (cI, mbn, .inl mbf)), (pa, .inl (cI, pan, .inl paf)), (i6, .inl (cI, r4.2, .inl r4.1)), (i9, .inl (cI, r7.2, .inl f8_90))] := hD
              refine lv_iinc (v := x6_23 + (1 : Int32)) (lv' := [(6, .int (x6_23 + (1 : Int32))), (9, .int x9_90), (8, .int (mcf (x6_23 - x6_23 / mch * mch).toNatClampNeg)), (7, .int (mlf (x6_23 / mch).toNatClampNeg)), (5, .ref i9), (4, .ref q3), (0, .ref o), (1, .ref pa), (2, .ref ol), (3, .int p2)]) hx hb dX7_rows_160 hl (k := 3) rfl rfl (by decide) rfl (fun ls hl => ?_)
              refine lv_goto (tgt := 23) hx hb dX7_rows_163 (by decide) ?_
              exact ih23 (x6_23 + (1 : Int32)) (upd f0_23 x6_23.toNatClampNeg r30) f8_90 _ _ _ hF (hP.sub [0, 1, 2, 3, 4, 5, 6, 7, 8] rfl) (hD.sub [0, 1, 2, 3, 4, 5, 6, 7, 8] (by decide) rfl) hS (lv_sub hl [0, 4, 5, 6, 7, 8, 9] rfl)
            have L90 : ∀ (n90 : Nat) (x9_90 : Int32) (f8_90 : (Nat → Int32)) (H : Heap) (locs : List Loc) (ls : Array Slot), fX7_rows_L90b mn mcf x6_23 mch r7 (fX7_rows_X90b r7 x6_23 p2 mch (fX7_rows_L23 p2 mch mlf mn mcf r7 mif (fX7_rows_X23 p2 mch) n23) f0_23) n90 x9_90 f8_90 = some r → va_P (dC, dI) vwCl [(q3, .inl (cI, (p2 * mch).toNatClampNeg, .inl f0_23)), (o, .inr (6, [.int mth, .int mn, .int mch, .ref oc, .ref oi, .int mcl, .ref ol, .int mgo, .int mmo, .ref ob])), (oc, .inl (cI, 14, .inl mcf)), (oi, .inl (cI, 3, .inl mif)), (ol, .inl (cI, 24, .inl mlf)), (ob, .inl (cI, mbn, .inl mbf)), (pa, .inl (cI, pan, .inl paf)), (i6, .inl (cI, r4.2, .inl r4.1)), (i9, .inl (cI, r7.2, .inl f8_90))] H → va_D A [(q3, .inl (cI, (p2 * mch).toNatClampNeg, .inl f0_23)), (o, .inr (6, [.int mth, .int mn, .int mch, .ref oc, .ref oi, .int mcl, .ref ol, .int mgo, .int mmo, .ref ob])), (oc, .inl (cI, 14, .inl mcf)), (oi, .inl (cI, 3, .inl mif)), (ol, .inl (cI, 24, .inl mlf)), (ob, .inl (cI, mbn, .inl mbf)), (pa, .inl (cI, pan, .inl paf)), (i6, .inl (cI, r4.2, .inl r4.1)), (i9, .inl (cI, r7.2, .inl f8_90))] → va_S A s.heap H locs → lv_has ls 11 [(9, .int x9_90), (8, .int (mcf (x6_23 - x6_23 / mch * mch).toNatClampNeg)), (7, .int (mlf (x6_23 / mch).toNatClampNeg)), (6, .int x6_23), (5, .ref i9), (4, .ref q3), (0, .ref o), (1, .ref pa), (2, .ref ol), (3, .int p2)] → W p l e rmX7_rows s m ([.ref o, .ref pa, .ref ol, .int p2] : List Value).toArray below meth c H locs 3 350 (MQ below (ct_Q (dC, dI) tys (fun i : Nat => some (.ref i)) (fun i : Nat => [(o, .inr (6, [.int mth, .int mn, .int mch, .ref oc, .ref oi, .int mcl, .ref ol, .int mgo, .int mmo, .ref ob])), (oc, .inl (cI, 14, .inl mcf)), (oi, .inl (cI, 3, .inl mif)), (ol, .inl (cI, 24, .inl mlf)), (ob, .inl (cI, mbn, .inl mbf)), (pa, .inl (cI, pan, .inl paf)), (i, .inl (cI, r.2, .inl r.1))]) A) ([.ref o, .ref pa, .ref ol, .int p2] : List Value).toArray s rmX7_rows.cells rmX7_rows.slots A) (F0 m 90 ls []) := by
              intro n90
              induction n90 with
              | zero => intro x9_90 f8_90 H locs ls hF; rw [fX7_rows_L90b] at hF; cases hF
              | succ n90 ih90 =>
                intro x9_90 f8_90 H locs ls hF hP hD hS hl
                rw [fX7_rows_L90b] at hF
                refine lv_iload hx hb dX7_rows_90 (lv_at hl 0 rfl) ?_
                refine lv_iconst (v := (1 : Int32)) hx hb dX7_rows_92 (by decide) ?_
                refine lv_iadd hx hb dX7_rows_93 ?_
                refine lv_aload_n hx hb dX7_rows_94 rfl (lv_at hl 6 rfl) ?_
                refine va_get (D := (dC, dI)) (ci := 6) (v := .int mn) (C := RX7) (T := TX7) (N := 10) hx hb hts uX7 hown hK hP 1 rfl rfl 1 (by decide) w4 (fun _ h9 => h9) rfl dX7_rows_95 ?_
                refine lv_icmp_ge (tgt := 150) hx hb dX7_rows_98 (by decide) (fun c34 => ?_) (fun c34 => ?_)
                · have hF := (if_pos c34).symm.trans hF
                  exact X90 x9_90 f8_90 _ _ _ hF (hP.sub [0, 1, 2, 3, 4, 5, 6, 7, 8] rfl) (hD.sub [0, 1, 2, 3, 4, 5, 6, 7, 8] (by decide) rfl) hS (lv_sub hl [0, 1, 2, 3, 4, 5, 6, 7, 8, 9] rfl)
                · have hF := (if_neg c34).symm.trans hF
                  refine lv_iload hx hb dX7_rows_101 (lv_at hl 1 rfl) ?_
                  refine lv_iload hx hb dX7_rows_103 (lv_at hl 0 rfl) ?_
                  refine lv_ishr hx hb dX7_rows_105 ?_
                  refine lv_iconst (v := (1 : Int32)) hx hb dX7_rows_106 (by decide) ?_
                  refine lv_iand hx hb dX7_rows_107 ?_
                  refine lv_iconst (v := (1 : Int32)) hx hb dX7_rows_108 (by decide) ?_
                  refine lv_icmp_ne (tgt := 115) hx hb dX7_rows_109 (by decide) (fun c35 => ?_) (fun c35 => ?_)
                  · have hF := (if_neg c35).symm.trans hF
                    refine lv_aload hx hb dX7_rows_115 (lv_at hl 4 rfl) ?_
                    refine lv_iload hx hb dX7_rows_117 (lv_at hl 0 rfl) ?_
                    obtain ⟨g36, hF⟩ := gd_n hF
                    refine va_iald hx hb hK hP 8 0 rfl ht0 g36 dX7_rows_119 ?_
                    refine lv_istore (lv' := [(10, .int (f8_90 x9_90.toNatClampNeg)), (9, .int x9_90), (8, .int (mcf (x6_23 - x6_23 / mch * mch).toNatClampNeg)), (7, .int (mlf (x6_23 / mch).toNatClampNeg)), (6, .int x6_23), (5, .ref i9), (4, .ref q3), (0, .ref o), (1, .ref pa), (2, .ref ol), (3, .int p2)]) hx hb dX7_rows_120 hl (by decide) rfl (fun ls hl => ?_)
                    refine lv_aload hx hb dX7_rows_122 (lv_at hl 5 rfl) ?_
                    refine lv_iload hx hb dX7_rows_124 (lv_at hl 1 rfl) ?_
                    refine lv_aload hx hb dX7_rows_126 (lv_at hl 5 rfl) ?_
                    refine lv_iload hx hb dX7_rows_128 (lv_at hl 1 rfl) ?_
                    refine lv_iconst (v := (1 : Int32)) hx hb dX7_rows_130 (by decide) ?_
                    refine lv_iadd hx hb dX7_rows_131 ?_
                    obtain ⟨g37, hF⟩ := gd_n hF
                    refine va_iald hx hb hK hP 8 0 rfl ht0 g37 dX7_rows_132 ?_
                    obtain ⟨g38, hF⟩ := gd_n hF
                    refine va_iast hx hb hK hP hD hS 8 0 rfl ht0 g38 dX7_rows_133 (fun H locs hP hD hS => ?_)
                    have hP : va_P (dC, dI) vwCl [(q3, .inl (cI, (p2 * mch).toNatClampNeg, .inl f0_23)), (o, .inr (6, [.int mth, .int mn, .int mch, .ref oc, .ref oi, .int mcl, .ref ol, .int mgo, .int mmo, .ref ob])), (oc, .inl (cI, 14, .inl mcf)), (oi, .inl (cI, 3, .inl mif)), (ol, .inl (cI, 24, .inl mlf)), (ob, .inl (cI, mbn, .inl mbf)), (pa, .inl (cI, pan, .inl paf)), (i6, .inl (cI, r4.2, .inl r4.1)), (i9, .inl (cI, r7.2, .inl (upd f8_90 x9_90.toNatClampNeg (f8_90 (x9_90 + (1 : Int32)).toNatClampNeg))))] H := hP
                    have hD : va_D A [(q3, .inl (cI, (p2 * mch).toNatClampNeg, .inl f0_23)), (o, .inr (6, [.int mth, .int mn, .int mch, .ref oc, .ref oi, .int mcl, .ref ol, .int mgo, .int mmo, .ref ob])), (oc, .inl (cI, 14, .inl mcf)), (oi, .inl (cI, 3, .inl mif)), (ol, .inl (cI, 24, .inl mlf)), (ob, .inl (cI, mbn, .inl mbf)), (pa, .inl (cI, pan, .inl paf)), (i6, .inl (cI, r4.2, .inl r4.1)), (i9, .inl (cI, r7.2, .inl (upd f8_90 x9_90.toNatClampNeg (f8_90 (x9_90 + (1 : Int32)).toNatClampNeg))))] := hD
                    refine lv_aload hx hb dX7_rows_134 (lv_at hl 5 rfl) ?_
                    refine lv_iinc (v := x9_90 + (1 : Int32)) (lv' := [(9, .int (x9_90 + (1 : Int32))), (10, .int (f8_90 x9_90.toNatClampNeg)), (8, .int (mcf (x6_23 - x6_23 / mch * mch).toNatClampNeg)), (7, .int (mlf (x6_23 / mch).toNatClampNeg)), (6, .int x6_23), (5, .ref i9), (4, .ref q3), (0, .ref o), (1, .ref pa), (2, .ref ol), (3, .int p2)]) hx hb dX7_rows_136 hl (k := 1) rfl rfl (by decide) rfl (fun ls hl => ?_)
                    refine lv_iload hx hb dX7_rows_139 (lv_at hl 0 rfl) ?_
                    refine lv_iload hx hb dX7_rows_141 (lv_at hl 1 rfl) ?_
                    obtain ⟨g39, hF⟩ := gd_n hF
                    refine va_iast hx hb hK hP hD hS 8 0 rfl ht0 g39 dX7_rows_143 (fun H locs hP hD hS => ?_)
                    have hP : va_P (dC, dI) vwCl [(q3, .inl (cI, (p2 * mch).toNatClampNeg, .inl f0_23)), (o, .inr (6, [.int mth, .int mn, .int mch, .ref oc, .ref oi, .int mcl, .ref ol, .int mgo, .int mmo, .ref ob])), (oc, .inl (cI, 14, .inl mcf)), (oi, .inl (cI, 3, .inl mif)), (ol, .inl (cI, 24, .inl mlf)), (ob, .inl (cI, mbn, .inl mbf)), (pa, .inl (cI, pan, .inl paf)), (i6, .inl (cI, r4.2, .inl r4.1)), (i9, .inl (cI, r7.2, .inl (upd (upd f8_90 x9_90.toNatClampNeg (f8_90 (x9_90 + (1 : Int32)).toNatClampNeg)) (x9_90 + (1 : Int32)).toNatClampNeg (f8_90 x9_90.toNatClampNeg))))] H := hP
                    have hD : va_D A [(q3, .inl (cI, (p2 * mch).toNatClampNeg, .inl f0_23)), (o, .inr (6, [.int mth, .int mn, .int mch, .ref oc, .ref oi, .int mcl, .ref ol, .int mgo, .int mmo, .ref ob])), (oc, .inl (cI, 14, .inl mcf)), (oi, .inl (cI, 3, .inl mif)), (ol, .inl (cI, 24, .inl mlf)), (ob, .inl (cI, mbn, .inl mbf)), (pa, .inl (cI, pan, .inl paf)), (i6, .inl (cI, r4.2, .inl r4.1)), (i9, .inl (cI, r7.2, .inl (upd (upd f8_90 x9_90.toNatClampNeg (f8_90 (x9_90 + (1 : Int32)).toNatClampNeg)) (x9_90 + (1 : Int32)).toNatClampNeg (f8_90 x9_90.toNatClampNeg))))] := hD
                    refine lv_iinc (v := (x9_90 + (1 : Int32)) + (1 : Int32)) (lv' := [(9, .int ((x9_90 + (1 : Int32)) + (1 : Int32))), (10, .int (f8_90 x9_90.toNatClampNeg)), (8, .int (mcf (x6_23 - x6_23 / mch * mch).toNatClampNeg)), (7, .int (mlf (x6_23 / mch).toNatClampNeg)), (6, .int x6_23), (5, .ref i9), (4, .ref q3), (0, .ref o), (1, .ref pa), (2, .ref ol), (3, .int p2)]) hx hb dX7_rows_144 hl (k := 0) rfl rfl (by decide) rfl (fun ls hl => ?_)
                    refine lv_goto (tgt := 90) hx hb dX7_rows_147 (by decide) ?_
                    exact ih90 ((x9_90 + (1 : Int32)) + (1 : Int32)) (upd (upd f8_90 x9_90.toNatClampNeg (f8_90 (x9_90 + (1 : Int32)).toNatClampNeg)) (x9_90 + (1 : Int32)).toNatClampNeg (f8_90 x9_90.toNatClampNeg)) _ _ _ hF (hP.sub [0, 1, 2, 3, 4, 5, 6, 7, 8] rfl) (hD.sub [0, 1, 2, 3, 4, 5, 6, 7, 8] (by decide) rfl) hS (lv_sub hl [0, 2, 3, 4, 5, 6, 7, 8, 9, 10] rfl)
                  · have hF := (if_pos c35).symm.trans hF
                    refine lv_goto (tgt := 144) hx hb dX7_rows_112 (by decide) ?_
                    refine lv_iinc (v := x9_90 + (1 : Int32)) (lv' := [(9, .int (x9_90 + (1 : Int32))), (8, .int (mcf (x6_23 - x6_23 / mch * mch).toNatClampNeg)), (7, .int (mlf (x6_23 / mch).toNatClampNeg)), (6, .int x6_23), (5, .ref i9), (4, .ref q3), (0, .ref o), (1, .ref pa), (2, .ref ol), (3, .int p2)]) hx hb dX7_rows_144 hl (k := 0) rfl rfl (by decide) rfl (fun ls hl => ?_)
                    refine lv_goto (tgt := 90) hx hb dX7_rows_147 (by decide) ?_
                    exact ih90 (x9_90 + (1 : Int32)) f8_90 _ _ _ hF (hP.sub [0, 1, 2, 3, 4, 5, 6, 7, 8] rfl) (hD.sub [0, 1, 2, 3, 4, 5, 6, 7, 8] (by decide) rfl) hS (lv_sub hl [0, 1, 2, 3, 4, 5, 6, 7, 8, 9] rfl)
            exact L90 1000 (0 : Int32) f8_23 _ _ _ hF (hP.sub [0, 1, 2, 3, 4, 5, 6, 7, 8] rfl) (hD.sub [0, 1, 2, 3, 4, 5, 6, 7, 8] (by decide) rfl) hS (lv_sub hl [0, 1, 2, 3, 4, 5, 6, 7, 8, 9] rfl)
          · have hF := (if_neg c27).symm.trans hF
            refine lv_aload_n hx hb dX7_rows_63 rfl (lv_at hl 4 rfl) ?_
            refine va_get (D := (dC, dI)) (ci := 6) (v := .ref oi) (C := RX7) (T := TX7) (N := 10) hx hb hts uX7 hown hK hP 1 rfl rfl 4 (by decide) w5 (fun _ h9 => h9) rfl dX7_rows_64 ?_
            refine lv_iload hx hb dX7_rows_67 (lv_at hl 0 rfl) ?_
            obtain ⟨g40, hF⟩ := gd_n hF
            refine va_iald hx hb hK hP 3 0 rfl ht0 g40 dX7_rows_69 ?_
            refine lv_goto (tgt := 85) hx hb dX7_rows_70 (by decide) ?_
            refine lv_istore (lv' := [(8, .int (mif (mlf (x6_23 / mch).toNatClampNeg).toNatClampNeg)), (7, .int (mlf (x6_23 / mch).toNatClampNeg)), (6, .int x6_23), (5, .ref i9), (4, .ref q3), (0, .ref o), (1, .ref pa), (2, .ref ol), (3, .int p2)]) hx hb dX7_rows_85 hl (by decide) rfl (fun ls hl => ?_)
            refine lv_iconst (v := (0 : Int32)) hx hb dX7_rows_87 (by decide) ?_
            refine lv_istore (lv' := [(9, .int (0 : Int32)), (8, .int (mif (mlf (x6_23 / mch).toNatClampNeg).toNatClampNeg)), (7, .int (mlf (x6_23 / mch).toNatClampNeg)), (6, .int x6_23), (5, .ref i9), (4, .ref q3), (0, .ref o), (1, .ref pa), (2, .ref ol), (3, .int p2)]) hx hb dX7_rows_88 hl (by decide) rfl (fun ls hl => ?_)
            have X90 : ∀ (x9_90 : Int32) (f8_90 : (Nat → Int32)) (H : Heap) (locs : List Loc) (ls : Array Slot), fX7_rows_X90c r7 x6_23 p2 mch (fX7_rows_L23 p2 mch mlf mn mcf r7 mif (fX7_rows_X23 p2 mch) n23) f0_23 x9_90 f8_90 = some r → va_P (dC, dI) vwCl [(q3, .inl (cI, (p2 * mch).toNatClampNeg, .inl f0_23)), (o, .inr (6, [.int mth, .int mn, .int mch, .ref oc, .ref oi, .int mcl, .ref ol, .int mgo, .int mmo, .ref ob])), (oc, .inl (cI, 14, .inl mcf)), (oi, .inl (cI, 3, .inl mif)), (ol, .inl (cI, 24, .inl mlf)), (ob, .inl (cI, mbn, .inl mbf)), (pa, .inl (cI, pan, .inl paf)), (i6, .inl (cI, r4.2, .inl r4.1)), (i9, .inl (cI, r7.2, .inl f8_90))] H → va_D A [(q3, .inl (cI, (p2 * mch).toNatClampNeg, .inl f0_23)), (o, .inr (6, [.int mth, .int mn, .int mch, .ref oc, .ref oi, .int mcl, .ref ol, .int mgo, .int mmo, .ref ob])), (oc, .inl (cI, 14, .inl mcf)), (oi, .inl (cI, 3, .inl mif)), (ol, .inl (cI, 24, .inl mlf)), (ob, .inl (cI, mbn, .inl mbf)), (pa, .inl (cI, pan, .inl paf)), (i6, .inl (cI, r4.2, .inl r4.1)), (i9, .inl (cI, r7.2, .inl f8_90))] → va_S A s.heap H locs → lv_has ls 11 [(9, .int x9_90), (8, .int (mif (mlf (x6_23 / mch).toNatClampNeg).toNatClampNeg)), (7, .int (mlf (x6_23 / mch).toNatClampNeg)), (6, .int x6_23), (5, .ref i9), (4, .ref q3), (0, .ref o), (1, .ref pa), (2, .ref ol), (3, .int p2)] → W p l e rmX7_rows s m ([.ref o, .ref pa, .ref ol, .int p2] : List Value).toArray below meth c H locs 3 350 (MQ below (ct_Q (dC, dI) tys (fun i : Nat => some (.ref i)) (fun i : Nat => [(o, .inr (6, [.int mth, .int mn, .int mch, .ref oc, .ref oi, .int mcl, .ref ol, .int mgo, .int mmo, .ref ob])), (oc, .inl (cI, 14, .inl mcf)), (oi, .inl (cI, 3, .inl mif)), (ol, .inl (cI, 24, .inl mlf)), (ob, .inl (cI, mbn, .inl mbf)), (pa, .inl (cI, pan, .inl paf)), (i, .inl (cI, r.2, .inl r.1))]) A) ([.ref o, .ref pa, .ref ol, .int p2] : List Value).toArray s rmX7_rows.cells rmX7_rows.slots A) (F0 m 150 ls []) := by
              intro x9_90 f8_90 H locs ls hF hP hD hS hl
              unfold fX7_rows_X90c at hF
              refine lv_aload hx hb dX7_rows_150 (lv_at hl 5 rfl) ?_
              refine lv_iload hx hb dX7_rows_152 (lv_at hl 3 rfl) ?_
              refine lv_aload hx hb dX7_rows_154 (lv_at hl 4 rfl) ?_
              obtain ⟨r41, hC42, hF⟩ := gd_b hF
              refine ct_callS (As := [.ref i9]) (rest := [.int x6_23, .ref q3]) ⟨hx, hb, hml, hown, hts⟩ (kX7_number l dC dI tys cI ht0 i9 r7.2 f8_90 r41 hC42) (va_cwS 1 hts gX7_rows_X7_number rfl rfl rfl (by decide +kernel) ⟨Nat.le_of_ble_eq_true rfl, Nat.le_of_ble_eq_true rfl⟩) hE hK hP hD hS hA [8] [0, 1, 2, 3, 4, 5, 6, 7] (by decide) rfl (by decide) (wr := [(q3, .inl (cI, (p2 * mch).toNatClampNeg, .inl f0_23)), (o, .inr (6, [.int mth, .int mn, .int mch, .ref oc, .ref oi, .int mcl, .ref ol, .int mgo, .int mmo, .ref ob])), (oc, .inl (cI, 14, .inl mcf)), (oi, .inl (cI, 3, .inl mif)), (ol, .inl (cI, 24, .inl mlf)), (ob, .inl (cI, mbn, .inl mbf)), (pa, .inl (cI, pan, .inl paf)), (i6, .inl (cI, r4.2, .inl r4.1))]) rfl (by decide) hl.1 rfl rfl (Nat.le_of_ble_eq_true rfl) dX7_rows_156 ⟨(Nat.le_of_ble_eq_true rfl), (Nat.le_of_ble_eq_true rfl)⟩ (fun i43 H locs hP hD hS => ?_)
              have hP : va_P (dC, dI) vwCl [(q3, .inl (cI, (p2 * mch).toNatClampNeg, .inl f0_23)), (o, .inr (6, [.int mth, .int mn, .int mch, .ref oc, .ref oi, .int mcl, .ref ol, .int mgo, .int mmo, .ref ob])), (oc, .inl (cI, 14, .inl mcf)), (oi, .inl (cI, 3, .inl mif)), (ol, .inl (cI, 24, .inl mlf)), (ob, .inl (cI, mbn, .inl mbf)), (pa, .inl (cI, pan, .inl paf)), (i6, .inl (cI, r4.2, .inl r4.1)), (i9, .inl (cI, r7.2, .inl f8_90))] H := hP
              have hD : va_D A [(q3, .inl (cI, (p2 * mch).toNatClampNeg, .inl f0_23)), (o, .inr (6, [.int mth, .int mn, .int mch, .ref oc, .ref oi, .int mcl, .ref ol, .int mgo, .int mmo, .ref ob])), (oc, .inl (cI, 14, .inl mcf)), (oi, .inl (cI, 3, .inl mif)), (ol, .inl (cI, 24, .inl mlf)), (ob, .inl (cI, mbn, .inl mbf)), (pa, .inl (cI, pan, .inl paf)), (i6, .inl (cI, r4.2, .inl r4.1)), (i9, .inl (cI, r7.2, .inl f8_90))] := hD
              obtain ⟨g44, hF⟩ := gd_n hF
              refine va_iast hx hb hK hP hD hS 0 0 rfl ht0 g44 dX7_rows_159 (fun H locs hP hD hS => ?_)
              have hP : va_P (dC, dI) vwCl [(q3, .inl (cI, (p2 * mch).toNatClampNeg, .inl (upd f0_23 x6_23.toNatClampNeg r41))), (o, .inr (6, [.int mth, .int mn, .int mch, .ref oc, .ref oi, .int mcl, .ref ol, .int mgo, .int mmo, .ref ob])), (oc, .inl (cI, 14, .inl mcf)), (oi, .inl (cI, 3, .inl mif)), (ol, .inl (cI, 24, .inl mlf)), (ob, .inl (cI, mbn, .inl mbf)), (pa, .inl (cI, pan, .inl paf)), (i6, .inl (cI, r4.2, .inl r4.1)), (i9, .inl (cI, r7.2, .inl f8_90))] H := hP
              have hD : va_D A [(q3, .inl (cI, (p2 * mch).toNatClampNeg, .inl (upd f0_23 x6_23.toNatClampNeg r41))), (o, .inr (6, [.int mth, .int mn, .int mch, .ref oc, .ref oi, .int mcl, .ref ol, .int mgo, .int mmo, .ref ob])), (oc, .inl (cI, 14, .inl mcf)), (oi, .inl (cI, 3, .inl mif)), (ol, .inl (cI, 24, .inl mlf)), (ob, .inl (cI, mbn, .inl mbf)), (pa, .inl (cI, pan, .inl paf)), (i6, .inl (cI, r4.2, .inl r4.1)), (i9, .inl (cI, r7.2, .inl f8_90))] := hD
              refine lv_iinc (v := x6_23 + (1 : Int32)) (lv' := [(6, .int (x6_23 + (1 : Int32))), (9, .int x9_90), (8, .int (mif (mlf (x6_23 / mch).toNatClampNeg).toNatClampNeg)), (7, .int (mlf (x6_23 / mch).toNatClampNeg)), (5, .ref i9), (4, .ref q3), (0, .ref o), (1, .ref pa), (2, .ref ol), (3, .int p2)]) hx hb dX7_rows_160 hl (k := 3) rfl rfl (by decide) rfl (fun ls hl => ?_)
              refine lv_goto (tgt := 23) hx hb dX7_rows_163 (by decide) ?_
              exact ih23 (x6_23 + (1 : Int32)) (upd f0_23 x6_23.toNatClampNeg r41) f8_90 _ _ _ hF (hP.sub [0, 1, 2, 3, 4, 5, 6, 7, 8] rfl) (hD.sub [0, 1, 2, 3, 4, 5, 6, 7, 8] (by decide) rfl) hS (lv_sub hl [0, 4, 5, 6, 7, 8, 9] rfl)
            have L90 : ∀ (n90 : Nat) (x9_90 : Int32) (f8_90 : (Nat → Int32)) (H : Heap) (locs : List Loc) (ls : Array Slot), fX7_rows_L90c mn mif mlf x6_23 mch r7 (fX7_rows_X90c r7 x6_23 p2 mch (fX7_rows_L23 p2 mch mlf mn mcf r7 mif (fX7_rows_X23 p2 mch) n23) f0_23) n90 x9_90 f8_90 = some r → va_P (dC, dI) vwCl [(q3, .inl (cI, (p2 * mch).toNatClampNeg, .inl f0_23)), (o, .inr (6, [.int mth, .int mn, .int mch, .ref oc, .ref oi, .int mcl, .ref ol, .int mgo, .int mmo, .ref ob])), (oc, .inl (cI, 14, .inl mcf)), (oi, .inl (cI, 3, .inl mif)), (ol, .inl (cI, 24, .inl mlf)), (ob, .inl (cI, mbn, .inl mbf)), (pa, .inl (cI, pan, .inl paf)), (i6, .inl (cI, r4.2, .inl r4.1)), (i9, .inl (cI, r7.2, .inl f8_90))] H → va_D A [(q3, .inl (cI, (p2 * mch).toNatClampNeg, .inl f0_23)), (o, .inr (6, [.int mth, .int mn, .int mch, .ref oc, .ref oi, .int mcl, .ref ol, .int mgo, .int mmo, .ref ob])), (oc, .inl (cI, 14, .inl mcf)), (oi, .inl (cI, 3, .inl mif)), (ol, .inl (cI, 24, .inl mlf)), (ob, .inl (cI, mbn, .inl mbf)), (pa, .inl (cI, pan, .inl paf)), (i6, .inl (cI, r4.2, .inl r4.1)), (i9, .inl (cI, r7.2, .inl f8_90))] → va_S A s.heap H locs → lv_has ls 11 [(9, .int x9_90), (8, .int (mif (mlf (x6_23 / mch).toNatClampNeg).toNatClampNeg)), (7, .int (mlf (x6_23 / mch).toNatClampNeg)), (6, .int x6_23), (5, .ref i9), (4, .ref q3), (0, .ref o), (1, .ref pa), (2, .ref ol), (3, .int p2)] → W p l e rmX7_rows s m ([.ref o, .ref pa, .ref ol, .int p2] : List Value).toArray below meth c H locs 3 350 (MQ below (ct_Q (dC, dI) tys (fun i : Nat => some (.ref i)) (fun i : Nat => [(o, .inr (6, [.int mth, .int mn, .int mch, .ref oc, .ref oi, .int mcl, .ref ol, .int mgo, .int mmo, .ref ob])), (oc, .inl (cI, 14, .inl mcf)), (oi, .inl (cI, 3, .inl mif)), (ol, .inl (cI, 24, .inl mlf)), (ob, .inl (cI, mbn, .inl mbf)), (pa, .inl (cI, pan, .inl paf)), (i, .inl (cI, r.2, .inl r.1))]) A) ([.ref o, .ref pa, .ref ol, .int p2] : List Value).toArray s rmX7_rows.cells rmX7_rows.slots A) (F0 m 90 ls []) := by
              intro n90
              induction n90 with
              | zero => intro x9_90 f8_90 H locs ls hF; rw [fX7_rows_L90c] at hF; cases hF
              | succ n90 ih90 =>
                intro x9_90 f8_90 H locs ls hF hP hD hS hl
                rw [fX7_rows_L90c] at hF
                refine lv_iload hx hb dX7_rows_90 (lv_at hl 0 rfl) ?_
                refine lv_iconst (v := (1 : Int32)) hx hb dX7_rows_92 (by decide) ?_
                refine lv_iadd hx hb dX7_rows_93 ?_
                refine lv_aload_n hx hb dX7_rows_94 rfl (lv_at hl 6 rfl) ?_
                refine va_get (D := (dC, dI)) (ci := 6) (v := .int mn) (C := RX7) (T := TX7) (N := 10) hx hb hts uX7 hown hK hP 1 rfl rfl 1 (by decide) w4 (fun _ h9 => h9) rfl dX7_rows_95 ?_
                refine lv_icmp_ge (tgt := 150) hx hb dX7_rows_98 (by decide) (fun c45 => ?_) (fun c45 => ?_)
                · have hF := (if_pos c45).symm.trans hF
                  exact X90 x9_90 f8_90 _ _ _ hF (hP.sub [0, 1, 2, 3, 4, 5, 6, 7, 8] rfl) (hD.sub [0, 1, 2, 3, 4, 5, 6, 7, 8] (by decide) rfl) hS (lv_sub hl [0, 1, 2, 3, 4, 5, 6, 7, 8, 9] rfl)
                · have hF := (if_neg c45).symm.trans hF
                  refine lv_iload hx hb dX7_rows_101 (lv_at hl 1 rfl) ?_
                  refine lv_iload hx hb dX7_rows_103 (lv_at hl 0 rfl) ?_
                  refine lv_ishr hx hb dX7_rows_105 ?_
                  refine lv_iconst (v := (1 : Int32)) hx hb dX7_rows_106 (by decide) ?_
                  refine lv_iand hx hb dX7_rows_107 ?_
                  refine lv_iconst (v := (1 : Int32)) hx hb dX7_rows_108 (by decide) ?_
                  refine lv_icmp_ne (tgt := 115) hx hb dX7_rows_109 (by decide) (fun c46 => ?_) (fun c46 => ?_)
                  · have hF := (if_neg c46).symm.trans hF
                    refine lv_aload hx hb dX7_rows_115 (lv_at hl 4 rfl) ?_
                    refine lv_iload hx hb dX7_rows_117 (lv_at hl 0 rfl) ?_
                    obtain ⟨g47, hF⟩ := gd_n hF
                    refine va_iald hx hb hK hP 8 0 rfl ht0 g47 dX7_rows_119 ?_
                    refine lv_istore (lv' := [(10, .int (f8_90 x9_90.toNatClampNeg)), (9, .int x9_90), (8, .int (mif (mlf (x6_23 / mch).toNatClampNeg).toNatClampNeg)), (7, .int (mlf (x6_23 / mch).toNatClampNeg)), (6, .int x6_23), (5, .ref i9), (4, .ref q3), (0, .ref o), (1, .ref pa), (2, .ref ol), (3, .int p2)]) hx hb dX7_rows_120 hl (by decide) rfl (fun ls hl => ?_)
                    refine lv_aload hx hb dX7_rows_122 (lv_at hl 5 rfl) ?_
                    refine lv_iload hx hb dX7_rows_124 (lv_at hl 1 rfl) ?_
                    refine lv_aload hx hb dX7_rows_126 (lv_at hl 5 rfl) ?_
                    refine lv_iload hx hb dX7_rows_128 (lv_at hl 1 rfl) ?_
                    refine lv_iconst (v := (1 : Int32)) hx hb dX7_rows_130 (by decide) ?_
                    refine lv_iadd hx hb dX7_rows_131 ?_
                    obtain ⟨g48, hF⟩ := gd_n hF
                    refine va_iald hx hb hK hP 8 0 rfl ht0 g48 dX7_rows_132 ?_
                    obtain ⟨g49, hF⟩ := gd_n hF
                    refine va_iast hx hb hK hP hD hS 8 0 rfl ht0 g49 dX7_rows_133 (fun H locs hP hD hS => ?_)
                    have hP : va_P (dC, dI) vwCl [(q3, .inl (cI, (p2 * mch).toNatClampNeg, .inl f0_23)), (o, .inr (6, [.int mth, .int mn, .int mch, .ref oc, .ref oi, .int mcl, .ref ol, .int mgo, .int mmo, .ref ob])), (oc, .inl (cI, 14, .inl mcf)), (oi, .inl (cI, 3, .inl mif)), (ol, .inl (cI, 24, .inl mlf)), (ob, .inl (cI, mbn, .inl mbf)), (pa, .inl (cI, pan, .inl paf)), (i6, .inl (cI, r4.2, .inl r4.1)), (i9, .inl (cI, r7.2, .inl (upd f8_90 x9_90.toNatClampNeg (f8_90 (x9_90 + (1 : Int32)).toNatClampNeg))))] H := hP
                    have hD : va_D A [(q3, .inl (cI, (p2 * mch).toNatClampNeg, .inl f0_23)), (o, .inr (6, [.int mth, .int mn, .int mch, .ref oc, .ref oi, .int mcl, .ref ol, .int mgo, .int mmo, .ref ob])), (oc, .inl (cI, 14, .inl mcf)), (oi, .inl (cI, 3, .inl mif)), (ol, .inl (cI, 24, .inl mlf)), (ob, .inl (cI, mbn, .inl mbf)), (pa, .inl (cI, pan, .inl paf)), (i6, .inl (cI, r4.2, .inl r4.1)), (i9, .inl (cI, r7.2, .inl (upd f8_90 x9_90.toNatClampNeg (f8_90 (x9_90 + (1 : Int32)).toNatClampNeg))))] := hD
                    refine lv_aload hx hb dX7_rows_134 (lv_at hl 5 rfl) ?_
                    refine lv_iinc (v := x9_90 + (1 : Int32)) (lv' := [(9, .int (x9_90 + (1 : Int32))), (10, .int (f8_90 x9_90.toNatClampNeg)), (8, .int (mif (mlf (x6_23 / mch).toNatClampNeg).toNatClampNeg)), (7, .int (mlf (x6_23 / mch).toNatClampNeg)), (6, .int x6_23), (5, .ref i9), (4, .ref q3), (0, .ref o), (1, .ref pa), (2, .ref ol), (3, .int p2)]) hx hb dX7_rows_136 hl (k := 1) rfl rfl (by decide) rfl (fun ls hl => ?_)
                    refine lv_iload hx hb dX7_rows_139 (lv_at hl 0 rfl) ?_
                    refine lv_iload hx hb dX7_rows_141 (lv_at hl 1 rfl) ?_
                    obtain ⟨g50, hF⟩ := gd_n hF
                    refine va_iast hx hb hK hP hD hS 8 0 rfl ht0 g50 dX7_rows_143 (fun H locs hP hD hS => ?_)
                    have hP : va_P (dC, dI) vwCl [(q3, .inl (cI, (p2 * mch).toNatClampNeg, .inl f0_23)), (o, .inr (6, [.int mth, .int mn, .int mch, .ref oc, .ref oi, .int mcl, .ref ol, .int mgo, .int mmo, .ref ob])), (oc, .inl (cI, 14, .inl mcf)), (oi, .inl (cI, 3, .inl mif)), (ol, .inl (cI, 24, .inl mlf)), (ob, .inl (cI, mbn, .inl mbf)), (pa, .inl (cI, pan, .inl paf)), (i6, .inl (cI, r4.2, .inl r4.1)), (i9, .inl (cI, r7.2, .inl (upd (upd f8_90 x9_90.toNatClampNeg (f8_90 (x9_90 + (1 : Int32)).toNatClampNeg)) (x9_90 + (1 : Int32)).toNatClampNeg (f8_90 x9_90.toNatClampNeg))))] H := hP
                    have hD : va_D A [(q3, .inl (cI, (p2 * mch).toNatClampNeg, .inl f0_23)), (o, .inr (6, [.int mth, .int mn, .int mch, .ref oc, .ref oi, .int mcl, .ref ol, .int mgo, .int mmo, .ref ob])), (oc, .inl (cI, 14, .inl mcf)), (oi, .inl (cI, 3, .inl mif)), (ol, .inl (cI, 24, .inl mlf)), (ob, .inl (cI, mbn, .inl mbf)), (pa, .inl (cI, pan, .inl paf)), (i6, .inl (cI, r4.2, .inl r4.1)), (i9, .inl (cI, r7.2, .inl (upd (upd f8_90 x9_90.toNatClampNeg (f8_90 (x9_90 + (1 : Int32)).toNatClampNeg)) (x9_90 + (1 : Int32)).toNatClampNeg (f8_90 x9_90.toNatClampNeg))))] := hD
                    refine lv_iinc (v := (x9_90 + (1 : Int32)) + (1 : Int32)) (lv' := [(9, .int ((x9_90 + (1 : Int32)) + (1 : Int32))), (10, .int (f8_90 x9_90.toNatClampNeg)), (8, .int (mif (mlf (x6_23 / mch).toNatClampNeg).toNatClampNeg)), (7, .int (mlf (x6_23 / mch).toNatClampNeg)), (6, .int x6_23), (5, .ref i9), (4, .ref q3), (0, .ref o), (1, .ref pa), (2, .ref ol), (3, .int p2)]) hx hb dX7_rows_144 hl (k := 0) rfl rfl (by decide) rfl (fun ls hl => ?_)
                    refine lv_goto (tgt := 90) hx hb dX7_rows_147 (by decide) ?_
                    exact ih90 ((x9_90 + (1 : Int32)) + (1 : Int32)) (upd (upd f8_90 x9_90.toNatClampNeg (f8_90 (x9_90 + (1 : Int32)).toNatClampNeg)) (x9_90 + (1 : Int32)).toNatClampNeg (f8_90 x9_90.toNatClampNeg)) _ _ _ hF (hP.sub [0, 1, 2, 3, 4, 5, 6, 7, 8] rfl) (hD.sub [0, 1, 2, 3, 4, 5, 6, 7, 8] (by decide) rfl) hS (lv_sub hl [0, 2, 3, 4, 5, 6, 7, 8, 9, 10] rfl)
                  · have hF := (if_pos c46).symm.trans hF
                    refine lv_goto (tgt := 144) hx hb dX7_rows_112 (by decide) ?_
                    refine lv_iinc (v := x9_90 + (1 : Int32)) (lv' := [(9, .int (x9_90 + (1 : Int32))), (8, .int (mif (mlf (x6_23 / mch).toNatClampNeg).toNatClampNeg)), (7, .int (mlf (x6_23 / mch).toNatClampNeg)), (6, .int x6_23), (5, .ref i9), (4, .ref q3), (0, .ref o), (1, .ref pa), (2, .ref ol), (3, .int p2)]) hx hb dX7_rows_144 hl (k := 0) rfl rfl (by decide) rfl (fun ls hl => ?_)
                    refine lv_goto (tgt := 90) hx hb dX7_rows_147 (by decide) ?_
                    exact ih90 (x9_90 + (1 : Int32)) f8_90 _ _ _ hF (hP.sub [0, 1, 2, 3, 4, 5, 6, 7, 8] rfl) (hD.sub [0, 1, 2, 3, 4, 5, 6, 7, 8] (by decide) rfl) hS (lv_sub hl [0, 1, 2, 3, 4, 5, 6, 7, 8, 9] rfl)
            exact L90 1000 (0 : Int32) f8_23 _ _ _ hF (hP.sub [0, 1, 2, 3, 4, 5, 6, 7, 8] rfl) (hD.sub [0, 1, 2, 3, 4, 5, 6, 7, 8] (by decide) rfl) hS (lv_sub hl [0, 1, 2, 3, 4, 5, 6, 7, 8, 9] rfl)
  exact L23 1000 (0 : Int32) (fun _ => 0) r7.1 _ _ _ hF (hP.sub [0, 1, 2, 3, 4, 5, 6, 7, 8] rfl) (hD.sub [0, 1, 2, 3, 4, 5, 6, 7, 8] (by decide) rfl) hS (lv_sub hl [0, 1, 2, 3, 4, 5, 6] rfl)

def fX7_rowsb_X23 (p2 : Int32) (mch : Int32) (x6_23 : Int32) (f1_23 : (Nat → Int32)) (f9_23 : (Nat → Int32)) : Option ((Nat → Int32) × Nat) := some (f1_23, ((p2 * mch).toNatClampNeg))
def fX7_rowsb_X90 (r7 : ((Nat → Int32) × Nat)) (x6_23 : Int32) (p2 : Int32) (mch : Int32) (rec23 : Int32 → (Nat → Int32) → (Nat → Int32) → Option ((Nat → Int32) × Nat)) (f1_23 : (Nat → Int32)) (x9_90 : Int32) (f9_90 : (Nat → Int32)) : Option ((Nat → Int32) × Nat) := (fX7_number r7.2 f9_90).bind (fun r17 => if (x6_23 < 0 ∨ (p2 * mch).toNatClampNeg ≤ x6_23.toNatClampNeg) then none else (rec23 (x6_23 + (1 : Int32)) (upd f1_23 x6_23.toNatClampNeg r17) f9_90))
def fX7_rowsb_L90 (mn : Int32) (mcf : (Nat → Int32)) (x6_23 : Int32) (mch : Int32) (r7 : ((Nat → Int32) × Nat)) (K90 : Int32 → (Nat → Int32) → Option ((Nat → Int32) × Nat)) : Nat → Int32 → (Nat → Int32) → Option ((Nat → Int32) × Nat)
  | 0, _, _ => none
  | n + 1, x9_90, f9_90 => if mn ≤ (x9_90 + (1 : Int32)) then (K90 x9_90 f9_90) else (if (((mcf (x6_23 - x6_23 / mch * mch).toNatClampNeg) >>> (x9_90 &&& 31)) &&& (1 : Int32)) = (1 : Int32) then ((fX7_rowsb_L90 mn mcf x6_23 mch r7 K90 n) (x9_90 + (1 : Int32)) f9_90) else (if (x9_90 < 0 ∨ r7.2 ≤ x9_90.toNatClampNeg) then none else (if ((x9_90 + (1 : Int32)) < 0 ∨ r7.2 ≤ (x9_90 + (1 : Int32)).toNatClampNeg) then none else (if (x9_90 < 0 ∨ r7.2 ≤ x9_90.toNatClampNeg) then none else (if ((x9_90 + (1 : Int32)) < 0 ∨ r7.2 ≤ (x9_90 + (1 : Int32)).toNatClampNeg) then none else ((fX7_rowsb_L90 mn mcf x6_23 mch r7 K90 n) ((x9_90 + (1 : Int32)) + (1 : Int32)) (upd (upd f9_90 x9_90.toNatClampNeg (f9_90 (x9_90 + (1 : Int32)).toNatClampNeg)) (x9_90 + (1 : Int32)).toNatClampNeg (f9_90 x9_90.toNatClampNeg))))))))
def fX7_rowsb_X90b (r7 : ((Nat → Int32) × Nat)) (x6_23 : Int32) (p2 : Int32) (mch : Int32) (rec23 : Int32 → (Nat → Int32) → (Nat → Int32) → Option ((Nat → Int32) × Nat)) (f1_23 : (Nat → Int32)) (x9_90 : Int32) (f9_90 : (Nat → Int32)) : Option ((Nat → Int32) × Nat) := (fX7_number r7.2 f9_90).bind (fun r30 => if (x6_23 < 0 ∨ (p2 * mch).toNatClampNeg ≤ x6_23.toNatClampNeg) then none else (rec23 (x6_23 + (1 : Int32)) (upd f1_23 x6_23.toNatClampNeg r30) f9_90))
def fX7_rowsb_L90b (mn : Int32) (mcf : (Nat → Int32)) (x6_23 : Int32) (mch : Int32) (r7 : ((Nat → Int32) × Nat)) (K90 : Int32 → (Nat → Int32) → Option ((Nat → Int32) × Nat)) : Nat → Int32 → (Nat → Int32) → Option ((Nat → Int32) × Nat)
  | 0, _, _ => none
  | n + 1, x9_90, f9_90 => if mn ≤ (x9_90 + (1 : Int32)) then (K90 x9_90 f9_90) else (if (((mcf (x6_23 - x6_23 / mch * mch).toNatClampNeg) >>> (x9_90 &&& 31)) &&& (1 : Int32)) = (1 : Int32) then ((fX7_rowsb_L90b mn mcf x6_23 mch r7 K90 n) (x9_90 + (1 : Int32)) f9_90) else (if (x9_90 < 0 ∨ r7.2 ≤ x9_90.toNatClampNeg) then none else (if ((x9_90 + (1 : Int32)) < 0 ∨ r7.2 ≤ (x9_90 + (1 : Int32)).toNatClampNeg) then none else (if (x9_90 < 0 ∨ r7.2 ≤ x9_90.toNatClampNeg) then none else (if ((x9_90 + (1 : Int32)) < 0 ∨ r7.2 ≤ (x9_90 + (1 : Int32)).toNatClampNeg) then none else ((fX7_rowsb_L90b mn mcf x6_23 mch r7 K90 n) ((x9_90 + (1 : Int32)) + (1 : Int32)) (upd (upd f9_90 x9_90.toNatClampNeg (f9_90 (x9_90 + (1 : Int32)).toNatClampNeg)) (x9_90 + (1 : Int32)).toNatClampNeg (f9_90 x9_90.toNatClampNeg))))))))
def fX7_rowsb_X90c (r7 : ((Nat → Int32) × Nat)) (x6_23 : Int32) (p2 : Int32) (mch : Int32) (rec23 : Int32 → (Nat → Int32) → (Nat → Int32) → Option ((Nat → Int32) × Nat)) (f1_23 : (Nat → Int32)) (x9_90 : Int32) (f9_90 : (Nat → Int32)) : Option ((Nat → Int32) × Nat) := (fX7_number r7.2 f9_90).bind (fun r41 => if (x6_23 < 0 ∨ (p2 * mch).toNatClampNeg ≤ x6_23.toNatClampNeg) then none else (rec23 (x6_23 + (1 : Int32)) (upd f1_23 x6_23.toNatClampNeg r41) f9_90))
def fX7_rowsb_L90c (mn : Int32) (mif : (Nat → Int32)) (pbf : (Nat → Int32)) (x6_23 : Int32) (mch : Int32) (r7 : ((Nat → Int32) × Nat)) (K90 : Int32 → (Nat → Int32) → Option ((Nat → Int32) × Nat)) : Nat → Int32 → (Nat → Int32) → Option ((Nat → Int32) × Nat)
  | 0, _, _ => none
  | n + 1, x9_90, f9_90 => if mn ≤ (x9_90 + (1 : Int32)) then (K90 x9_90 f9_90) else (if (((mif (pbf (x6_23 / mch).toNatClampNeg).toNatClampNeg) >>> (x9_90 &&& 31)) &&& (1 : Int32)) = (1 : Int32) then ((fX7_rowsb_L90c mn mif pbf x6_23 mch r7 K90 n) (x9_90 + (1 : Int32)) f9_90) else (if (x9_90 < 0 ∨ r7.2 ≤ x9_90.toNatClampNeg) then none else (if ((x9_90 + (1 : Int32)) < 0 ∨ r7.2 ≤ (x9_90 + (1 : Int32)).toNatClampNeg) then none else (if (x9_90 < 0 ∨ r7.2 ≤ x9_90.toNatClampNeg) then none else (if ((x9_90 + (1 : Int32)) < 0 ∨ r7.2 ≤ (x9_90 + (1 : Int32)).toNatClampNeg) then none else ((fX7_rowsb_L90c mn mif pbf x6_23 mch r7 K90 n) ((x9_90 + (1 : Int32)) + (1 : Int32)) (upd (upd f9_90 x9_90.toNatClampNeg (f9_90 (x9_90 + (1 : Int32)).toNatClampNeg)) (x9_90 + (1 : Int32)).toNatClampNeg (f9_90 x9_90.toNatClampNeg))))))))
def fX7_rowsb_L23 (p2 : Int32) (mch : Int32) (pbn : Nat) (pbf : (Nat → Int32)) (mn : Int32) (mcf : (Nat → Int32)) (r7 : ((Nat → Int32) × Nat)) (mif : (Nat → Int32)) (K23 : Int32 → (Nat → Int32) → (Nat → Int32) → Option ((Nat → Int32) × Nat)) : Nat → Int32 → (Nat → Int32) → (Nat → Int32) → Option ((Nat → Int32) × Nat)
  | 0, _, _, _ => none
  | n + 1, x6_23, f1_23, f9_23 => if (Int32.ofNat ((p2 * mch).toNatClampNeg)) ≤ x6_23 then (K23 x6_23 f1_23 f9_23) else (if mch = 0 then none else (if ((x6_23 / mch) < 0 ∨ pbn ≤ (x6_23 / mch).toNatClampNeg) then none else (if mch = 0 then none else (if (x6_23 - x6_23 / mch * mch) = (mch - (1 : Int32)) then (if (pbf (x6_23 / mch).toNatClampNeg) ≤ 0 then (if mch = 0 then none else (if ((x6_23 - x6_23 / mch * mch) < 0 ∨ 14 ≤ (x6_23 - x6_23 / mch * mch).toNatClampNeg) then none else (fX7_rowsb_L90b mn mcf x6_23 mch r7 (fX7_rowsb_X90b r7 x6_23 p2 mch (fX7_rowsb_L23 p2 mch pbn pbf mn mcf r7 mif K23 n) f1_23) 1000 (0 : Int32) f9_23))) else (if ((pbf (x6_23 / mch).toNatClampNeg) < 0 ∨ 3 ≤ (pbf (x6_23 / mch).toNatClampNeg).toNatClampNeg) then none else (fX7_rowsb_L90c mn mif pbf x6_23 mch r7 (fX7_rowsb_X90c r7 x6_23 p2 mch (fX7_rowsb_L23 p2 mch pbn pbf mn mcf r7 mif K23 n) f1_23) 1000 (0 : Int32) f9_23))) else (if mch = 0 then none else (if ((x6_23 - x6_23 / mch * mch) < 0 ∨ 14 ≤ (x6_23 - x6_23 / mch * mch).toNatClampNeg) then none else (fX7_rowsb_L90 mn mcf x6_23 mch r7 (fX7_rowsb_X90 r7 x6_23 p2 mch (fX7_rowsb_L23 p2 mch pbn pbf mn mcf r7 mif K23 n) f1_23) 1000 (0 : Int32) f9_23)))))))
def fX7_rowsb (mn : Int32) (mch : Int32) (mcf : (Nat → Int32)) (mif : (Nat → Int32)) (pan : Nat) (paf : (Nat → Int32)) (pbn : Nat) (pbf : (Nat → Int32)) (p2 : Int32) : Option ((Nat → Int32) × Nat) := if (p2 * mch) < 0 then none else if ¬ (p2 * mch).toNatClampNeg ≤ 336 then none else ((fX7_same mn).bind (fun r4 => (fX7_join pan paf r4.2 r4.1).bind (fun r7 => fX7_rowsb_L23 p2 mch pbn pbf mn mcf r7 mif (fX7_rowsb_X23 p2 mch) 1000 (0 : Int32) (fun _ => 0) r7.1)))
abbrev rmX7_rowsb : Room := { frames := 1, cells := 3, slots := 350, locals := 25 }
set_option maxHeartbeats 4000000 in
set_option maxRecDepth 100000 in
theorem kX7_rowsb (l : Launch) (dC : Nat → ClassId) (dI : Nat → Nat → Nat) (tys : List (ClassId × FieldType)) (cI : ClassId) (ht0 : tys[0]? = some (cI, .int)) (o oc oi ol ob pa pb : Nat) (mth : Int32) (mn : Int32) (mch : Int32) (mcl : Int32) (mgo : Int32) (mmo : Int32) (mcf : (Nat → Int32)) (mif : (Nat → Int32)) (mlf : (Nat → Int32)) (mbn : Nat) (mbf : (Nat → Int32)) (pan : Nat) (paf : (Nat → Int32)) (pbn : Nat) (pbf : (Nat → Int32)) (p2 : Int32) (r : ((Nat → Int32) × Nat)) (hF : fX7_rowsb mn mch mcf mif pan paf pbn pbf p2 = some r) : ct l (dC, dI) tys yX7_rows wsX7_rows rmX7_rowsb [.ref o, .ref pa, .ref pb, .int p2] [(o, .inr (6, [.int mth, .int mn, .int mch, .ref oc, .ref oi, .int mcl, .ref ol, .int mgo, .int mmo, .ref ob])), (oc, .inl (cI, 14, .inl mcf)), (oi, .inl (cI, 3, .inl mif)), (ol, .inl (cI, 24, .inl mlf)), (ob, .inl (cI, mbn, .inl mbf)), (pa, .inl (cI, pan, .inl paf)), (pb, .inl (cI, pbn, .inl pbf))] (fun i : Nat => some (.ref i)) (fun i : Nat => [(o, .inr (6, [.int mth, .int mn, .int mch, .ref oc, .ref oi, .int mcl, .ref ol, .int mgo, .int mmo, .ref ob])), (oc, .inl (cI, 14, .inl mcf)), (oi, .inl (cI, 3, .inl mif)), (ol, .inl (cI, 24, .inl mlf)), (ob, .inl (cI, mbn, .inl mbf)), (pa, .inl (cI, pan, .inl paf)), (pb, .inl (cI, pbn, .inl pbf)), (i, .inl (cI, r.2, .inl r.1))]) := by
  refine ct_of (cc := cX7_rows) (maxL := 11) (ret := (some (.array .int))) (by decide) rfl (Nat.le_of_ble_eq_true rfl) ?_
  intro p e s m below meth c A ls hx hb hr hml hts hown hlocks hname hE hK hP hD hA hS hl
  have hown : s.vm.findClass RX7 = some m.cls := hown
  have hl : lv_has ls 11 [(0, .ref o), (1, .ref pa), (2, .ref pb), (3, .int p2)] := hl
  unfold fX7_rowsb at hF
  have uX7 : ∀ w ∈ wsX70, w ∈ wsX7_rows := (fun _ h => (List.mem_cons_of_mem _ (List.mem_append_right _ h)))
  have w1 := hts (.fieldLink RX7 30 "BellfounderTowerModel" "changes" "I") (List.mem_cons_of_mem _ (List.mem_append_left _ (List.mem_of_getElem? (i := 0) rfl)))
  have w2 := hts (.arrayClass .int) (List.mem_cons_of_mem _ (List.mem_append_left _ (List.mem_of_getElem? (i := 1) rfl)))
  have w3 := hts (.fieldLink RX7 9 "BellfounderTowerModel" "change" "[I") (List.mem_cons_of_mem _ (List.mem_append_left _ (List.mem_of_getElem? (i := 3) rfl)))
  have w4 := hts (.fieldLink RX7 26 "BellfounderTowerModel" "n" "I") (List.mem_cons_of_mem _ (List.mem_append_left _ (List.mem_of_getElem? (i := 4) rfl)))
  have w5 := hts (.fieldLink RX7 13 "BellfounderTowerModel" "instead" "[I") (List.mem_cons_of_mem _ (List.mem_append_left _ (List.mem_of_getElem? (i := 2) rfl)))
  refine lv_iload_n hx hb dX7_rows_0 rfl (lv_at hl 3 rfl) ?_
  refine lv_aload_n hx hb dX7_rows_1 rfl (lv_at hl 0 rfl) ?_
  refine va_get (D := (dC, dI)) (ci := 6) (v := .int mch) (C := RX7) (T := TX7) (N := 10) hx hb hts uX7 hown hK hP 0 rfl rfl 2 (by decide) w1 (fun _ h9 => h9) rfl dX7_rows_2 ?_
  refine lv_imul hx hb dX7_rows_5 ?_
  obtain ⟨g1, hF⟩ := gd_n hF
  obtain ⟨g2, hF⟩ := gd_n hF
  have g2 := Decidable.not_not.mp g2
  refine ct_newi hx hb w2 ht0 hK hP hD hS hA (N' := (p2 * mch).toNatClampNeg) g1 rfl (by omega) (Nat.le_of_ble_eq_true rfl) (Nat.le_trans (Nat.add_le_add_left g2 _) (Nat.le_of_ble_eq_true rfl)) dX7_rows_6 (fun q3 H hP hD hS => ?_)
  refine W.widen (k := 1) (n := 336) (show 0 + 1 ≤ 1 from Nat.le_refl _) (show 0 + (p2 * mch).toNatClampNeg ≤ 336 from Nat.add_le_add_left g2 _) ?_
  have hP : va_P (dC, dI) vwCl [(o, .inr (6, [.int mth, .int mn, .int mch, .ref oc, .ref oi, .int mcl, .ref ol, .int mgo, .int mmo, .ref ob])), (oc, .inl (cI, 14, .inl mcf)), (oi, .inl (cI, 3, .inl mif)), (ol, .inl (cI, 24, .inl mlf)), (ob, .inl (cI, mbn, .inl mbf)), (pa, .inl (cI, pan, .inl paf)), (pb, .inl (cI, pbn, .inl pbf)), (q3, .inl (cI, (p2 * mch).toNatClampNeg, .inl (fun _ => 0)))] H := hP
  have hD : va_D A [(o, .inr (6, [.int mth, .int mn, .int mch, .ref oc, .ref oi, .int mcl, .ref ol, .int mgo, .int mmo, .ref ob])), (oc, .inl (cI, 14, .inl mcf)), (oi, .inl (cI, 3, .inl mif)), (ol, .inl (cI, 24, .inl mlf)), (ob, .inl (cI, mbn, .inl mbf)), (pa, .inl (cI, pan, .inl paf)), (pb, .inl (cI, pbn, .inl pbf)), (q3, .inl (cI, (p2 * mch).toNatClampNeg, .inl (fun _ => 0)))] := hD
  refine lv_astore (lv' := [(4, .ref q3), (0, .ref o), (1, .ref pa), (2, .ref pb), (3, .int p2)]) hx hb dX7_rows_8 hl (by decide) rfl (fun ls hl => ?_)
  refine lv_aload_n hx hb dX7_rows_10 rfl (lv_at hl 2 rfl) ?_
  refine lv_aload_n hx hb dX7_rows_11 rfl (lv_at hl 1 rfl) ?_
  obtain ⟨r4, hC5, hF⟩ := gd_b hF
  refine ct_callV (C := RX7) (As := []) (rest := [.ref pa]) ⟨hx, hb, hml, hown, hts⟩ (kX7_same l dC dI tys cI ht0 o oc oi ol ob mth mn mch mcl mgo mmo mcf mif mlf mbn mbf r4 hC5) (cwV 0 hts gX7_rows_X7_same rfl rfl rfl (by decide +kernel) ⟨Nat.le_of_ble_eq_true rfl, Nat.le_of_ble_eq_true rfl⟩) hE hK hP hD hS hA [0, 1, 2, 3, 4] [5, 6, 7] (by decide) rfl (by decide) (wr := [(pa, .inl (cI, pan, .inl paf)), (pb, .inl (cI, pbn, .inl pbf)), (q3, .inl (cI, (p2 * mch).toNatClampNeg, .inl (fun _ => 0)))]) rfl (by decide) (ci := 6) (T := TX7) (N := 10) (q0 := 0) rfl rfl hl.1 rfl rfl (Nat.le_of_ble_eq_true rfl) dX7_rows_12 ⟨(Nat.le_of_ble_eq_true rfl), (Nat.le_of_ble_eq_true rfl)⟩ (fun i6 H locs hP hD hS => ?_)
  have hP : va_P (dC, dI) vwCl [(pa, .inl (cI, pan, .inl paf)), (pb, .inl (cI, pbn, .inl pbf)), (q3, .inl (cI, (p2 * mch).toNatClampNeg, .inl (fun _ => 0))), (o, .inr (6, [.int mth, .int mn, .int mch, .ref oc, .ref oi, .int mcl, .ref ol, .int mgo, .int mmo, .ref ob])), (oc, .inl (cI, 14, .inl mcf)), (oi, .inl (cI, 3, .inl mif)), (ol, .inl (cI, 24, .inl mlf)), (ob, .inl (cI, mbn, .inl mbf)), (i6, .inl (cI, r4.2, .inl r4.1))] H := hP
  have hD : va_D A [(pa, .inl (cI, pan, .inl paf)), (pb, .inl (cI, pbn, .inl pbf)), (q3, .inl (cI, (p2 * mch).toNatClampNeg, .inl (fun _ => 0))), (o, .inr (6, [.int mth, .int mn, .int mch, .ref oc, .ref oi, .int mcl, .ref ol, .int mgo, .int mmo, .ref ob])), (oc, .inl (cI, 14, .inl mcf)), (oi, .inl (cI, 3, .inl mif)), (ol, .inl (cI, 24, .inl mlf)), (ob, .inl (cI, mbn, .inl mbf)), (i6, .inl (cI, r4.2, .inl r4.1))] := hD
  obtain ⟨r7, hC8, hF⟩ := gd_b hF
  refine ct_callS (As := [.ref pa, .ref i6]) (rest := []) ⟨hx, hb, hml, hown, hts⟩ (kX7_join l dC dI tys cI ht0 pa i6 pan paf r4.2 r4.1 r7 hC8) (va_cwS 2 hts gX7_rows_X7_join rfl rfl rfl (by decide +kernel) ⟨Nat.le_of_ble_eq_true rfl, Nat.le_of_ble_eq_true rfl⟩) hE hK hP hD hS hA [0, 8] [1, 2, 3, 4, 5, 6, 7] (by decide) rfl (by decide) (wr := [(pb, .inl (cI, pbn, .inl pbf)), (q3, .inl (cI, (p2 * mch).toNatClampNeg, .inl (fun _ => 0))), (o, .inr (6, [.int mth, .int mn, .int mch, .ref oc, .ref oi, .int mcl, .ref ol, .int mgo, .int mmo, .ref ob])), (oc, .inl (cI, 14, .inl mcf)), (oi, .inl (cI, 3, .inl mif)), (ol, .inl (cI, 24, .inl mlf)), (ob, .inl (cI, mbn, .inl mbf))]) rfl (by decide) hl.1 rfl rfl (Nat.le_of_ble_eq_true rfl) dX7_rows_15 ⟨(Nat.le_of_ble_eq_true rfl), (Nat.le_of_ble_eq_true rfl)⟩ (fun i9 H locs hP hD hS => ?_)
  have hP : va_P (dC, dI) vwCl [(pb, .inl (cI, pbn, .inl pbf)), (q3, .inl (cI, (p2 * mch).toNatClampNeg, .inl (fun _ => 0))), (o, .inr (6, [.int mth, .int mn, .int mch, .ref oc, .ref oi, .int mcl, .ref ol, .int mgo, .int mmo, .ref ob])), (oc, .inl (cI, 14, .inl mcf)), (oi, .inl (cI, 3, .inl mif)), (ol, .inl (cI, 24, .inl mlf)), (ob, .inl (cI, mbn, .inl mbf)), (pa, .inl (cI, pan, .inl paf)), (i6, .inl (cI, r4.2, .inl r4.1)), (i9, .inl (cI, r7.2, .inl r7.1))] H := hP
  have hD : va_D A [(pb, .inl (cI, pbn, .inl pbf)), (q3, .inl (cI, (p2 * mch).toNatClampNeg, .inl (fun _ => 0))), (o, .inr (6, [.int mth, .int mn, .int mch, .ref oc, .ref oi, .int mcl, .ref ol, .int mgo, .int mmo, .ref ob])), (oc, .inl (cI, 14, .inl mcf)), (oi, .inl (cI, 3, .inl mif)), (ol, .inl (cI, 24, .inl mlf)), (ob, .inl (cI, mbn, .inl mbf)), (pa, .inl (cI, pan, .inl paf)), (i6, .inl (cI, r4.2, .inl r4.1)), (i9, .inl (cI, r7.2, .inl r7.1))] := hD
  refine lv_astore (lv' := [(5, .ref i9), (4, .ref q3), (0, .ref o), (1, .ref pa), (2, .ref pb), (3, .int p2)]) hx hb dX7_rows_18 hl (by decide) rfl (fun ls hl => ?_)
  refine lv_iconst (v := (0 : Int32)) hx hb dX7_rows_20 (by decide) ?_
  refine lv_istore (lv' := [(6, .int (0 : Int32)), (5, .ref i9), (4, .ref q3), (0, .ref o), (1, .ref pa), (2, .ref pb), (3, .int p2)]) hx hb dX7_rows_21 hl (by decide) rfl (fun ls hl => ?_)
  have X23 : ∀ (x6_23 : Int32) (f1_23 : (Nat → Int32)) (f9_23 : (Nat → Int32)) (H : Heap) (locs : List Loc) (ls : Array Slot), fX7_rowsb_X23 p2 mch x6_23 f1_23 f9_23 = some r → va_P (dC, dI) vwCl [(pb, .inl (cI, pbn, .inl pbf)), (q3, .inl (cI, (p2 * mch).toNatClampNeg, .inl f1_23)), (o, .inr (6, [.int mth, .int mn, .int mch, .ref oc, .ref oi, .int mcl, .ref ol, .int mgo, .int mmo, .ref ob])), (oc, .inl (cI, 14, .inl mcf)), (oi, .inl (cI, 3, .inl mif)), (ol, .inl (cI, 24, .inl mlf)), (ob, .inl (cI, mbn, .inl mbf)), (pa, .inl (cI, pan, .inl paf)), (i6, .inl (cI, r4.2, .inl r4.1)), (i9, .inl (cI, r7.2, .inl f9_23))] H → va_D A [(pb, .inl (cI, pbn, .inl pbf)), (q3, .inl (cI, (p2 * mch).toNatClampNeg, .inl f1_23)), (o, .inr (6, [.int mth, .int mn, .int mch, .ref oc, .ref oi, .int mcl, .ref ol, .int mgo, .int mmo, .ref ob])), (oc, .inl (cI, 14, .inl mcf)), (oi, .inl (cI, 3, .inl mif)), (ol, .inl (cI, 24, .inl mlf)), (ob, .inl (cI, mbn, .inl mbf)), (pa, .inl (cI, pan, .inl paf)), (i6, .inl (cI, r4.2, .inl r4.1)), (i9, .inl (cI, r7.2, .inl f9_23))] → va_S A s.heap H locs → lv_has ls 11 [(6, .int x6_23), (5, .ref i9), (4, .ref q3), (0, .ref o), (1, .ref pa), (2, .ref pb), (3, .int p2)] → W p l e rmX7_rowsb s m ([.ref o, .ref pa, .ref pb, .int p2] : List Value).toArray below meth c H locs 3 350 (MQ below (ct_Q (dC, dI) tys (fun i : Nat => some (.ref i)) (fun i : Nat => [(o, .inr (6, [.int mth, .int mn, .int mch, .ref oc, .ref oi, .int mcl, .ref ol, .int mgo, .int mmo, .ref ob])), (oc, .inl (cI, 14, .inl mcf)), (oi, .inl (cI, 3, .inl mif)), (ol, .inl (cI, 24, .inl mlf)), (ob, .inl (cI, mbn, .inl mbf)), (pa, .inl (cI, pan, .inl paf)), (pb, .inl (cI, pbn, .inl pbf)), (i, .inl (cI, r.2, .inl r.1))]) A) ([.ref o, .ref pa, .ref pb, .int p2] : List Value).toArray s rmX7_rowsb.cells rmX7_rowsb.slots A) (F0 m 166 ls []) := by
    intro x6_23 f1_23 f9_23 H locs ls hF hP hD hS hl
    unfold fX7_rowsb_X23 at hF
    refine lv_aload hx hb dX7_rows_166 (lv_at hl 2 rfl) ?_
    obtain rfl := Option.some.inj hF
    exact ct_a hx hb hr hlocks hK hP hD hS q3 rfl [2, 3, 4, 5, 6, 7, 0, 1] (by decide) rfl (Nat.le_of_ble_eq_true rfl) (Nat.le_of_ble_eq_true rfl) dX7_rows_168
  have L23 : ∀ (n23 : Nat) (x6_23 : Int32) (f1_23 : (Nat → Int32)) (f9_23 : (Nat → Int32)) (H : Heap) (locs : List Loc) (ls : Array Slot), fX7_rowsb_L23 p2 mch pbn pbf mn mcf r7 mif (fX7_rowsb_X23 p2 mch) n23 x6_23 f1_23 f9_23 = some r → va_P (dC, dI) vwCl [(pb, .inl (cI, pbn, .inl pbf)), (q3, .inl (cI, (p2 * mch).toNatClampNeg, .inl f1_23)), (o, .inr (6, [.int mth, .int mn, .int mch, .ref oc, .ref oi, .int mcl, .ref ol, .int mgo, .int mmo, .ref ob])), (oc, .inl (cI, 14, .inl mcf)), (oi, .inl (cI, 3, .inl mif)), (ol, .inl (cI, 24, .inl mlf)), (ob, .inl (cI, mbn, .inl mbf)), (pa, .inl (cI, pan, .inl paf)), (i6, .inl (cI, r4.2, .inl r4.1)), (i9, .inl (cI, r7.2, .inl f9_23))] H → va_D A [(pb, .inl (cI, pbn, .inl pbf)), (q3, .inl (cI, (p2 * mch).toNatClampNeg, .inl f1_23)), (o, .inr (6, [.int mth, .int mn, .int mch, .ref oc, .ref oi, .int mcl, .ref ol, .int mgo, .int mmo, .ref ob])), (oc, .inl (cI, 14, .inl mcf)), (oi, .inl (cI, 3, .inl mif)), (ol, .inl (cI, 24, .inl mlf)), (ob, .inl (cI, mbn, .inl mbf)), (pa, .inl (cI, pan, .inl paf)), (i6, .inl (cI, r4.2, .inl r4.1)), (i9, .inl (cI, r7.2, .inl f9_23))] → va_S A s.heap H locs → lv_has ls 11 [(6, .int x6_23), (5, .ref i9), (4, .ref q3), (0, .ref o), (1, .ref pa), (2, .ref pb), (3, .int p2)] → W p l e rmX7_rowsb s m ([.ref o, .ref pa, .ref pb, .int p2] : List Value).toArray below meth c H locs 3 350 (MQ below (ct_Q (dC, dI) tys (fun i : Nat => some (.ref i)) (fun i : Nat => [(o, .inr (6, [.int mth, .int mn, .int mch, .ref oc, .ref oi, .int mcl, .ref ol, .int mgo, .int mmo, .ref ob])), (oc, .inl (cI, 14, .inl mcf)), (oi, .inl (cI, 3, .inl mif)), (ol, .inl (cI, 24, .inl mlf)), (ob, .inl (cI, mbn, .inl mbf)), (pa, .inl (cI, pan, .inl paf)), (pb, .inl (cI, pbn, .inl pbf)), (i, .inl (cI, r.2, .inl r.1))]) A) ([.ref o, .ref pa, .ref pb, .int p2] : List Value).toArray s rmX7_rowsb.cells rmX7_rowsb.slots A) (F0 m 23 ls []) := by
    intro n23
    induction n23 with
    | zero => intro x6_23 f1_23 f9_23 H locs ls hF; rw [fX7_rowsb_L23] at hF; cases hF
    | succ n23 ih23 =>
      intro x6_23 f1_23 f9_23 H locs ls hF hP hD hS hl
      rw [fX7_rowsb_L23] at hF
      refine lv_iload hx hb dX7_rows_23 (lv_at hl 0 rfl) ?_
      refine lv_aload hx hb dX7_rows_25 (lv_at hl 2 rfl) ?_
      refine va_alen hx hb hK hP 1 0 rfl ht0 (v := Int32.ofNat ((p2 * mch).toNatClampNeg)) rfl dX7_rows_27 ?_
      refine lv_icmp_ge (tgt := 166) hx hb dX7_rows_28 (by decide) (fun c10 => ?_) (fun c10 => ?_)
      · have hF := (if_pos c10).symm.trans hF
        exact X23 x6_23 f1_23 f9_23 _ _ _ hF (hP.sub [0, 1, 2, 3, 4, 5, 6, 7, 8, 9] rfl) (hD.sub [0, 1, 2, 3, 4, 5, 6, 7, 8, 9] (by decide) rfl) hS (lv_sub hl [0, 1, 2, 3, 4, 5, 6] rfl)
      · have hF := (if_neg c10).symm.trans hF
        refine lv_aload_n hx hb dX7_rows_31 rfl (lv_at hl 5 rfl) ?_
        refine lv_iload hx hb dX7_rows_32 (lv_at hl 0 rfl) ?_
        refine lv_aload_n hx hb dX7_rows_34 rfl (lv_at hl 3 rfl) ?_
        refine va_get (D := (dC, dI)) (ci := 6) (v := .int mch) (C := RX7) (T := TX7) (N := 10) hx hb hts uX7 hown hK hP 2 rfl rfl 2 (by decide) w1 (fun _ h9 => h9) rfl dX7_rows_35 ?_
        obtain ⟨g11, hF⟩ := gd_n hF
        refine lv_idiv hx hb dX7_rows_38 g11 ?_
        obtain ⟨g12, hF⟩ := gd_n hF
        refine va_iald hx hb hK hP 0 0 rfl ht0 g12 dX7_rows_39 ?_
        refine lv_istore (lv' := [(7, .int (pbf (x6_23 / mch).toNatClampNeg)), (6, .int x6_23), (5, .ref i9), (4, .ref q3), (0, .ref o), (1, .ref pa), (2, .ref pb), (3, .int p2)]) hx hb dX7_rows_40 hl (by decide) rfl (fun ls hl => ?_)
        refine lv_iload hx hb dX7_rows_42 (lv_at hl 1 rfl) ?_
        refine lv_aload_n hx hb dX7_rows_44 rfl (lv_at hl 4 rfl) ?_
        refine va_get (D := (dC, dI)) (ci := 6) (v := .int mch) (C := RX7) (T := TX7) (N := 10) hx hb hts uX7 hown hK hP 2 rfl rfl 2 (by decide) w1 (fun _ h9 => h9) rfl dX7_rows_45 ?_
        obtain ⟨g13, hF⟩ := gd_n hF
        refine lv_irem hx hb dX7_rows_48 g13 ?_
        refine lv_aload_n hx hb dX7_rows_49 rfl (lv_at hl 4 rfl) ?_
        refine va_get (D := (dC, dI)) (ci := 6) (v := .int mch) (C := RX7) (T := TX7) (N := 10) hx hb hts uX7 hown hK hP 2 rfl rfl 2 (by decide) w1 (fun _ h9 => h9) rfl dX7_rows_50 ?_
        refine lv_iconst (v := (1 : Int32)) hx hb dX7_rows_53 (by decide) ?_
        refine lv_isub hx hb dX7_rows_54 ?_
        refine lv_icmp_ne (tgt := 73) hx hb dX7_rows_55 (by decide) (fun c14 => ?_) (fun c14 => ?_)
        · have hF := (if_neg c14).symm.trans hF
          refine lv_aload_n hx hb dX7_rows_73 rfl (lv_at hl 4 rfl) ?_
          refine va_get (D := (dC, dI)) (ci := 6) (v := .ref oc) (C := RX7) (T := TX7) (N := 10) hx hb hts uX7 hown hK hP 2 rfl rfl 3 (by decide) w3 (fun _ h9 => h9) rfl dX7_rows_74 ?_
          refine lv_iload hx hb dX7_rows_77 (lv_at hl 1 rfl) ?_
          refine lv_aload_n hx hb dX7_rows_79 rfl (lv_at hl 4 rfl) ?_
          refine va_get (D := (dC, dI)) (ci := 6) (v := .int mch) (C := RX7) (T := TX7) (N := 10) hx hb hts uX7 hown hK hP 2 rfl rfl 2 (by decide) w1 (fun _ h9 => h9) rfl dX7_rows_80 ?_
          obtain ⟨g15, hF⟩ := gd_n hF
          refine lv_irem hx hb dX7_rows_83 g15 ?_
          obtain ⟨g16, hF⟩ := gd_n hF
          refine va_iald hx hb hK hP 3 0 rfl ht0 g16 dX7_rows_84 ?_
          refine lv_istore (lv' := [(8, .int (mcf (x6_23 - x6_23 / mch * mch).toNatClampNeg)), (7, .int (pbf (x6_23 / mch).toNatClampNeg)), (6, .int x6_23), (5, .ref i9), (4, .ref q3), (0, .ref o), (1, .ref pa), (2, .ref pb), (3, .int p2)]) hx hb dX7_rows_85 hl (by decide) rfl (fun ls hl => ?_)
          refine lv_iconst (v := (0 : Int32)) hx hb dX7_rows_87 (by decide) ?_
          refine lv_istore (lv' := [(9, .int (0 : Int32)), (8, .int (mcf (x6_23 - x6_23 / mch * mch).toNatClampNeg)), (7, .int (pbf (x6_23 / mch).toNatClampNeg)), (6, .int x6_23), (5, .ref i9), (4, .ref q3), (0, .ref o), (1, .ref pa), (2, .ref pb), (3, .int p2)]) hx hb dX7_rows_88 hl (by decide) rfl (fun ls hl => ?_)
          have X90 : ∀ (x9_90 : Int32) (f9_90 : (Nat → Int32)) (H : Heap) (locs : List Loc) (ls : Array Slot), fX7_rowsb_X90 r7 x6_23 p2 mch (fX7_rowsb_L23 p2 mch pbn pbf mn mcf r7 mif (fX7_rowsb_X23 p2 mch) n23) f1_23 x9_90 f9_90 = some r → va_P (dC, dI) vwCl [(pb, .inl (cI, pbn, .inl pbf)), (q3, .inl (cI, (p2 * mch).toNatClampNeg, .inl f1_23)), (o, .inr (6, [.int mth, .int mn, .int mch, .ref oc, .ref oi, .int mcl, .ref ol, .int mgo, .int mmo, .ref ob])), (oc, .inl (cI, 14, .inl mcf)), (oi, .inl (cI, 3, .inl mif)), (ol, .inl (cI, 24, .inl mlf)), (ob, .inl (cI, mbn, .inl mbf)), (pa, .inl (cI, pan, .inl paf)), (i6, .inl (cI, r4.2, .inl r4.1)), (i9, .inl (cI, r7.2, .inl f9_90))] H → va_D A [(pb, .inl (cI, pbn, .inl pbf)), (q3, .inl (cI, (p2 * mch).toNatClampNeg, .inl f1_23)), (o, .inr (6, [.int mth, .int mn, .int mch, .ref oc, .ref oi, .int mcl, .ref ol, .int mgo, .int mmo, .ref ob])), (oc, .inl (cI, 14, .inl mcf)), (oi, .inl (cI, 3, .inl mif)), (ol, .inl (cI, 24, .inl mlf)), (ob, .inl (cI, mbn, .inl mbf)), (pa, .inl (cI, pan, .inl paf)), (i6, .inl (cI, r4.2, .inl r4.1)), (i9, .inl (cI, r7.2, .inl f9_90))] → va_S A s.heap H locs → lv_has ls 11 [(9, .int x9_90), (8, .int (mcf (x6_23 - x6_23 / mch * mch).toNatClampNeg)), (7, .int (pbf (x6_23 / mch).toNatClampNeg)), (6, .int x6_23), (5, .ref i9), (4, .ref q3), (0, .ref o), (1, .ref pa), (2, .ref pb), (3, .int p2)] → W p l e rmX7_rowsb s m ([.ref o, .ref pa, .ref pb, .int p2] : List Value).toArray below meth c H locs 3 350 (MQ below (ct_Q (dC, dI) tys (fun i : Nat => some (.ref i)) (fun i : Nat => [(o, .inr (6, [.int mth, .int mn, .int mch, .ref oc, .ref oi, .int mcl, .ref ol, .int mgo, .int mmo, .ref ob])), (oc, .inl (cI, 14, .inl mcf)), (oi, .inl (cI, 3, .inl mif)), (ol, .inl (cI, 24, .inl mlf)), (ob, .inl (cI, mbn, .inl mbf)), (pa, .inl (cI, pan, .inl paf)), (pb, .inl (cI, pbn, .inl pbf)), (i, .inl (cI, r.2, .inl r.1))]) A) ([.ref o, .ref pa, .ref pb, .int p2] : List Value).toArray s rmX7_rowsb.cells rmX7_rowsb.slots A) (F0 m 150 ls []) := by
            intro x9_90 f9_90 H locs ls hF hP hD hS hl
            unfold fX7_rowsb_X90 at hF
            refine lv_aload hx hb dX7_rows_150 (lv_at hl 5 rfl) ?_
            refine lv_iload hx hb dX7_rows_152 (lv_at hl 3 rfl) ?_
            refine lv_aload hx hb dX7_rows_154 (lv_at hl 4 rfl) ?_
            obtain ⟨r17, hC18, hF⟩ := gd_b hF
            refine ct_callS (As := [.ref i9]) (rest := [.int x6_23, .ref q3]) ⟨hx, hb, hml, hown, hts⟩ (kX7_number l dC dI tys cI ht0 i9 r7.2 f9_90 r17 hC18) (va_cwS 1 hts gX7_rows_X7_number rfl rfl rfl (by decide +kernel) ⟨Nat.le_of_ble_eq_true rfl, Nat.le_of_ble_eq_true rfl⟩) hE hK hP hD hS hA [9] [0, 1, 2, 3, 4, 5, 6, 7, 8] (by decide) rfl (by decide) (wr := [(pb, .inl (cI, pbn, .inl pbf)), (q3, .inl (cI, (p2 * mch).toNatClampNeg, .inl f1_23)), (o, .inr (6, [.int mth, .int mn, .int mch, .ref oc, .ref oi, .int mcl, .ref ol, .int mgo, .int mmo, .ref ob])), (oc, .inl (cI, 14, .inl mcf)), (oi, .inl (cI, 3, .inl mif)), (ol, .inl (cI, 24, .inl mlf)), (ob, .inl (cI, mbn, .inl mbf)), (pa, .inl (cI, pan, .inl paf)), (i6, .inl (cI, r4.2, .inl r4.1))]) rfl (by decide) hl.1 rfl rfl (Nat.le_of_ble_eq_true rfl) dX7_rows_156 ⟨(Nat.le_of_ble_eq_true rfl), (Nat.le_of_ble_eq_true rfl)⟩ (fun i19 H locs hP hD hS => ?_)
            have hP : va_P (dC, dI) vwCl [(pb, .inl (cI, pbn, .inl pbf)), (q3, .inl (cI, (p2 * mch).toNatClampNeg, .inl f1_23)), (o, .inr (6, [.int mth, .int mn, .int mch, .ref oc, .ref oi, .int mcl, .ref ol, .int mgo, .int mmo, .ref ob])), (oc, .inl (cI, 14, .inl mcf)), (oi, .inl (cI, 3, .inl mif)), (ol, .inl (cI, 24, .inl mlf)), (ob, .inl (cI, mbn, .inl mbf)), (pa, .inl (cI, pan, .inl paf)), (i6, .inl (cI, r4.2, .inl r4.1)), (i9, .inl (cI, r7.2, .inl f9_90))] H := hP
            have hD : va_D A [(pb, .inl (cI, pbn, .inl pbf)), (q3, .inl (cI, (p2 * mch).toNatClampNeg, .inl f1_23)), (o, .inr (6, [.int mth, .int mn, .int mch, .ref oc, .ref oi, .int mcl, .ref ol, .int mgo, .int mmo, .ref ob])), (oc, .inl (cI, 14, .inl mcf)), (oi, .inl (cI, 3, .inl mif)), (ol, .inl (cI, 24, .inl mlf)), (ob, .inl (cI, mbn, .inl mbf)), (pa, .inl (cI, pan, .inl paf)), (i6, .inl (cI, r4.2, .inl r4.1)), (i9, .inl (cI, r7.2, .inl f9_90))] := hD
            obtain ⟨g20, hF⟩ := gd_n hF
            refine va_iast hx hb hK hP hD hS 1 0 rfl ht0 g20 dX7_rows_159 (fun H locs hP hD hS => ?_)
            have hP : va_P (dC, dI) vwCl [(pb, .inl (cI, pbn, .inl pbf)), (q3, .inl (cI, (p2 * mch).toNatClampNeg, .inl (upd f1_23 x6_23.toNatClampNeg r17))), (o, .inr (6, [.int mth, .int mn, .int mch, .ref oc, .ref oi, .int mcl, .ref ol, .int mgo, .int mmo, .ref ob])), (oc, .inl (cI, 14, .inl mcf)), (oi, .inl (cI, 3, .inl mif)), (ol, .inl (cI, 24, .inl mlf)), (ob, .inl (cI, mbn, .inl mbf)), (pa, .inl (cI, pan, .inl paf)), (i6, .inl (cI, r4.2, .inl r4.1)), (i9, .inl (cI, r7.2, .inl f9_90))] H := hP
            have hD : va_D A [(pb, .inl (cI, pbn, .inl pbf)), (q3, .inl (cI, (p2 * mch).toNatClampNeg, .inl (upd f1_23 x6_23.toNatClampNeg r17))), (o, .inr (6, [.int mth, .int mn, .int mch, .ref oc, .ref oi, .int mcl, .ref ol, .int mgo, .int mmo, .ref ob])), (oc, .inl (cI, 14, .inl mcf)), (oi, .inl (cI, 3, .inl mif)), (ol, .inl (cI, 24, .inl mlf)), (ob, .inl (cI, mbn, .inl mbf)), (pa, .inl (cI, pan, .inl paf)), (i6, .inl (cI, r4.2, .inl r4.1)), (i9, .inl (cI, r7.2, .inl f9_90))] := hD
            refine lv_iinc (v := x6_23 + (1 : Int32)) (lv' := [(6, .int (x6_23 + (1 : Int32))), (9, .int x9_90), (8, .int (mcf (x6_23 - x6_23 / mch * mch).toNatClampNeg)), (7, .int (pbf (x6_23 / mch).toNatClampNeg)), (5, .ref i9), (4, .ref q3), (0, .ref o), (1, .ref pa), (2, .ref pb), (3, .int p2)]) hx hb dX7_rows_160 hl (k := 3) rfl rfl (by decide) rfl (fun ls hl => ?_)
            refine lv_goto (tgt := 23) hx hb dX7_rows_163 (by decide) ?_
            exact ih23 (x6_23 + (1 : Int32)) (upd f1_23 x6_23.toNatClampNeg r17) f9_90 _ _ _ hF (hP.sub [0, 1, 2, 3, 4, 5, 6, 7, 8, 9] rfl) (hD.sub [0, 1, 2, 3, 4, 5, 6, 7, 8, 9] (by decide) rfl) hS (lv_sub hl [0, 4, 5, 6, 7, 8, 9] rfl)
          have L90 : ∀ (n90 : Nat) (x9_90 : Int32) (f9_90 : (Nat → Int32)) (H : Heap) (locs : List Loc) (ls : Array Slot), fX7_rowsb_L90 mn mcf x6_23 mch r7 (fX7_rowsb_X90 r7 x6_23 p2 mch (fX7_rowsb_L23 p2 mch pbn pbf mn mcf r7 mif (fX7_rowsb_X23 p2 mch) n23) f1_23) n90 x9_90 f9_90 = some r → va_P (dC, dI) vwCl [(pb, .inl (cI, pbn, .inl pbf)), (q3, .inl (cI, (p2 * mch).toNatClampNeg, .inl f1_23)), (o, .inr (6, [.int mth, .int mn, .int mch, .ref oc, .ref oi, .int mcl, .ref ol, .int mgo, .int mmo, .ref ob])), (oc, .inl (cI, 14, .inl mcf)), (oi, .inl (cI, 3, .inl mif)), (ol, .inl (cI, 24, .inl mlf)), (ob, .inl (cI, mbn, .inl mbf)), (pa, .inl (cI, pan, .inl paf)), (i6, .inl (cI, r4.2, .inl r4.1)), (i9, .inl (cI, r7.2, .inl f9_90))] H → va_D A [(pb, .inl (cI, pbn, .inl pbf)), (q3, .inl (cI, (p2 * mch).toNatClampNeg, .inl f1_23)), (o, .inr (6, [.int mth, .int mn, .int mch, .ref oc, .ref oi, .int mcl, .ref ol, .int mgo, .int mmo, .ref ob])), (oc, .inl (cI, 14, .inl mcf)), (oi, .inl (cI, 3, .inl mif)), (ol, .inl (cI, 24, .inl mlf)), (ob, .inl (cI, mbn, .inl mbf)), (pa, .inl (cI, pan, .inl paf)), (i6, .inl (cI, r4.2, .inl r4.1)), (i9, .inl (cI, r7.2, .inl f9_90))] → va_S A s.heap H locs → lv_has ls 11 [(9, .int x9_90), (8, .int (mcf (x6_23 - x6_23 / mch * mch).toNatClampNeg)), (7, .int (pbf (x6_23 / mch).toNatClampNeg)), (6, .int x6_23), (5, .ref i9), (4, .ref q3), (0, .ref o), (1, .ref pa), (2, .ref pb), (3, .int p2)] → W p l e rmX7_rowsb s m ([.ref o, .ref pa, .ref pb, .int p2] : List Value).toArray below meth c H locs 3 350 (MQ below (ct_Q (dC, dI) tys (fun i : Nat => some (.ref i)) (fun i : Nat => [(o, .inr (6, [.int mth, .int mn, .int mch, .ref oc, .ref oi, .int mcl, .ref ol, .int mgo, .int mmo, .ref ob])), (oc, .inl (cI, 14, .inl mcf)), (oi, .inl (cI, 3, .inl mif)), (ol, .inl (cI, 24, .inl mlf)), (ob, .inl (cI, mbn, .inl mbf)), (pa, .inl (cI, pan, .inl paf)), (pb, .inl (cI, pbn, .inl pbf)), (i, .inl (cI, r.2, .inl r.1))]) A) ([.ref o, .ref pa, .ref pb, .int p2] : List Value).toArray s rmX7_rowsb.cells rmX7_rowsb.slots A) (F0 m 90 ls []) := by
            intro n90
            induction n90 with
            | zero => intro x9_90 f9_90 H locs ls hF; rw [fX7_rowsb_L90] at hF; cases hF
            | succ n90 ih90 =>
              intro x9_90 f9_90 H locs ls hF hP hD hS hl
              rw [fX7_rowsb_L90] at hF
              refine lv_iload hx hb dX7_rows_90 (lv_at hl 0 rfl) ?_
              refine lv_iconst (v := (1 : Int32)) hx hb dX7_rows_92 (by decide) ?_
              refine lv_iadd hx hb dX7_rows_93 ?_
              refine lv_aload_n hx hb dX7_rows_94 rfl (lv_at hl 6 rfl) ?_
              refine va_get (D := (dC, dI)) (ci := 6) (v := .int mn) (C := RX7) (T := TX7) (N := 10) hx hb hts uX7 hown hK hP 2 rfl rfl 1 (by decide) w4 (fun _ h9 => h9) rfl dX7_rows_95 ?_
              refine lv_icmp_ge (tgt := 150) hx hb dX7_rows_98 (by decide) (fun c21 => ?_) (fun c21 => ?_)
              · have hF := (if_pos c21).symm.trans hF
                exact X90 x9_90 f9_90 _ _ _ hF (hP.sub [0, 1, 2, 3, 4, 5, 6, 7, 8, 9] rfl) (hD.sub [0, 1, 2, 3, 4, 5, 6, 7, 8, 9] (by decide) rfl) hS (lv_sub hl [0, 1, 2, 3, 4, 5, 6, 7, 8, 9] rfl)
              · have hF := (if_neg c21).symm.trans hF
                refine lv_iload hx hb dX7_rows_101 (lv_at hl 1 rfl) ?_
                refine lv_iload hx hb dX7_rows_103 (lv_at hl 0 rfl) ?_
                refine lv_ishr hx hb dX7_rows_105 ?_
                refine lv_iconst (v := (1 : Int32)) hx hb dX7_rows_106 (by decide) ?_
                refine lv_iand hx hb dX7_rows_107 ?_
                refine lv_iconst (v := (1 : Int32)) hx hb dX7_rows_108 (by decide) ?_
                refine lv_icmp_ne (tgt := 115) hx hb dX7_rows_109 (by decide) (fun c22 => ?_) (fun c22 => ?_)
                · have hF := (if_neg c22).symm.trans hF
                  refine lv_aload hx hb dX7_rows_115 (lv_at hl 4 rfl) ?_
                  refine lv_iload hx hb dX7_rows_117 (lv_at hl 0 rfl) ?_
                  obtain ⟨g23, hF⟩ := gd_n hF
                  refine va_iald hx hb hK hP 9 0 rfl ht0 g23 dX7_rows_119 ?_
                  refine lv_istore (lv' := [(10, .int (f9_90 x9_90.toNatClampNeg)), (9, .int x9_90), (8, .int (mcf (x6_23 - x6_23 / mch * mch).toNatClampNeg)), (7, .int (pbf (x6_23 / mch).toNatClampNeg)), (6, .int x6_23), (5, .ref i9), (4, .ref q3), (0, .ref o), (1, .ref pa), (2, .ref pb), (3, .int p2)]) hx hb dX7_rows_120 hl (by decide) rfl (fun ls hl => ?_)
                  refine lv_aload hx hb dX7_rows_122 (lv_at hl 5 rfl) ?_
                  refine lv_iload hx hb dX7_rows_124 (lv_at hl 1 rfl) ?_
                  refine lv_aload hx hb dX7_rows_126 (lv_at hl 5 rfl) ?_
                  refine lv_iload hx hb dX7_rows_128 (lv_at hl 1 rfl) ?_
                  refine lv_iconst (v := (1 : Int32)) hx hb dX7_rows_130 (by decide) ?_
                  refine lv_iadd hx hb dX7_rows_131 ?_
                  obtain ⟨g24, hF⟩ := gd_n hF
                  refine va_iald hx hb hK hP 9 0 rfl ht0 g24 dX7_rows_132 ?_
                  obtain ⟨g25, hF⟩ := gd_n hF
                  refine va_iast hx hb hK hP hD hS 9 0 rfl ht0 g25 dX7_rows_133 (fun H locs hP hD hS => ?_)
                  have hP : va_P (dC, dI) vwCl [(pb, .inl (cI, pbn, .inl pbf)), (q3, .inl (cI, (p2 * mch).toNatClampNeg, .inl f1_23)), (o, .inr (6, [.int mth, .int mn, .int mch, .ref oc, .ref oi, .int mcl, .ref ol, .int mgo, .int mmo, .ref ob])), (oc, .inl (cI, 14, .inl mcf)), (oi, .inl (cI, 3, .inl mif)), (ol, .inl (cI, 24, .inl mlf)), (ob, .inl (cI, mbn, .inl mbf)), (pa, .inl (cI, pan, .inl paf)), (i6, .inl (cI, r4.2, .inl r4.1)), (i9, .inl (cI, r7.2, .inl (upd f9_90 x9_90.toNatClampNeg (f9_90 (x9_90 + (1 : Int32)).toNatClampNeg))))] H := hP
                  have hD : va_D A [(pb, .inl (cI, pbn, .inl pbf)), (q3, .inl (cI, (p2 * mch).toNatClampNeg, .inl f1_23)), (o, .inr (6, [.int mth, .int mn, .int mch, .ref oc, .ref oi, .int mcl, .ref ol, .int mgo, .int mmo, .ref ob])), (oc, .inl (cI, 14, .inl mcf)), (oi, .inl (cI, 3, .inl mif)), (ol, .inl (cI, 24, .inl mlf)), (ob, .inl (cI, mbn, .inl mbf)), (pa, .inl (cI, pan, .inl paf)), (i6, .inl (cI, r4.2, .inl r4.1)), (i9, .inl (cI, r7.2, .inl (upd f9_90 x9_90.toNatClampNeg (f9_90 (x9_90 + (1 : Int32)).toNatClampNeg))))] := hD
                  refine lv_aload hx hb dX7_rows_134 (lv_at hl 5 rfl) ?_
                  refine lv_iinc (v := x9_90 + (1 : Int32)) (lv' := [(9, .int (x9_90 + (1 : Int32))), (10, .int (f9_90 x9_90.toNatClampNeg)), (8, .int (mcf (x6_23 - x6_23 / mch * mch).toNatClampNeg)), (7, .int (pbf (x6_23 / mch).toNatClampNeg)), (6, .int x6_23), (5, .ref i9), (4, .ref q3), (0, .ref o), (1, .ref pa), (2, .ref pb), (3, .int p2)]) hx hb dX7_rows_136 hl (k := 1) rfl rfl (by decide) rfl (fun ls hl => ?_)
                  refine lv_iload hx hb dX7_rows_139 (lv_at hl 0 rfl) ?_
                  refine lv_iload hx hb dX7_rows_141 (lv_at hl 1 rfl) ?_
                  obtain ⟨g26, hF⟩ := gd_n hF
                  refine va_iast hx hb hK hP hD hS 9 0 rfl ht0 g26 dX7_rows_143 (fun H locs hP hD hS => ?_)
                  have hP : va_P (dC, dI) vwCl [(pb, .inl (cI, pbn, .inl pbf)), (q3, .inl (cI, (p2 * mch).toNatClampNeg, .inl f1_23)), (o, .inr (6, [.int mth, .int mn, .int mch, .ref oc, .ref oi, .int mcl, .ref ol, .int mgo, .int mmo, .ref ob])), (oc, .inl (cI, 14, .inl mcf)), (oi, .inl (cI, 3, .inl mif)), (ol, .inl (cI, 24, .inl mlf)), (ob, .inl (cI, mbn, .inl mbf)), (pa, .inl (cI, pan, .inl paf)), (i6, .inl (cI, r4.2, .inl r4.1)), (i9, .inl (cI, r7.2, .inl (upd (upd f9_90 x9_90.toNatClampNeg (f9_90 (x9_90 + (1 : Int32)).toNatClampNeg)) (x9_90 + (1 : Int32)).toNatClampNeg (f9_90 x9_90.toNatClampNeg))))] H := hP
                  have hD : va_D A [(pb, .inl (cI, pbn, .inl pbf)), (q3, .inl (cI, (p2 * mch).toNatClampNeg, .inl f1_23)), (o, .inr (6, [.int mth, .int mn, .int mch, .ref oc, .ref oi, .int mcl, .ref ol, .int mgo, .int mmo, .ref ob])), (oc, .inl (cI, 14, .inl mcf)), (oi, .inl (cI, 3, .inl mif)), (ol, .inl (cI, 24, .inl mlf)), (ob, .inl (cI, mbn, .inl mbf)), (pa, .inl (cI, pan, .inl paf)), (i6, .inl (cI, r4.2, .inl r4.1)), (i9, .inl (cI, r7.2, .inl (upd (upd f9_90 x9_90.toNatClampNeg (f9_90 (x9_90 + (1 : Int32)).toNatClampNeg)) (x9_90 + (1 : Int32)).toNatClampNeg (f9_90 x9_90.toNatClampNeg))))] := hD
                  refine lv_iinc (v := (x9_90 + (1 : Int32)) + (1 : Int32)) (lv' := [(9, .int ((x9_90 + (1 : Int32)) + (1 : Int32))), (10, .int (f9_90 x9_90.toNatClampNeg)), (8, .int (mcf (x6_23 - x6_23 / mch * mch).toNatClampNeg)), (7, .int (pbf (x6_23 / mch).toNatClampNeg)), (6, .int x6_23), (5, .ref i9), (4, .ref q3), (0, .ref o), (1, .ref pa), (2, .ref pb), (3, .int p2)]) hx hb dX7_rows_144 hl (k := 0) rfl rfl (by decide) rfl (fun ls hl => ?_)
                  refine lv_goto (tgt := 90) hx hb dX7_rows_147 (by decide) ?_
                  exact ih90 ((x9_90 + (1 : Int32)) + (1 : Int32)) (upd (upd f9_90 x9_90.toNatClampNeg (f9_90 (x9_90 + (1 : Int32)).toNatClampNeg)) (x9_90 + (1 : Int32)).toNatClampNeg (f9_90 x9_90.toNatClampNeg)) _ _ _ hF (hP.sub [0, 1, 2, 3, 4, 5, 6, 7, 8, 9] rfl) (hD.sub [0, 1, 2, 3, 4, 5, 6, 7, 8, 9] (by decide) rfl) hS (lv_sub hl [0, 2, 3, 4, 5, 6, 7, 8, 9, 10] rfl)
                · have hF := (if_pos c22).symm.trans hF
                  refine lv_goto (tgt := 144) hx hb dX7_rows_112 (by decide) ?_
                  refine lv_iinc (v := x9_90 + (1 : Int32)) (lv' := [(9, .int (x9_90 + (1 : Int32))), (8, .int (mcf (x6_23 - x6_23 / mch * mch).toNatClampNeg)), (7, .int (pbf (x6_23 / mch).toNatClampNeg)), (6, .int x6_23), (5, .ref i9), (4, .ref q3), (0, .ref o), (1, .ref pa), (2, .ref pb), (3, .int p2)]) hx hb dX7_rows_144 hl (k := 0) rfl rfl (by decide) rfl (fun ls hl => ?_)
                  refine lv_goto (tgt := 90) hx hb dX7_rows_147 (by decide) ?_
                  exact ih90 (x9_90 + (1 : Int32)) f9_90 _ _ _ hF (hP.sub [0, 1, 2, 3, 4, 5, 6, 7, 8, 9] rfl) (hD.sub [0, 1, 2, 3, 4, 5, 6, 7, 8, 9] (by decide) rfl) hS (lv_sub hl [0, 1, 2, 3, 4, 5, 6, 7, 8, 9] rfl)
          exact L90 1000 (0 : Int32) f9_23 _ _ _ hF (hP.sub [0, 1, 2, 3, 4, 5, 6, 7, 8, 9] rfl) (hD.sub [0, 1, 2, 3, 4, 5, 6, 7, 8, 9] (by decide) rfl) hS (lv_sub hl [0, 1, 2, 3, 4, 5, 6, 7, 8, 9] rfl)
        · have hF := (if_pos c14).symm.trans hF
          refine lv_iload hx hb dX7_rows_58 (lv_at hl 0 rfl) ?_
          refine lv_if_le (tgt := 73) hx hb dX7_rows_60 (by decide) (fun c27 => ?_) (fun c27 => ?_)
          · have hF := (if_pos c27).symm.trans hF
            refine lv_aload_n hx hb dX7_rows_73 rfl (lv_at hl 4 rfl) ?_
            refine va_get (D := (dC, dI)) (ci := 6) (v := .ref oc) (C := RX7) (T := TX7) (N := 10) hx hb hts uX7 hown hK hP 2 rfl rfl 3 (by decide) w3 (fun _ h9 => h9) rfl dX7_rows_74 ?_
            refine lv_iload hx hb dX7_rows_77 (lv_at hl 1 rfl) ?_
            refine lv_aload_n hx hb dX7_rows_79 rfl (lv_at hl 4 rfl) ?_
            refine va_get (D := (dC, dI)) (ci := 6) (v := .int mch) (C := RX7) (T := TX7) (N := 10) hx hb hts uX7 hown hK hP 2 rfl rfl 2 (by decide) w1 (fun _ h9 => h9) rfl dX7_rows_80 ?_
            obtain ⟨g28, hF⟩ := gd_n hF
            refine lv_irem hx hb dX7_rows_83 g28 ?_
            obtain ⟨g29, hF⟩ := gd_n hF
            refine va_iald hx hb hK hP 3 0 rfl ht0 g29 dX7_rows_84 ?_
            refine lv_istore (lv' := [(8, .int (mcf (x6_23 - x6_23 / mch * mch).toNatClampNeg)), (7, .int (pbf (x6_23 / mch).toNatClampNeg)), (6, .int x6_23), (5, .ref i9), (4, .ref q3), (0, .ref o), (1, .ref pa), (2, .ref pb), (3, .int p2)]) hx hb dX7_rows_85 hl (by decide) rfl (fun ls hl => ?_)
            refine lv_iconst (v := (0 : Int32)) hx hb dX7_rows_87 (by decide) ?_
            refine lv_istore (lv' := [(9, .int (0 : Int32)), (8, .int (mcf (x6_23 - x6_23 / mch * mch).toNatClampNeg)), (7, .int (pbf (x6_23 / mch).toNatClampNeg)), (6, .int x6_23), (5, .ref i9), (4, .ref q3), (0, .ref o), (1, .ref pa), (2, .ref pb), (3, .int p2)]) hx hb dX7_rows_88 hl (by decide) rfl (fun ls hl => ?_)
            have X90 : ∀ (x9_90 : Int32) (f9_90 : (Nat → Int32)) (H : Heap) (locs : List Loc) (ls : Array Slot), fX7_rowsb_X90b r7 x6_23 p2 mch (fX7_rowsb_L23 p2 mch pbn pbf mn mcf r7 mif (fX7_rowsb_X23 p2 mch) n23) f1_23 x9_90 f9_90 = some r → va_P (dC, dI) vwCl [(pb, .inl (cI, pbn, .inl pbf)), (q3, .inl (cI, (p2 * mch).toNatClampNeg, .inl f1_23)), (o, .inr (6, [.int mth, .int mn, .int mch, .ref oc, .ref oi, .int mcl, .ref ol, .int mgo, .int mmo, .ref ob])), (oc, .inl (cI, 14, .inl mcf)), (oi, .inl (cI, 3, .inl mif)), (ol, .inl (cI, 24, .inl mlf)), (ob, .inl (cI, mbn, .inl mbf)), (pa, .inl (cI, pan, .inl paf)), (i6, .inl (cI, r4.2, .inl r4.1)), (i9, .inl (cI, r7.2, .inl f9_90))] H → va_D A [(pb, .inl (cI, pbn, .inl pbf)), (q3, .inl (cI, (p2 * mch).toNatClampNeg, .inl f1_23)), (o, .inr (6, [.int mth, .int mn, .int mch, .ref oc, .ref oi, .int mcl, .ref ol, .int mgo, .int mmo, .ref ob])), (oc, .inl (cI, 14, .inl mcf)), (oi, .inl (cI, 3, .inl mif)), (ol, .inl (cI, 24, .inl mlf)), (ob, .inl (cI, mbn, .inl mbf)), (pa, .inl (cI, pan, .inl paf)), (i6, .inl (cI, r4.2, .inl r4.1)), (i9, .inl (cI, r7.2, .inl f9_90))] → va_S A s.heap H locs → lv_has ls 11 [(9, .int x9_90), (8, .int (mcf (x6_23 - x6_23 / mch * mch).toNatClampNeg)), (7, .int (pbf (x6_23 / mch).toNatClampNeg)), (6, .int x6_23), (5, .ref i9), (4, .ref q3), (0, .ref o), (1, .ref pa), (2, .ref pb), (3, .int p2)] → W p l e rmX7_rowsb s m ([.ref o, .ref pa, .ref pb, .int p2] : List Value).toArray below meth c H locs 3 350 (MQ below (ct_Q (dC, dI) tys (fun i : Nat => some (.ref i)) (fun i : Nat => [(o, .inr (6, [.int mth, .int mn, .int mch, .ref oc, .ref oi, .int mcl, .ref ol, .int mgo, .int mmo, .ref ob])), (oc, .inl (cI, 14, .inl mcf)), (oi, .inl (cI, 3, .inl mif)), (ol, .inl (cI, 24, .inl mlf)), (ob, .inl (cI, mbn, .inl mbf)), (pa, .inl (cI, pan, .inl paf)), (pb, .inl (cI, pbn, .inl pbf)), (i, .inl (cI, r.2, .inl r.1))]) A) ([.ref o, .ref pa, .ref pb, .int p2] : List Value).toArray s rmX7_rowsb.cells rmX7_rowsb.slots A) (F0 m 150 ls []) := by
              intro x9_90 f9_90 H locs ls hF hP hD hS hl
              unfold fX7_rowsb_X90b at hF
              refine lv_aload hx hb dX7_rows_150 (lv_at hl 5 rfl) ?_
              refine lv_iload hx hb dX7_rows_152 (lv_at hl 3 rfl) ?_
              refine lv_aload hx hb dX7_rows_154 (lv_at hl 4 rfl) ?_
              obtain ⟨r30, hC31, hF⟩ := gd_b hF
              refine ct_callS (As := [.ref i9]) (rest := [.int x6_23, .ref q3]) ⟨hx, hb, hml, hown, hts⟩ (kX7_number l dC dI tys cI ht0 i9 r7.2 f9_90 r30 hC31) (va_cwS 1 hts gX7_rows_X7_number rfl rfl rfl (by decide +kernel) ⟨Nat.le_of_ble_eq_true rfl, Nat.le_of_ble_eq_true rfl⟩) hE hK hP hD hS hA [9] [0, 1, 2, 3, 4, 5, 6, 7, 8] (by decide) rfl (by decide) (wr := [(pb, .inl (cI, pbn, .inl pbf)), (q3, .inl (cI, (p2 * mch).toNatClampNeg, .inl f1_23)), (o, .inr (6, [.int mth, .int mn, .int mch, .ref oc, .ref oi, .int mcl, .ref ol, .int mgo, .int mmo, .ref ob])), (oc, .inl (cI, 14, .inl mcf)), (oi, .inl (cI, 3, .inl mif)), (ol, .inl (cI, 24, .inl mlf)), (ob, .inl (cI, mbn, .inl mbf)), (pa, .inl (cI, pan, .inl paf)), (i6, .inl (cI, r4.2, .inl r4.1))]) rfl (by decide) hl.1 rfl rfl (Nat.le_of_ble_eq_true rfl) dX7_rows_156 ⟨(Nat.le_of_ble_eq_true rfl), (Nat.le_of_ble_eq_true rfl)⟩ (fun i32 H locs hP hD hS => ?_)
              have hP : va_P (dC, dI) vwCl [(pb, .inl (cI, pbn, .inl pbf)), (q3, .inl (cI, (p2 * mch).toNatClampNeg, .inl f1_23)), (o, .inr (6, [.int mth, .int mn, .int mch, .ref oc, .ref oi, .int mcl, .ref ol, .int mgo, .int mmo, .ref ob])), (oc, .inl (cI, 14, .inl mcf)), (oi, .inl (cI, 3, .inl mif)), (ol, .inl (cI, 24, .inl mlf)), (ob, .inl (cI, mbn, .inl mbf)), (pa, .inl (cI, pan, .inl paf)), (i6, .inl (cI, r4.2, .inl r4.1)), (i9, .inl (cI, r7.2, .inl f9_90))] H := hP
              have hD : va_D A [(pb, .inl (cI, pbn, .inl pbf)), (q3, .inl (cI, (p2 * mch).toNatClampNeg, .inl f1_23)), (o, .inr (6, [.int mth, .int mn, .int mch, .ref oc, .ref oi, .int mcl, .ref ol, .int mgo, .int mmo, .ref ob])), (oc, .inl (cI, 14, .inl mcf)), (oi, .inl (cI, 3, .inl mif)), (ol, .inl (cI, 24, .inl mlf)), (ob, .inl (cI, mbn, .inl mbf)), (pa, .inl (cI, pan, .inl paf)), (i6, .inl (cI, r4.2, .inl r4.1)), (i9, .inl (cI, r7.2, .inl f9_90))] := hD
              obtain ⟨g33, hF⟩ := gd_n hF
              refine va_iast hx hb hK hP hD hS 1 0 rfl ht0 g33 dX7_rows_159 (fun H locs hP hD hS => ?_)
              have hP : va_P (dC, dI) vwCl [(pb, .inl (cI, pbn, .inl pbf)), (q3, .inl (cI, (p2 * mch).toNatClampNeg, .inl (upd f1_23 x6_23.toNatClampNeg r30))), (o, .inr (6, [.int mth, .int mn, .int mch, .ref oc, .ref oi, .int mcl, .ref ol, .int mgo, .int mmo, .ref ob])), (oc, .inl (cI, 14, .inl mcf)), (oi, .inl (cI, 3, .inl mif)), (ol, .inl (cI, 24, .inl mlf)), (ob, .inl (cI, mbn, .inl mbf)), (pa, .inl (cI, pan, .inl paf)), (i6, .inl (cI, r4.2, .inl r4.1)), (i9, .inl (cI, r7.2, .inl f9_90))] H := hP
              have hD : va_D A [(pb, .inl (cI, pbn, .inl pbf)), (q3, .inl (cI, (p2 * mch).toNatClampNeg, .inl (upd f1_23 x6_23.toNatClampNeg r30))), (o, .inr (6, [.int mth, .int mn, .int mch, .ref oc, .ref oi, .int mcl, .ref ol, .int mgo, .int mmo, .ref ob])), (oc, .inl (cI, 14, .inl mcf)), (oi, .inl (cI, 3, .inl mif)), (ol, .inl (cI, 24, .inl mlf)), (ob, .inl (cI, mbn, .inl mbf)), (pa, .inl (cI, pan, .inl paf)), (i6, .inl (cI, r4.2, .inl r4.1)), (i9, .inl (cI, r7.2, .inl f9_90))] := hD
              refine lv_iinc (v := x6_23 + (1 : Int32)) (lv' := [(6, .int (x6_23 + (1 : Int32))), (9, .int x9_90), (8, .int (mcf (x6_23 - x6_23 / mch * mch).toNatClampNeg)), (7, .int (pbf (x6_23 / mch).toNatClampNeg)), (5, .ref i9), (4, .ref q3), (0, .ref o), (1, .ref pa), (2, .ref pb), (3, .int p2)]) hx hb dX7_rows_160 hl (k := 3) rfl rfl (by decide) rfl (fun ls hl => ?_)
              refine lv_goto (tgt := 23) hx hb dX7_rows_163 (by decide) ?_
              exact ih23 (x6_23 + (1 : Int32)) (upd f1_23 x6_23.toNatClampNeg r30) f9_90 _ _ _ hF (hP.sub [0, 1, 2, 3, 4, 5, 6, 7, 8, 9] rfl) (hD.sub [0, 1, 2, 3, 4, 5, 6, 7, 8, 9] (by decide) rfl) hS (lv_sub hl [0, 4, 5, 6, 7, 8, 9] rfl)
            have L90 : ∀ (n90 : Nat) (x9_90 : Int32) (f9_90 : (Nat → Int32)) (H : Heap) (locs : List Loc) (ls : Array Slot), fX7_rowsb_L90b mn mcf x6_23 mch r7 (fX7_rowsb_X90b r7 x6_23 p2 mch (fX7_rowsb_L23 p2 mch pbn pbf mn mcf r7 mif (fX7_rowsb_X23 p2 mch) n23) f1_23) n90 x9_90 f9_90 = some r → va_P (dC, dI) vwCl [(pb, .inl (cI, pbn, .inl pbf)), (q3, .inl (cI, (p2 * mch).toNatClampNeg, .inl f1_23)), (o, .inr (6, [.int mth, .int mn, .int mch, .ref oc, .ref oi, .int mcl, .ref ol, .int mgo, .int mmo, .ref ob])), (oc, .inl (cI, 14, .inl mcf)), (oi, .inl (cI, 3, .inl mif)), (ol, .inl (cI, 24, .inl mlf)), (ob, .inl (cI, mbn, .inl mbf)), (pa, .inl (cI, pan, .inl paf)), (i6, .inl (cI, r4.2, .inl r4.1)), (i9, .inl (cI, r7.2, .inl f9_90))] H → va_D A [(pb, .inl (cI, pbn, .inl pbf)), (q3, .inl (cI, (p2 * mch).toNatClampNeg, .inl f1_23)), (o, .inr (6, [.int mth, .int mn, .int mch, .ref oc, .ref oi, .int mcl, .ref ol, .int mgo, .int mmo, .ref ob])), (oc, .inl (cI, 14, .inl mcf)), (oi, .inl (cI, 3, .inl mif)), (ol, .inl (cI, 24, .inl mlf)), (ob, .inl (cI, mbn, .inl mbf)), (pa, .inl (cI, pan, .inl paf)), (i6, .inl (cI, r4.2, .inl r4.1)), (i9, .inl (cI, r7.2, .inl f9_90))] → va_S A s.heap H locs → lv_has ls 11 [(9, .int x9_90), (8, .int (mcf (x6_23 - x6_23 / mch * mch).toNatClampNeg)), (7, .int (pbf (x6_23 / mch).toNatClampNeg)), (6, .int x6_23), (5, .ref i9), (4, .ref q3), (0, .ref o), (1, .ref pa), (2, .ref pb), (3, .int p2)] → W p l e rmX7_rowsb s m ([.ref o, .ref pa, .ref pb, .int p2] : List Value).toArray below meth c H locs 3 350 (MQ below (ct_Q (dC, dI) tys (fun i : Nat => some (.ref i)) (fun i : Nat => [(o, .inr (6, [.int mth, .int mn, .int mch, .ref oc, .ref oi, .int mcl, .ref ol, .int mgo, .int mmo, .ref ob])), (oc, .inl (cI, 14, .inl mcf)), (oi, .inl (cI, 3, .inl mif)), (ol, .inl (cI, 24, .inl mlf)), (ob, .inl (cI, mbn, .inl mbf)), (pa, .inl (cI, pan, .inl paf)), (pb, .inl (cI, pbn, .inl pbf)), (i, .inl (cI, r.2, .inl r.1))]) A) ([.ref o, .ref pa, .ref pb, .int p2] : List Value).toArray s rmX7_rowsb.cells rmX7_rowsb.slots A) (F0 m 90 ls []) := by
              intro n90
              induction n90 with
              | zero => intro x9_90 f9_90 H locs ls hF; rw [fX7_rowsb_L90b] at hF; cases hF
              | succ n90 ih90 =>
                intro x9_90 f9_90 H locs ls hF hP hD hS hl
                rw [fX7_rowsb_L90b] at hF
                refine lv_iload hx hb dX7_rows_90 (lv_at hl 0 rfl) ?_
                refine lv_iconst (v := (1 : Int32)) hx hb dX7_rows_92 (by decide) ?_
                refine lv_iadd hx hb dX7_rows_93 ?_
                refine lv_aload_n hx hb dX7_rows_94 rfl (lv_at hl 6 rfl) ?_
                refine va_get (D := (dC, dI)) (ci := 6) (v := .int mn) (C := RX7) (T := TX7) (N := 10) hx hb hts uX7 hown hK hP 2 rfl rfl 1 (by decide) w4 (fun _ h9 => h9) rfl dX7_rows_95 ?_
                refine lv_icmp_ge (tgt := 150) hx hb dX7_rows_98 (by decide) (fun c34 => ?_) (fun c34 => ?_)
                · have hF := (if_pos c34).symm.trans hF
                  exact X90 x9_90 f9_90 _ _ _ hF (hP.sub [0, 1, 2, 3, 4, 5, 6, 7, 8, 9] rfl) (hD.sub [0, 1, 2, 3, 4, 5, 6, 7, 8, 9] (by decide) rfl) hS (lv_sub hl [0, 1, 2, 3, 4, 5, 6, 7, 8, 9] rfl)
                · have hF := (if_neg c34).symm.trans hF
                  refine lv_iload hx hb dX7_rows_101 (lv_at hl 1 rfl) ?_
                  refine lv_iload hx hb dX7_rows_103 (lv_at hl 0 rfl) ?_
                  refine lv_ishr hx hb dX7_rows_105 ?_
                  refine lv_iconst (v := (1 : Int32)) hx hb dX7_rows_106 (by decide) ?_
                  refine lv_iand hx hb dX7_rows_107 ?_
                  refine lv_iconst (v := (1 : Int32)) hx hb dX7_rows_108 (by decide) ?_
                  refine lv_icmp_ne (tgt := 115) hx hb dX7_rows_109 (by decide) (fun c35 => ?_) (fun c35 => ?_)
                  · have hF := (if_neg c35).symm.trans hF
                    refine lv_aload hx hb dX7_rows_115 (lv_at hl 4 rfl) ?_
                    refine lv_iload hx hb dX7_rows_117 (lv_at hl 0 rfl) ?_
                    obtain ⟨g36, hF⟩ := gd_n hF
                    refine va_iald hx hb hK hP 9 0 rfl ht0 g36 dX7_rows_119 ?_
                    refine lv_istore (lv' := [(10, .int (f9_90 x9_90.toNatClampNeg)), (9, .int x9_90), (8, .int (mcf (x6_23 - x6_23 / mch * mch).toNatClampNeg)), (7, .int (pbf (x6_23 / mch).toNatClampNeg)), (6, .int x6_23), (5, .ref i9), (4, .ref q3), (0, .ref o), (1, .ref pa), (2, .ref pb), (3, .int p2)]) hx hb dX7_rows_120 hl (by decide) rfl (fun ls hl => ?_)
                    refine lv_aload hx hb dX7_rows_122 (lv_at hl 5 rfl) ?_
                    refine lv_iload hx hb dX7_rows_124 (lv_at hl 1 rfl) ?_
                    refine lv_aload hx hb dX7_rows_126 (lv_at hl 5 rfl) ?_
                    refine lv_iload hx hb dX7_rows_128 (lv_at hl 1 rfl) ?_
                    refine lv_iconst (v := (1 : Int32)) hx hb dX7_rows_130 (by decide) ?_
                    refine lv_iadd hx hb dX7_rows_131 ?_
                    obtain ⟨g37, hF⟩ := gd_n hF
                    refine va_iald hx hb hK hP 9 0 rfl ht0 g37 dX7_rows_132 ?_
                    obtain ⟨g38, hF⟩ := gd_n hF
                    refine va_iast hx hb hK hP hD hS 9 0 rfl ht0 g38 dX7_rows_133 (fun H locs hP hD hS => ?_)
                    have hP : va_P (dC, dI) vwCl [(pb, .inl (cI, pbn, .inl pbf)), (q3, .inl (cI, (p2 * mch).toNatClampNeg, .inl f1_23)), (o, .inr (6, [.int mth, .int mn, .int mch, .ref oc, .ref oi, .int mcl, .ref ol, .int mgo, .int mmo, .ref ob])), (oc, .inl (cI, 14, .inl mcf)), (oi, .inl (cI, 3, .inl mif)), (ol, .inl (cI, 24, .inl mlf)), (ob, .inl (cI, mbn, .inl mbf)), (pa, .inl (cI, pan, .inl paf)), (i6, .inl (cI, r4.2, .inl r4.1)), (i9, .inl (cI, r7.2, .inl (upd f9_90 x9_90.toNatClampNeg (f9_90 (x9_90 + (1 : Int32)).toNatClampNeg))))] H := hP
                    have hD : va_D A [(pb, .inl (cI, pbn, .inl pbf)), (q3, .inl (cI, (p2 * mch).toNatClampNeg, .inl f1_23)), (o, .inr (6, [.int mth, .int mn, .int mch, .ref oc, .ref oi, .int mcl, .ref ol, .int mgo, .int mmo, .ref ob])), (oc, .inl (cI, 14, .inl mcf)), (oi, .inl (cI, 3, .inl mif)), (ol, .inl (cI, 24, .inl mlf)), (ob, .inl (cI, mbn, .inl mbf)), (pa, .inl (cI, pan, .inl paf)), (i6, .inl (cI, r4.2, .inl r4.1)), (i9, .inl (cI, r7.2, .inl (upd f9_90 x9_90.toNatClampNeg (f9_90 (x9_90 + (1 : Int32)).toNatClampNeg))))] := hD
                    refine lv_aload hx hb dX7_rows_134 (lv_at hl 5 rfl) ?_
                    refine lv_iinc (v := x9_90 + (1 : Int32)) (lv' := [(9, .int (x9_90 + (1 : Int32))), (10, .int (f9_90 x9_90.toNatClampNeg)), (8, .int (mcf (x6_23 - x6_23 / mch * mch).toNatClampNeg)), (7, .int (pbf (x6_23 / mch).toNatClampNeg)), (6, .int x6_23), (5, .ref i9), (4, .ref q3), (0, .ref o), (1, .ref pa), (2, .ref pb), (3, .int p2)]) hx hb dX7_rows_136 hl (k := 1) rfl rfl (by decide) rfl (fun ls hl => ?_)
                    refine lv_iload hx hb dX7_rows_139 (lv_at hl 0 rfl) ?_
                    refine lv_iload hx hb dX7_rows_141 (lv_at hl 1 rfl) ?_
                    obtain ⟨g39, hF⟩ := gd_n hF
                    refine va_iast hx hb hK hP hD hS 9 0 rfl ht0 g39 dX7_rows_143 (fun H locs hP hD hS => ?_)
                    have hP : va_P (dC, dI) vwCl [(pb, .inl (cI, pbn, .inl pbf)), (q3, .inl (cI, (p2 * mch).toNatClampNeg, .inl f1_23)), (o, .inr (6, [.int mth, .int mn, .int mch, .ref oc, .ref oi, .int mcl, .ref ol, .int mgo, .int mmo, .ref ob])), (oc, .inl (cI, 14, .inl mcf)), (oi, .inl (cI, 3, .inl mif)), (ol, .inl (cI, 24, .inl mlf)), (ob, .inl (cI, mbn, .inl mbf)), (pa, .inl (cI, pan, .inl paf)), (i6, .inl (cI, r4.2, .inl r4.1)), (i9, .inl (cI, r7.2, .inl (upd (upd f9_90 x9_90.toNatClampNeg (f9_90 (x9_90 + (1 : Int32)).toNatClampNeg)) (x9_90 + (1 : Int32)).toNatClampNeg (f9_90 x9_90.toNatClampNeg))))] H := hP
                    have hD : va_D A [(pb, .inl (cI, pbn, .inl pbf)), (q3, .inl (cI, (p2 * mch).toNatClampNeg, .inl f1_23)), (o, .inr (6, [.int mth, .int mn, .int mch, .ref oc, .ref oi, .int mcl, .ref ol, .int mgo, .int mmo, .ref ob])), (oc, .inl (cI, 14, .inl mcf)), (oi, .inl (cI, 3, .inl mif)), (ol, .inl (cI, 24, .inl mlf)), (ob, .inl (cI, mbn, .inl mbf)), (pa, .inl (cI, pan, .inl paf)), (i6, .inl (cI, r4.2, .inl r4.1)), (i9, .inl (cI, r7.2, .inl (upd (upd f9_90 x9_90.toNatClampNeg (f9_90 (x9_90 + (1 : Int32)).toNatClampNeg)) (x9_90 + (1 : Int32)).toNatClampNeg (f9_90 x9_90.toNatClampNeg))))] := hD
                    refine lv_iinc (v := (x9_90 + (1 : Int32)) + (1 : Int32)) (lv' := [(9, .int ((x9_90 + (1 : Int32)) + (1 : Int32))), (10, .int (f9_90 x9_90.toNatClampNeg)), (8, .int (mcf (x6_23 - x6_23 / mch * mch).toNatClampNeg)), (7, .int (pbf (x6_23 / mch).toNatClampNeg)), (6, .int x6_23), (5, .ref i9), (4, .ref q3), (0, .ref o), (1, .ref pa), (2, .ref pb), (3, .int p2)]) hx hb dX7_rows_144 hl (k := 0) rfl rfl (by decide) rfl (fun ls hl => ?_)
                    refine lv_goto (tgt := 90) hx hb dX7_rows_147 (by decide) ?_
                    exact ih90 ((x9_90 + (1 : Int32)) + (1 : Int32)) (upd (upd f9_90 x9_90.toNatClampNeg (f9_90 (x9_90 + (1 : Int32)).toNatClampNeg)) (x9_90 + (1 : Int32)).toNatClampNeg (f9_90 x9_90.toNatClampNeg)) _ _ _ hF (hP.sub [0, 1, 2, 3, 4, 5, 6, 7, 8, 9] rfl) (hD.sub [0, 1, 2, 3, 4, 5, 6, 7, 8, 9] (by decide) rfl) hS (lv_sub hl [0, 2, 3, 4, 5, 6, 7, 8, 9, 10] rfl)
                  · have hF := (if_pos c35).symm.trans hF
                    refine lv_goto (tgt := 144) hx hb dX7_rows_112 (by decide) ?_
                    refine lv_iinc (v := x9_90 + (1 : Int32)) (lv' := [(9, .int (x9_90 + (1 : Int32))), (8, .int (mcf (x6_23 - x6_23 / mch * mch).toNatClampNeg)), (7, .int (pbf (x6_23 / mch).toNatClampNeg)), (6, .int x6_23), (5, .ref i9), (4, .ref q3), (0, .ref o), (1, .ref pa), (2, .ref pb), (3, .int p2)]) hx hb dX7_rows_144 hl (k := 0) rfl rfl (by decide) rfl (fun ls hl => ?_)
                    refine lv_goto (tgt := 90) hx hb dX7_rows_147 (by decide) ?_
                    exact ih90 (x9_90 + (1 : Int32)) f9_90 _ _ _ hF (hP.sub [0, 1, 2, 3, 4, 5, 6, 7, 8, 9] rfl) (hD.sub [0, 1, 2, 3, 4, 5, 6, 7, 8, 9] (by decide) rfl) hS (lv_sub hl [0, 1, 2, 3, 4, 5, 6, 7, 8, 9] rfl)
            exact L90 1000 (0 : Int32) f9_23 _ _ _ hF (hP.sub [0, 1, 2, 3, 4, 5, 6, 7, 8, 9] rfl) (hD.sub [0, 1, 2, 3, 4, 5, 6, 7, 8, 9] (by decide) rfl) hS (lv_sub hl [0, 1, 2, 3, 4, 5, 6, 7, 8, 9] rfl)
          · have hF := (if_neg c27).symm.trans hF
            refine lv_aload_n hx hb dX7_rows_63 rfl (lv_at hl 4 rfl) ?_
            refine va_get (D := (dC, dI)) (ci := 6) (v := .ref oi) (C := RX7) (T := TX7) (N := 10) hx hb hts uX7 hown hK hP 2 rfl rfl 4 (by decide) w5 (fun _ h9 => h9) rfl dX7_rows_64 ?_
            refine lv_iload hx hb dX7_rows_67 (lv_at hl 0 rfl) ?_
            obtain ⟨g40, hF⟩ := gd_n hF
            refine va_iald hx hb hK hP 4 0 rfl ht0 g40 dX7_rows_69 ?_
            refine lv_goto (tgt := 85) hx hb dX7_rows_70 (by decide) ?_
            refine lv_istore (lv' := [(8, .int (mif (pbf (x6_23 / mch).toNatClampNeg).toNatClampNeg)), (7, .int (pbf (x6_23 / mch).toNatClampNeg)), (6, .int x6_23), (5, .ref i9), (4, .ref q3), (0, .ref o), (1, .ref pa), (2, .ref pb), (3, .int p2)]) hx hb dX7_rows_85 hl (by decide) rfl (fun ls hl => ?_)
            refine lv_iconst (v := (0 : Int32)) hx hb dX7_rows_87 (by decide) ?_
            refine lv_istore (lv' := [(9, .int (0 : Int32)), (8, .int (mif (pbf (x6_23 / mch).toNatClampNeg).toNatClampNeg)), (7, .int (pbf (x6_23 / mch).toNatClampNeg)), (6, .int x6_23), (5, .ref i9), (4, .ref q3), (0, .ref o), (1, .ref pa), (2, .ref pb), (3, .int p2)]) hx hb dX7_rows_88 hl (by decide) rfl (fun ls hl => ?_)
            have X90 : ∀ (x9_90 : Int32) (f9_90 : (Nat → Int32)) (H : Heap) (locs : List Loc) (ls : Array Slot), fX7_rowsb_X90c r7 x6_23 p2 mch (fX7_rowsb_L23 p2 mch pbn pbf mn mcf r7 mif (fX7_rowsb_X23 p2 mch) n23) f1_23 x9_90 f9_90 = some r → va_P (dC, dI) vwCl [(pb, .inl (cI, pbn, .inl pbf)), (q3, .inl (cI, (p2 * mch).toNatClampNeg, .inl f1_23)), (o, .inr (6, [.int mth, .int mn, .int mch, .ref oc, .ref oi, .int mcl, .ref ol, .int mgo, .int mmo, .ref ob])), (oc, .inl (cI, 14, .inl mcf)), (oi, .inl (cI, 3, .inl mif)), (ol, .inl (cI, 24, .inl mlf)), (ob, .inl (cI, mbn, .inl mbf)), (pa, .inl (cI, pan, .inl paf)), (i6, .inl (cI, r4.2, .inl r4.1)), (i9, .inl (cI, r7.2, .inl f9_90))] H → va_D A [(pb, .inl (cI, pbn, .inl pbf)), (q3, .inl (cI, (p2 * mch).toNatClampNeg, .inl f1_23)), (o, .inr (6, [.int mth, .int mn, .int mch, .ref oc, .ref oi, .int mcl, .ref ol, .int mgo, .int mmo, .ref ob])), (oc, .inl (cI, 14, .inl mcf)), (oi, .inl (cI, 3, .inl mif)), (ol, .inl (cI, 24, .inl mlf)), (ob, .inl (cI, mbn, .inl mbf)), (pa, .inl (cI, pan, .inl paf)), (i6, .inl (cI, r4.2, .inl r4.1)), (i9, .inl (cI, r7.2, .inl f9_90))] → va_S A s.heap H locs → lv_has ls 11 [(9, .int x9_90), (8, .int (mif (pbf (x6_23 / mch).toNatClampNeg).toNatClampNeg)), (7, .int (pbf (x6_23 / mch).toNatClampNeg)), (6, .int x6_23), (5, .ref i9), (4, .ref q3), (0, .ref o), (1, .ref pa), (2, .ref pb), (3, .int p2)] → W p l e rmX7_rowsb s m ([.ref o, .ref pa, .ref pb, .int p2] : List Value).toArray below meth c H locs 3 350 (MQ below (ct_Q (dC, dI) tys (fun i : Nat => some (.ref i)) (fun i : Nat => [(o, .inr (6, [.int mth, .int mn, .int mch, .ref oc, .ref oi, .int mcl, .ref ol, .int mgo, .int mmo, .ref ob])), (oc, .inl (cI, 14, .inl mcf)), (oi, .inl (cI, 3, .inl mif)), (ol, .inl (cI, 24, .inl mlf)), (ob, .inl (cI, mbn, .inl mbf)), (pa, .inl (cI, pan, .inl paf)), (pb, .inl (cI, pbn, .inl pbf)), (i, .inl (cI, r.2, .inl r.1))]) A) ([.ref o, .ref pa, .ref pb, .int p2] : List Value).toArray s rmX7_rowsb.cells rmX7_rowsb.slots A) (F0 m 150 ls []) := by
              intro x9_90 f9_90 H locs ls hF hP hD hS hl
              unfold fX7_rowsb_X90c at hF
              refine lv_aload hx hb dX7_rows_150 (lv_at hl 5 rfl) ?_
              refine lv_iload hx hb dX7_rows_152 (lv_at hl 3 rfl) ?_
              refine lv_aload hx hb dX7_rows_154 (lv_at hl 4 rfl) ?_
              obtain ⟨r41, hC42, hF⟩ := gd_b hF
              refine ct_callS (As := [.ref i9]) (rest := [.int x6_23, .ref q3]) ⟨hx, hb, hml, hown, hts⟩ (kX7_number l dC dI tys cI ht0 i9 r7.2 f9_90 r41 hC42) (va_cwS 1 hts gX7_rows_X7_number rfl rfl rfl (by decide +kernel) ⟨Nat.le_of_ble_eq_true rfl, Nat.le_of_ble_eq_true rfl⟩) hE hK hP hD hS hA [9] [0, 1, 2, 3, 4, 5, 6, 7, 8] (by decide) rfl (by decide) (wr := [(pb, .inl (cI, pbn, .inl pbf)), (q3, .inl (cI, (p2 * mch).toNatClampNeg, .inl f1_23)), (o, .inr (6, [.int mth, .int mn, .int mch, .ref oc, .ref oi, .int mcl, .ref ol, .int mgo, .int mmo, .ref ob])), (oc, .inl (cI, 14, .inl mcf)), (oi, .inl (cI, 3, .inl mif)), (ol, .inl (cI, 24, .inl mlf)), (ob, .inl (cI, mbn, .inl mbf)), (pa, .inl (cI, pan, .inl paf)), (i6, .inl (cI, r4.2, .inl r4.1))]) rfl (by decide) hl.1 rfl rfl (Nat.le_of_ble_eq_true rfl) dX7_rows_156 ⟨(Nat.le_of_ble_eq_true rfl), (Nat.le_of_ble_eq_true rfl)⟩ (fun i43 H locs hP hD hS => ?_)
              have hP : va_P (dC, dI) vwCl [(pb, .inl (cI, pbn, .inl pbf)), (q3, .inl (cI, (p2 * mch).toNatClampNeg, .inl f1_23)), (o, .inr (6, [.int mth, .int mn, .int mch, .ref oc, .ref oi, .int mcl, .ref ol, .int mgo, .int mmo, .ref ob])), (oc, .inl (cI, 14, .inl mcf)), (oi, .inl (cI, 3, .inl mif)), (ol, .inl (cI, 24, .inl mlf)), (ob, .inl (cI, mbn, .inl mbf)), (pa, .inl (cI, pan, .inl paf)), (i6, .inl (cI, r4.2, .inl r4.1)), (i9, .inl (cI, r7.2, .inl f9_90))] H := hP
              have hD : va_D A [(pb, .inl (cI, pbn, .inl pbf)), (q3, .inl (cI, (p2 * mch).toNatClampNeg, .inl f1_23)), (o, .inr (6, [.int mth, .int mn, .int mch, .ref oc, .ref oi, .int mcl, .ref ol, .int mgo, .int mmo, .ref ob])), (oc, .inl (cI, 14, .inl mcf)), (oi, .inl (cI, 3, .inl mif)), (ol, .inl (cI, 24, .inl mlf)), (ob, .inl (cI, mbn, .inl mbf)), (pa, .inl (cI, pan, .inl paf)), (i6, .inl (cI, r4.2, .inl r4.1)), (i9, .inl (cI, r7.2, .inl f9_90))] := hD
              obtain ⟨g44, hF⟩ := gd_n hF
              refine va_iast hx hb hK hP hD hS 1 0 rfl ht0 g44 dX7_rows_159 (fun H locs hP hD hS => ?_)
              have hP : va_P (dC, dI) vwCl [(pb, .inl (cI, pbn, .inl pbf)), (q3, .inl (cI, (p2 * mch).toNatClampNeg, .inl (upd f1_23 x6_23.toNatClampNeg r41))), (o, .inr (6, [.int mth, .int mn, .int mch, .ref oc, .ref oi, .int mcl, .ref ol, .int mgo, .int mmo, .ref ob])), (oc, .inl (cI, 14, .inl mcf)), (oi, .inl (cI, 3, .inl mif)), (ol, .inl (cI, 24, .inl mlf)), (ob, .inl (cI, mbn, .inl mbf)), (pa, .inl (cI, pan, .inl paf)), (i6, .inl (cI, r4.2, .inl r4.1)), (i9, .inl (cI, r7.2, .inl f9_90))] H := hP
              have hD : va_D A [(pb, .inl (cI, pbn, .inl pbf)), (q3, .inl (cI, (p2 * mch).toNatClampNeg, .inl (upd f1_23 x6_23.toNatClampNeg r41))), (o, .inr (6, [.int mth, .int mn, .int mch, .ref oc, .ref oi, .int mcl, .ref ol, .int mgo, .int mmo, .ref ob])), (oc, .inl (cI, 14, .inl mcf)), (oi, .inl (cI, 3, .inl mif)), (ol, .inl (cI, 24, .inl mlf)), (ob, .inl (cI, mbn, .inl mbf)), (pa, .inl (cI, pan, .inl paf)), (i6, .inl (cI, r4.2, .inl r4.1)), (i9, .inl (cI, r7.2, .inl f9_90))] := hD
              refine lv_iinc (v := x6_23 + (1 : Int32)) (lv' := [(6, .int (x6_23 + (1 : Int32))), (9, .int x9_90), (8, .int (mif (pbf (x6_23 / mch).toNatClampNeg).toNatClampNeg)), (7, .int (pbf (x6_23 / mch).toNatClampNeg)), (5, .ref i9), (4, .ref q3), (0, .ref o), (1, .ref pa), (2, .ref pb), (3, .int p2)]) hx hb dX7_rows_160 hl (k := 3) rfl rfl (by decide) rfl (fun ls hl => ?_)
              refine lv_goto (tgt := 23) hx hb dX7_rows_163 (by decide) ?_
              exact ih23 (x6_23 + (1 : Int32)) (upd f1_23 x6_23.toNatClampNeg r41) f9_90 _ _ _ hF (hP.sub [0, 1, 2, 3, 4, 5, 6, 7, 8, 9] rfl) (hD.sub [0, 1, 2, 3, 4, 5, 6, 7, 8, 9] (by decide) rfl) hS (lv_sub hl [0, 4, 5, 6, 7, 8, 9] rfl)
            have L90 : ∀ (n90 : Nat) (x9_90 : Int32) (f9_90 : (Nat → Int32)) (H : Heap) (locs : List Loc) (ls : Array Slot), fX7_rowsb_L90c mn mif pbf x6_23 mch r7 (fX7_rowsb_X90c r7 x6_23 p2 mch (fX7_rowsb_L23 p2 mch pbn pbf mn mcf r7 mif (fX7_rowsb_X23 p2 mch) n23) f1_23) n90 x9_90 f9_90 = some r → va_P (dC, dI) vwCl [(pb, .inl (cI, pbn, .inl pbf)), (q3, .inl (cI, (p2 * mch).toNatClampNeg, .inl f1_23)), (o, .inr (6, [.int mth, .int mn, .int mch, .ref oc, .ref oi, .int mcl, .ref ol, .int mgo, .int mmo, .ref ob])), (oc, .inl (cI, 14, .inl mcf)), (oi, .inl (cI, 3, .inl mif)), (ol, .inl (cI, 24, .inl mlf)), (ob, .inl (cI, mbn, .inl mbf)), (pa, .inl (cI, pan, .inl paf)), (i6, .inl (cI, r4.2, .inl r4.1)), (i9, .inl (cI, r7.2, .inl f9_90))] H → va_D A [(pb, .inl (cI, pbn, .inl pbf)), (q3, .inl (cI, (p2 * mch).toNatClampNeg, .inl f1_23)), (o, .inr (6, [.int mth, .int mn, .int mch, .ref oc, .ref oi, .int mcl, .ref ol, .int mgo, .int mmo, .ref ob])), (oc, .inl (cI, 14, .inl mcf)), (oi, .inl (cI, 3, .inl mif)), (ol, .inl (cI, 24, .inl mlf)), (ob, .inl (cI, mbn, .inl mbf)), (pa, .inl (cI, pan, .inl paf)), (i6, .inl (cI, r4.2, .inl r4.1)), (i9, .inl (cI, r7.2, .inl f9_90))] → va_S A s.heap H locs → lv_has ls 11 [(9, .int x9_90), (8, .int (mif (pbf (x6_23 / mch).toNatClampNeg).toNatClampNeg)), (7, .int (pbf (x6_23 / mch).toNatClampNeg)), (6, .int x6_23), (5, .ref i9), (4, .ref q3), (0, .ref o), (1, .ref pa), (2, .ref pb), (3, .int p2)] → W p l e rmX7_rowsb s m ([.ref o, .ref pa, .ref pb, .int p2] : List Value).toArray below meth c H locs 3 350 (MQ below (ct_Q (dC, dI) tys (fun i : Nat => some (.ref i)) (fun i : Nat => [(o, .inr (6, [.int mth, .int mn, .int mch, .ref oc, .ref oi, .int mcl, .ref ol, .int mgo, .int mmo, .ref ob])), (oc, .inl (cI, 14, .inl mcf)), (oi, .inl (cI, 3, .inl mif)), (ol, .inl (cI, 24, .inl mlf)), (ob, .inl (cI, mbn, .inl mbf)), (pa, .inl (cI, pan, .inl paf)), (pb, .inl (cI, pbn, .inl pbf)), (i, .inl (cI, r.2, .inl r.1))]) A) ([.ref o, .ref pa, .ref pb, .int p2] : List Value).toArray s rmX7_rowsb.cells rmX7_rowsb.slots A) (F0 m 90 ls []) := by
              intro n90
              induction n90 with
              | zero => intro x9_90 f9_90 H locs ls hF; rw [fX7_rowsb_L90c] at hF; cases hF
              | succ n90 ih90 =>
                intro x9_90 f9_90 H locs ls hF hP hD hS hl
                rw [fX7_rowsb_L90c] at hF
                refine lv_iload hx hb dX7_rows_90 (lv_at hl 0 rfl) ?_
                refine lv_iconst (v := (1 : Int32)) hx hb dX7_rows_92 (by decide) ?_
                refine lv_iadd hx hb dX7_rows_93 ?_
                refine lv_aload_n hx hb dX7_rows_94 rfl (lv_at hl 6 rfl) ?_
                refine va_get (D := (dC, dI)) (ci := 6) (v := .int mn) (C := RX7) (T := TX7) (N := 10) hx hb hts uX7 hown hK hP 2 rfl rfl 1 (by decide) w4 (fun _ h9 => h9) rfl dX7_rows_95 ?_
                refine lv_icmp_ge (tgt := 150) hx hb dX7_rows_98 (by decide) (fun c45 => ?_) (fun c45 => ?_)
                · have hF := (if_pos c45).symm.trans hF
                  exact X90 x9_90 f9_90 _ _ _ hF (hP.sub [0, 1, 2, 3, 4, 5, 6, 7, 8, 9] rfl) (hD.sub [0, 1, 2, 3, 4, 5, 6, 7, 8, 9] (by decide) rfl) hS (lv_sub hl [0, 1, 2, 3, 4, 5, 6, 7, 8, 9] rfl)
                · have hF := (if_neg c45).symm.trans hF
                  refine lv_iload hx hb dX7_rows_101 (lv_at hl 1 rfl) ?_
                  refine lv_iload hx hb dX7_rows_103 (lv_at hl 0 rfl) ?_
                  refine lv_ishr hx hb dX7_rows_105 ?_
                  refine lv_iconst (v := (1 : Int32)) hx hb dX7_rows_106 (by decide) ?_
                  refine lv_iand hx hb dX7_rows_107 ?_
                  refine lv_iconst (v := (1 : Int32)) hx hb dX7_rows_108 (by decide) ?_
                  refine lv_icmp_ne (tgt := 115) hx hb dX7_rows_109 (by decide) (fun c46 => ?_) (fun c46 => ?_)
                  · have hF := (if_neg c46).symm.trans hF
                    refine lv_aload hx hb dX7_rows_115 (lv_at hl 4 rfl) ?_
                    refine lv_iload hx hb dX7_rows_117 (lv_at hl 0 rfl) ?_
                    obtain ⟨g47, hF⟩ := gd_n hF
                    refine va_iald hx hb hK hP 9 0 rfl ht0 g47 dX7_rows_119 ?_
                    refine lv_istore (lv' := [(10, .int (f9_90 x9_90.toNatClampNeg)), (9, .int x9_90), (8, .int (mif (pbf (x6_23 / mch).toNatClampNeg).toNatClampNeg)), (7, .int (pbf (x6_23 / mch).toNatClampNeg)), (6, .int x6_23), (5, .ref i9), (4, .ref q3), (0, .ref o), (1, .ref pa), (2, .ref pb), (3, .int p2)]) hx hb dX7_rows_120 hl (by decide) rfl (fun ls hl => ?_)
                    refine lv_aload hx hb dX7_rows_122 (lv_at hl 5 rfl) ?_
                    refine lv_iload hx hb dX7_rows_124 (lv_at hl 1 rfl) ?_
                    refine lv_aload hx hb dX7_rows_126 (lv_at hl 5 rfl) ?_
                    refine lv_iload hx hb dX7_rows_128 (lv_at hl 1 rfl) ?_
                    refine lv_iconst (v := (1 : Int32)) hx hb dX7_rows_130 (by decide) ?_
                    refine lv_iadd hx hb dX7_rows_131 ?_
                    obtain ⟨g48, hF⟩ := gd_n hF
                    refine va_iald hx hb hK hP 9 0 rfl ht0 g48 dX7_rows_132 ?_
                    obtain ⟨g49, hF⟩ := gd_n hF
                    refine va_iast hx hb hK hP hD hS 9 0 rfl ht0 g49 dX7_rows_133 (fun H locs hP hD hS => ?_)
                    have hP : va_P (dC, dI) vwCl [(pb, .inl (cI, pbn, .inl pbf)), (q3, .inl (cI, (p2 * mch).toNatClampNeg, .inl f1_23)), (o, .inr (6, [.int mth, .int mn, .int mch, .ref oc, .ref oi, .int mcl, .ref ol, .int mgo, .int mmo, .ref ob])), (oc, .inl (cI, 14, .inl mcf)), (oi, .inl (cI, 3, .inl mif)), (ol, .inl (cI, 24, .inl mlf)), (ob, .inl (cI, mbn, .inl mbf)), (pa, .inl (cI, pan, .inl paf)), (i6, .inl (cI, r4.2, .inl r4.1)), (i9, .inl (cI, r7.2, .inl (upd f9_90 x9_90.toNatClampNeg (f9_90 (x9_90 + (1 : Int32)).toNatClampNeg))))] H := hP
                    have hD : va_D A [(pb, .inl (cI, pbn, .inl pbf)), (q3, .inl (cI, (p2 * mch).toNatClampNeg, .inl f1_23)), (o, .inr (6, [.int mth, .int mn, .int mch, .ref oc, .ref oi, .int mcl, .ref ol, .int mgo, .int mmo, .ref ob])), (oc, .inl (cI, 14, .inl mcf)), (oi, .inl (cI, 3, .inl mif)), (ol, .inl (cI, 24, .inl mlf)), (ob, .inl (cI, mbn, .inl mbf)), (pa, .inl (cI, pan, .inl paf)), (i6, .inl (cI, r4.2, .inl r4.1)), (i9, .inl (cI, r7.2, .inl (upd f9_90 x9_90.toNatClampNeg (f9_90 (x9_90 + (1 : Int32)).toNatClampNeg))))] := hD
                    refine lv_aload hx hb dX7_rows_134 (lv_at hl 5 rfl) ?_
                    refine lv_iinc (v := x9_90 + (1 : Int32)) (lv' := [(9, .int (x9_90 + (1 : Int32))), (10, .int (f9_90 x9_90.toNatClampNeg)), (8, .int (mif (pbf (x6_23 / mch).toNatClampNeg).toNatClampNeg)), (7, .int (pbf (x6_23 / mch).toNatClampNeg)), (6, .int x6_23), (5, .ref i9), (4, .ref q3), (0, .ref o), (1, .ref pa), (2, .ref pb), (3, .int p2)]) hx hb dX7_rows_136 hl (k := 1) rfl rfl (by decide) rfl (fun ls hl => ?_)
                    refine lv_iload hx hb dX7_rows_139 (lv_at hl 0 rfl) ?_
                    refine lv_iload hx hb dX7_rows_141 (lv_at hl 1 rfl) ?_
                    obtain ⟨g50, hF⟩ := gd_n hF
                    refine va_iast hx hb hK hP hD hS 9 0 rfl ht0 g50 dX7_rows_143 (fun H locs hP hD hS => ?_)
                    have hP : va_P (dC, dI) vwCl [(pb, .inl (cI, pbn, .inl pbf)), (q3, .inl (cI, (p2 * mch).toNatClampNeg, .inl f1_23)), (o, .inr (6, [.int mth, .int mn, .int mch, .ref oc, .ref oi, .int mcl, .ref ol, .int mgo, .int mmo, .ref ob])), (oc, .inl (cI, 14, .inl mcf)), (oi, .inl (cI, 3, .inl mif)), (ol, .inl (cI, 24, .inl mlf)), (ob, .inl (cI, mbn, .inl mbf)), (pa, .inl (cI, pan, .inl paf)), (i6, .inl (cI, r4.2, .inl r4.1)), (i9, .inl (cI, r7.2, .inl (upd (upd f9_90 x9_90.toNatClampNeg (f9_90 (x9_90 + (1 : Int32)).toNatClampNeg)) (x9_90 + (1 : Int32)).toNatClampNeg (f9_90 x9_90.toNatClampNeg))))] H := hP
                    have hD : va_D A [(pb, .inl (cI, pbn, .inl pbf)), (q3, .inl (cI, (p2 * mch).toNatClampNeg, .inl f1_23)), (o, .inr (6, [.int mth, .int mn, .int mch, .ref oc, .ref oi, .int mcl, .ref ol, .int mgo, .int mmo, .ref ob])), (oc, .inl (cI, 14, .inl mcf)), (oi, .inl (cI, 3, .inl mif)), (ol, .inl (cI, 24, .inl mlf)), (ob, .inl (cI, mbn, .inl mbf)), (pa, .inl (cI, pan, .inl paf)), (i6, .inl (cI, r4.2, .inl r4.1)), (i9, .inl (cI, r7.2, .inl (upd (upd f9_90 x9_90.toNatClampNeg (f9_90 (x9_90 + (1 : Int32)).toNatClampNeg)) (x9_90 + (1 : Int32)).toNatClampNeg (f9_90 x9_90.toNatClampNeg))))] := hD
                    refine lv_iinc (v := (x9_90 + (1 : Int32)) + (1 : Int32)) (lv' := [(9, .int ((x9_90 + (1 : Int32)) + (1 : Int32))), (10, .int (f9_90 x9_90.toNatClampNeg)), (8, .int (mif (pbf (x6_23 / mch).toNatClampNeg).toNatClampNeg)), (7, .int (pbf (x6_23 / mch).toNatClampNeg)), (6, .int x6_23), (5, .ref i9), (4, .ref q3), (0, .ref o), (1, .ref pa), (2, .ref pb), (3, .int p2)]) hx hb dX7_rows_144 hl (k := 0) rfl rfl (by decide) rfl (fun ls hl => ?_)
                    refine lv_goto (tgt := 90) hx hb dX7_rows_147 (by decide) ?_
                    exact ih90 ((x9_90 + (1 : Int32)) + (1 : Int32)) (upd (upd f9_90 x9_90.toNatClampNeg (f9_90 (x9_90 + (1 : Int32)).toNatClampNeg)) (x9_90 + (1 : Int32)).toNatClampNeg (f9_90 x9_90.toNatClampNeg)) _ _ _ hF (hP.sub [0, 1, 2, 3, 4, 5, 6, 7, 8, 9] rfl) (hD.sub [0, 1, 2, 3, 4, 5, 6, 7, 8, 9] (by decide) rfl) hS (lv_sub hl [0, 2, 3, 4, 5, 6, 7, 8, 9, 10] rfl)
                  · have hF := (if_pos c46).symm.trans hF
                    refine lv_goto (tgt := 144) hx hb dX7_rows_112 (by decide) ?_
                    refine lv_iinc (v := x9_90 + (1 : Int32)) (lv' := [(9, .int (x9_90 + (1 : Int32))), (8, .int (mif (pbf (x6_23 / mch).toNatClampNeg).toNatClampNeg)), (7, .int (pbf (x6_23 / mch).toNatClampNeg)), (6, .int x6_23), (5, .ref i9), (4, .ref q3), (0, .ref o), (1, .ref pa), (2, .ref pb), (3, .int p2)]) hx hb dX7_rows_144 hl (k := 0) rfl rfl (by decide) rfl (fun ls hl => ?_)
                    refine lv_goto (tgt := 90) hx hb dX7_rows_147 (by decide) ?_
                    exact ih90 (x9_90 + (1 : Int32)) f9_90 _ _ _ hF (hP.sub [0, 1, 2, 3, 4, 5, 6, 7, 8, 9] rfl) (hD.sub [0, 1, 2, 3, 4, 5, 6, 7, 8, 9] (by decide) rfl) hS (lv_sub hl [0, 1, 2, 3, 4, 5, 6, 7, 8, 9] rfl)
            exact L90 1000 (0 : Int32) f9_23 _ _ _ hF (hP.sub [0, 1, 2, 3, 4, 5, 6, 7, 8, 9] rfl) (hD.sub [0, 1, 2, 3, 4, 5, 6, 7, 8, 9] (by decide) rfl) hS (lv_sub hl [0, 1, 2, 3, 4, 5, 6, 7, 8, 9] rfl)
  exact L23 1000 (0 : Int32) (fun _ => 0) r7.1 _ _ _ hF (hP.sub [0, 1, 2, 3, 4, 5, 6, 7, 8, 9] rfl) (hD.sub [0, 1, 2, 3, 4, 5, 6, 7, 8, 9] (by decide) rfl) hS (lv_sub hl [0, 1, 2, 3, 4, 5, 6] rfl)

def fX7_rows_ (mn : Int32) (mch : Int32) (mcl : Int32) (mcf : (Nat → Int32)) (mif : (Nat → Int32)) (mlf : (Nat → Int32)) : Option ((Nat → Int32) × Nat) := (fX7_same mn).bind (fun r1 => (fX7_rows mn mch mcf mif mlf r1.2 r1.1 mcl).bind (fun r4 => some (r4.1, r4.2)))
abbrev rmX7_rows_ : Room := { frames := 2, cells := 4, slots := 357, locals := 55 }
set_option maxHeartbeats 4000000 in
set_option maxRecDepth 100000 in
theorem kX7_rows_ (l : Launch) (dC : Nat → ClassId) (dI : Nat → Nat → Nat) (tys : List (ClassId × FieldType)) (cI : ClassId) (ht0 : tys[0]? = some (cI, .int)) (o oc oi ol ob : Nat) (mth : Int32) (mn : Int32) (mch : Int32) (mcl : Int32) (mgo : Int32) (mmo : Int32) (mcf : (Nat → Int32)) (mif : (Nat → Int32)) (mlf : (Nat → Int32)) (mbn : Nat) (mbf : (Nat → Int32)) (r : ((Nat → Int32) × Nat)) (hF : fX7_rows_ mn mch mcl mcf mif mlf = some r) : ct l (dC, dI) tys yX7_rows_ wsX7_rows_ rmX7_rows_ [.ref o] [(o, .inr (6, [.int mth, .int mn, .int mch, .ref oc, .ref oi, .int mcl, .ref ol, .int mgo, .int mmo, .ref ob])), (oc, .inl (cI, 14, .inl mcf)), (oi, .inl (cI, 3, .inl mif)), (ol, .inl (cI, 24, .inl mlf)), (ob, .inl (cI, mbn, .inl mbf))] (fun i : Nat => some (.ref i)) (fun i : Nat => [(o, .inr (6, [.int mth, .int mn, .int mch, .ref oc, .ref oi, .int mcl, .ref ol, .int mgo, .int mmo, .ref ob])), (oc, .inl (cI, 14, .inl mcf)), (oi, .inl (cI, 3, .inl mif)), (ol, .inl (cI, 24, .inl mlf)), (ob, .inl (cI, mbn, .inl mbf)), (i, .inl (cI, r.2, .inl r.1))]) := by
  refine ct_of (cc := cX7_rows_) (maxL := 1) (ret := (some (.array .int))) (by decide) rfl (Nat.le_of_ble_eq_true rfl) ?_
  intro p e s m below meth c A ls hx hb hr hml hts hown hlocks hname hE hK hP hD hA hS hl
  have hown : s.vm.findClass RX7 = some m.cls := hown
  have hl : lv_has ls 1 [(0, .ref o)] := hl
  unfold fX7_rows_ at hF
  have uX7 : ∀ w ∈ wsX70, w ∈ wsX7_rows_ := (fun _ h => (List.mem_cons_of_mem _ (List.mem_append_right _ h)))
  have w1 := hts (.fieldLink RX7 16 "BellfounderTowerModel" "call" "[I") (List.mem_cons_of_mem _ (List.mem_append_left _ (List.mem_of_getElem? (i := 0) rfl)))
  have w2 := hts (.fieldLink RX7 33 "BellfounderTowerModel" "calls" "I") (List.mem_cons_of_mem _ (List.mem_append_left _ (List.mem_of_getElem? (i := 1) rfl)))
  refine lv_aload_n hx hb dX7_rows__0 rfl (lv_at hl 0 rfl) ?_
  refine lv_aload_n hx hb dX7_rows__1 rfl (lv_at hl 0 rfl) ?_
  obtain ⟨r1, hC2, hF⟩ := gd_b hF
  refine ct_callV (C := RX7) (As := []) (rest := [.ref o]) ⟨hx, hb, hml, hown, hts⟩ (kX7_same l dC dI tys cI ht0 o oc oi ol ob mth mn mch mcl mgo mmo mcf mif mlf mbn mbf r1 hC2) (cwV 0 hts gX7_rows__X7_same rfl rfl rfl (by decide +kernel) ⟨Nat.le_of_ble_eq_true rfl, Nat.le_of_ble_eq_true rfl⟩) hE hK hP hD hS hA [0, 1, 2, 3, 4] [] (by decide) rfl (by decide) (wr := []) rfl (by decide) (ci := 6) (T := TX7) (N := 10) (q0 := 0) rfl rfl hl.1 rfl rfl (Nat.le_of_ble_eq_true rfl) dX7_rows__2 ⟨(Nat.le_of_ble_eq_true rfl), (Nat.le_of_ble_eq_true rfl)⟩ (fun i3 H locs hP hD hS => ?_)
  have hP : va_P (dC, dI) vwCl [(o, .inr (6, [.int mth, .int mn, .int mch, .ref oc, .ref oi, .int mcl, .ref ol, .int mgo, .int mmo, .ref ob])), (oc, .inl (cI, 14, .inl mcf)), (oi, .inl (cI, 3, .inl mif)), (ol, .inl (cI, 24, .inl mlf)), (ob, .inl (cI, mbn, .inl mbf)), (i3, .inl (cI, r1.2, .inl r1.1))] H := hP
  have hD : va_D A [(o, .inr (6, [.int mth, .int mn, .int mch, .ref oc, .ref oi, .int mcl, .ref ol, .int mgo, .int mmo, .ref ob])), (oc, .inl (cI, 14, .inl mcf)), (oi, .inl (cI, 3, .inl mif)), (ol, .inl (cI, 24, .inl mlf)), (ob, .inl (cI, mbn, .inl mbf)), (i3, .inl (cI, r1.2, .inl r1.1))] := hD
  refine lv_aload_n hx hb dX7_rows__5 rfl (lv_at hl 0 rfl) ?_
  refine va_get (D := (dC, dI)) (ci := 6) (v := .ref ol) (C := RX7) (T := TX7) (N := 10) hx hb hts uX7 hown hK hP 0 rfl rfl 6 (by decide) w1 (fun _ h9 => h9) rfl dX7_rows__6 ?_
  refine lv_aload_n hx hb dX7_rows__9 rfl (lv_at hl 0 rfl) ?_
  refine va_get (D := (dC, dI)) (ci := 6) (v := .int mcl) (C := RX7) (T := TX7) (N := 10) hx hb hts uX7 hown hK hP 0 rfl rfl 5 (by decide) w2 (fun _ h9 => h9) rfl dX7_rows__10 ?_
  obtain ⟨r4, hC5, hF⟩ := gd_b hF
  refine ct_callV (C := RX7) (As := [.ref i3, .ref ol, .int mcl]) (rest := []) ⟨hx, hb, hml, hown, hts⟩ (kX7_rows l dC dI tys cI ht0 o oc oi ol ob i3 mth mn mch mcl mgo mmo mcf mif mlf mbn mbf r1.2 r1.1 mcl r4 hC5) (cwV 3 hts gX7_rows__X7_rows rfl rfl rfl (by decide +kernel) ⟨Nat.le_of_ble_eq_true rfl, Nat.le_of_ble_eq_true rfl⟩) hE hK hP hD hS hA [0, 1, 2, 3, 4, 5] [] (by decide) rfl (by decide) (wr := []) rfl (by decide) (ci := 6) (T := TX7) (N := 10) (q0 := 0) rfl rfl hl.1 rfl rfl (Nat.le_of_ble_eq_true rfl) dX7_rows__13 ⟨(Nat.le_of_ble_eq_true rfl), (Nat.le_of_ble_eq_true rfl)⟩ (fun i6 H locs hP hD hS => ?_)
  have hP : va_P (dC, dI) vwCl [(o, .inr (6, [.int mth, .int mn, .int mch, .ref oc, .ref oi, .int mcl, .ref ol, .int mgo, .int mmo, .ref ob])), (oc, .inl (cI, 14, .inl mcf)), (oi, .inl (cI, 3, .inl mif)), (ol, .inl (cI, 24, .inl mlf)), (ob, .inl (cI, mbn, .inl mbf)), (i3, .inl (cI, r1.2, .inl r1.1)), (i6, .inl (cI, r4.2, .inl r4.1))] H := hP
  have hD : va_D A [(o, .inr (6, [.int mth, .int mn, .int mch, .ref oc, .ref oi, .int mcl, .ref ol, .int mgo, .int mmo, .ref ob])), (oc, .inl (cI, 14, .inl mcf)), (oi, .inl (cI, 3, .inl mif)), (ol, .inl (cI, 24, .inl mlf)), (ob, .inl (cI, mbn, .inl mbf)), (i3, .inl (cI, r1.2, .inl r1.1)), (i6, .inl (cI, r4.2, .inl r4.1))] := hD
  obtain rfl := Option.some.inj hF
  exact ct_a hx hb hr hlocks hK hP hD hS i6 rfl [0, 1, 2, 3, 4, 6] (by decide) rfl (Nat.le_of_ble_eq_true rfl) (Nat.le_of_ble_eq_true rfl) dX7_rows__16

def fX7_order__X8  (x4_8 : Int32) (n5_8 : Nat) (f5_8 : (Nat → Int32)) : Option ((Nat → Int32) × Nat) := some (f5_8, n5_8)
def fX7_order__L8 (p1 : Int32) (mn : Int32) (mch : Int32) (mcf : (Nat → Int32)) (mif : (Nat → Int32)) (mlf : (Nat → Int32)) (K8 : Int32 → Nat → (Nat → Int32) → Option ((Nat → Int32) × Nat)) : Nat → Int32 → Nat → (Nat → Int32) → Option ((Nat → Int32) × Nat)
  | 0, _, _, _ => none
  | n + 1, x4_8, n5_8, f5_8 => if p1 ≤ x4_8 then (K8 x4_8 n5_8 f5_8) else (if (x4_8 < 0 ∨ 24 ≤ x4_8.toNatClampNeg) then none else ((fX7_leadOrder mn mch mcf mif (mlf x4_8.toNatClampNeg)).bind (fun r6 => (fX7_join n5_8 f5_8 r6.2 r6.1).bind (fun r9 => (fX7_order__L8 p1 mn mch mcf mif mlf K8 n) (x4_8 + (1 : Int32)) r9.2 r9.1))))
def fX7_order_ (mn : Int32) (mch : Int32) (mcf : (Nat → Int32)) (mif : (Nat → Int32)) (mlf : (Nat → Int32)) (p1 : Int32) : Option ((Nat → Int32) × Nat) := (fX7_same mn).bind (fun r1 => fX7_order__L8 p1 mn mch mcf mif mlf fX7_order__X8 25 (0 : Int32) r1.2 r1.1)
abbrev rmX7_order_ : Room := { frames := 4, cells := 801, slots := 5607, locals := 90 }
set_option maxHeartbeats 4000000 in
set_option maxRecDepth 100000 in
theorem kX7_order_ (l : Launch) (dC : Nat → ClassId) (dI : Nat → Nat → Nat) (tys : List (ClassId × FieldType)) (cI : ClassId) (ht0 : tys[0]? = some (cI, .int)) (o oc oi ol ob : Nat) (mth : Int32) (mn : Int32) (mch : Int32) (mcl : Int32) (mgo : Int32) (mmo : Int32) (mcf : (Nat → Int32)) (mif : (Nat → Int32)) (mlf : (Nat → Int32)) (mbn : Nat) (mbf : (Nat → Int32)) (p1 : Int32) (r : ((Nat → Int32) × Nat)) (hF : fX7_order_ mn mch mcf mif mlf p1 = some r) : ct l (dC, dI) tys yX7_order_ wsX7_order_ rmX7_order_ [.ref o, .ref ol, .int p1] [(o, .inr (6, [.int mth, .int mn, .int mch, .ref oc, .ref oi, .int mcl, .ref ol, .int mgo, .int mmo, .ref ob])), (oc, .inl (cI, 14, .inl mcf)), (oi, .inl (cI, 3, .inl mif)), (ol, .inl (cI, 24, .inl mlf)), (ob, .inl (cI, mbn, .inl mbf))] (fun i : Nat => some (.ref i)) (fun i : Nat => [(o, .inr (6, [.int mth, .int mn, .int mch, .ref oc, .ref oi, .int mcl, .ref ol, .int mgo, .int mmo, .ref ob])), (oc, .inl (cI, 14, .inl mcf)), (oi, .inl (cI, 3, .inl mif)), (ol, .inl (cI, 24, .inl mlf)), (ob, .inl (cI, mbn, .inl mbf)), (i, .inl (cI, r.2, .inl r.1))]) := by
  refine ct_of (cc := cX7_order_) (maxL := 5) (ret := (some (.array .int))) (by decide) rfl (Nat.le_of_ble_eq_true rfl) ?_
  intro p e s m below meth c A ls hx hb hr hml hts hown hlocks hname hE hK hP hD hA hS hl
  have hown : s.vm.findClass RX7 = some m.cls := hown
  have hl : lv_has ls 5 [(0, .ref o), (1, .ref ol), (2, .int p1)] := hl
  unfold fX7_order_ at hF
  refine lv_aload_n hx hb dX7_order__0 rfl (lv_at hl 0 rfl) ?_
  obtain ⟨r1, hC2, hF⟩ := gd_b hF
  refine ct_callV (C := RX7) (As := []) (rest := []) ⟨hx, hb, hml, hown, hts⟩ (kX7_same l dC dI tys cI ht0 o oc oi ol ob mth mn mch mcl mgo mmo mcf mif mlf mbn mbf r1 hC2) (cwV 0 hts gX7_order__X7_same rfl rfl rfl (by decide +kernel) ⟨Nat.le_of_ble_eq_true rfl, Nat.le_of_ble_eq_true rfl⟩) hE hK hP hD hS hA [0, 1, 2, 3, 4] [] (by decide) rfl (by decide) (wr := []) rfl (by decide) (ci := 6) (T := TX7) (N := 10) (q0 := 0) rfl rfl hl.1 rfl rfl (Nat.le_of_ble_eq_true rfl) dX7_order__1 ⟨(Nat.le_of_ble_eq_true rfl), (Nat.le_of_ble_eq_true rfl)⟩ (fun i3 H locs hP hD hS => ?_)
  have hP : va_P (dC, dI) vwCl [(o, .inr (6, [.int mth, .int mn, .int mch, .ref oc, .ref oi, .int mcl, .ref ol, .int mgo, .int mmo, .ref ob])), (oc, .inl (cI, 14, .inl mcf)), (oi, .inl (cI, 3, .inl mif)), (ol, .inl (cI, 24, .inl mlf)), (ob, .inl (cI, mbn, .inl mbf)), (i3, .inl (cI, r1.2, .inl r1.1))] H := hP
  have hD : va_D A [(o, .inr (6, [.int mth, .int mn, .int mch, .ref oc, .ref oi, .int mcl, .ref ol, .int mgo, .int mmo, .ref ob])), (oc, .inl (cI, 14, .inl mcf)), (oi, .inl (cI, 3, .inl mif)), (ol, .inl (cI, 24, .inl mlf)), (ob, .inl (cI, mbn, .inl mbf)), (i3, .inl (cI, r1.2, .inl r1.1))] := hD
  refine lv_astore_n (lv' := [(3, .ref i3), (0, .ref o), (1, .ref ol), (2, .int p1)]) hx hb dX7_order__4 rfl hl (by decide) rfl (fun ls hl => ?_)
  refine lv_iconst (v := (0 : Int32)) hx hb dX7_order__5 (by decide) ?_
  refine lv_istore (lv' := [(4, .int (0 : Int32)), (3, .ref i3), (0, .ref o), (1, .ref ol), (2, .int p1)]) hx hb dX7_order__6 hl (by decide) rfl (fun ls hl => ?_)
  have X8 : ∀ (a3_8 : Nat) (x4_8 : Int32) (n5_8 : Nat) (f5_8 : (Nat → Int32)) (H : Heap) (locs : List Loc) (ls : Array Slot), fX7_order__X8 x4_8 n5_8 f5_8 = some r → va_P (dC, dI) vwCl [(o, .inr (6, [.int mth, .int mn, .int mch, .ref oc, .ref oi, .int mcl, .ref ol, .int mgo, .int mmo, .ref ob])), (oc, .inl (cI, 14, .inl mcf)), (oi, .inl (cI, 3, .inl mif)), (ol, .inl (cI, 24, .inl mlf)), (ob, .inl (cI, mbn, .inl mbf)), (a3_8, .inl (cI, n5_8, .inl f5_8))] H → va_D A [(o, .inr (6, [.int mth, .int mn, .int mch, .ref oc, .ref oi, .int mcl, .ref ol, .int mgo, .int mmo, .ref ob])), (oc, .inl (cI, 14, .inl mcf)), (oi, .inl (cI, 3, .inl mif)), (ol, .inl (cI, 24, .inl mlf)), (ob, .inl (cI, mbn, .inl mbf)), (a3_8, .inl (cI, n5_8, .inl f5_8))] → va_S A s.heap H locs → lv_has ls 5 [(4, .int x4_8), (3, .ref a3_8), (0, .ref o), (1, .ref ol), (2, .int p1)] → W p l e rmX7_order_ s m ([.ref o, .ref ol, .int p1] : List Value).toArray below meth c H locs 801 5607 (MQ below (ct_Q (dC, dI) tys (fun i : Nat => some (.ref i)) (fun i : Nat => [(o, .inr (6, [.int mth, .int mn, .int mch, .ref oc, .ref oi, .int mcl, .ref ol, .int mgo, .int mmo, .ref ob])), (oc, .inl (cI, 14, .inl mcf)), (oi, .inl (cI, 3, .inl mif)), (ol, .inl (cI, 24, .inl mlf)), (ob, .inl (cI, mbn, .inl mbf)), (i, .inl (cI, r.2, .inl r.1))]) A) ([.ref o, .ref ol, .int p1] : List Value).toArray s rmX7_order_.cells rmX7_order_.slots A) (F0 m 33 ls []) := by
    intro a3_8 x4_8 n5_8 f5_8 H locs ls hF hP hD hS hl
    unfold fX7_order__X8 at hF
    refine lv_aload_n hx hb dX7_order__33 rfl (lv_at hl 1 rfl) ?_
    obtain rfl := Option.some.inj hF
    exact ct_a hx hb hr hlocks hK hP hD hS a3_8 rfl [0, 1, 2, 3, 4, 5] (by decide) rfl (Nat.le_of_ble_eq_true rfl) (Nat.le_of_ble_eq_true rfl) dX7_order__34
  have L8 : ∀ (n8 : Nat) (a3_8 : Nat) (x4_8 : Int32) (n5_8 : Nat) (f5_8 : (Nat → Int32)) (H : Heap) (locs : List Loc) (ls : Array Slot) (cc8 ss8 : Nat), cc8 + n8 * 32 ≤ 801 → ss8 + n8 * 224 ≤ 5607 → fX7_order__L8 p1 mn mch mcf mif mlf fX7_order__X8 n8 x4_8 n5_8 f5_8 = some r → va_P (dC, dI) vwCl [(o, .inr (6, [.int mth, .int mn, .int mch, .ref oc, .ref oi, .int mcl, .ref ol, .int mgo, .int mmo, .ref ob])), (oc, .inl (cI, 14, .inl mcf)), (oi, .inl (cI, 3, .inl mif)), (ol, .inl (cI, 24, .inl mlf)), (ob, .inl (cI, mbn, .inl mbf)), (a3_8, .inl (cI, n5_8, .inl f5_8))] H → va_D A [(o, .inr (6, [.int mth, .int mn, .int mch, .ref oc, .ref oi, .int mcl, .ref ol, .int mgo, .int mmo, .ref ob])), (oc, .inl (cI, 14, .inl mcf)), (oi, .inl (cI, 3, .inl mif)), (ol, .inl (cI, 24, .inl mlf)), (ob, .inl (cI, mbn, .inl mbf)), (a3_8, .inl (cI, n5_8, .inl f5_8))] → va_S A s.heap H locs → lv_has ls 5 [(4, .int x4_8), (3, .ref a3_8), (0, .ref o), (1, .ref ol), (2, .int p1)] → W p l e rmX7_order_ s m ([.ref o, .ref ol, .int p1] : List Value).toArray below meth c H locs cc8 ss8 (MQ below (ct_Q (dC, dI) tys (fun i : Nat => some (.ref i)) (fun i : Nat => [(o, .inr (6, [.int mth, .int mn, .int mch, .ref oc, .ref oi, .int mcl, .ref ol, .int mgo, .int mmo, .ref ob])), (oc, .inl (cI, 14, .inl mcf)), (oi, .inl (cI, 3, .inl mif)), (ol, .inl (cI, 24, .inl mlf)), (ob, .inl (cI, mbn, .inl mbf)), (i, .inl (cI, r.2, .inl r.1))]) A) ([.ref o, .ref ol, .int p1] : List Value).toArray s rmX7_order_.cells rmX7_order_.slots A) (F0 m 8 ls []) := by
    intro n8
    induction n8 with
    | zero => intro a3_8 x4_8 n5_8 f5_8 H locs ls cc8 ss8 hcc8 hss8 hF; rw [fX7_order__L8] at hF; cases hF
    | succ n8 ih8 =>
      intro a3_8 x4_8 n5_8 f5_8 H locs ls cc8 ss8 hcc8 hss8 hF hP hD hS hl
      rw [fX7_order__L8] at hF
      refine lv_iload hx hb dX7_order__8 (lv_at hl 0 rfl) ?_
      refine lv_iload_n hx hb dX7_order__10 rfl (lv_at hl 4 rfl) ?_
      refine lv_icmp_ge (tgt := 33) hx hb dX7_order__11 (by decide) (fun c4 => ?_) (fun c4 => ?_)
      · have hF := (if_pos c4).symm.trans hF
        refine W.widen (k := 801) (n := 5607) (al_le (k := 0) (c1 := 32) hcc8 (Nat.le_refl _) (Nat.le_of_ble_eq_true rfl)) (al_le (k := 0) (c1 := 224) hss8 (Nat.le_refl _) (Nat.le_of_ble_eq_true rfl)) ?_
        exact X8 a3_8 x4_8 n5_8 f5_8 _ _ _ hF (hP.sub [0, 1, 2, 3, 4, 5] rfl) (hD.sub [0, 1, 2, 3, 4, 5] (by decide) rfl) hS (lv_sub hl [0, 1, 2, 3, 4] rfl)
      · have hF := (if_neg c4).symm.trans hF
        refine lv_aload_n hx hb dX7_order__14 rfl (lv_at hl 1 rfl) ?_
        refine lv_aload_n hx hb dX7_order__15 rfl (lv_at hl 2 rfl) ?_
        refine lv_aload_n hx hb dX7_order__16 rfl (lv_at hl 3 rfl) ?_
        refine lv_iload hx hb dX7_order__17 (lv_at hl 0 rfl) ?_
        obtain ⟨g5, hF⟩ := gd_n hF
        refine va_iald hx hb hK hP 3 0 rfl ht0 g5 dX7_order__19 ?_
        obtain ⟨r6, hC7, hF⟩ := gd_b hF
        refine ct_callV (C := RX7) (As := [.int (mlf x4_8.toNatClampNeg)]) (rest := [.ref a3_8]) ⟨hx, hb, hml, hown, hts⟩ (kX7_leadOrder l dC dI tys cI ht0 o oc oi ol ob mth mn mch mcl mgo mmo mcf mif mlf mbn mbf (mlf x4_8.toNatClampNeg) r6 hC7) (cwV 1 hts gX7_order__X7_leadOrder rfl rfl rfl (by decide +kernel) ⟨Nat.le_of_ble_eq_true rfl, Nat.le_of_ble_eq_true rfl⟩) hE hK hP hD hS hA [0, 1, 2, 3, 4] [5] (by decide) rfl (by decide) (wr := [(a3_8, .inl (cI, n5_8, .inl f5_8))]) rfl (by decide) (ci := 6) (T := TX7) (N := 10) (q0 := 0) rfl rfl hl.1 rfl rfl (Nat.le_of_ble_eq_true rfl) dX7_order__20 ⟨(show cc8 + 31 ≤ 801 from (al_le (k := 31) (c1 := 32) hcc8 (Nat.le_of_ble_eq_true rfl) (Nat.le_of_ble_eq_true rfl))), (show ss8 + 217 ≤ 5607 from (al_le (k := 217) (c1 := 224) hss8 (Nat.le_of_ble_eq_true rfl) (Nat.le_of_ble_eq_true rfl)))⟩ (fun i8 H locs hP hD hS => ?_)
        refine W.widen (k := cc8 + 31) (n := ss8 + 217) (show cc8 + 31 ≤ cc8 + 31 from Nat.le_refl _) (show ss8 + 217 ≤ ss8 + 217 from Nat.le_refl _) ?_
        have hP : va_P (dC, dI) vwCl [(a3_8, .inl (cI, n5_8, .inl f5_8)), (o, .inr (6, [.int mth, .int mn, .int mch, .ref oc, .ref oi, .int mcl, .ref ol, .int mgo, .int mmo, .ref ob])), (oc, .inl (cI, 14, .inl mcf)), (oi, .inl (cI, 3, .inl mif)), (ol, .inl (cI, 24, .inl mlf)), (ob, .inl (cI, mbn, .inl mbf)), (i8, .inl (cI, r6.2, .inl r6.1))] H := hP
        have hD : va_D A [(a3_8, .inl (cI, n5_8, .inl f5_8)), (o, .inr (6, [.int mth, .int mn, .int mch, .ref oc, .ref oi, .int mcl, .ref ol, .int mgo, .int mmo, .ref ob])), (oc, .inl (cI, 14, .inl mcf)), (oi, .inl (cI, 3, .inl mif)), (ol, .inl (cI, 24, .inl mlf)), (ob, .inl (cI, mbn, .inl mbf)), (i8, .inl (cI, r6.2, .inl r6.1))] := hD
        obtain ⟨r9, hC10, hF⟩ := gd_b hF
        refine ct_callS (As := [.ref a3_8, .ref i8]) (rest := []) ⟨hx, hb, hml, hown, hts⟩ (kX7_join l dC dI tys cI ht0 a3_8 i8 n5_8 f5_8 r6.2 r6.1 r9 hC10) (va_cwS 2 hts gX7_order__X7_join rfl rfl rfl (by decide +kernel) ⟨Nat.le_of_ble_eq_true rfl, Nat.le_of_ble_eq_true rfl⟩) hE hK hP hD hS hA [0, 6] [1, 2, 3, 4, 5] (by decide) rfl (by decide) (wr := [(o, .inr (6, [.int mth, .int mn, .int mch, .ref oc, .ref oi, .int mcl, .ref ol, .int mgo, .int mmo, .ref ob])), (oc, .inl (cI, 14, .inl mcf)), (oi, .inl (cI, 3, .inl mif)), (ol, .inl (cI, 24, .inl mlf)), (ob, .inl (cI, mbn, .inl mbf))]) rfl (by decide) hl.1 rfl rfl (Nat.le_of_ble_eq_true rfl) dX7_order__23 ⟨(show cc8 + 31 + 1 ≤ 801 from (al_le (k := 32) (c1 := 32) hcc8 (Nat.le_of_ble_eq_true rfl) (Nat.le_of_ble_eq_true rfl))), (show ss8 + 217 + 7 ≤ 5607 from (al_le (k := 224) (c1 := 224) hss8 (Nat.le_of_ble_eq_true rfl) (Nat.le_of_ble_eq_true rfl)))⟩ (fun i11 H locs hP hD hS => ?_)
        refine W.widen (k := cc8 + 32) (n := ss8 + 224) (show cc8 + 31 + 1 ≤ cc8 + 32 from Nat.le_refl _) (show ss8 + 217 + 7 ≤ ss8 + 224 from Nat.le_refl _) ?_
        have hP : va_P (dC, dI) vwCl [(o, .inr (6, [.int mth, .int mn, .int mch, .ref oc, .ref oi, .int mcl, .ref ol, .int mgo, .int mmo, .ref ob])), (oc, .inl (cI, 14, .inl mcf)), (oi, .inl (cI, 3, .inl mif)), (ol, .inl (cI, 24, .inl mlf)), (ob, .inl (cI, mbn, .inl mbf)), (a3_8, .inl (cI, n5_8, .inl f5_8)), (i8, .inl (cI, r6.2, .inl r6.1)), (i11, .inl (cI, r9.2, .inl r9.1))] H := hP
        have hD : va_D A [(o, .inr (6, [.int mth, .int mn, .int mch, .ref oc, .ref oi, .int mcl, .ref ol, .int mgo, .int mmo, .ref ob])), (oc, .inl (cI, 14, .inl mcf)), (oi, .inl (cI, 3, .inl mif)), (ol, .inl (cI, 24, .inl mlf)), (ob, .inl (cI, mbn, .inl mbf)), (a3_8, .inl (cI, n5_8, .inl f5_8)), (i8, .inl (cI, r6.2, .inl r6.1)), (i11, .inl (cI, r9.2, .inl r9.1))] := hD
        refine lv_astore_n (lv' := [(3, .ref i11), (4, .int x4_8), (0, .ref o), (1, .ref ol), (2, .int p1)]) hx hb dX7_order__26 rfl hl (by decide) rfl (fun ls hl => ?_)
        refine lv_iinc (v := x4_8 + (1 : Int32)) (lv' := [(4, .int (x4_8 + (1 : Int32))), (3, .ref i11), (0, .ref o), (1, .ref ol), (2, .int p1)]) hx hb dX7_order__27 hl (k := 1) rfl rfl (by decide) rfl (fun ls hl => ?_)
        refine lv_goto (tgt := 8) hx hb dX7_order__30 (by decide) ?_
        exact ih8 i11 (x4_8 + (1 : Int32)) r9.2 r9.1 _ _ _ (cc8 + 32) (ss8 + 224) (al_back (k := 32) hcc8 (Nat.le_of_ble_eq_true rfl)) (al_back (k := 224) hss8 (Nat.le_of_ble_eq_true rfl)) hF (hP.sub [0, 1, 2, 3, 4, 7] rfl) (hD.sub [0, 1, 2, 3, 4, 7] (by decide) rfl) hS (lv_sub hl [0, 1, 2, 3, 4] rfl)
  exact L8 25 i3 (0 : Int32) r1.2 r1.1 _ _ _ (1) (7) (Nat.le_refl _) (Nat.le_refl _) hF (hP.sub [0, 1, 2, 3, 4, 5] rfl) (hD.sub [0, 1, 2, 3, 4, 5] (by decide) rfl) hS (lv_sub hl [0, 1, 2, 3, 4] rfl)

def fX7_order__ (mn : Int32) (mch : Int32) (mcl : Int32) (mcf : (Nat → Int32)) (mif : (Nat → Int32)) (mlf : (Nat → Int32)) : Option ((Nat → Int32) × Nat) := (fX7_order_ mn mch mcf mif mlf mcl).bind (fun r1 => some (r1.1, r1.2))
abbrev rmX7_order__ : Room := { frames := 5, cells := 801, slots := 5607, locals := 114 }
set_option maxHeartbeats 4000000 in
set_option maxRecDepth 100000 in
theorem kX7_order__ (l : Launch) (dC : Nat → ClassId) (dI : Nat → Nat → Nat) (tys : List (ClassId × FieldType)) (cI : ClassId) (ht0 : tys[0]? = some (cI, .int)) (o oc oi ol ob : Nat) (mth : Int32) (mn : Int32) (mch : Int32) (mcl : Int32) (mgo : Int32) (mmo : Int32) (mcf : (Nat → Int32)) (mif : (Nat → Int32)) (mlf : (Nat → Int32)) (mbn : Nat) (mbf : (Nat → Int32)) (r : ((Nat → Int32) × Nat)) (hF : fX7_order__ mn mch mcl mcf mif mlf = some r) : ct l (dC, dI) tys yX7_order__ wsX7_order__ rmX7_order__ [.ref o] [(o, .inr (6, [.int mth, .int mn, .int mch, .ref oc, .ref oi, .int mcl, .ref ol, .int mgo, .int mmo, .ref ob])), (oc, .inl (cI, 14, .inl mcf)), (oi, .inl (cI, 3, .inl mif)), (ol, .inl (cI, 24, .inl mlf)), (ob, .inl (cI, mbn, .inl mbf))] (fun i : Nat => some (.ref i)) (fun i : Nat => [(o, .inr (6, [.int mth, .int mn, .int mch, .ref oc, .ref oi, .int mcl, .ref ol, .int mgo, .int mmo, .ref ob])), (oc, .inl (cI, 14, .inl mcf)), (oi, .inl (cI, 3, .inl mif)), (ol, .inl (cI, 24, .inl mlf)), (ob, .inl (cI, mbn, .inl mbf)), (i, .inl (cI, r.2, .inl r.1))]) := by
  refine ct_of (cc := cX7_order__) (maxL := 1) (ret := (some (.array .int))) (by decide) rfl (Nat.le_of_ble_eq_true rfl) ?_
  intro p e s m below meth c A ls hx hb hr hml hts hown hlocks hname hE hK hP hD hA hS hl
  have hown : s.vm.findClass RX7 = some m.cls := hown
  have hl : lv_has ls 1 [(0, .ref o)] := hl
  unfold fX7_order__ at hF
  have uX7 : ∀ w ∈ wsX70, w ∈ wsX7_order__ := (fun _ h => (List.mem_cons_of_mem _ (List.mem_append_right _ h)))
  have w1 := hts (.fieldLink RX7 16 "BellfounderTowerModel" "call" "[I") (List.mem_cons_of_mem _ (List.mem_append_left _ (List.mem_append_left _ (List.mem_of_getElem? (i := 0) rfl))))
  have w2 := hts (.fieldLink RX7 33 "BellfounderTowerModel" "calls" "I") (List.mem_cons_of_mem _ (List.mem_append_left _ (List.mem_append_left _ (List.mem_of_getElem? (i := 1) rfl))))
  refine lv_aload_n hx hb dX7_order___0 rfl (lv_at hl 0 rfl) ?_
  refine lv_aload_n hx hb dX7_order___1 rfl (lv_at hl 0 rfl) ?_
  refine va_get (D := (dC, dI)) (ci := 6) (v := .ref ol) (C := RX7) (T := TX7) (N := 10) hx hb hts uX7 hown hK hP 0 rfl rfl 6 (by decide) w1 (fun _ h9 => h9) rfl dX7_order___2 ?_
  refine lv_aload_n hx hb dX7_order___5 rfl (lv_at hl 0 rfl) ?_
  refine va_get (D := (dC, dI)) (ci := 6) (v := .int mcl) (C := RX7) (T := TX7) (N := 10) hx hb hts uX7 hown hK hP 0 rfl rfl 5 (by decide) w2 (fun _ h9 => h9) rfl dX7_order___6 ?_
  obtain ⟨r1, hC2, hF⟩ := gd_b hF
  refine ct_callV (C := RX7) (As := [.ref ol, .int mcl]) (rest := []) ⟨hx, hb, hml, hown, hts⟩ (kX7_order_ l dC dI tys cI ht0 o oc oi ol ob mth mn mch mcl mgo mmo mcf mif mlf mbn mbf mcl r1 hC2) (cwV 2 hts gX7_order___X7_order_ rfl rfl rfl (by decide +kernel) ⟨Nat.le_of_ble_eq_true rfl, Nat.le_of_ble_eq_true rfl⟩) hE hK hP hD hS hA [0, 1, 2, 3, 4] [] (by decide) rfl (by decide) (wr := []) rfl (by decide) (ci := 6) (T := TX7) (N := 10) (q0 := 0) rfl rfl hl.1 rfl rfl (Nat.le_of_ble_eq_true rfl) dX7_order___9 ⟨(Nat.le_of_ble_eq_true rfl), (Nat.le_of_ble_eq_true rfl)⟩ (fun i3 H locs hP hD hS => ?_)
  have hP : va_P (dC, dI) vwCl [(o, .inr (6, [.int mth, .int mn, .int mch, .ref oc, .ref oi, .int mcl, .ref ol, .int mgo, .int mmo, .ref ob])), (oc, .inl (cI, 14, .inl mcf)), (oi, .inl (cI, 3, .inl mif)), (ol, .inl (cI, 24, .inl mlf)), (ob, .inl (cI, mbn, .inl mbf)), (i3, .inl (cI, r1.2, .inl r1.1))] H := hP
  have hD : va_D A [(o, .inr (6, [.int mth, .int mn, .int mch, .ref oc, .ref oi, .int mcl, .ref ol, .int mgo, .int mmo, .ref ob])), (oc, .inl (cI, 14, .inl mcf)), (oi, .inl (cI, 3, .inl mif)), (ol, .inl (cI, 24, .inl mlf)), (ob, .inl (cI, mbn, .inl mbf)), (i3, .inl (cI, r1.2, .inl r1.1))] := hD
  obtain rfl := Option.some.inj hF
  exact ct_a hx hb hr hlocks hK hP hD hS i3 rfl [0, 1, 2, 3, 4, 5] (by decide) rfl (Nat.le_of_ble_eq_true rfl) (Nat.le_of_ble_eq_true rfl) dX7_order___12

def fX7_call (mn : Int32) (mch : Int32) (mcl : Int32) (mcf : (Nat → Int32)) (mif : (Nat → Int32)) (mlf : (Nat → Int32)) (p0 : Int32) : Option (Int32 × Int32 × Int32 × (Nat → Int32)) := (fX7_isIn p0 (0 : Int32) (2 : Int32)).bind (fun r1 => if r1 = 0 then ((fX7_no (1 : Int32)).bind (fun r16 => some (r16.1, r16.2, mcl, mlf))) else (if mcl = (24 : Int32) then ((fX7_no (2 : Int32)).bind (fun r13 => some (r13.1, r13.2, mcl, mlf))) else (if (mcl < 0 ∨ 24 ≤ mcl.toNatClampNeg) then none else ((fX7_order__ mn mch (mcl + (1 : Int32)) mcf mif (upd mlf mcl.toNatClampNeg p0)).bind (fun r7 => (fX7_number r7.2 r7.1).bind (fun r10 => some (r10, (0 : Int32), (mcl + (1 : Int32)), (upd mlf mcl.toNatClampNeg p0))))))))
abbrev rmX7_call : Room := { frames := 6, cells := 801, slots := 5607, locals := 134 }
set_option maxHeartbeats 4000000 in
set_option maxRecDepth 100000 in
theorem kX7_call (l : Launch) (dC : Nat → ClassId) (dI : Nat → Nat → Nat) (tys : List (ClassId × FieldType)) (cI : ClassId) (ht0 : tys[0]? = some (cI, .int)) (o oc oi ol ob : Nat) (mth : Int32) (mn : Int32) (mch : Int32) (mcl : Int32) (mgo : Int32) (mmo : Int32) (mcf : (Nat → Int32)) (mif : (Nat → Int32)) (mlf : (Nat → Int32)) (mbn : Nat) (mbf : (Nat → Int32)) (p0 : Int32) (r : (Int32 × Int32 × Int32 × (Nat → Int32))) (hF : fX7_call mn mch mcl mcf mif mlf p0 = some r) : ct l (dC, dI) tys yX7_call wsX7_call rmX7_call [.ref o, .int p0] [(o, .inr (6, [.int mth, .int mn, .int mch, .ref oc, .ref oi, .int mcl, .ref ol, .int mgo, .int mmo, .ref ob])), (oc, .inl (cI, 14, .inl mcf)), (oi, .inl (cI, 3, .inl mif)), (ol, .inl (cI, 24, .inl mlf)), (ob, .inl (cI, mbn, .inl mbf))] (fun _ : Unit => some (.int r.1)) (fun _ : Unit => [(o, .inr (6, [.int r.2.1, .int mn, .int mch, .ref oc, .ref oi, .int r.2.2.1, .ref ol, .int mgo, .int mmo, .ref ob])), (oc, .inl (cI, 14, .inl mcf)), (oi, .inl (cI, 3, .inl mif)), (ol, .inl (cI, 24, .inl r.2.2.2)), (ob, .inl (cI, mbn, .inl mbf))]) := by
  refine ct_of (cc := cX7_call) (maxL := 2) (ret := (some .int)) (by decide) rfl (Nat.le_of_ble_eq_true rfl) ?_
  intro p e s m below meth c A ls hx hb hr hml hts hown hlocks hname hE hK hP hD hA hS hl
  have hown : s.vm.findClass RX7 = some m.cls := hown
  have hl : lv_has ls 2 [(0, .ref o), (1, .int p0)] := hl
  unfold fX7_call at hF
  have uX7 : ∀ w ∈ wsX70, w ∈ wsX7_call := (fun _ h => (List.mem_cons_of_mem _ (List.mem_append_right _ h)))
  have w1 := hts (.fieldLink RX7 36 "BellfounderTowerModel" "thrown" "I") (List.mem_cons_of_mem _ (List.mem_append_left _ (List.mem_append_left _ (List.mem_of_getElem? (i := 0) rfl))))
  have w2 := hts (.fieldLink RX7 33 "BellfounderTowerModel" "calls" "I") (List.mem_cons_of_mem _ (List.mem_append_left _ (List.mem_append_left _ (List.mem_of_getElem? (i := 1) rfl))))
  have w3 := hts (.fieldLink RX7 16 "BellfounderTowerModel" "call" "[I") (List.mem_cons_of_mem _ (List.mem_append_left _ (List.mem_append_left _ (List.mem_of_getElem? (i := 2) rfl))))
  refine lv_aload_n hx hb dX7_call_0 rfl (lv_at hl 0 rfl) ?_
  refine lv_iconst (v := (0 : Int32)) hx hb dX7_call_1 (by decide) ?_
  refine va_put (D := (dC, dI)) (ci := 6) (v := .int (0 : Int32)) (ty := .int) (C := RX7) (T := TX7) (N := 10) hx hb hts uX7 tyX7 tyX7_ok nmX7 hown hK hP hD hS 0 rfl rfl 0 (by decide) w1 (fun _ h9 => h9) rfl (by decide +kernel) rfl rfl (Nat.le_of_ble_eq_true rfl) dX7_call_2 (fun H locs hP hD hS => ?_)
  have hP : va_P (dC, dI) vwCl [(o, .inr (6, [.int (0 : Int32), .int mn, .int mch, .ref oc, .ref oi, .int mcl, .ref ol, .int mgo, .int mmo, .ref ob])), (oc, .inl (cI, 14, .inl mcf)), (oi, .inl (cI, 3, .inl mif)), (ol, .inl (cI, 24, .inl mlf)), (ob, .inl (cI, mbn, .inl mbf))] H := hP
  have hD : va_D A [(o, .inr (6, [.int (0 : Int32), .int mn, .int mch, .ref oc, .ref oi, .int mcl, .ref ol, .int mgo, .int mmo, .ref ob])), (oc, .inl (cI, 14, .inl mcf)), (oi, .inl (cI, 3, .inl mif)), (ol, .inl (cI, 24, .inl mlf)), (ob, .inl (cI, mbn, .inl mbf))] := hD
  refine lv_iload_n hx hb dX7_call_5 rfl (lv_at hl 1 rfl) ?_
  refine lv_iconst (v := (0 : Int32)) hx hb dX7_call_6 (by decide) ?_
  refine lv_iconst (v := (2 : Int32)) hx hb dX7_call_7 (by decide) ?_
  obtain ⟨r1, hC2, hF⟩ := gd_b hF
  refine ct_callS (As := [.int p0, .int (0 : Int32), .int (2 : Int32)]) (rest := []) ⟨hx, hb, hml, hown, hts⟩ (kX7_isIn l dC dI tys cI ht0 p0 (0 : Int32) (2 : Int32) r1 hC2) (va_cwS 3 hts gX7_call_X7_isIn rfl rfl rfl (by decide +kernel) ⟨Nat.le_of_ble_eq_true rfl, Nat.le_of_ble_eq_true rfl⟩) hE hK hP hD hS hA [] [0, 1, 2, 3, 4] (by decide) rfl (by decide) (wr := [(o, .inr (6, [.int (0 : Int32), .int mn, .int mch, .ref oc, .ref oi, .int mcl, .ref ol, .int mgo, .int mmo, .ref ob])), (oc, .inl (cI, 14, .inl mcf)), (oi, .inl (cI, 3, .inl mif)), (ol, .inl (cI, 24, .inl mlf)), (ob, .inl (cI, mbn, .inl mbf))]) rfl (by decide) hl.1 rfl rfl (Nat.le_of_ble_eq_true rfl) dX7_call_8 ⟨(Nat.le_of_ble_eq_true rfl), (Nat.le_of_ble_eq_true rfl)⟩ (fun i3 H locs hP hD hS => ?_)
  have hP : va_P (dC, dI) vwCl [(o, .inr (6, [.int (0 : Int32), .int mn, .int mch, .ref oc, .ref oi, .int mcl, .ref ol, .int mgo, .int mmo, .ref ob])), (oc, .inl (cI, 14, .inl mcf)), (oi, .inl (cI, 3, .inl mif)), (ol, .inl (cI, 24, .inl mlf)), (ob, .inl (cI, mbn, .inl mbf))] H := hP
  have hD : va_D A [(o, .inr (6, [.int (0 : Int32), .int mn, .int mch, .ref oc, .ref oi, .int mcl, .ref ol, .int mgo, .int mmo, .ref ob])), (oc, .inl (cI, 14, .inl mcf)), (oi, .inl (cI, 3, .inl mif)), (ol, .inl (cI, 24, .inl mlf)), (ob, .inl (cI, mbn, .inl mbf))] := hD
  refine lv_if_ne (tgt := 20) hx hb dX7_call_11 (by decide) (fun c4 => ?_) (fun c4 => ?_)
  · have hF := (if_neg c4).symm.trans hF
    refine lv_aload_n hx hb dX7_call_20 rfl (lv_at hl 0 rfl) ?_
    refine va_get (D := (dC, dI)) (ci := 6) (v := .int mcl) (C := RX7) (T := TX7) (N := 10) hx hb hts uX7 hown hK hP 0 rfl rfl 5 (by decide) w2 (fun _ h9 => h9) rfl dX7_call_21 ?_
    refine lv_bipush (v := (24 : Int32)) hx hb dX7_call_24 (by decide) ?_
    refine lv_icmp_ne (tgt := 35) hx hb dX7_call_26 (by decide) (fun c5 => ?_) (fun c5 => ?_)
    · have hF := (if_neg c5).symm.trans hF
      refine lv_aload_n hx hb dX7_call_35 rfl (lv_at hl 0 rfl) ?_
      refine va_get (D := (dC, dI)) (ci := 6) (v := .ref ol) (C := RX7) (T := TX7) (N := 10) hx hb hts uX7 hown hK hP 0 rfl rfl 6 (by decide) w3 (fun _ h9 => h9) rfl dX7_call_36 ?_
      refine lv_aload_n hx hb dX7_call_39 rfl (lv_at hl 0 rfl) ?_
      refine lv_dup hx hb dX7_call_40 rfl ?_
      refine va_get (D := (dC, dI)) (ci := 6) (v := .int mcl) (C := RX7) (T := TX7) (N := 10) hx hb hts uX7 hown hK hP 0 rfl rfl 5 (by decide) w2 (fun _ h9 => h9) rfl dX7_call_41 ?_
      refine lv_dup_x1 hx hb dX7_call_44 rfl rfl ?_
      refine lv_iconst (v := (1 : Int32)) hx hb dX7_call_45 (by decide) ?_
      refine lv_iadd hx hb dX7_call_46 ?_
      refine va_put (D := (dC, dI)) (ci := 6) (v := .int (mcl + (1 : Int32))) (ty := .int) (C := RX7) (T := TX7) (N := 10) hx hb hts uX7 tyX7 tyX7_ok nmX7 hown hK hP hD hS 0 rfl rfl 5 (by decide) w2 (fun _ h9 => h9) rfl (by decide +kernel) rfl rfl (Nat.le_of_ble_eq_true rfl) dX7_call_47 (fun H locs hP hD hS => ?_)
      have hP : va_P (dC, dI) vwCl [(o, .inr (6, [.int (0 : Int32), .int mn, .int mch, .ref oc, .ref oi, .int (mcl + (1 : Int32)), .ref ol, .int mgo, .int mmo, .ref ob])), (oc, .inl (cI, 14, .inl mcf)), (oi, .inl (cI, 3, .inl mif)), (ol, .inl (cI, 24, .inl mlf)), (ob, .inl (cI, mbn, .inl mbf))] H := hP
      have hD : va_D A [(o, .inr (6, [.int (0 : Int32), .int mn, .int mch, .ref oc, .ref oi, .int (mcl + (1 : Int32)), .ref ol, .int mgo, .int mmo, .ref ob])), (oc, .inl (cI, 14, .inl mcf)), (oi, .inl (cI, 3, .inl mif)), (ol, .inl (cI, 24, .inl mlf)), (ob, .inl (cI, mbn, .inl mbf))] := hD
      refine lv_iload_n hx hb dX7_call_50 rfl (lv_at hl 1 rfl) ?_
      obtain ⟨g6, hF⟩ := gd_n hF
      refine va_iast hx hb hK hP hD hS 3 0 rfl ht0 g6 dX7_call_51 (fun H locs hP hD hS => ?_)
      have hP : va_P (dC, dI) vwCl [(o, .inr (6, [.int (0 : Int32), .int mn, .int mch, .ref oc, .ref oi, .int (mcl + (1 : Int32)), .ref ol, .int mgo, .int mmo, .ref ob])), (oc, .inl (cI, 14, .inl mcf)), (oi, .inl (cI, 3, .inl mif)), (ol, .inl (cI, 24, .inl (upd mlf mcl.toNatClampNeg p0))), (ob, .inl (cI, mbn, .inl mbf))] H := hP
      have hD : va_D A [(o, .inr (6, [.int (0 : Int32), .int mn, .int mch, .ref oc, .ref oi, .int (mcl + (1 : Int32)), .ref ol, .int mgo, .int mmo, .ref ob])), (oc, .inl (cI, 14, .inl mcf)), (oi, .inl (cI, 3, .inl mif)), (ol, .inl (cI, 24, .inl (upd mlf mcl.toNatClampNeg p0))), (ob, .inl (cI, mbn, .inl mbf))] := hD
      refine lv_aload_n hx hb dX7_call_52 rfl (lv_at hl 0 rfl) ?_
      obtain ⟨r7, hC8, hF⟩ := gd_b hF
      refine ct_callV (C := RX7) (As := []) (rest := []) ⟨hx, hb, hml, hown, hts⟩ (kX7_order__ l dC dI tys cI ht0 o oc oi ol ob (0 : Int32) mn mch (mcl + (1 : Int32)) mgo mmo mcf mif (upd mlf mcl.toNatClampNeg p0) mbn mbf r7 hC8) (cwV 0 hts gX7_call_X7_order__ rfl rfl rfl (by decide +kernel) ⟨Nat.le_of_ble_eq_true rfl, Nat.le_of_ble_eq_true rfl⟩) hE hK hP hD hS hA [0, 1, 2, 3, 4] [] (by decide) rfl (by decide) (wr := []) rfl (by decide) (ci := 6) (T := TX7) (N := 10) (q0 := 0) rfl rfl hl.1 rfl rfl (Nat.le_of_ble_eq_true rfl) dX7_call_53 ⟨(Nat.le_of_ble_eq_true rfl), (Nat.le_of_ble_eq_true rfl)⟩ (fun i9 H locs hP hD hS => ?_)
      have hP : va_P (dC, dI) vwCl [(o, .inr (6, [.int (0 : Int32), .int mn, .int mch, .ref oc, .ref oi, .int (mcl + (1 : Int32)), .ref ol, .int mgo, .int mmo, .ref ob])), (oc, .inl (cI, 14, .inl mcf)), (oi, .inl (cI, 3, .inl mif)), (ol, .inl (cI, 24, .inl (upd mlf mcl.toNatClampNeg p0))), (ob, .inl (cI, mbn, .inl mbf)), (i9, .inl (cI, r7.2, .inl r7.1))] H := hP
      have hD : va_D A [(o, .inr (6, [.int (0 : Int32), .int mn, .int mch, .ref oc, .ref oi, .int (mcl + (1 : Int32)), .ref ol, .int mgo, .int mmo, .ref ob])), (oc, .inl (cI, 14, .inl mcf)), (oi, .inl (cI, 3, .inl mif)), (ol, .inl (cI, 24, .inl (upd mlf mcl.toNatClampNeg p0))), (ob, .inl (cI, mbn, .inl mbf)), (i9, .inl (cI, r7.2, .inl r7.1))] := hD
      obtain ⟨r10, hC11, hF⟩ := gd_b hF
      refine ct_callS (As := [.ref i9]) (rest := []) ⟨hx, hb, hml, hown, hts⟩ (kX7_number l dC dI tys cI ht0 i9 r7.2 r7.1 r10 hC11) (va_cwS 1 hts gX7_call_X7_number rfl rfl rfl (by decide +kernel) ⟨Nat.le_of_ble_eq_true rfl, Nat.le_of_ble_eq_true rfl⟩) hE hK hP hD hS hA [5] [0, 1, 2, 3, 4] (by decide) rfl (by decide) (wr := [(o, .inr (6, [.int (0 : Int32), .int mn, .int mch, .ref oc, .ref oi, .int (mcl + (1 : Int32)), .ref ol, .int mgo, .int mmo, .ref ob])), (oc, .inl (cI, 14, .inl mcf)), (oi, .inl (cI, 3, .inl mif)), (ol, .inl (cI, 24, .inl (upd mlf mcl.toNatClampNeg p0))), (ob, .inl (cI, mbn, .inl mbf))]) rfl (by decide) hl.1 rfl rfl (Nat.le_of_ble_eq_true rfl) dX7_call_56 ⟨(Nat.le_of_ble_eq_true rfl), (Nat.le_of_ble_eq_true rfl)⟩ (fun i12 H locs hP hD hS => ?_)
      have hP : va_P (dC, dI) vwCl [(o, .inr (6, [.int (0 : Int32), .int mn, .int mch, .ref oc, .ref oi, .int (mcl + (1 : Int32)), .ref ol, .int mgo, .int mmo, .ref ob])), (oc, .inl (cI, 14, .inl mcf)), (oi, .inl (cI, 3, .inl mif)), (ol, .inl (cI, 24, .inl (upd mlf mcl.toNatClampNeg p0))), (ob, .inl (cI, mbn, .inl mbf)), (i9, .inl (cI, r7.2, .inl r7.1))] H := hP
      have hD : va_D A [(o, .inr (6, [.int (0 : Int32), .int mn, .int mch, .ref oc, .ref oi, .int (mcl + (1 : Int32)), .ref ol, .int mgo, .int mmo, .ref ob])), (oc, .inl (cI, 14, .inl mcf)), (oi, .inl (cI, 3, .inl mif)), (ol, .inl (cI, 24, .inl (upd mlf mcl.toNatClampNeg p0))), (ob, .inl (cI, mbn, .inl mbf)), (i9, .inl (cI, r7.2, .inl r7.1))] := hD
      obtain rfl := Option.some.inj hF
      exact ct_i hx hb hr hlocks hK hP hD hS () rfl [0, 1, 2, 3, 4] (by decide) rfl (Nat.le_of_ble_eq_true rfl) (Nat.le_of_ble_eq_true rfl) dX7_call_59
    · have hF := (if_pos c5).symm.trans hF
      refine lv_aload_n hx hb dX7_call_29 rfl (lv_at hl 0 rfl) ?_
      refine lv_iconst (v := (2 : Int32)) hx hb dX7_call_30 (by decide) ?_
      obtain ⟨r13, hC14, hF⟩ := gd_b hF
      refine ct_callV (C := RX7) (As := [.int (2 : Int32)]) (rest := []) ⟨hx, hb, hml, hown, hts⟩ (kX7_no l dC dI tys cI ht0 o oc oi ol ob (0 : Int32) mn mch mcl mgo mmo mcf mif mlf mbn mbf (2 : Int32) r13 hC14) (cwV 1 hts gX7_call_X7_no rfl rfl rfl (by decide +kernel) ⟨Nat.le_of_ble_eq_true rfl, Nat.le_of_ble_eq_true rfl⟩) hE hK hP hD hS hA [0, 1, 2, 3, 4] [] (by decide) rfl (by decide) (wr := []) rfl (by decide) (ci := 6) (T := TX7) (N := 10) (q0 := 0) rfl rfl hl.1 rfl rfl (Nat.le_of_ble_eq_true rfl) dX7_call_31 ⟨(Nat.le_of_ble_eq_true rfl), (Nat.le_of_ble_eq_true rfl)⟩ (fun i15 H locs hP hD hS => ?_)
      have hP : va_P (dC, dI) vwCl [(o, .inr (6, [.int r13.2, .int mn, .int mch, .ref oc, .ref oi, .int mcl, .ref ol, .int mgo, .int mmo, .ref ob])), (oc, .inl (cI, 14, .inl mcf)), (oi, .inl (cI, 3, .inl mif)), (ol, .inl (cI, 24, .inl mlf)), (ob, .inl (cI, mbn, .inl mbf))] H := hP
      have hD : va_D A [(o, .inr (6, [.int r13.2, .int mn, .int mch, .ref oc, .ref oi, .int mcl, .ref ol, .int mgo, .int mmo, .ref ob])), (oc, .inl (cI, 14, .inl mcf)), (oi, .inl (cI, 3, .inl mif)), (ol, .inl (cI, 24, .inl mlf)), (ob, .inl (cI, mbn, .inl mbf))] := hD
      obtain rfl := Option.some.inj hF
      exact ct_i hx hb hr hlocks hK hP hD hS () rfl [0, 1, 2, 3, 4] (by decide) rfl (Nat.le_of_ble_eq_true rfl) (Nat.le_of_ble_eq_true rfl) dX7_call_34
  · have hF := (if_pos c4).symm.trans hF
    refine lv_aload_n hx hb dX7_call_14 rfl (lv_at hl 0 rfl) ?_
    refine lv_iconst (v := (1 : Int32)) hx hb dX7_call_15 (by decide) ?_
    obtain ⟨r16, hC17, hF⟩ := gd_b hF
    refine ct_callV (C := RX7) (As := [.int (1 : Int32)]) (rest := []) ⟨hx, hb, hml, hown, hts⟩ (kX7_no l dC dI tys cI ht0 o oc oi ol ob (0 : Int32) mn mch mcl mgo mmo mcf mif mlf mbn mbf (1 : Int32) r16 hC17) (cwV 1 hts gX7_call_X7_no rfl rfl rfl (by decide +kernel) ⟨Nat.le_of_ble_eq_true rfl, Nat.le_of_ble_eq_true rfl⟩) hE hK hP hD hS hA [0, 1, 2, 3, 4] [] (by decide) rfl (by decide) (wr := []) rfl (by decide) (ci := 6) (T := TX7) (N := 10) (q0 := 0) rfl rfl hl.1 rfl rfl (Nat.le_of_ble_eq_true rfl) dX7_call_16 ⟨(Nat.le_of_ble_eq_true rfl), (Nat.le_of_ble_eq_true rfl)⟩ (fun i18 H locs hP hD hS => ?_)
    have hP : va_P (dC, dI) vwCl [(o, .inr (6, [.int r16.2, .int mn, .int mch, .ref oc, .ref oi, .int mcl, .ref ol, .int mgo, .int mmo, .ref ob])), (oc, .inl (cI, 14, .inl mcf)), (oi, .inl (cI, 3, .inl mif)), (ol, .inl (cI, 24, .inl mlf)), (ob, .inl (cI, mbn, .inl mbf))] H := hP
    have hD : va_D A [(o, .inr (6, [.int r16.2, .int mn, .int mch, .ref oc, .ref oi, .int mcl, .ref ol, .int mgo, .int mmo, .ref ob])), (oc, .inl (cI, 14, .inl mcf)), (oi, .inl (cI, 3, .inl mif)), (ol, .inl (cI, 24, .inl mlf)), (ob, .inl (cI, mbn, .inl mbf))] := hD
    obtain rfl := Option.some.inj hF
    exact ct_i hx hb hr hlocks hK hP hD hS () rfl [0, 1, 2, 3, 4] (by decide) rfl (Nat.le_of_ble_eq_true rfl) (Nat.le_of_ble_eq_true rfl) dX7_call_19

def fX7_uncall (mcl : Int32) (mlf : (Nat → Int32)) : Option (Int32 × Int32 × Int32) := if mcl = 0 then ((fX7_no (1 : Int32)).bind (fun r3 => some (r3.1, r3.2, mcl))) else (if ((mcl - (1 : Int32)) < 0 ∨ 24 ≤ (mcl - (1 : Int32)).toNatClampNeg) then none else (some ((mlf (mcl - (1 : Int32)).toNatClampNeg), (0 : Int32), (mcl - (1 : Int32)))))
abbrev rmX7_uncall : Room := { frames := 1, cells := 0, slots := 0, locals := 21 }
set_option maxHeartbeats 4000000 in
set_option maxRecDepth 100000 in
theorem kX7_uncall (l : Launch) (dC : Nat → ClassId) (dI : Nat → Nat → Nat) (tys : List (ClassId × FieldType)) (cI : ClassId) (ht0 : tys[0]? = some (cI, .int)) (o oc oi ol ob : Nat) (mth : Int32) (mn : Int32) (mch : Int32) (mcl : Int32) (mgo : Int32) (mmo : Int32) (mcf : (Nat → Int32)) (mif : (Nat → Int32)) (mlf : (Nat → Int32)) (mbn : Nat) (mbf : (Nat → Int32)) (r : (Int32 × Int32 × Int32)) (hF : fX7_uncall mcl mlf = some r) : ct l (dC, dI) tys yX7_uncall wsX7_uncall rmX7_uncall [.ref o] [(o, .inr (6, [.int mth, .int mn, .int mch, .ref oc, .ref oi, .int mcl, .ref ol, .int mgo, .int mmo, .ref ob])), (oc, .inl (cI, 14, .inl mcf)), (oi, .inl (cI, 3, .inl mif)), (ol, .inl (cI, 24, .inl mlf)), (ob, .inl (cI, mbn, .inl mbf))] (fun _ : Unit => some (.int r.1)) (fun _ : Unit => [(o, .inr (6, [.int r.2.1, .int mn, .int mch, .ref oc, .ref oi, .int r.2.2, .ref ol, .int mgo, .int mmo, .ref ob])), (oc, .inl (cI, 14, .inl mcf)), (oi, .inl (cI, 3, .inl mif)), (ol, .inl (cI, 24, .inl mlf)), (ob, .inl (cI, mbn, .inl mbf))]) := by
  refine ct_of (cc := cX7_uncall) (maxL := 1) (ret := (some .int)) (by decide) rfl (Nat.le_of_ble_eq_true rfl) ?_
  intro p e s m below meth c A ls hx hb hr hml hts hown hlocks hname hE hK hP hD hA hS hl
  have hown : s.vm.findClass RX7 = some m.cls := hown
  have hl : lv_has ls 1 [(0, .ref o)] := hl
  unfold fX7_uncall at hF
  have uX7 : ∀ w ∈ wsX70, w ∈ wsX7_uncall := (fun _ h => (List.mem_cons_of_mem _ (List.mem_append_right _ h)))
  have w1 := hts (.fieldLink RX7 36 "BellfounderTowerModel" "thrown" "I") (List.mem_cons_of_mem _ (List.mem_append_left _ (List.mem_of_getElem? (i := 0) rfl)))
  have w2 := hts (.fieldLink RX7 33 "BellfounderTowerModel" "calls" "I") (List.mem_cons_of_mem _ (List.mem_append_left _ (List.mem_of_getElem? (i := 1) rfl)))
  have w3 := hts (.fieldLink RX7 16 "BellfounderTowerModel" "call" "[I") (List.mem_cons_of_mem _ (List.mem_append_left _ (List.mem_of_getElem? (i := 2) rfl)))
  refine lv_aload_n hx hb dX7_uncall_0 rfl (lv_at hl 0 rfl) ?_
  refine lv_iconst (v := (0 : Int32)) hx hb dX7_uncall_1 (by decide) ?_
  refine va_put (D := (dC, dI)) (ci := 6) (v := .int (0 : Int32)) (ty := .int) (C := RX7) (T := TX7) (N := 10) hx hb hts uX7 tyX7 tyX7_ok nmX7 hown hK hP hD hS 0 rfl rfl 0 (by decide) w1 (fun _ h9 => h9) rfl (by decide +kernel) rfl rfl (Nat.le_of_ble_eq_true rfl) dX7_uncall_2 (fun H locs hP hD hS => ?_)
  have hP : va_P (dC, dI) vwCl [(o, .inr (6, [.int (0 : Int32), .int mn, .int mch, .ref oc, .ref oi, .int mcl, .ref ol, .int mgo, .int mmo, .ref ob])), (oc, .inl (cI, 14, .inl mcf)), (oi, .inl (cI, 3, .inl mif)), (ol, .inl (cI, 24, .inl mlf)), (ob, .inl (cI, mbn, .inl mbf))] H := hP
  have hD : va_D A [(o, .inr (6, [.int (0 : Int32), .int mn, .int mch, .ref oc, .ref oi, .int mcl, .ref ol, .int mgo, .int mmo, .ref ob])), (oc, .inl (cI, 14, .inl mcf)), (oi, .inl (cI, 3, .inl mif)), (ol, .inl (cI, 24, .inl mlf)), (ob, .inl (cI, mbn, .inl mbf))] := hD
  refine lv_aload_n hx hb dX7_uncall_5 rfl (lv_at hl 0 rfl) ?_
  refine va_get (D := (dC, dI)) (ci := 6) (v := .int mcl) (C := RX7) (T := TX7) (N := 10) hx hb hts uX7 hown hK hP 0 rfl rfl 5 (by decide) w2 (fun _ h9 => h9) rfl dX7_uncall_6 ?_
  refine lv_if_ne (tgt := 20) hx hb dX7_uncall_9 (by decide) (fun c1 => ?_) (fun c1 => ?_)
  · have hF := (if_neg c1).symm.trans hF
    refine lv_aload_n hx hb dX7_uncall_20 rfl (lv_at hl 0 rfl) ?_
    refine va_get (D := (dC, dI)) (ci := 6) (v := .ref ol) (C := RX7) (T := TX7) (N := 10) hx hb hts uX7 hown hK hP 0 rfl rfl 6 (by decide) w3 (fun _ h9 => h9) rfl dX7_uncall_21 ?_
    refine lv_aload_n hx hb dX7_uncall_24 rfl (lv_at hl 0 rfl) ?_
    refine lv_dup hx hb dX7_uncall_25 rfl ?_
    refine va_get (D := (dC, dI)) (ci := 6) (v := .int mcl) (C := RX7) (T := TX7) (N := 10) hx hb hts uX7 hown hK hP 0 rfl rfl 5 (by decide) w2 (fun _ h9 => h9) rfl dX7_uncall_26 ?_
    refine lv_iconst (v := (1 : Int32)) hx hb dX7_uncall_29 (by decide) ?_
    refine lv_isub hx hb dX7_uncall_30 ?_
    refine lv_dup_x1 hx hb dX7_uncall_31 rfl rfl ?_
    refine va_put (D := (dC, dI)) (ci := 6) (v := .int (mcl - (1 : Int32))) (ty := .int) (C := RX7) (T := TX7) (N := 10) hx hb hts uX7 tyX7 tyX7_ok nmX7 hown hK hP hD hS 0 rfl rfl 5 (by decide) w2 (fun _ h9 => h9) rfl (by decide +kernel) rfl rfl (Nat.le_of_ble_eq_true rfl) dX7_uncall_32 (fun H locs hP hD hS => ?_)
    have hP : va_P (dC, dI) vwCl [(o, .inr (6, [.int (0 : Int32), .int mn, .int mch, .ref oc, .ref oi, .int (mcl - (1 : Int32)), .ref ol, .int mgo, .int mmo, .ref ob])), (oc, .inl (cI, 14, .inl mcf)), (oi, .inl (cI, 3, .inl mif)), (ol, .inl (cI, 24, .inl mlf)), (ob, .inl (cI, mbn, .inl mbf))] H := hP
    have hD : va_D A [(o, .inr (6, [.int (0 : Int32), .int mn, .int mch, .ref oc, .ref oi, .int (mcl - (1 : Int32)), .ref ol, .int mgo, .int mmo, .ref ob])), (oc, .inl (cI, 14, .inl mcf)), (oi, .inl (cI, 3, .inl mif)), (ol, .inl (cI, 24, .inl mlf)), (ob, .inl (cI, mbn, .inl mbf))] := hD
    obtain ⟨g2, hF⟩ := gd_n hF
    refine va_iald hx hb hK hP 3 0 rfl ht0 g2 dX7_uncall_35 ?_
    obtain rfl := Option.some.inj hF
    exact ct_i hx hb hr hlocks hK hP hD hS () rfl [0, 1, 2, 3, 4] (by decide) rfl (Nat.le_of_ble_eq_true rfl) (Nat.le_of_ble_eq_true rfl) dX7_uncall_36
  · have hF := (if_pos c1).symm.trans hF
    refine lv_aload_n hx hb dX7_uncall_12 rfl (lv_at hl 0 rfl) ?_
    refine lv_iconst (v := (1 : Int32)) hx hb dX7_uncall_13 (by decide) ?_
    obtain ⟨r3, hC4, hF⟩ := gd_b hF
    refine ct_callV (C := RX7) (As := [.int (1 : Int32)]) (rest := []) ⟨hx, hb, hml, hown, hts⟩ (kX7_no l dC dI tys cI ht0 o oc oi ol ob (0 : Int32) mn mch mcl mgo mmo mcf mif mlf mbn mbf (1 : Int32) r3 hC4) (cwV 1 hts gX7_uncall_X7_no rfl rfl rfl (by decide +kernel) ⟨Nat.le_of_ble_eq_true rfl, Nat.le_of_ble_eq_true rfl⟩) hE hK hP hD hS hA [0, 1, 2, 3, 4] [] (by decide) rfl (by decide) (wr := []) rfl (by decide) (ci := 6) (T := TX7) (N := 10) (q0 := 0) rfl rfl hl.1 rfl rfl (Nat.le_of_ble_eq_true rfl) dX7_uncall_14 ⟨(Nat.le_of_ble_eq_true rfl), (Nat.le_of_ble_eq_true rfl)⟩ (fun i5 H locs hP hD hS => ?_)
    have hP : va_P (dC, dI) vwCl [(o, .inr (6, [.int r3.2, .int mn, .int mch, .ref oc, .ref oi, .int mcl, .ref ol, .int mgo, .int mmo, .ref ob])), (oc, .inl (cI, 14, .inl mcf)), (oi, .inl (cI, 3, .inl mif)), (ol, .inl (cI, 24, .inl mlf)), (ob, .inl (cI, mbn, .inl mbf))] H := hP
    have hD : va_D A [(o, .inr (6, [.int r3.2, .int mn, .int mch, .ref oc, .ref oi, .int mcl, .ref ol, .int mgo, .int mmo, .ref ob])), (oc, .inl (cI, 14, .inl mcf)), (oi, .inl (cI, 3, .inl mif)), (ol, .inl (cI, 24, .inl mlf)), (ob, .inl (cI, mbn, .inl mbf))] := hD
    refine lv_goto (tgt := 36) hx hb dX7_uncall_17 (by decide) ?_
    obtain rfl := Option.some.inj hF
    exact ct_i hx hb hr hlocks hK hP hD hS () rfl [0, 1, 2, 3, 4] (by decide) rfl (Nat.le_of_ble_eq_true rfl) (Nat.le_of_ble_eq_true rfl) dX7_uncall_36

def fX7_callAt (mcl : Int32) (mlf : (Nat → Int32)) (p0 : Int32) : Option (Int32 × Int32) := (fX7_isIn p0 (0 : Int32) (mcl - (1 : Int32))).bind (fun r1 => if r1 = 0 then ((fX7_no (1 : Int32)).bind (fun r5 => some (r5.1, r5.2))) else (if (p0 < 0 ∨ 24 ≤ p0.toNatClampNeg) then none else (some ((mlf p0.toNatClampNeg), (0 : Int32)))))
abbrev rmX7_callAt : Room := { frames := 1, cells := 0, slots := 0, locals := 22 }
set_option maxHeartbeats 4000000 in
set_option maxRecDepth 100000 in
theorem kX7_callAt (l : Launch) (dC : Nat → ClassId) (dI : Nat → Nat → Nat) (tys : List (ClassId × FieldType)) (cI : ClassId) (ht0 : tys[0]? = some (cI, .int)) (o oc oi ol ob : Nat) (mth : Int32) (mn : Int32) (mch : Int32) (mcl : Int32) (mgo : Int32) (mmo : Int32) (mcf : (Nat → Int32)) (mif : (Nat → Int32)) (mlf : (Nat → Int32)) (mbn : Nat) (mbf : (Nat → Int32)) (p0 : Int32) (r : (Int32 × Int32)) (hF : fX7_callAt mcl mlf p0 = some r) : ct l (dC, dI) tys yX7_callAt wsX7_callAt rmX7_callAt [.ref o, .int p0] [(o, .inr (6, [.int mth, .int mn, .int mch, .ref oc, .ref oi, .int mcl, .ref ol, .int mgo, .int mmo, .ref ob])), (oc, .inl (cI, 14, .inl mcf)), (oi, .inl (cI, 3, .inl mif)), (ol, .inl (cI, 24, .inl mlf)), (ob, .inl (cI, mbn, .inl mbf))] (fun _ : Unit => some (.int r.1)) (fun _ : Unit => [(o, .inr (6, [.int r.2, .int mn, .int mch, .ref oc, .ref oi, .int mcl, .ref ol, .int mgo, .int mmo, .ref ob])), (oc, .inl (cI, 14, .inl mcf)), (oi, .inl (cI, 3, .inl mif)), (ol, .inl (cI, 24, .inl mlf)), (ob, .inl (cI, mbn, .inl mbf))]) := by
  refine ct_of (cc := cX7_callAt) (maxL := 2) (ret := (some .int)) (by decide) rfl (Nat.le_of_ble_eq_true rfl) ?_
  intro p e s m below meth c A ls hx hb hr hml hts hown hlocks hname hE hK hP hD hA hS hl
  have hown : s.vm.findClass RX7 = some m.cls := hown
  have hl : lv_has ls 2 [(0, .ref o), (1, .int p0)] := hl
  unfold fX7_callAt at hF
  have uX7 : ∀ w ∈ wsX70, w ∈ wsX7_callAt := (fun _ h => (List.mem_cons_of_mem _ (List.mem_append_right _ h)))
  have w1 := hts (.fieldLink RX7 36 "BellfounderTowerModel" "thrown" "I") (List.mem_cons_of_mem _ (List.mem_append_left _ (List.mem_of_getElem? (i := 0) rfl)))
  have w2 := hts (.fieldLink RX7 33 "BellfounderTowerModel" "calls" "I") (List.mem_cons_of_mem _ (List.mem_append_left _ (List.mem_of_getElem? (i := 1) rfl)))
  have w3 := hts (.fieldLink RX7 16 "BellfounderTowerModel" "call" "[I") (List.mem_cons_of_mem _ (List.mem_append_left _ (List.mem_of_getElem? (i := 2) rfl)))
  refine lv_aload_n hx hb dX7_callAt_0 rfl (lv_at hl 0 rfl) ?_
  refine lv_iconst (v := (0 : Int32)) hx hb dX7_callAt_1 (by decide) ?_
  refine va_put (D := (dC, dI)) (ci := 6) (v := .int (0 : Int32)) (ty := .int) (C := RX7) (T := TX7) (N := 10) hx hb hts uX7 tyX7 tyX7_ok nmX7 hown hK hP hD hS 0 rfl rfl 0 (by decide) w1 (fun _ h9 => h9) rfl (by decide +kernel) rfl rfl (Nat.le_of_ble_eq_true rfl) dX7_callAt_2 (fun H locs hP hD hS => ?_)
  have hP : va_P (dC, dI) vwCl [(o, .inr (6, [.int (0 : Int32), .int mn, .int mch, .ref oc, .ref oi, .int mcl, .ref ol, .int mgo, .int mmo, .ref ob])), (oc, .inl (cI, 14, .inl mcf)), (oi, .inl (cI, 3, .inl mif)), (ol, .inl (cI, 24, .inl mlf)), (ob, .inl (cI, mbn, .inl mbf))] H := hP
  have hD : va_D A [(o, .inr (6, [.int (0 : Int32), .int mn, .int mch, .ref oc, .ref oi, .int mcl, .ref ol, .int mgo, .int mmo, .ref ob])), (oc, .inl (cI, 14, .inl mcf)), (oi, .inl (cI, 3, .inl mif)), (ol, .inl (cI, 24, .inl mlf)), (ob, .inl (cI, mbn, .inl mbf))] := hD
  refine lv_iload_n hx hb dX7_callAt_5 rfl (lv_at hl 1 rfl) ?_
  refine lv_iconst (v := (0 : Int32)) hx hb dX7_callAt_6 (by decide) ?_
  refine lv_aload_n hx hb dX7_callAt_7 rfl (lv_at hl 0 rfl) ?_
  refine va_get (D := (dC, dI)) (ci := 6) (v := .int mcl) (C := RX7) (T := TX7) (N := 10) hx hb hts uX7 hown hK hP 0 rfl rfl 5 (by decide) w2 (fun _ h9 => h9) rfl dX7_callAt_8 ?_
  refine lv_iconst (v := (1 : Int32)) hx hb dX7_callAt_11 (by decide) ?_
  refine lv_isub hx hb dX7_callAt_12 ?_
  obtain ⟨r1, hC2, hF⟩ := gd_b hF
  refine ct_callS (As := [.int p0, .int (0 : Int32), .int (mcl - (1 : Int32))]) (rest := []) ⟨hx, hb, hml, hown, hts⟩ (kX7_isIn l dC dI tys cI ht0 p0 (0 : Int32) (mcl - (1 : Int32)) r1 hC2) (va_cwS 3 hts gX7_callAt_X7_isIn rfl rfl rfl (by decide +kernel) ⟨Nat.le_of_ble_eq_true rfl, Nat.le_of_ble_eq_true rfl⟩) hE hK hP hD hS hA [] [0, 1, 2, 3, 4] (by decide) rfl (by decide) (wr := [(o, .inr (6, [.int (0 : Int32), .int mn, .int mch, .ref oc, .ref oi, .int mcl, .ref ol, .int mgo, .int mmo, .ref ob])), (oc, .inl (cI, 14, .inl mcf)), (oi, .inl (cI, 3, .inl mif)), (ol, .inl (cI, 24, .inl mlf)), (ob, .inl (cI, mbn, .inl mbf))]) rfl (by decide) hl.1 rfl rfl (Nat.le_of_ble_eq_true rfl) dX7_callAt_13 ⟨(Nat.le_of_ble_eq_true rfl), (Nat.le_of_ble_eq_true rfl)⟩ (fun i3 H locs hP hD hS => ?_)
  have hP : va_P (dC, dI) vwCl [(o, .inr (6, [.int (0 : Int32), .int mn, .int mch, .ref oc, .ref oi, .int mcl, .ref ol, .int mgo, .int mmo, .ref ob])), (oc, .inl (cI, 14, .inl mcf)), (oi, .inl (cI, 3, .inl mif)), (ol, .inl (cI, 24, .inl mlf)), (ob, .inl (cI, mbn, .inl mbf))] H := hP
  have hD : va_D A [(o, .inr (6, [.int (0 : Int32), .int mn, .int mch, .ref oc, .ref oi, .int mcl, .ref ol, .int mgo, .int mmo, .ref ob])), (oc, .inl (cI, 14, .inl mcf)), (oi, .inl (cI, 3, .inl mif)), (ol, .inl (cI, 24, .inl mlf)), (ob, .inl (cI, mbn, .inl mbf))] := hD
  refine lv_if_eq (tgt := 28) hx hb dX7_callAt_16 (by decide) (fun c4 => ?_) (fun c4 => ?_)
  · have hF := (if_pos c4).symm.trans hF
    refine lv_aload_n hx hb dX7_callAt_28 rfl (lv_at hl 0 rfl) ?_
    refine lv_iconst (v := (1 : Int32)) hx hb dX7_callAt_29 (by decide) ?_
    obtain ⟨r5, hC6, hF⟩ := gd_b hF
    refine ct_callV (C := RX7) (As := [.int (1 : Int32)]) (rest := []) ⟨hx, hb, hml, hown, hts⟩ (kX7_no l dC dI tys cI ht0 o oc oi ol ob (0 : Int32) mn mch mcl mgo mmo mcf mif mlf mbn mbf (1 : Int32) r5 hC6) (cwV 1 hts gX7_callAt_X7_no rfl rfl rfl (by decide +kernel) ⟨Nat.le_of_ble_eq_true rfl, Nat.le_of_ble_eq_true rfl⟩) hE hK hP hD hS hA [0, 1, 2, 3, 4] [] (by decide) rfl (by decide) (wr := []) rfl (by decide) (ci := 6) (T := TX7) (N := 10) (q0 := 0) rfl rfl hl.1 rfl rfl (Nat.le_of_ble_eq_true rfl) dX7_callAt_30 ⟨(Nat.le_of_ble_eq_true rfl), (Nat.le_of_ble_eq_true rfl)⟩ (fun i7 H locs hP hD hS => ?_)
    have hP : va_P (dC, dI) vwCl [(o, .inr (6, [.int r5.2, .int mn, .int mch, .ref oc, .ref oi, .int mcl, .ref ol, .int mgo, .int mmo, .ref ob])), (oc, .inl (cI, 14, .inl mcf)), (oi, .inl (cI, 3, .inl mif)), (ol, .inl (cI, 24, .inl mlf)), (ob, .inl (cI, mbn, .inl mbf))] H := hP
    have hD : va_D A [(o, .inr (6, [.int r5.2, .int mn, .int mch, .ref oc, .ref oi, .int mcl, .ref ol, .int mgo, .int mmo, .ref ob])), (oc, .inl (cI, 14, .inl mcf)), (oi, .inl (cI, 3, .inl mif)), (ol, .inl (cI, 24, .inl mlf)), (ob, .inl (cI, mbn, .inl mbf))] := hD
    obtain rfl := Option.some.inj hF
    exact ct_i hx hb hr hlocks hK hP hD hS () rfl [0, 1, 2, 3, 4] (by decide) rfl (Nat.le_of_ble_eq_true rfl) (Nat.le_of_ble_eq_true rfl) dX7_callAt_33
  · have hF := (if_neg c4).symm.trans hF
    refine lv_aload_n hx hb dX7_callAt_19 rfl (lv_at hl 0 rfl) ?_
    refine va_get (D := (dC, dI)) (ci := 6) (v := .ref ol) (C := RX7) (T := TX7) (N := 10) hx hb hts uX7 hown hK hP 0 rfl rfl 6 (by decide) w3 (fun _ h9 => h9) rfl dX7_callAt_20 ?_
    refine lv_iload_n hx hb dX7_callAt_23 rfl (lv_at hl 1 rfl) ?_
    obtain ⟨g8, hF⟩ := gd_n hF
    refine va_iald hx hb hK hP 3 0 rfl ht0 g8 dX7_callAt_24 ?_
    refine lv_goto (tgt := 33) hx hb dX7_callAt_25 (by decide) ?_
    obtain rfl := Option.some.inj hF
    exact ct_i hx hb hr hlocks hK hP hD hS () rfl [0, 1, 2, 3, 4] (by decide) rfl (Nat.le_of_ble_eq_true rfl) (Nat.le_of_ble_eq_true rfl) dX7_callAt_33

def fX7_first_X2  (x2_2 : Int32) : Option Int32 := some (x2_2)
def fX7_first_L2 (pan : Nat) (paf : (Nat → Int32)) (p1 : Int32) (K2 : Int32 → Option Int32) : Nat → Int32 → Option Int32
  | 0, _ => none
  | n + 1, x2_2 => if (Int32.ofNat pan) ≤ x2_2 then (K2 x2_2) else (if (x2_2 < 0 ∨ pan ≤ x2_2.toNatClampNeg) then none else (if (paf x2_2.toNatClampNeg) = p1 then (K2 x2_2) else ((fX7_first_L2 pan paf p1 K2 n) (x2_2 + (1 : Int32)))))
def fX7_first (pan : Nat) (paf : (Nat → Int32)) (p1 : Int32) : Option Int32 := fX7_first_L2 pan paf p1 fX7_first_X2 1000 (0 : Int32)
abbrev rmX7_first : Room := { frames := 0, cells := 0, slots := 0, locals := 0 }
set_option maxHeartbeats 4000000 in
set_option maxRecDepth 100000 in
theorem kX7_first (l : Launch) (dC : Nat → ClassId) (dI : Nat → Nat → Nat) (tys : List (ClassId × FieldType)) (cI : ClassId) (ht0 : tys[0]? = some (cI, .int)) (pa : Nat) (pan : Nat) (paf : (Nat → Int32)) (p1 : Int32) (r : Int32) (hF : fX7_first pan paf p1 = some r) : ct l (dC, dI) tys yX7_first wsX7_first rmX7_first [.ref pa, .int p1] [(pa, .inl (cI, pan, .inl paf))] (fun _ : Unit => some (.int r)) (fun _ : Unit => [(pa, .inl (cI, pan, .inl paf))]) := by
  refine ct_of (cc := cX7_first) (maxL := 3) (ret := (some .int)) (by decide) rfl (Nat.le_of_ble_eq_true rfl) ?_
  intro p e s m below meth c A ls hx hb hr hml hts hown hlocks hname hE hK hP hD hA hS hl
  have hown : s.vm.findClass RX7 = some m.cls := hown
  have hl : lv_has ls 3 [(0, .ref pa), (1, .int p1)] := hl
  unfold fX7_first at hF
  refine lv_iconst (v := (0 : Int32)) hx hb dX7_first_0 (by decide) ?_
  refine lv_istore_n (lv' := [(2, .int (0 : Int32)), (0, .ref pa), (1, .int p1)]) hx hb dX7_first_1 rfl hl (by decide) rfl (fun ls hl => ?_)
  have X2 : ∀ (x2_2 : Int32) (H : Heap) (locs : List Loc) (ls : Array Slot), fX7_first_X2 x2_2 = some r → va_P (dC, dI) vwCl [(pa, .inl (cI, pan, .inl paf))] H → va_D A [(pa, .inl (cI, pan, .inl paf))] → va_S A s.heap H locs → lv_has ls 3 [(2, .int x2_2), (0, .ref pa), (1, .int p1)] → W p l e rmX7_first s m ([.ref pa, .int p1] : List Value).toArray below meth c H locs 0 0 (MQ below (ct_Q (dC, dI) tys (fun _ : Unit => some (.int r)) (fun _ : Unit => [(pa, .inl (cI, pan, .inl paf))]) A) ([.ref pa, .int p1] : List Value).toArray s rmX7_first.cells rmX7_first.slots A) (F0 m 21 ls []) := by
    intro x2_2 H locs ls hF hP hD hS hl
    unfold fX7_first_X2 at hF
    refine lv_iload_n hx hb dX7_first_21 rfl (lv_at hl 0 rfl) ?_
    obtain rfl := Option.some.inj hF
    exact ct_i hx hb hr hlocks hK hP hD hS () rfl [0] (by decide) rfl (Nat.le_of_ble_eq_true rfl) (Nat.le_of_ble_eq_true rfl) dX7_first_22
  have L2 : ∀ (n2 : Nat) (x2_2 : Int32) (H : Heap) (locs : List Loc) (ls : Array Slot), fX7_first_L2 pan paf p1 fX7_first_X2 n2 x2_2 = some r → va_P (dC, dI) vwCl [(pa, .inl (cI, pan, .inl paf))] H → va_D A [(pa, .inl (cI, pan, .inl paf))] → va_S A s.heap H locs → lv_has ls 3 [(2, .int x2_2), (0, .ref pa), (1, .int p1)] → W p l e rmX7_first s m ([.ref pa, .int p1] : List Value).toArray below meth c H locs 0 0 (MQ below (ct_Q (dC, dI) tys (fun _ : Unit => some (.int r)) (fun _ : Unit => [(pa, .inl (cI, pan, .inl paf))]) A) ([.ref pa, .int p1] : List Value).toArray s rmX7_first.cells rmX7_first.slots A) (F0 m 2 ls []) := by
    intro n2
    induction n2 with
    | zero => intro x2_2 H locs ls hF; rw [fX7_first_L2] at hF; cases hF
    | succ n2 ih2 =>
      intro x2_2 H locs ls hF hP hD hS hl
      rw [fX7_first_L2] at hF
      refine lv_iload_n hx hb dX7_first_2 rfl (lv_at hl 0 rfl) ?_
      refine lv_aload_n hx hb dX7_first_3 rfl (lv_at hl 1 rfl) ?_
      refine va_alen hx hb hK hP 0 0 rfl ht0 (v := Int32.ofNat pan) rfl dX7_first_4 ?_
      refine lv_icmp_ge (tgt := 21) hx hb dX7_first_5 (by decide) (fun c1 => ?_) (fun c1 => ?_)
      · have hF := (if_pos c1).symm.trans hF
        exact X2 x2_2 _ _ _ hF (hP.sub [0] rfl) (hD.sub [0] (by decide) rfl) hS (lv_sub hl [0, 1, 2] rfl)
      · have hF := (if_neg c1).symm.trans hF
        refine lv_aload_n hx hb dX7_first_8 rfl (lv_at hl 1 rfl) ?_
        refine lv_iload_n hx hb dX7_first_9 rfl (lv_at hl 0 rfl) ?_
        obtain ⟨g2, hF⟩ := gd_n hF
        refine va_iald hx hb hK hP 0 0 rfl ht0 g2 dX7_first_10 ?_
        refine lv_iload_n hx hb dX7_first_11 rfl (lv_at hl 2 rfl) ?_
        refine lv_icmp_eq (tgt := 21) hx hb dX7_first_12 (by decide) (fun c3 => ?_) (fun c3 => ?_)
        · have hF := (if_pos c3).symm.trans hF
          exact X2 x2_2 _ _ _ hF (hP.sub [0] rfl) (hD.sub [0] (by decide) rfl) hS (lv_sub hl [0, 1, 2] rfl)
        · have hF := (if_neg c3).symm.trans hF
          refine lv_iinc (v := x2_2 + (1 : Int32)) (lv' := [(2, .int (x2_2 + (1 : Int32))), (0, .ref pa), (1, .int p1)]) hx hb dX7_first_15 hl (k := 0) rfl rfl (by decide) rfl (fun ls hl => ?_)
          refine lv_goto (tgt := 2) hx hb dX7_first_18 (by decide) ?_
          exact ih2 (x2_2 + (1 : Int32)) _ _ _ hF (hP.sub [0] rfl) (hD.sub [0] (by decide) rfl) hS (lv_sub hl [0, 1, 2] rfl)
  exact L2 1000 (0 : Int32) _ _ _ hF (hP.sub [0] rfl) (hD.sub [0] (by decide) rfl) hS (lv_sub hl [0, 1, 2] rfl)

def fX7_firstAgain_X2  (x1_2 : Int32) : Option Int32 := some ((-1 : Int32))
def fX7_firstAgain_L2 (pan : Nat) (paf : (Nat → Int32)) (K2 : Int32 → Option Int32) : Nat → Int32 → Option Int32
  | 0, _ => none
  | n + 1, x1_2 => if (Int32.ofNat pan) ≤ x1_2 then (K2 x1_2) else (if (x1_2 < 0 ∨ pan ≤ x1_2.toNatClampNeg) then none else ((fX7_first pan paf (paf x1_2.toNatClampNeg)).bind (fun r3 => if x1_2 ≤ r3 then ((fX7_firstAgain_L2 pan paf K2 n) (x1_2 + (1 : Int32))) else (some (x1_2)))))
def fX7_firstAgain (pan : Nat) (paf : (Nat → Int32)) : Option Int32 := fX7_firstAgain_L2 pan paf fX7_firstAgain_X2 1000 (0 : Int32)
abbrev rmX7_firstAgain : Room := { frames := 1, cells := 0, slots := 0, locals := 22 }
set_option maxHeartbeats 4000000 in
set_option maxRecDepth 100000 in
theorem kX7_firstAgain (l : Launch) (dC : Nat → ClassId) (dI : Nat → Nat → Nat) (tys : List (ClassId × FieldType)) (cI : ClassId) (ht0 : tys[0]? = some (cI, .int)) (pa : Nat) (pan : Nat) (paf : (Nat → Int32)) (r : Int32) (hF : fX7_firstAgain pan paf = some r) : ct l (dC, dI) tys yX7_firstAgain wsX7_firstAgain rmX7_firstAgain [.ref pa] [(pa, .inl (cI, pan, .inl paf))] (fun _ : Unit => some (.int r)) (fun _ : Unit => [(pa, .inl (cI, pan, .inl paf))]) := by
  refine ct_of (cc := cX7_firstAgain) (maxL := 2) (ret := (some .int)) (by decide) rfl (Nat.le_of_ble_eq_true rfl) ?_
  intro p e s m below meth c A ls hx hb hr hml hts hown hlocks hname hE hK hP hD hA hS hl
  have hown : s.vm.findClass RX7 = some m.cls := hown
  have hl : lv_has ls 2 [(0, .ref pa)] := hl
  unfold fX7_firstAgain at hF
  refine lv_iconst (v := (0 : Int32)) hx hb dX7_firstAgain_0 (by decide) ?_
  refine lv_istore_n (lv' := [(1, .int (0 : Int32)), (0, .ref pa)]) hx hb dX7_firstAgain_1 rfl hl (by decide) rfl (fun ls hl => ?_)
  have X2 : ∀ (x1_2 : Int32) (H : Heap) (locs : List Loc) (ls : Array Slot), fX7_firstAgain_X2 x1_2 = some r → va_P (dC, dI) vwCl [(pa, .inl (cI, pan, .inl paf))] H → va_D A [(pa, .inl (cI, pan, .inl paf))] → va_S A s.heap H locs → lv_has ls 2 [(1, .int x1_2), (0, .ref pa)] → W p l e rmX7_firstAgain s m ([.ref pa] : List Value).toArray below meth c H locs 0 0 (MQ below (ct_Q (dC, dI) tys (fun _ : Unit => some (.int r)) (fun _ : Unit => [(pa, .inl (cI, pan, .inl paf))]) A) ([.ref pa] : List Value).toArray s rmX7_firstAgain.cells rmX7_firstAgain.slots A) (F0 m 27 ls []) := by
    intro x1_2 H locs ls hF hP hD hS hl
    unfold fX7_firstAgain_X2 at hF
    refine lv_iconst (v := (-1 : Int32)) hx hb dX7_firstAgain_27 (by decide) ?_
    obtain rfl := Option.some.inj hF
    exact ct_i hx hb hr hlocks hK hP hD hS () rfl [0] (by decide) rfl (Nat.le_of_ble_eq_true rfl) (Nat.le_of_ble_eq_true rfl) dX7_firstAgain_28
  have L2 : ∀ (n2 : Nat) (x1_2 : Int32) (H : Heap) (locs : List Loc) (ls : Array Slot), fX7_firstAgain_L2 pan paf fX7_firstAgain_X2 n2 x1_2 = some r → va_P (dC, dI) vwCl [(pa, .inl (cI, pan, .inl paf))] H → va_D A [(pa, .inl (cI, pan, .inl paf))] → va_S A s.heap H locs → lv_has ls 2 [(1, .int x1_2), (0, .ref pa)] → W p l e rmX7_firstAgain s m ([.ref pa] : List Value).toArray below meth c H locs 0 0 (MQ below (ct_Q (dC, dI) tys (fun _ : Unit => some (.int r)) (fun _ : Unit => [(pa, .inl (cI, pan, .inl paf))]) A) ([.ref pa] : List Value).toArray s rmX7_firstAgain.cells rmX7_firstAgain.slots A) (F0 m 2 ls []) := by
    intro n2
    induction n2 with
    | zero => intro x1_2 H locs ls hF; rw [fX7_firstAgain_L2] at hF; cases hF
    | succ n2 ih2 =>
      intro x1_2 H locs ls hF hP hD hS hl
      rw [fX7_firstAgain_L2] at hF
      refine lv_iload_n hx hb dX7_firstAgain_2 rfl (lv_at hl 0 rfl) ?_
      refine lv_aload_n hx hb dX7_firstAgain_3 rfl (lv_at hl 1 rfl) ?_
      refine va_alen hx hb hK hP 0 0 rfl ht0 (v := Int32.ofNat pan) rfl dX7_firstAgain_4 ?_
      refine lv_icmp_ge (tgt := 27) hx hb dX7_firstAgain_5 (by decide) (fun c1 => ?_) (fun c1 => ?_)
      · have hF := (if_pos c1).symm.trans hF
        exact X2 x1_2 _ _ _ hF (hP.sub [0] rfl) (hD.sub [0] (by decide) rfl) hS (lv_sub hl [0, 1] rfl)
      · have hF := (if_neg c1).symm.trans hF
        refine lv_aload_n hx hb dX7_firstAgain_8 rfl (lv_at hl 1 rfl) ?_
        refine lv_aload_n hx hb dX7_firstAgain_9 rfl (lv_at hl 1 rfl) ?_
        refine lv_iload_n hx hb dX7_firstAgain_10 rfl (lv_at hl 0 rfl) ?_
        obtain ⟨g2, hF⟩ := gd_n hF
        refine va_iald hx hb hK hP 0 0 rfl ht0 g2 dX7_firstAgain_11 ?_
        obtain ⟨r3, hC4, hF⟩ := gd_b hF
        refine ct_callS (As := [.ref pa, .int (paf x1_2.toNatClampNeg)]) (rest := []) ⟨hx, hb, hml, hown, hts⟩ (kX7_first l dC dI tys cI ht0 pa pan paf (paf x1_2.toNatClampNeg) r3 hC4) (va_cwS 2 hts gX7_firstAgain_X7_first rfl rfl rfl (by decide +kernel) ⟨Nat.le_of_ble_eq_true rfl, Nat.le_of_ble_eq_true rfl⟩) hE hK hP hD hS hA [0] [] (by decide) rfl (by decide) (wr := []) rfl (by decide) hl.1 rfl rfl (Nat.le_of_ble_eq_true rfl) dX7_firstAgain_12 ⟨(Nat.le_of_ble_eq_true rfl), (Nat.le_of_ble_eq_true rfl)⟩ (fun i5 H locs hP hD hS => ?_)
        have hP : va_P (dC, dI) vwCl [(pa, .inl (cI, pan, .inl paf))] H := hP
        have hD : va_D A [(pa, .inl (cI, pan, .inl paf))] := hD
        refine lv_iload_n hx hb dX7_firstAgain_15 rfl (lv_at hl 0 rfl) ?_
        refine lv_icmp_ge (tgt := 21) hx hb dX7_firstAgain_16 (by decide) (fun c6 => ?_) (fun c6 => ?_)
        · have hF := (if_pos c6).symm.trans hF
          refine lv_iinc (v := x1_2 + (1 : Int32)) (lv' := [(1, .int (x1_2 + (1 : Int32))), (0, .ref pa)]) hx hb dX7_firstAgain_21 hl (k := 0) rfl rfl (by decide) rfl (fun ls hl => ?_)
          refine lv_goto (tgt := 2) hx hb dX7_firstAgain_24 (by decide) ?_
          exact ih2 (x1_2 + (1 : Int32)) _ _ _ hF (hP.sub [0] rfl) (hD.sub [0] (by decide) rfl) hS (lv_sub hl [0, 1] rfl)
        · have hF := (if_neg c6).symm.trans hF
          refine lv_iload_n hx hb dX7_firstAgain_19 rfl (lv_at hl 0 rfl) ?_
          obtain rfl := Option.some.inj hF
          exact ct_i hx hb hr hlocks hK hP hD hS () rfl [0] (by decide) rfl (Nat.le_of_ble_eq_true rfl) (Nat.le_of_ble_eq_true rfl) dX7_firstAgain_20
  exact L2 1000 (0 : Int32) _ _ _ hF (hP.sub [0] rfl) (hD.sub [0] (by decide) rfl) hS (lv_sub hl [0, 1] rfl)

def fX7_different_X4  (x2_4 : Int32) (x1_4 : Int32) : Option Int32 := some (x1_4)
def fX7_different_L4 (pan : Nat) (paf : (Nat → Int32)) (K4 : Int32 → Int32 → Option Int32) : Nat → Int32 → Int32 → Option Int32
  | 0, _, _ => none
  | n + 1, x2_4, x1_4 => if (Int32.ofNat pan) ≤ x2_4 then (K4 x2_4 x1_4) else (if (x2_4 < 0 ∨ pan ≤ x2_4.toNatClampNeg) then none else ((fX7_first pan paf (paf x2_4.toNatClampNeg)).bind (fun r3 => if r3 = x2_4 then ((fX7_different_L4 pan paf K4 n) (x2_4 + (1 : Int32)) (x1_4 + (1 : Int32))) else ((fX7_different_L4 pan paf K4 n) (x2_4 + (1 : Int32)) (x1_4 + (0 : Int32))))))
def fX7_different (pan : Nat) (paf : (Nat → Int32)) : Option Int32 := fX7_different_L4 pan paf fX7_different_X4 1000 (0 : Int32) (0 : Int32)
abbrev rmX7_different : Room := { frames := 1, cells := 0, slots := 0, locals := 22 }
set_option maxHeartbeats 4000000 in
set_option maxRecDepth 100000 in
theorem kX7_different (l : Launch) (dC : Nat → ClassId) (dI : Nat → Nat → Nat) (tys : List (ClassId × FieldType)) (cI : ClassId) (ht0 : tys[0]? = some (cI, .int)) (pa : Nat) (pan : Nat) (paf : (Nat → Int32)) (r : Int32) (hF : fX7_different pan paf = some r) : ct l (dC, dI) tys yX7_different wsX7_different rmX7_different [.ref pa] [(pa, .inl (cI, pan, .inl paf))] (fun _ : Unit => some (.int r)) (fun _ : Unit => [(pa, .inl (cI, pan, .inl paf))]) := by
  refine ct_of (cc := cX7_different) (maxL := 3) (ret := (some .int)) (by decide) rfl (Nat.le_of_ble_eq_true rfl) ?_
  intro p e s m below meth c A ls hx hb hr hml hts hown hlocks hname hE hK hP hD hA hS hl
  have hown : s.vm.findClass RX7 = some m.cls := hown
  have hl : lv_has ls 3 [(0, .ref pa)] := hl
  unfold fX7_different at hF
  refine lv_iconst (v := (0 : Int32)) hx hb dX7_different_0 (by decide) ?_
  refine lv_istore_n (lv' := [(1, .int (0 : Int32)), (0, .ref pa)]) hx hb dX7_different_1 rfl hl (by decide) rfl (fun ls hl => ?_)
  refine lv_iconst (v := (0 : Int32)) hx hb dX7_different_2 (by decide) ?_
  refine lv_istore_n (lv' := [(2, .int (0 : Int32)), (1, .int (0 : Int32)), (0, .ref pa)]) hx hb dX7_different_3 rfl hl (by decide) rfl (fun ls hl => ?_)
  have X4 : ∀ (x2_4 : Int32) (x1_4 : Int32) (H : Heap) (locs : List Loc) (ls : Array Slot), fX7_different_X4 x2_4 x1_4 = some r → va_P (dC, dI) vwCl [(pa, .inl (cI, pan, .inl paf))] H → va_D A [(pa, .inl (cI, pan, .inl paf))] → va_S A s.heap H locs → lv_has ls 3 [(2, .int x2_4), (1, .int x1_4), (0, .ref pa)] → W p l e rmX7_different s m ([.ref pa] : List Value).toArray below meth c H locs 0 0 (MQ below (ct_Q (dC, dI) tys (fun _ : Unit => some (.int r)) (fun _ : Unit => [(pa, .inl (cI, pan, .inl paf))]) A) ([.ref pa] : List Value).toArray s rmX7_different.cells rmX7_different.slots A) (F0 m 35 ls []) := by
    intro x2_4 x1_4 H locs ls hF hP hD hS hl
    unfold fX7_different_X4 at hF
    refine lv_iload_n hx hb dX7_different_35 rfl (lv_at hl 1 rfl) ?_
    obtain rfl := Option.some.inj hF
    exact ct_i hx hb hr hlocks hK hP hD hS () rfl [0] (by decide) rfl (Nat.le_of_ble_eq_true rfl) (Nat.le_of_ble_eq_true rfl) dX7_different_36
  have L4 : ∀ (n4 : Nat) (x2_4 : Int32) (x1_4 : Int32) (H : Heap) (locs : List Loc) (ls : Array Slot), fX7_different_L4 pan paf fX7_different_X4 n4 x2_4 x1_4 = some r → va_P (dC, dI) vwCl [(pa, .inl (cI, pan, .inl paf))] H → va_D A [(pa, .inl (cI, pan, .inl paf))] → va_S A s.heap H locs → lv_has ls 3 [(2, .int x2_4), (1, .int x1_4), (0, .ref pa)] → W p l e rmX7_different s m ([.ref pa] : List Value).toArray below meth c H locs 0 0 (MQ below (ct_Q (dC, dI) tys (fun _ : Unit => some (.int r)) (fun _ : Unit => [(pa, .inl (cI, pan, .inl paf))]) A) ([.ref pa] : List Value).toArray s rmX7_different.cells rmX7_different.slots A) (F0 m 4 ls []) := by
    intro n4
    induction n4 with
    | zero => intro x2_4 x1_4 H locs ls hF; rw [fX7_different_L4] at hF; cases hF
    | succ n4 ih4 =>
      intro x2_4 x1_4 H locs ls hF hP hD hS hl
      rw [fX7_different_L4] at hF
      refine lv_iload_n hx hb dX7_different_4 rfl (lv_at hl 0 rfl) ?_
      refine lv_aload_n hx hb dX7_different_5 rfl (lv_at hl 2 rfl) ?_
      refine va_alen hx hb hK hP 0 0 rfl ht0 (v := Int32.ofNat pan) rfl dX7_different_6 ?_
      refine lv_icmp_ge (tgt := 35) hx hb dX7_different_7 (by decide) (fun c1 => ?_) (fun c1 => ?_)
      · have hF := (if_pos c1).symm.trans hF
        exact X4 x2_4 x1_4 _ _ _ hF (hP.sub [0] rfl) (hD.sub [0] (by decide) rfl) hS (lv_sub hl [0, 1, 2] rfl)
      · have hF := (if_neg c1).symm.trans hF
        refine lv_iload_n hx hb dX7_different_10 rfl (lv_at hl 1 rfl) ?_
        refine lv_aload_n hx hb dX7_different_11 rfl (lv_at hl 2 rfl) ?_
        refine lv_aload_n hx hb dX7_different_12 rfl (lv_at hl 2 rfl) ?_
        refine lv_iload_n hx hb dX7_different_13 rfl (lv_at hl 0 rfl) ?_
        obtain ⟨g2, hF⟩ := gd_n hF
        refine va_iald hx hb hK hP 0 0 rfl ht0 g2 dX7_different_14 ?_
        obtain ⟨r3, hC4, hF⟩ := gd_b hF
        refine ct_callS (As := [.ref pa, .int (paf x2_4.toNatClampNeg)]) (rest := [.int x1_4]) ⟨hx, hb, hml, hown, hts⟩ (kX7_first l dC dI tys cI ht0 pa pan paf (paf x2_4.toNatClampNeg) r3 hC4) (va_cwS 2 hts gX7_different_X7_first rfl rfl rfl (by decide +kernel) ⟨Nat.le_of_ble_eq_true rfl, Nat.le_of_ble_eq_true rfl⟩) hE hK hP hD hS hA [0] [] (by decide) rfl (by decide) (wr := []) rfl (by decide) hl.1 rfl rfl (Nat.le_of_ble_eq_true rfl) dX7_different_15 ⟨(Nat.le_of_ble_eq_true rfl), (Nat.le_of_ble_eq_true rfl)⟩ (fun i5 H locs hP hD hS => ?_)
        have hP : va_P (dC, dI) vwCl [(pa, .inl (cI, pan, .inl paf))] H := hP
        have hD : va_D A [(pa, .inl (cI, pan, .inl paf))] := hD
        refine lv_iload_n hx hb dX7_different_18 rfl (lv_at hl 0 rfl) ?_
        refine lv_icmp_ne (tgt := 26) hx hb dX7_different_19 (by decide) (fun c6 => ?_) (fun c6 => ?_)
        · have hF := (if_neg c6).symm.trans hF
          refine lv_iconst (v := (0 : Int32)) hx hb dX7_different_26 (by decide) ?_
          refine lv_iadd hx hb dX7_different_27 ?_
          refine lv_istore_n (lv' := [(1, .int (x1_4 + (0 : Int32))), (2, .int x2_4), (0, .ref pa)]) hx hb dX7_different_28 rfl hl (by decide) rfl (fun ls hl => ?_)
          refine lv_iinc (v := x2_4 + (1 : Int32)) (lv' := [(2, .int (x2_4 + (1 : Int32))), (1, .int (x1_4 + (0 : Int32))), (0, .ref pa)]) hx hb dX7_different_29 hl (k := 1) rfl rfl (by decide) rfl (fun ls hl => ?_)
          refine lv_goto (tgt := 4) hx hb dX7_different_32 (by decide) ?_
          exact ih4 (x2_4 + (1 : Int32)) (x1_4 + (0 : Int32)) _ _ _ hF (hP.sub [0] rfl) (hD.sub [0] (by decide) rfl) hS (lv_sub hl [0, 1, 2] rfl)
        · have hF := (if_pos c6).symm.trans hF
          refine lv_iconst (v := (1 : Int32)) hx hb dX7_different_22 (by decide) ?_
          refine lv_goto (tgt := 27) hx hb dX7_different_23 (by decide) ?_
          refine lv_iadd hx hb dX7_different_27 ?_
          refine lv_istore_n (lv' := [(1, .int (x1_4 + (1 : Int32))), (2, .int x2_4), (0, .ref pa)]) hx hb dX7_different_28 rfl hl (by decide) rfl (fun ls hl => ?_)
          refine lv_iinc (v := x2_4 + (1 : Int32)) (lv' := [(2, .int (x2_4 + (1 : Int32))), (1, .int (x1_4 + (1 : Int32))), (0, .ref pa)]) hx hb dX7_different_29 hl (k := 1) rfl rfl (by decide) rfl (fun ls hl => ?_)
          refine lv_goto (tgt := 4) hx hb dX7_different_32 (by decide) ?_
          exact ih4 (x2_4 + (1 : Int32)) (x1_4 + (1 : Int32)) _ _ _ hF (hP.sub [0] rfl) (hD.sub [0] (by decide) rfl) hS (lv_sub hl [0, 1, 2] rfl)
  exact L4 1000 (0 : Int32) (0 : Int32) _ _ _ hF (hP.sub [0] rfl) (hD.sub [0] (by decide) rfl) hS (lv_sub hl [0, 1, 2] rfl)

def fX7_parts_X9  (x3_9 : Int32) (x2_9 : Int32) : Option Int32 := some (x2_9)
def fX7_parts_X46 (rec9 : Int32 → Int32 → Option Int32) (x3_9 : Int32) (x2_9 : Int32) (x5_46 : Int32) : Option Int32 := rec9 (x3_9 + (1 : Int32)) (x2_9 * x5_46)
def fX7_parts_L46 (x4_25 : Int32) (x2_9 : Int32) (K46 : Int32 → Option Int32) : Nat → Int32 → Option Int32
  | 0, _ => none
  | n + 1, x5_46 => if x4_25 = 0 then none else (if ((x2_9 * x5_46) - (x2_9 * x5_46) / x4_25 * x4_25) = 0 then (K46 x5_46) else ((fX7_parts_L46 x4_25 x2_9 K46 n) (x5_46 + (1 : Int32))))
def fX7_parts_X25 (x2_9 : Int32) (rec9 : Int32 → Int32 → Option Int32) (x3_9 : Int32) (x5_25 : Int32) (x4_25 : Int32) : Option Int32 := fX7_parts_L46 x4_25 x2_9 (fX7_parts_X46 rec9 x3_9 x2_9) 1000 (1 : Int32)
def fX7_parts_L25 (x3_9 : Int32) (r1 : ((Nat → Int32) × Nat)) (K25 : Int32 → Int32 → Option Int32) : Nat → Int32 → Int32 → Option Int32
  | 0, _, _ => none
  | n + 1, x5_25, x4_25 => if x5_25 = x3_9 then (K25 x5_25 x4_25) else (if (x5_25 < 0 ∨ r1.2 ≤ x5_25.toNatClampNeg) then none else ((fX7_parts_L25 x3_9 r1 K25 n) (r1.1 x5_25.toNatClampNeg) (x4_25 + (1 : Int32))))
def fX7_parts_L9 (mn : Int32) (r1 : ((Nat → Int32) × Nat)) (K9 : Int32 → Int32 → Option Int32) : Nat → Int32 → Int32 → Option Int32
  | 0, _, _ => none
  | n + 1, x3_9, x2_9 => if mn ≤ x3_9 then (K9 x3_9 x2_9) else (if (x3_9 < 0 ∨ r1.2 ≤ x3_9.toNatClampNeg) then none else (fX7_parts_L25 x3_9 r1 (fX7_parts_X25 x2_9 (fX7_parts_L9 mn r1 K9 n) x3_9) 1000 (r1.1 x3_9.toNatClampNeg) (1 : Int32)))
def fX7_parts (mn : Int32) (mch : Int32) (mcl : Int32) (mcf : (Nat → Int32)) (mif : (Nat → Int32)) (mlf : (Nat → Int32)) : Option Int32 := (fX7_order__ mn mch mcl mcf mif mlf).bind (fun r1 => fX7_parts_L9 mn r1 fX7_parts_X9 1000 (0 : Int32) (1 : Int32))
abbrev rmX7_parts : Room := { frames := 6, cells := 801, slots := 5607, locals := 134 }
set_option maxHeartbeats 4000000 in
set_option maxRecDepth 100000 in
theorem kX7_parts (l : Launch) (dC : Nat → ClassId) (dI : Nat → Nat → Nat) (tys : List (ClassId × FieldType)) (cI : ClassId) (ht0 : tys[0]? = some (cI, .int)) (o oc oi ol ob : Nat) (mth : Int32) (mn : Int32) (mch : Int32) (mcl : Int32) (mgo : Int32) (mmo : Int32) (mcf : (Nat → Int32)) (mif : (Nat → Int32)) (mlf : (Nat → Int32)) (mbn : Nat) (mbf : (Nat → Int32)) (r : Int32) (hF : fX7_parts mn mch mcl mcf mif mlf = some r) : ct l (dC, dI) tys yX7_parts wsX7_parts rmX7_parts [.ref o] [(o, .inr (6, [.int mth, .int mn, .int mch, .ref oc, .ref oi, .int mcl, .ref ol, .int mgo, .int mmo, .ref ob])), (oc, .inl (cI, 14, .inl mcf)), (oi, .inl (cI, 3, .inl mif)), (ol, .inl (cI, 24, .inl mlf)), (ob, .inl (cI, mbn, .inl mbf))] (fun _ : Unit => some (.int r)) (fun _ : Unit => [(o, .inr (6, [.int mth, .int mn, .int mch, .ref oc, .ref oi, .int mcl, .ref ol, .int mgo, .int mmo, .ref ob])), (oc, .inl (cI, 14, .inl mcf)), (oi, .inl (cI, 3, .inl mif)), (ol, .inl (cI, 24, .inl mlf)), (ob, .inl (cI, mbn, .inl mbf))]) := by
  refine ct_of (cc := cX7_parts) (maxL := 6) (ret := (some .int)) (by decide) rfl (Nat.le_of_ble_eq_true rfl) ?_
  intro p e s m below meth c A ls hx hb hr hml hts hown hlocks hname hE hK hP hD hA hS hl
  have hown : s.vm.findClass RX7 = some m.cls := hown
  have hl : lv_has ls 6 [(0, .ref o)] := hl
  unfold fX7_parts at hF
  have uX7 : ∀ w ∈ wsX70, w ∈ wsX7_parts := (fun _ h => (List.mem_cons_of_mem _ (List.mem_append_right _ h)))
  have w1 := hts (.fieldLink RX7 26 "BellfounderTowerModel" "n" "I") (List.mem_cons_of_mem _ (List.mem_append_left _ (List.mem_append_left _ (List.mem_of_getElem? (i := 0) rfl))))
  refine lv_aload_n hx hb dX7_parts_0 rfl (lv_at hl 0 rfl) ?_
  obtain ⟨r1, hC2, hF⟩ := gd_b hF
  refine ct_callV (C := RX7) (As := []) (rest := []) ⟨hx, hb, hml, hown, hts⟩ (kX7_order__ l dC dI tys cI ht0 o oc oi ol ob mth mn mch mcl mgo mmo mcf mif mlf mbn mbf r1 hC2) (cwV 0 hts gX7_parts_X7_order__ rfl rfl rfl (by decide +kernel) ⟨Nat.le_of_ble_eq_true rfl, Nat.le_of_ble_eq_true rfl⟩) hE hK hP hD hS hA [0, 1, 2, 3, 4] [] (by decide) rfl (by decide) (wr := []) rfl (by decide) (ci := 6) (T := TX7) (N := 10) (q0 := 0) rfl rfl hl.1 rfl rfl (Nat.le_of_ble_eq_true rfl) dX7_parts_1 ⟨(Nat.le_of_ble_eq_true rfl), (Nat.le_of_ble_eq_true rfl)⟩ (fun i3 H locs hP hD hS => ?_)
  have hP : va_P (dC, dI) vwCl [(o, .inr (6, [.int mth, .int mn, .int mch, .ref oc, .ref oi, .int mcl, .ref ol, .int mgo, .int mmo, .ref ob])), (oc, .inl (cI, 14, .inl mcf)), (oi, .inl (cI, 3, .inl mif)), (ol, .inl (cI, 24, .inl mlf)), (ob, .inl (cI, mbn, .inl mbf)), (i3, .inl (cI, r1.2, .inl r1.1))] H := hP
  have hD : va_D A [(o, .inr (6, [.int mth, .int mn, .int mch, .ref oc, .ref oi, .int mcl, .ref ol, .int mgo, .int mmo, .ref ob])), (oc, .inl (cI, 14, .inl mcf)), (oi, .inl (cI, 3, .inl mif)), (ol, .inl (cI, 24, .inl mlf)), (ob, .inl (cI, mbn, .inl mbf)), (i3, .inl (cI, r1.2, .inl r1.1))] := hD
  refine lv_astore_n (lv' := [(1, .ref i3), (0, .ref o)]) hx hb dX7_parts_4 rfl hl (by decide) rfl (fun ls hl => ?_)
  refine lv_iconst (v := (1 : Int32)) hx hb dX7_parts_5 (by decide) ?_
  refine lv_istore_n (lv' := [(2, .int (1 : Int32)), (1, .ref i3), (0, .ref o)]) hx hb dX7_parts_6 rfl hl (by decide) rfl (fun ls hl => ?_)
  refine lv_iconst (v := (0 : Int32)) hx hb dX7_parts_7 (by decide) ?_
  refine lv_istore_n (lv' := [(3, .int (0 : Int32)), (2, .int (1 : Int32)), (1, .ref i3), (0, .ref o)]) hx hb dX7_parts_8 rfl hl (by decide) rfl (fun ls hl => ?_)
  have X9 : ∀ (x3_9 : Int32) (x2_9 : Int32) (H : Heap) (locs : List Loc) (ls : Array Slot), fX7_parts_X9 x3_9 x2_9 = some r → va_P (dC, dI) vwCl [(o, .inr (6, [.int mth, .int mn, .int mch, .ref oc, .ref oi, .int mcl, .ref ol, .int mgo, .int mmo, .ref ob])), (oc, .inl (cI, 14, .inl mcf)), (oi, .inl (cI, 3, .inl mif)), (ol, .inl (cI, 24, .inl mlf)), (ob, .inl (cI, mbn, .inl mbf)), (i3, .inl (cI, r1.2, .inl r1.1))] H → va_D A [(o, .inr (6, [.int mth, .int mn, .int mch, .ref oc, .ref oi, .int mcl, .ref ol, .int mgo, .int mmo, .ref ob])), (oc, .inl (cI, 14, .inl mcf)), (oi, .inl (cI, 3, .inl mif)), (ol, .inl (cI, 24, .inl mlf)), (ob, .inl (cI, mbn, .inl mbf)), (i3, .inl (cI, r1.2, .inl r1.1))] → va_S A s.heap H locs → lv_has ls 6 [(3, .int x3_9), (2, .int x2_9), (1, .ref i3), (0, .ref o)] → W p l e rmX7_parts s m ([.ref o] : List Value).toArray below meth c H locs 801 5607 (MQ below (ct_Q (dC, dI) tys (fun _ : Unit => some (.int r)) (fun _ : Unit => [(o, .inr (6, [.int mth, .int mn, .int mch, .ref oc, .ref oi, .int mcl, .ref ol, .int mgo, .int mmo, .ref ob])), (oc, .inl (cI, 14, .inl mcf)), (oi, .inl (cI, 3, .inl mif)), (ol, .inl (cI, 24, .inl mlf)), (ob, .inl (cI, mbn, .inl mbf))]) A) ([.ref o] : List Value).toArray s rmX7_parts.cells rmX7_parts.slots A) (F0 m 73 ls []) := by
    intro x3_9 x2_9 H locs ls hF hP hD hS hl
    unfold fX7_parts_X9 at hF
    refine lv_iload_n hx hb dX7_parts_73 rfl (lv_at hl 1 rfl) ?_
    obtain rfl := Option.some.inj hF
    exact ct_i hx hb hr hlocks hK hP hD hS () rfl [0, 1, 2, 3, 4] (by decide) rfl (Nat.le_of_ble_eq_true rfl) (Nat.le_of_ble_eq_true rfl) dX7_parts_74
  have L9 : ∀ (n9 : Nat) (x3_9 : Int32) (x2_9 : Int32) (H : Heap) (locs : List Loc) (ls : Array Slot), fX7_parts_L9 mn r1 fX7_parts_X9 n9 x3_9 x2_9 = some r → va_P (dC, dI) vwCl [(o, .inr (6, [.int mth, .int mn, .int mch, .ref oc, .ref oi, .int mcl, .ref ol, .int mgo, .int mmo, .ref ob])), (oc, .inl (cI, 14, .inl mcf)), (oi, .inl (cI, 3, .inl mif)), (ol, .inl (cI, 24, .inl mlf)), (ob, .inl (cI, mbn, .inl mbf)), (i3, .inl (cI, r1.2, .inl r1.1))] H → va_D A [(o, .inr (6, [.int mth, .int mn, .int mch, .ref oc, .ref oi, .int mcl, .ref ol, .int mgo, .int mmo, .ref ob])), (oc, .inl (cI, 14, .inl mcf)), (oi, .inl (cI, 3, .inl mif)), (ol, .inl (cI, 24, .inl mlf)), (ob, .inl (cI, mbn, .inl mbf)), (i3, .inl (cI, r1.2, .inl r1.1))] → va_S A s.heap H locs → lv_has ls 6 [(3, .int x3_9), (2, .int x2_9), (1, .ref i3), (0, .ref o)] → W p l e rmX7_parts s m ([.ref o] : List Value).toArray below meth c H locs 801 5607 (MQ below (ct_Q (dC, dI) tys (fun _ : Unit => some (.int r)) (fun _ : Unit => [(o, .inr (6, [.int mth, .int mn, .int mch, .ref oc, .ref oi, .int mcl, .ref ol, .int mgo, .int mmo, .ref ob])), (oc, .inl (cI, 14, .inl mcf)), (oi, .inl (cI, 3, .inl mif)), (ol, .inl (cI, 24, .inl mlf)), (ob, .inl (cI, mbn, .inl mbf))]) A) ([.ref o] : List Value).toArray s rmX7_parts.cells rmX7_parts.slots A) (F0 m 9 ls []) := by
    intro n9
    induction n9 with
    | zero => intro x3_9 x2_9 H locs ls hF; rw [fX7_parts_L9] at hF; cases hF
    | succ n9 ih9 =>
      intro x3_9 x2_9 H locs ls hF hP hD hS hl
      rw [fX7_parts_L9] at hF
      refine lv_iload_n hx hb dX7_parts_9 rfl (lv_at hl 0 rfl) ?_
      refine lv_aload_n hx hb dX7_parts_10 rfl (lv_at hl 3 rfl) ?_
      refine va_get (D := (dC, dI)) (ci := 6) (v := .int mn) (C := RX7) (T := TX7) (N := 10) hx hb hts uX7 hown hK hP 0 rfl rfl 1 (by decide) w1 (fun _ h9 => h9) rfl dX7_parts_11 ?_
      refine lv_icmp_ge (tgt := 73) hx hb dX7_parts_14 (by decide) (fun c4 => ?_) (fun c4 => ?_)
      · have hF := (if_pos c4).symm.trans hF
        exact X9 x3_9 x2_9 _ _ _ hF (hP.sub [0, 1, 2, 3, 4, 5] rfl) (hD.sub [0, 1, 2, 3, 4, 5] (by decide) rfl) hS (lv_sub hl [0, 1, 2, 3] rfl)
      · have hF := (if_neg c4).symm.trans hF
        refine lv_iconst (v := (1 : Int32)) hx hb dX7_parts_17 (by decide) ?_
        refine lv_istore (lv' := [(4, .int (1 : Int32)), (3, .int x3_9), (2, .int x2_9), (1, .ref i3), (0, .ref o)]) hx hb dX7_parts_18 hl (by decide) rfl (fun ls hl => ?_)
        refine lv_aload_n hx hb dX7_parts_20 rfl (lv_at hl 3 rfl) ?_
        refine lv_iload_n hx hb dX7_parts_21 rfl (lv_at hl 1 rfl) ?_
        obtain ⟨g5, hF⟩ := gd_n hF
        refine va_iald hx hb hK hP 5 0 rfl ht0 g5 dX7_parts_22 ?_
        refine lv_istore (lv' := [(5, .int (r1.1 x3_9.toNatClampNeg)), (4, .int (1 : Int32)), (3, .int x3_9), (2, .int x2_9), (1, .ref i3), (0, .ref o)]) hx hb dX7_parts_23 hl (by decide) rfl (fun ls hl => ?_)
        have X25 : ∀ (x5_25 : Int32) (x4_25 : Int32) (H : Heap) (locs : List Loc) (ls : Array Slot), fX7_parts_X25 x2_9 (fX7_parts_L9 mn r1 fX7_parts_X9 n9) x3_9 x5_25 x4_25 = some r → va_P (dC, dI) vwCl [(o, .inr (6, [.int mth, .int mn, .int mch, .ref oc, .ref oi, .int mcl, .ref ol, .int mgo, .int mmo, .ref ob])), (oc, .inl (cI, 14, .inl mcf)), (oi, .inl (cI, 3, .inl mif)), (ol, .inl (cI, 24, .inl mlf)), (ob, .inl (cI, mbn, .inl mbf)), (i3, .inl (cI, r1.2, .inl r1.1))] H → va_D A [(o, .inr (6, [.int mth, .int mn, .int mch, .ref oc, .ref oi, .int mcl, .ref ol, .int mgo, .int mmo, .ref ob])), (oc, .inl (cI, 14, .inl mcf)), (oi, .inl (cI, 3, .inl mif)), (ol, .inl (cI, 24, .inl mlf)), (ob, .inl (cI, mbn, .inl mbf)), (i3, .inl (cI, r1.2, .inl r1.1))] → va_S A s.heap H locs → lv_has ls 6 [(5, .int x5_25), (4, .int x4_25), (3, .int x3_9), (2, .int x2_9), (1, .ref i3), (0, .ref o)] → W p l e rmX7_parts s m ([.ref o] : List Value).toArray below meth c H locs 801 5607 (MQ below (ct_Q (dC, dI) tys (fun _ : Unit => some (.int r)) (fun _ : Unit => [(o, .inr (6, [.int mth, .int mn, .int mch, .ref oc, .ref oi, .int mcl, .ref ol, .int mgo, .int mmo, .ref ob])), (oc, .inl (cI, 14, .inl mcf)), (oi, .inl (cI, 3, .inl mif)), (ol, .inl (cI, 24, .inl mlf)), (ob, .inl (cI, mbn, .inl mbf))]) A) ([.ref o] : List Value).toArray s rmX7_parts.cells rmX7_parts.slots A) (F0 m 43 ls []) := by
          intro x5_25 x4_25 H locs ls hF hP hD hS hl
          unfold fX7_parts_X25 at hF
          refine lv_iconst (v := (1 : Int32)) hx hb dX7_parts_43 (by decide) ?_
          refine lv_istore (lv' := [(5, .int (1 : Int32)), (4, .int x4_25), (3, .int x3_9), (2, .int x2_9), (1, .ref i3), (0, .ref o)]) hx hb dX7_parts_44 hl (by decide) rfl (fun ls hl => ?_)
          have X46 : ∀ (x5_46 : Int32) (H : Heap) (locs : List Loc) (ls : Array Slot), fX7_parts_X46 (fX7_parts_L9 mn r1 fX7_parts_X9 n9) x3_9 x2_9 x5_46 = some r → va_P (dC, dI) vwCl [(o, .inr (6, [.int mth, .int mn, .int mch, .ref oc, .ref oi, .int mcl, .ref ol, .int mgo, .int mmo, .ref ob])), (oc, .inl (cI, 14, .inl mcf)), (oi, .inl (cI, 3, .inl mif)), (ol, .inl (cI, 24, .inl mlf)), (ob, .inl (cI, mbn, .inl mbf)), (i3, .inl (cI, r1.2, .inl r1.1))] H → va_D A [(o, .inr (6, [.int mth, .int mn, .int mch, .ref oc, .ref oi, .int mcl, .ref ol, .int mgo, .int mmo, .ref ob])), (oc, .inl (cI, 14, .inl mcf)), (oi, .inl (cI, 3, .inl mif)), (ol, .inl (cI, 24, .inl mlf)), (ob, .inl (cI, mbn, .inl mbf)), (i3, .inl (cI, r1.2, .inl r1.1))] → va_S A s.heap H locs → lv_has ls 6 [(5, .int x5_46), (4, .int x4_25), (3, .int x3_9), (2, .int x2_9), (1, .ref i3), (0, .ref o)] → W p l e rmX7_parts s m ([.ref o] : List Value).toArray below meth c H locs 801 5607 (MQ below (ct_Q (dC, dI) tys (fun _ : Unit => some (.int r)) (fun _ : Unit => [(o, .inr (6, [.int mth, .int mn, .int mch, .ref oc, .ref oi, .int mcl, .ref ol, .int mgo, .int mmo, .ref ob])), (oc, .inl (cI, 14, .inl mcf)), (oi, .inl (cI, 3, .inl mif)), (ol, .inl (cI, 24, .inl mlf)), (ob, .inl (cI, mbn, .inl mbf))]) A) ([.ref o] : List Value).toArray s rmX7_parts.cells rmX7_parts.slots A) (F0 m 62 ls []) := by
            intro x5_46 H locs ls hF hP hD hS hl
            unfold fX7_parts_X46 at hF
            refine lv_iload_n hx hb dX7_parts_62 rfl (lv_at hl 3 rfl) ?_
            refine lv_iload hx hb dX7_parts_63 (lv_at hl 0 rfl) ?_
            refine lv_imul hx hb dX7_parts_65 ?_
            refine lv_istore_n (lv' := [(2, .int (x2_9 * x5_46)), (5, .int x5_46), (4, .int x4_25), (3, .int x3_9), (1, .ref i3), (0, .ref o)]) hx hb dX7_parts_66 rfl hl (by decide) rfl (fun ls hl => ?_)
            refine lv_iinc (v := x3_9 + (1 : Int32)) (lv' := [(3, .int (x3_9 + (1 : Int32))), (2, .int (x2_9 * x5_46)), (5, .int x5_46), (4, .int x4_25), (1, .ref i3), (0, .ref o)]) hx hb dX7_parts_67 hl (k := 3) rfl rfl (by decide) rfl (fun ls hl => ?_)
            refine lv_goto (tgt := 9) hx hb dX7_parts_70 (by decide) ?_
            exact ih9 (x3_9 + (1 : Int32)) (x2_9 * x5_46) _ _ _ hF (hP.sub [0, 1, 2, 3, 4, 5] rfl) (hD.sub [0, 1, 2, 3, 4, 5] (by decide) rfl) hS (lv_sub hl [0, 1, 4, 5] rfl)
          have L46 : ∀ (n46 : Nat) (x5_46 : Int32) (H : Heap) (locs : List Loc) (ls : Array Slot), fX7_parts_L46 x4_25 x2_9 (fX7_parts_X46 (fX7_parts_L9 mn r1 fX7_parts_X9 n9) x3_9 x2_9) n46 x5_46 = some r → va_P (dC, dI) vwCl [(o, .inr (6, [.int mth, .int mn, .int mch, .ref oc, .ref oi, .int mcl, .ref ol, .int mgo, .int mmo, .ref ob])), (oc, .inl (cI, 14, .inl mcf)), (oi, .inl (cI, 3, .inl mif)), (ol, .inl (cI, 24, .inl mlf)), (ob, .inl (cI, mbn, .inl mbf)), (i3, .inl (cI, r1.2, .inl r1.1))] H → va_D A [(o, .inr (6, [.int mth, .int mn, .int mch, .ref oc, .ref oi, .int mcl, .ref ol, .int mgo, .int mmo, .ref ob])), (oc, .inl (cI, 14, .inl mcf)), (oi, .inl (cI, 3, .inl mif)), (ol, .inl (cI, 24, .inl mlf)), (ob, .inl (cI, mbn, .inl mbf)), (i3, .inl (cI, r1.2, .inl r1.1))] → va_S A s.heap H locs → lv_has ls 6 [(5, .int x5_46), (4, .int x4_25), (3, .int x3_9), (2, .int x2_9), (1, .ref i3), (0, .ref o)] → W p l e rmX7_parts s m ([.ref o] : List Value).toArray below meth c H locs 801 5607 (MQ below (ct_Q (dC, dI) tys (fun _ : Unit => some (.int r)) (fun _ : Unit => [(o, .inr (6, [.int mth, .int mn, .int mch, .ref oc, .ref oi, .int mcl, .ref ol, .int mgo, .int mmo, .ref ob])), (oc, .inl (cI, 14, .inl mcf)), (oi, .inl (cI, 3, .inl mif)), (ol, .inl (cI, 24, .inl mlf)), (ob, .inl (cI, mbn, .inl mbf))]) A) ([.ref o] : List Value).toArray s rmX7_parts.cells rmX7_parts.slots A) (F0 m 46 ls []) := by
            intro n46
            induction n46 with
            | zero => intro x5_46 H locs ls hF; rw [fX7_parts_L46] at hF; cases hF
            | succ n46 ih46 =>
              intro x5_46 H locs ls hF hP hD hS hl
              rw [fX7_parts_L46] at hF
              refine lv_iload_n hx hb dX7_parts_46 rfl (lv_at hl 3 rfl) ?_
              refine lv_iload hx hb dX7_parts_47 (lv_at hl 0 rfl) ?_
              refine lv_imul hx hb dX7_parts_49 ?_
              refine lv_iload hx hb dX7_parts_50 (lv_at hl 1 rfl) ?_
              obtain ⟨g6, hF⟩ := gd_n hF
              refine lv_irem hx hb dX7_parts_52 g6 ?_
              refine lv_if_eq (tgt := 62) hx hb dX7_parts_53 (by decide) (fun c7 => ?_) (fun c7 => ?_)
              · have hF := (if_pos c7).symm.trans hF
                exact X46 x5_46 _ _ _ hF (hP.sub [0, 1, 2, 3, 4, 5] rfl) (hD.sub [0, 1, 2, 3, 4, 5] (by decide) rfl) hS (lv_sub hl [0, 1, 2, 3, 4, 5] rfl)
              · have hF := (if_neg c7).symm.trans hF
                refine lv_iinc (v := x5_46 + (1 : Int32)) (lv' := [(5, .int (x5_46 + (1 : Int32))), (4, .int x4_25), (3, .int x3_9), (2, .int x2_9), (1, .ref i3), (0, .ref o)]) hx hb dX7_parts_56 hl (k := 0) rfl rfl (by decide) rfl (fun ls hl => ?_)
                refine lv_goto (tgt := 46) hx hb dX7_parts_59 (by decide) ?_
                exact ih46 (x5_46 + (1 : Int32)) _ _ _ hF (hP.sub [0, 1, 2, 3, 4, 5] rfl) (hD.sub [0, 1, 2, 3, 4, 5] (by decide) rfl) hS (lv_sub hl [0, 1, 2, 3, 4, 5] rfl)
          exact L46 1000 (1 : Int32) _ _ _ hF (hP.sub [0, 1, 2, 3, 4, 5] rfl) (hD.sub [0, 1, 2, 3, 4, 5] (by decide) rfl) hS (lv_sub hl [0, 1, 2, 3, 4, 5] rfl)
        have L25 : ∀ (n25 : Nat) (x5_25 : Int32) (x4_25 : Int32) (H : Heap) (locs : List Loc) (ls : Array Slot), fX7_parts_L25 x3_9 r1 (fX7_parts_X25 x2_9 (fX7_parts_L9 mn r1 fX7_parts_X9 n9) x3_9) n25 x5_25 x4_25 = some r → va_P (dC, dI) vwCl [(o, .inr (6, [.int mth, .int mn, .int mch, .ref oc, .ref oi, .int mcl, .ref ol, .int mgo, .int mmo, .ref ob])), (oc, .inl (cI, 14, .inl mcf)), (oi, .inl (cI, 3, .inl mif)), (ol, .inl (cI, 24, .inl mlf)), (ob, .inl (cI, mbn, .inl mbf)), (i3, .inl (cI, r1.2, .inl r1.1))] H → va_D A [(o, .inr (6, [.int mth, .int mn, .int mch, .ref oc, .ref oi, .int mcl, .ref ol, .int mgo, .int mmo, .ref ob])), (oc, .inl (cI, 14, .inl mcf)), (oi, .inl (cI, 3, .inl mif)), (ol, .inl (cI, 24, .inl mlf)), (ob, .inl (cI, mbn, .inl mbf)), (i3, .inl (cI, r1.2, .inl r1.1))] → va_S A s.heap H locs → lv_has ls 6 [(5, .int x5_25), (4, .int x4_25), (3, .int x3_9), (2, .int x2_9), (1, .ref i3), (0, .ref o)] → W p l e rmX7_parts s m ([.ref o] : List Value).toArray below meth c H locs 801 5607 (MQ below (ct_Q (dC, dI) tys (fun _ : Unit => some (.int r)) (fun _ : Unit => [(o, .inr (6, [.int mth, .int mn, .int mch, .ref oc, .ref oi, .int mcl, .ref ol, .int mgo, .int mmo, .ref ob])), (oc, .inl (cI, 14, .inl mcf)), (oi, .inl (cI, 3, .inl mif)), (ol, .inl (cI, 24, .inl mlf)), (ob, .inl (cI, mbn, .inl mbf))]) A) ([.ref o] : List Value).toArray s rmX7_parts.cells rmX7_parts.slots A) (F0 m 25 ls []) := by
          intro n25
          induction n25 with
          | zero => intro x5_25 x4_25 H locs ls hF; rw [fX7_parts_L25] at hF; cases hF
          | succ n25 ih25 =>
            intro x5_25 x4_25 H locs ls hF hP hD hS hl
            rw [fX7_parts_L25] at hF
            refine lv_iload hx hb dX7_parts_25 (lv_at hl 0 rfl) ?_
            refine lv_iload_n hx hb dX7_parts_27 rfl (lv_at hl 2 rfl) ?_
            refine lv_icmp_eq (tgt := 43) hx hb dX7_parts_28 (by decide) (fun c8 => ?_) (fun c8 => ?_)
            · have hF := (if_pos c8).symm.trans hF
              exact X25 x5_25 x4_25 _ _ _ hF (hP.sub [0, 1, 2, 3, 4, 5] rfl) (hD.sub [0, 1, 2, 3, 4, 5] (by decide) rfl) hS (lv_sub hl [0, 1, 2, 3, 4, 5] rfl)
            · have hF := (if_neg c8).symm.trans hF
              refine lv_iinc (v := x4_25 + (1 : Int32)) (lv' := [(4, .int (x4_25 + (1 : Int32))), (5, .int x5_25), (3, .int x3_9), (2, .int x2_9), (1, .ref i3), (0, .ref o)]) hx hb dX7_parts_31 hl (k := 1) rfl rfl (by decide) rfl (fun ls hl => ?_)
              refine lv_aload_n hx hb dX7_parts_34 rfl (lv_at hl 4 rfl) ?_
              refine lv_iload hx hb dX7_parts_35 (lv_at hl 1 rfl) ?_
              obtain ⟨g9, hF⟩ := gd_n hF
              refine va_iald hx hb hK hP 5 0 rfl ht0 g9 dX7_parts_37 ?_
              refine lv_istore (lv' := [(5, .int (r1.1 x5_25.toNatClampNeg)), (4, .int (x4_25 + (1 : Int32))), (3, .int x3_9), (2, .int x2_9), (1, .ref i3), (0, .ref o)]) hx hb dX7_parts_38 hl (by decide) rfl (fun ls hl => ?_)
              refine lv_goto (tgt := 25) hx hb dX7_parts_40 (by decide) ?_
              exact ih25 (r1.1 x5_25.toNatClampNeg) (x4_25 + (1 : Int32)) _ _ _ hF (hP.sub [0, 1, 2, 3, 4, 5] rfl) (hD.sub [0, 1, 2, 3, 4, 5] (by decide) rfl) hS (lv_sub hl [0, 1, 2, 3, 4, 5] rfl)
        exact L25 1000 (r1.1 x3_9.toNatClampNeg) (1 : Int32) _ _ _ hF (hP.sub [0, 1, 2, 3, 4, 5] rfl) (hD.sub [0, 1, 2, 3, 4, 5] (by decide) rfl) hS (lv_sub hl [0, 1, 2, 3, 4, 5] rfl)
  exact L9 1000 (0 : Int32) (1 : Int32) _ _ _ hF (hP.sub [0, 1, 2, 3, 4, 5] rfl) (hD.sub [0, 1, 2, 3, 4, 5] (by decide) rfl) hS (lv_sub hl [0, 1, 2, 3] rfl)

def fX7_run_X17  (x3_17 : Int32) (x2_17 : Int32) : Option Int32 := if (3 : Int32) ≤ x2_17 then (some (x2_17)) else (some ((0 : Int32)))
def fX7_run_L17 (p0 : Int32) (K17 : Int32 → Int32 → Option Int32) : Nat → Int32 → Int32 → Option Int32
  | 0, _, _ => none
  | n + 1, x3_17, x2_17 => if (if 0 ≤ ((p0 - p0 / (10 : Int32) * (10 : Int32)) - ((p0 / (10 : Int32)) - (p0 / (10 : Int32)) / (10 : Int32) * (10 : Int32))) then ((p0 - p0 / (10 : Int32) * (10 : Int32)) - ((p0 / (10 : Int32)) - (p0 / (10 : Int32)) / (10 : Int32) * (10 : Int32))) else 0 - ((p0 - p0 / (10 : Int32) * (10 : Int32)) - ((p0 / (10 : Int32)) - (p0 / (10 : Int32)) / (10 : Int32) * (10 : Int32)))) = (1 : Int32) then (if x3_17 ≤ (9 : Int32) then (K17 x3_17 x2_17) else (if ((x3_17 - x3_17 / (10 : Int32) * (10 : Int32)) - ((x3_17 / (10 : Int32)) - (x3_17 / (10 : Int32)) / (10 : Int32) * (10 : Int32))) = ((p0 - p0 / (10 : Int32) * (10 : Int32)) - ((p0 / (10 : Int32)) - (p0 / (10 : Int32)) / (10 : Int32) * (10 : Int32))) then ((fX7_run_L17 p0 K17 n) (x3_17 / (10 : Int32)) (x2_17 + (1 : Int32))) else (K17 x3_17 x2_17))) else (K17 x3_17 x2_17)
def fX7_run (p0 : Int32) : Option Int32 := fX7_run_L17 p0 fX7_run_X17 1000 p0 (1 : Int32)
abbrev rmX7_run : Room := { frames := 1, cells := 0, slots := 0, locals := 21 }
set_option maxHeartbeats 4000000 in
set_option maxRecDepth 100000 in
theorem kX7_run (l : Launch) (dC : Nat → ClassId) (dI : Nat → Nat → Nat) (tys : List (ClassId × FieldType)) (cI : ClassId) (ht0 : tys[0]? = some (cI, .int))  (p0 : Int32) (r : Int32) (hF : fX7_run p0 = some r) : ct l (dC, dI) tys yX7_run wsX7_run rmX7_run [.int p0] [] (fun _ : Unit => some (.int r)) (fun _ : Unit => []) := by
  refine ct_of (cc := cX7_run) (maxL := 4) (ret := (some .int)) (by decide) rfl (Nat.le_of_ble_eq_true rfl) ?_
  intro p e s m below meth c A ls hx hb hr hml hts hown hlocks hname hE hK hP hD hA hS hl
  have hown : s.vm.findClass RX7 = some m.cls := hown
  have hl : lv_has ls 4 [(0, .int p0)] := hl
  unfold fX7_run at hF
  have w0 := hts (.methodLink RX7 106 Lib.Math.abs.name) (List.mem_cons_of_mem _ (List.mem_of_getElem? (i := 0) rfl))
  have w1 := hts (.static Lib.Math.abs.name) (List.mem_cons_of_mem _ (List.mem_of_getElem? (i := 1) rfl))
  have w2 := hts (.initialized "java/lang/Math") (List.mem_cons_of_mem _ (List.mem_of_getElem? (i := 2) rfl))
  have w3 := hts (.code Lib.Math.abs.name Lib.Math.abs.code 1 (some .int)) (List.mem_cons_of_mem _ (List.mem_of_getElem? (i := 3) rfl))
  refine lv_iload_n hx hb dX7_run_0 rfl (lv_at hl 0 rfl) ?_
  refine lv_bipush (v := (10 : Int32)) hx hb dX7_run_1 (by decide) ?_
  refine lv_irem hx hb dX7_run_3 (by decide) ?_
  refine lv_iload_n hx hb dX7_run_4 rfl (lv_at hl 0 rfl) ?_
  refine lv_bipush (v := (10 : Int32)) hx hb dX7_run_5 (by decide) ?_
  refine lv_idiv hx hb dX7_run_7 (by decide) ?_
  refine lv_bipush (v := (10 : Int32)) hx hb dX7_run_8 (by decide) ?_
  refine lv_irem hx hb dX7_run_10 (by decide) ?_
  refine lv_isub hx hb dX7_run_11 ?_
  refine lv_istore_n (lv' := [(1, .int ((p0 - p0 / (10 : Int32) * (10 : Int32)) - ((p0 / (10 : Int32)) - (p0 / (10 : Int32)) / (10 : Int32) * (10 : Int32)))), (0, .int p0)]) hx hb dX7_run_12 rfl hl (by decide) rfl (fun ls hl => ?_)
  refine lv_iconst (v := (1 : Int32)) hx hb dX7_run_13 (by decide) ?_
  refine lv_istore_n (lv' := [(2, .int (1 : Int32)), (1, .int ((p0 - p0 / (10 : Int32) * (10 : Int32)) - ((p0 / (10 : Int32)) - (p0 / (10 : Int32)) / (10 : Int32) * (10 : Int32)))), (0, .int p0)]) hx hb dX7_run_14 rfl hl (by decide) rfl (fun ls hl => ?_)
  refine lv_iload_n hx hb dX7_run_15 rfl (lv_at hl 2 rfl) ?_
  refine lv_istore_n (lv' := [(3, .int p0), (2, .int (1 : Int32)), (1, .int ((p0 - p0 / (10 : Int32) * (10 : Int32)) - ((p0 / (10 : Int32)) - (p0 / (10 : Int32)) / (10 : Int32) * (10 : Int32)))), (0, .int p0)]) hx hb dX7_run_16 rfl hl (by decide) rfl (fun ls hl => ?_)
  have X17 : ∀ (x3_17 : Int32) (x2_17 : Int32) (H : Heap) (locs : List Loc) (ls : Array Slot), fX7_run_X17 x3_17 x2_17 = some r → va_P (dC, dI) vwCl [] H → va_D A [] → va_S A s.heap H locs → lv_has ls 4 [(3, .int x3_17), (2, .int x2_17), (1, .int ((p0 - p0 / (10 : Int32) * (10 : Int32)) - ((p0 / (10 : Int32)) - (p0 / (10 : Int32)) / (10 : Int32) * (10 : Int32)))), (0, .int p0)] → W p l e rmX7_run s m ([.int p0] : List Value).toArray below meth c H locs 0 0 (MQ below (ct_Q (dC, dI) tys (fun _ : Unit => some (.int r)) (fun _ : Unit => []) A) ([.int p0] : List Value).toArray s rmX7_run.cells rmX7_run.slots A) (F0 m 58 ls []) := by
    intro x3_17 x2_17 H locs ls hF hP hD hS hl
    unfold fX7_run_X17 at hF
    refine lv_iload_n hx hb dX7_run_58 rfl (lv_at hl 1 rfl) ?_
    refine lv_iconst (v := (3 : Int32)) hx hb dX7_run_59 (by decide) ?_
    refine lv_icmp_ge (tgt := 67) hx hb dX7_run_60 (by decide) (fun c1 => ?_) (fun c1 => ?_)
    · have hF := (if_pos c1).symm.trans hF
      refine lv_iload_n hx hb dX7_run_67 rfl (lv_at hl 1 rfl) ?_
      obtain rfl := Option.some.inj hF
      exact ct_i hx hb hr hlocks hK hP hD hS () rfl [] (by decide) rfl (Nat.le_of_ble_eq_true rfl) (Nat.le_of_ble_eq_true rfl) dX7_run_68
    · have hF := (if_neg c1).symm.trans hF
      refine lv_iconst (v := (0 : Int32)) hx hb dX7_run_63 (by decide) ?_
      refine lv_goto (tgt := 68) hx hb dX7_run_64 (by decide) ?_
      obtain rfl := Option.some.inj hF
      exact ct_i hx hb hr hlocks hK hP hD hS () rfl [] (by decide) rfl (Nat.le_of_ble_eq_true rfl) (Nat.le_of_ble_eq_true rfl) dX7_run_68
  have L17 : ∀ (n17 : Nat) (x3_17 : Int32) (x2_17 : Int32) (H : Heap) (locs : List Loc) (ls : Array Slot), fX7_run_L17 p0 fX7_run_X17 n17 x3_17 x2_17 = some r → va_P (dC, dI) vwCl [] H → va_D A [] → va_S A s.heap H locs → lv_has ls 4 [(3, .int x3_17), (2, .int x2_17), (1, .int ((p0 - p0 / (10 : Int32) * (10 : Int32)) - ((p0 / (10 : Int32)) - (p0 / (10 : Int32)) / (10 : Int32) * (10 : Int32)))), (0, .int p0)] → W p l e rmX7_run s m ([.int p0] : List Value).toArray below meth c H locs 0 0 (MQ below (ct_Q (dC, dI) tys (fun _ : Unit => some (.int r)) (fun _ : Unit => []) A) ([.int p0] : List Value).toArray s rmX7_run.cells rmX7_run.slots A) (F0 m 17 ls []) := by
    intro n17
    induction n17 with
    | zero => intro x3_17 x2_17 H locs ls hF; rw [fX7_run_L17] at hF; cases hF
    | succ n17 ih17 =>
      intro x3_17 x2_17 H locs ls hF hP hD hS hl
      rw [fX7_run_L17] at hF
      refine lv_iload_n hx hb dX7_run_17 rfl (lv_at hl 2 rfl) ?_
      refine va_mabs hx hb (hml.trans hl.1.symm) hown w0 w1 w2 w3 (Nat.le_of_ble_eq_true rfl) (Nat.le_of_ble_eq_true rfl) (Nat.le_of_ble_eq_true rfl) (Nat.le_of_ble_eq_true rfl) dX7_run_18 ?_
      refine lv_iconst (v := (1 : Int32)) hx hb dX7_run_21 (by decide) ?_
      refine lv_icmp_ne (tgt := 58) hx hb dX7_run_22 (by decide) (fun c2 => ?_) (fun c2 => ?_)
      · have hF := (if_neg c2).symm.trans hF
        exact X17 x3_17 x2_17 _ _ _ hF (hP.sub [] rfl) (hD.sub [] (by decide) rfl) hS (lv_sub hl [0, 1, 2, 3] rfl)
      · have hF := (if_pos c2).symm.trans hF
        refine lv_iload_n hx hb dX7_run_25 rfl (lv_at hl 0 rfl) ?_
        refine lv_bipush (v := (9 : Int32)) hx hb dX7_run_26 (by decide) ?_
        refine lv_icmp_le (tgt := 58) hx hb dX7_run_28 (by decide) (fun c3 => ?_) (fun c3 => ?_)
        · have hF := (if_pos c3).symm.trans hF
          exact X17 x3_17 x2_17 _ _ _ hF (hP.sub [] rfl) (hD.sub [] (by decide) rfl) hS (lv_sub hl [0, 1, 2, 3] rfl)
        · have hF := (if_neg c3).symm.trans hF
          refine lv_iload_n hx hb dX7_run_31 rfl (lv_at hl 0 rfl) ?_
          refine lv_bipush (v := (10 : Int32)) hx hb dX7_run_32 (by decide) ?_
          refine lv_irem hx hb dX7_run_34 (by decide) ?_
          refine lv_iload_n hx hb dX7_run_35 rfl (lv_at hl 0 rfl) ?_
          refine lv_bipush (v := (10 : Int32)) hx hb dX7_run_36 (by decide) ?_
          refine lv_idiv hx hb dX7_run_38 (by decide) ?_
          refine lv_bipush (v := (10 : Int32)) hx hb dX7_run_39 (by decide) ?_
          refine lv_irem hx hb dX7_run_41 (by decide) ?_
          refine lv_isub hx hb dX7_run_42 ?_
          refine lv_iload_n hx hb dX7_run_43 rfl (lv_at hl 2 rfl) ?_
          refine lv_icmp_ne (tgt := 58) hx hb dX7_run_44 (by decide) (fun c4 => ?_) (fun c4 => ?_)
          · have hF := (if_neg c4).symm.trans hF
            exact X17 x3_17 x2_17 _ _ _ hF (hP.sub [] rfl) (hD.sub [] (by decide) rfl) hS (lv_sub hl [0, 1, 2, 3] rfl)
          · have hF := (if_pos c4).symm.trans hF
            refine lv_iinc (v := x2_17 + (1 : Int32)) (lv' := [(2, .int (x2_17 + (1 : Int32))), (3, .int x3_17), (1, .int ((p0 - p0 / (10 : Int32) * (10 : Int32)) - ((p0 / (10 : Int32)) - (p0 / (10 : Int32)) / (10 : Int32) * (10 : Int32)))), (0, .int p0)]) hx hb dX7_run_47 hl (k := 1) rfl rfl (by decide) rfl (fun ls hl => ?_)
            refine lv_iload_n hx hb dX7_run_50 rfl (lv_at hl 1 rfl) ?_
            refine lv_bipush (v := (10 : Int32)) hx hb dX7_run_51 (by decide) ?_
            refine lv_idiv hx hb dX7_run_53 (by decide) ?_
            refine lv_istore_n (lv' := [(3, .int (x3_17 / (10 : Int32))), (2, .int (x2_17 + (1 : Int32))), (1, .int ((p0 - p0 / (10 : Int32) * (10 : Int32)) - ((p0 / (10 : Int32)) - (p0 / (10 : Int32)) / (10 : Int32) * (10 : Int32)))), (0, .int p0)]) hx hb dX7_run_54 rfl hl (by decide) rfl (fun ls hl => ?_)
            refine lv_goto (tgt := 17) hx hb dX7_run_55 (by decide) ?_
            exact ih17 (x3_17 / (10 : Int32)) (x2_17 + (1 : Int32)) _ _ _ hF (hP.sub [] rfl) (hD.sub [] (by decide) rfl) hS (lv_sub hl [0, 1, 2, 3] rfl)
  exact L17 1000 p0 (1 : Int32) _ _ _ hF (hP.sub [] rfl) (hD.sub [] (by decide) rfl) hS (lv_sub hl [0, 1, 2, 3] rfl)

def fX7_musicNow_X4 (p0 : Int32) (x2_4 : Int32) (x1_4 : Int32) : Option Int32 := (fX7_run p0).bind (fun r1 => (fX7_run x1_4).bind (fun r4 => some (r1 + r4)))
def fX7_musicNow_L4  (K4 : Int32 → Int32 → Option Int32) : Nat → Int32 → Int32 → Option Int32
  | 0, _, _ => none
  | n + 1, x2_4, x1_4 => if x2_4 ≤ 0 then (K4 x2_4 x1_4) else ((fX7_musicNow_L4 K4 n) (x2_4 / (10 : Int32)) (((10 : Int32) * x1_4) + (x2_4 - x2_4 / (10 : Int32) * (10 : Int32))))
def fX7_musicNow (p0 : Int32) : Option Int32 := fX7_musicNow_L4 (fX7_musicNow_X4 p0) 1000 p0 (0 : Int32)
abbrev rmX7_musicNow : Room := { frames := 2, cells := 0, slots := 0, locals := 44 }
set_option maxHeartbeats 4000000 in
set_option maxRecDepth 100000 in
theorem kX7_musicNow (l : Launch) (dC : Nat → ClassId) (dI : Nat → Nat → Nat) (tys : List (ClassId × FieldType)) (cI : ClassId) (ht0 : tys[0]? = some (cI, .int))  (p0 : Int32) (r : Int32) (hF : fX7_musicNow p0 = some r) : ct l (dC, dI) tys yX7_musicNow wsX7_musicNow rmX7_musicNow [.int p0] [] (fun _ : Unit => some (.int r)) (fun _ : Unit => []) := by
  refine ct_of (cc := cX7_musicNow) (maxL := 3) (ret := (some .int)) (by decide) rfl (Nat.le_of_ble_eq_true rfl) ?_
  intro p e s m below meth c A ls hx hb hr hml hts hown hlocks hname hE hK hP hD hA hS hl
  have hown : s.vm.findClass RX7 = some m.cls := hown
  have hl : lv_has ls 3 [(0, .int p0)] := hl
  unfold fX7_musicNow at hF
  refine lv_iconst (v := (0 : Int32)) hx hb dX7_musicNow_0 (by decide) ?_
  refine lv_istore_n (lv' := [(1, .int (0 : Int32)), (0, .int p0)]) hx hb dX7_musicNow_1 rfl hl (by decide) rfl (fun ls hl => ?_)
  refine lv_iload_n hx hb dX7_musicNow_2 rfl (lv_at hl 1 rfl) ?_
  refine lv_istore_n (lv' := [(2, .int p0), (1, .int (0 : Int32)), (0, .int p0)]) hx hb dX7_musicNow_3 rfl hl (by decide) rfl (fun ls hl => ?_)
  have X4 : ∀ (x2_4 : Int32) (x1_4 : Int32) (H : Heap) (locs : List Loc) (ls : Array Slot), fX7_musicNow_X4 p0 x2_4 x1_4 = some r → va_P (dC, dI) vwCl [] H → va_D A [] → va_S A s.heap H locs → lv_has ls 3 [(2, .int x2_4), (1, .int x1_4), (0, .int p0)] → W p l e rmX7_musicNow s m ([.int p0] : List Value).toArray below meth c H locs 0 0 (MQ below (ct_Q (dC, dI) tys (fun _ : Unit => some (.int r)) (fun _ : Unit => []) A) ([.int p0] : List Value).toArray s rmX7_musicNow.cells rmX7_musicNow.slots A) (F0 m 26 ls []) := by
    intro x2_4 x1_4 H locs ls hF hP hD hS hl
    unfold fX7_musicNow_X4 at hF
    refine lv_iload_n hx hb dX7_musicNow_26 rfl (lv_at hl 2 rfl) ?_
    obtain ⟨r1, hC2, hF⟩ := gd_b hF
    refine ct_callS (As := [.int p0]) (rest := []) ⟨hx, hb, hml, hown, hts⟩ (kX7_run l dC dI tys cI ht0 p0 r1 hC2) (va_cwS 1 hts gX7_musicNow_X7_run rfl rfl rfl (by decide +kernel) ⟨Nat.le_of_ble_eq_true rfl, Nat.le_of_ble_eq_true rfl⟩) hE hK hP hD hS hA [] [] (by decide) rfl (by decide) (wr := []) rfl (by decide) hl.1 rfl rfl (Nat.le_of_ble_eq_true rfl) dX7_musicNow_27 ⟨(Nat.le_of_ble_eq_true rfl), (Nat.le_of_ble_eq_true rfl)⟩ (fun i3 H locs hP hD hS => ?_)
    have hP : va_P (dC, dI) vwCl [] H := hP
    have hD : va_D A [] := hD
    refine lv_iload_n hx hb dX7_musicNow_30 rfl (lv_at hl 1 rfl) ?_
    obtain ⟨r4, hC5, hF⟩ := gd_b hF
    refine ct_callS (As := [.int x1_4]) (rest := [.int r1]) ⟨hx, hb, hml, hown, hts⟩ (kX7_run l dC dI tys cI ht0 x1_4 r4 hC5) (va_cwS 1 hts gX7_musicNow_X7_run rfl rfl rfl (by decide +kernel) ⟨Nat.le_of_ble_eq_true rfl, Nat.le_of_ble_eq_true rfl⟩) hE hK hP hD hS hA [] [] (by decide) rfl (by decide) (wr := []) rfl (by decide) hl.1 rfl rfl (Nat.le_of_ble_eq_true rfl) dX7_musicNow_31 ⟨(Nat.le_of_ble_eq_true rfl), (Nat.le_of_ble_eq_true rfl)⟩ (fun i6 H locs hP hD hS => ?_)
    have hP : va_P (dC, dI) vwCl [] H := hP
    have hD : va_D A [] := hD
    refine lv_iadd hx hb dX7_musicNow_34 ?_
    obtain rfl := Option.some.inj hF
    exact ct_i hx hb hr hlocks hK hP hD hS () rfl [] (by decide) rfl (Nat.le_of_ble_eq_true rfl) (Nat.le_of_ble_eq_true rfl) dX7_musicNow_35
  have L4 : ∀ (n4 : Nat) (x2_4 : Int32) (x1_4 : Int32) (H : Heap) (locs : List Loc) (ls : Array Slot), fX7_musicNow_L4 (fX7_musicNow_X4 p0) n4 x2_4 x1_4 = some r → va_P (dC, dI) vwCl [] H → va_D A [] → va_S A s.heap H locs → lv_has ls 3 [(2, .int x2_4), (1, .int x1_4), (0, .int p0)] → W p l e rmX7_musicNow s m ([.int p0] : List Value).toArray below meth c H locs 0 0 (MQ below (ct_Q (dC, dI) tys (fun _ : Unit => some (.int r)) (fun _ : Unit => []) A) ([.int p0] : List Value).toArray s rmX7_musicNow.cells rmX7_musicNow.slots A) (F0 m 4 ls []) := by
    intro n4
    induction n4 with
    | zero => intro x2_4 x1_4 H locs ls hF; rw [fX7_musicNow_L4] at hF; cases hF
    | succ n4 ih4 =>
      intro x2_4 x1_4 H locs ls hF hP hD hS hl
      rw [fX7_musicNow_L4] at hF
      refine lv_iload_n hx hb dX7_musicNow_4 rfl (lv_at hl 0 rfl) ?_
      refine lv_if_le (tgt := 26) hx hb dX7_musicNow_5 (by decide) (fun c7 => ?_) (fun c7 => ?_)
      · have hF := (if_pos c7).symm.trans hF
        exact X4 x2_4 x1_4 _ _ _ hF (hP.sub [] rfl) (hD.sub [] (by decide) rfl) hS (lv_sub hl [0, 1, 2] rfl)
      · have hF := (if_neg c7).symm.trans hF
        refine lv_bipush (v := (10 : Int32)) hx hb dX7_musicNow_8 (by decide) ?_
        refine lv_iload_n hx hb dX7_musicNow_10 rfl (lv_at hl 1 rfl) ?_
        refine lv_imul hx hb dX7_musicNow_11 ?_
        refine lv_iload_n hx hb dX7_musicNow_12 rfl (lv_at hl 0 rfl) ?_
        refine lv_bipush (v := (10 : Int32)) hx hb dX7_musicNow_13 (by decide) ?_
        refine lv_irem hx hb dX7_musicNow_15 (by decide) ?_
        refine lv_iadd hx hb dX7_musicNow_16 ?_
        refine lv_istore_n (lv' := [(1, .int (((10 : Int32) * x1_4) + (x2_4 - x2_4 / (10 : Int32) * (10 : Int32)))), (2, .int x2_4), (0, .int p0)]) hx hb dX7_musicNow_17 rfl hl (by decide) rfl (fun ls hl => ?_)
        refine lv_iload_n hx hb dX7_musicNow_18 rfl (lv_at hl 1 rfl) ?_
        refine lv_bipush (v := (10 : Int32)) hx hb dX7_musicNow_19 (by decide) ?_
        refine lv_idiv hx hb dX7_musicNow_21 (by decide) ?_
        refine lv_istore_n (lv' := [(2, .int (x2_4 / (10 : Int32))), (1, .int (((10 : Int32) * x1_4) + (x2_4 - x2_4 / (10 : Int32) * (10 : Int32)))), (0, .int p0)]) hx hb dX7_musicNow_22 rfl hl (by decide) rfl (fun ls hl => ?_)
        refine lv_goto (tgt := 4) hx hb dX7_musicNow_23 (by decide) ?_
        exact ih4 (x2_4 / (10 : Int32)) (((10 : Int32) * x1_4) + (x2_4 - x2_4 / (10 : Int32) * (10 : Int32))) _ _ _ hF (hP.sub [] rfl) (hD.sub [] (by decide) rfl) hS (lv_sub hl [0, 1, 2] rfl)
  exact L4 1000 p0 (0 : Int32) _ _ _ hF (hP.sub [] rfl) (hD.sub [] (by decide) rfl) hS (lv_sub hl [0, 1, 2] rfl)

def fX7_musicOf_X11  (x5_11 : Int32) (x2_11 : Int32) : Option Int32 := some (x2_11)
def fX7_musicOf_L11 (pan : Nat) (paf : (Nat → Int32)) (K11 : Int32 → Int32 → Option Int32) : Nat → Int32 → Int32 → Option Int32
  | 0, _, _ => none
  | n + 1, x5_11, x2_11 => if (Int32.ofNat pan) ≤ x5_11 then (K11 x5_11 x2_11) else (if (x5_11 < 0 ∨ pan ≤ x5_11.toNatClampNeg) then none else ((fX7_musicNow (paf x5_11.toNatClampNeg)).bind (fun r3 => (fX7_musicOf_L11 pan paf K11 n) (x5_11 + (1 : Int32)) (x2_11 + r3))))
def fX7_musicOf (pan : Nat) (paf : (Nat → Int32)) : Option Int32 := fX7_musicOf_L11 pan paf fX7_musicOf_X11 1000 (0 : Int32) (0 : Int32)
abbrev rmX7_musicOf : Room := { frames := 3, cells := 0, slots := 0, locals := 66 }
set_option maxHeartbeats 4000000 in
set_option maxRecDepth 100000 in
theorem kX7_musicOf (l : Launch) (dC : Nat → ClassId) (dI : Nat → Nat → Nat) (tys : List (ClassId × FieldType)) (cI : ClassId) (ht0 : tys[0]? = some (cI, .int)) (o oc oi ol ob pa : Nat) (mth : Int32) (mn : Int32) (mch : Int32) (mcl : Int32) (mgo : Int32) (mmo : Int32) (mcf : (Nat → Int32)) (mif : (Nat → Int32)) (mlf : (Nat → Int32)) (mbn : Nat) (mbf : (Nat → Int32)) (pan : Nat) (paf : (Nat → Int32)) (r : Int32) (hF : fX7_musicOf pan paf = some r) : ct l (dC, dI) tys yX7_musicOf wsX7_musicOf rmX7_musicOf [.ref o, .ref pa] [(o, .inr (6, [.int mth, .int mn, .int mch, .ref oc, .ref oi, .int mcl, .ref ol, .int mgo, .int mmo, .ref ob])), (oc, .inl (cI, 14, .inl mcf)), (oi, .inl (cI, 3, .inl mif)), (ol, .inl (cI, 24, .inl mlf)), (ob, .inl (cI, mbn, .inl mbf)), (pa, .inl (cI, pan, .inl paf))] (fun _ : Unit => some (.int r)) (fun _ : Unit => [(o, .inr (6, [.int mth, .int mn, .int mch, .ref oc, .ref oi, .int mcl, .ref ol, .int mgo, .int mmo, .ref ob])), (oc, .inl (cI, 14, .inl mcf)), (oi, .inl (cI, 3, .inl mif)), (ol, .inl (cI, 24, .inl mlf)), (ob, .inl (cI, mbn, .inl mbf)), (pa, .inl (cI, pan, .inl paf))]) := by
  refine ct_of (cc := cX7_musicOf) (maxL := 7) (ret := (some .int)) (by decide) rfl (Nat.le_of_ble_eq_true rfl) ?_
  intro p e s m below meth c A ls hx hb hr hml hts hown hlocks hname hE hK hP hD hA hS hl
  have hown : s.vm.findClass RX7 = some m.cls := hown
  have hl : lv_has ls 7 [(0, .ref o), (1, .ref pa)] := hl
  unfold fX7_musicOf at hF
  refine lv_iconst (v := (0 : Int32)) hx hb dX7_musicOf_0 (by decide) ?_
  refine lv_istore_n (lv' := [(2, .int (0 : Int32)), (0, .ref o), (1, .ref pa)]) hx hb dX7_musicOf_1 rfl hl (by decide) rfl (fun ls hl => ?_)
  refine lv_aload_n hx hb dX7_musicOf_2 rfl (lv_at hl 2 rfl) ?_
  refine lv_astore_n (lv' := [(3, .ref pa), (2, .int (0 : Int32)), (0, .ref o), (1, .ref pa)]) hx hb dX7_musicOf_3 rfl hl (by decide) rfl (fun ls hl => ?_)
  refine lv_aload_n hx hb dX7_musicOf_4 rfl (lv_at hl 0 rfl) ?_
  refine va_alen hx hb hK hP 5 0 rfl ht0 (v := Int32.ofNat pan) rfl dX7_musicOf_5 ?_
  refine lv_istore (lv' := [(4, .int (Int32.ofNat pan)), (3, .ref pa), (2, .int (0 : Int32)), (0, .ref o), (1, .ref pa)]) hx hb dX7_musicOf_6 hl (by decide) rfl (fun ls hl => ?_)
  refine lv_iconst (v := (0 : Int32)) hx hb dX7_musicOf_8 (by decide) ?_
  refine lv_istore (lv' := [(5, .int (0 : Int32)), (4, .int (Int32.ofNat pan)), (3, .ref pa), (2, .int (0 : Int32)), (0, .ref o), (1, .ref pa)]) hx hb dX7_musicOf_9 hl (by decide) rfl (fun ls hl => ?_)
  have X11 : ∀ (x5_11 : Int32) (x2_11 : Int32) (H : Heap) (locs : List Loc) (ls : Array Slot), fX7_musicOf_X11 x5_11 x2_11 = some r → va_P (dC, dI) vwCl [(o, .inr (6, [.int mth, .int mn, .int mch, .ref oc, .ref oi, .int mcl, .ref ol, .int mgo, .int mmo, .ref ob])), (oc, .inl (cI, 14, .inl mcf)), (oi, .inl (cI, 3, .inl mif)), (ol, .inl (cI, 24, .inl mlf)), (ob, .inl (cI, mbn, .inl mbf)), (pa, .inl (cI, pan, .inl paf))] H → va_D A [(o, .inr (6, [.int mth, .int mn, .int mch, .ref oc, .ref oi, .int mcl, .ref ol, .int mgo, .int mmo, .ref ob])), (oc, .inl (cI, 14, .inl mcf)), (oi, .inl (cI, 3, .inl mif)), (ol, .inl (cI, 24, .inl mlf)), (ob, .inl (cI, mbn, .inl mbf)), (pa, .inl (cI, pan, .inl paf))] → va_S A s.heap H locs → lv_has ls 7 [(5, .int x5_11), (4, .int (Int32.ofNat pan)), (3, .ref pa), (2, .int x2_11), (0, .ref o), (1, .ref pa)] → W p l e rmX7_musicOf s m ([.ref o, .ref pa] : List Value).toArray below meth c H locs 0 0 (MQ below (ct_Q (dC, dI) tys (fun _ : Unit => some (.int r)) (fun _ : Unit => [(o, .inr (6, [.int mth, .int mn, .int mch, .ref oc, .ref oi, .int mcl, .ref ol, .int mgo, .int mmo, .ref ob])), (oc, .inl (cI, 14, .inl mcf)), (oi, .inl (cI, 3, .inl mif)), (ol, .inl (cI, 24, .inl mlf)), (ob, .inl (cI, mbn, .inl mbf)), (pa, .inl (cI, pan, .inl paf))]) A) ([.ref o, .ref pa] : List Value).toArray s rmX7_musicOf.cells rmX7_musicOf.slots A) (F0 m 38 ls []) := by
    intro x5_11 x2_11 H locs ls hF hP hD hS hl
    unfold fX7_musicOf_X11 at hF
    refine lv_iload_n hx hb dX7_musicOf_38 rfl (lv_at hl 3 rfl) ?_
    obtain rfl := Option.some.inj hF
    exact ct_i hx hb hr hlocks hK hP hD hS () rfl [0, 1, 2, 3, 4, 5] (by decide) rfl (Nat.le_of_ble_eq_true rfl) (Nat.le_of_ble_eq_true rfl) dX7_musicOf_39
  have L11 : ∀ (n11 : Nat) (x5_11 : Int32) (x2_11 : Int32) (H : Heap) (locs : List Loc) (ls : Array Slot), fX7_musicOf_L11 pan paf fX7_musicOf_X11 n11 x5_11 x2_11 = some r → va_P (dC, dI) vwCl [(o, .inr (6, [.int mth, .int mn, .int mch, .ref oc, .ref oi, .int mcl, .ref ol, .int mgo, .int mmo, .ref ob])), (oc, .inl (cI, 14, .inl mcf)), (oi, .inl (cI, 3, .inl mif)), (ol, .inl (cI, 24, .inl mlf)), (ob, .inl (cI, mbn, .inl mbf)), (pa, .inl (cI, pan, .inl paf))] H → va_D A [(o, .inr (6, [.int mth, .int mn, .int mch, .ref oc, .ref oi, .int mcl, .ref ol, .int mgo, .int mmo, .ref ob])), (oc, .inl (cI, 14, .inl mcf)), (oi, .inl (cI, 3, .inl mif)), (ol, .inl (cI, 24, .inl mlf)), (ob, .inl (cI, mbn, .inl mbf)), (pa, .inl (cI, pan, .inl paf))] → va_S A s.heap H locs → lv_has ls 7 [(5, .int x5_11), (4, .int (Int32.ofNat pan)), (3, .ref pa), (2, .int x2_11), (0, .ref o), (1, .ref pa)] → W p l e rmX7_musicOf s m ([.ref o, .ref pa] : List Value).toArray below meth c H locs 0 0 (MQ below (ct_Q (dC, dI) tys (fun _ : Unit => some (.int r)) (fun _ : Unit => [(o, .inr (6, [.int mth, .int mn, .int mch, .ref oc, .ref oi, .int mcl, .ref ol, .int mgo, .int mmo, .ref ob])), (oc, .inl (cI, 14, .inl mcf)), (oi, .inl (cI, 3, .inl mif)), (ol, .inl (cI, 24, .inl mlf)), (ob, .inl (cI, mbn, .inl mbf)), (pa, .inl (cI, pan, .inl paf))]) A) ([.ref o, .ref pa] : List Value).toArray s rmX7_musicOf.cells rmX7_musicOf.slots A) (F0 m 11 ls []) := by
    intro n11
    induction n11 with
    | zero => intro x5_11 x2_11 H locs ls hF; rw [fX7_musicOf_L11] at hF; cases hF
    | succ n11 ih11 =>
      intro x5_11 x2_11 H locs ls hF hP hD hS hl
      rw [fX7_musicOf_L11] at hF
      refine lv_iload hx hb dX7_musicOf_11 (lv_at hl 0 rfl) ?_
      refine lv_iload hx hb dX7_musicOf_13 (lv_at hl 1 rfl) ?_
      refine lv_icmp_ge (tgt := 38) hx hb dX7_musicOf_15 (by decide) (fun c1 => ?_) (fun c1 => ?_)
      · have hF := (if_pos c1).symm.trans hF
        exact X11 x5_11 x2_11 _ _ _ hF (hP.sub [0, 1, 2, 3, 4, 5] rfl) (hD.sub [0, 1, 2, 3, 4, 5] (by decide) rfl) hS (lv_sub hl [0, 1, 2, 3, 4, 5] rfl)
      · have hF := (if_neg c1).symm.trans hF
        refine lv_aload_n hx hb dX7_musicOf_18 rfl (lv_at hl 2 rfl) ?_
        refine lv_iload hx hb dX7_musicOf_19 (lv_at hl 0 rfl) ?_
        obtain ⟨g2, hF⟩ := gd_n hF
        refine va_iald hx hb hK hP 5 0 rfl ht0 g2 dX7_musicOf_21 ?_
        refine lv_istore (lv' := [(6, .int (paf x5_11.toNatClampNeg)), (5, .int x5_11), (4, .int (Int32.ofNat pan)), (3, .ref pa), (2, .int x2_11), (0, .ref o), (1, .ref pa)]) hx hb dX7_musicOf_22 hl (by decide) rfl (fun ls hl => ?_)
        refine lv_iload_n hx hb dX7_musicOf_24 rfl (lv_at hl 4 rfl) ?_
        refine lv_iload hx hb dX7_musicOf_25 (lv_at hl 0 rfl) ?_
        obtain ⟨r3, hC4, hF⟩ := gd_b hF
        refine ct_callS (As := [.int (paf x5_11.toNatClampNeg)]) (rest := [.int x2_11]) ⟨hx, hb, hml, hown, hts⟩ (kX7_musicNow l dC dI tys cI ht0 (paf x5_11.toNatClampNeg) r3 hC4) (va_cwS 1 hts gX7_musicOf_X7_musicNow rfl rfl rfl (by decide +kernel) ⟨Nat.le_of_ble_eq_true rfl, Nat.le_of_ble_eq_true rfl⟩) hE hK hP hD hS hA [] [0, 1, 2, 3, 4, 5] (by decide) rfl (by decide) (wr := [(o, .inr (6, [.int mth, .int mn, .int mch, .ref oc, .ref oi, .int mcl, .ref ol, .int mgo, .int mmo, .ref ob])), (oc, .inl (cI, 14, .inl mcf)), (oi, .inl (cI, 3, .inl mif)), (ol, .inl (cI, 24, .inl mlf)), (ob, .inl (cI, mbn, .inl mbf)), (pa, .inl (cI, pan, .inl paf))]) rfl (by decide) hl.1 rfl rfl (Nat.le_of_ble_eq_true rfl) dX7_musicOf_27 ⟨(Nat.le_of_ble_eq_true rfl), (Nat.le_of_ble_eq_true rfl)⟩ (fun i5 H locs hP hD hS => ?_)
        have hP : va_P (dC, dI) vwCl [(o, .inr (6, [.int mth, .int mn, .int mch, .ref oc, .ref oi, .int mcl, .ref ol, .int mgo, .int mmo, .ref ob])), (oc, .inl (cI, 14, .inl mcf)), (oi, .inl (cI, 3, .inl mif)), (ol, .inl (cI, 24, .inl mlf)), (ob, .inl (cI, mbn, .inl mbf)), (pa, .inl (cI, pan, .inl paf))] H := hP
        have hD : va_D A [(o, .inr (6, [.int mth, .int mn, .int mch, .ref oc, .ref oi, .int mcl, .ref ol, .int mgo, .int mmo, .ref ob])), (oc, .inl (cI, 14, .inl mcf)), (oi, .inl (cI, 3, .inl mif)), (ol, .inl (cI, 24, .inl mlf)), (ob, .inl (cI, mbn, .inl mbf)), (pa, .inl (cI, pan, .inl paf))] := hD
        refine lv_iadd hx hb dX7_musicOf_30 ?_
        refine lv_istore_n (lv' := [(2, .int (x2_11 + r3)), (6, .int (paf x5_11.toNatClampNeg)), (5, .int x5_11), (4, .int (Int32.ofNat pan)), (3, .ref pa), (0, .ref o), (1, .ref pa)]) hx hb dX7_musicOf_31 rfl hl (by decide) rfl (fun ls hl => ?_)
        refine lv_iinc (v := x5_11 + (1 : Int32)) (lv' := [(5, .int (x5_11 + (1 : Int32))), (2, .int (x2_11 + r3)), (6, .int (paf x5_11.toNatClampNeg)), (4, .int (Int32.ofNat pan)), (3, .ref pa), (0, .ref o), (1, .ref pa)]) hx hb dX7_musicOf_32 hl (k := 2) rfl rfl (by decide) rfl (fun ls hl => ?_)
        refine lv_goto (tgt := 11) hx hb dX7_musicOf_35 (by decide) ?_
        exact ih11 (x5_11 + (1 : Int32)) (x2_11 + r3) _ _ _ hF (hP.sub [0, 1, 2, 3, 4, 5] rfl) (hD.sub [0, 1, 2, 3, 4, 5] (by decide) rfl) hS (lv_sub hl [0, 3, 4, 1, 5, 6] rfl)
  exact L11 1000 (0 : Int32) (0 : Int32) _ _ _ hF (hP.sub [0, 1, 2, 3, 4, 5] rfl) (hD.sub [0, 1, 2, 3, 4, 5] (by decide) rfl) hS (lv_sub hl [0, 1, 2, 3, 4, 5] rfl)
