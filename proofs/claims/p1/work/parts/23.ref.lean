def fX7_touchNow (mn : Int32) (mch : Int32) (mcl : Int32) (mcf : (Nat → Int32)) (mif : (Nat → Int32)) (mlf : (Nat → Int32)) (p0 : Int32) : Option Int32 := (fX7_rows_ mn mch mcl mcf mif mlf).bind (fun r1 => (fX7_order__ mn mch mcl mcf mif mlf).bind (fun r4 => (fX7_number r4.2 r4.1).bind (fun r7 => if p0 < (0 : Int32) then ((fX7_different r1.2 r1.1).bind (fun r12 => some (r12))) else if (6 : Int32) < p0 then ((fX7_different r1.2 r1.1).bind (fun r15 => some (r15))) else if p0 = (0 : Int32) then (some (Int32.ofNat r1.2)) else if p0 = (1 : Int32) then (some (r7)) else if p0 = (2 : Int32) then (if (Int32.ofNat r1.2) ≤ 0 then (some ((0 : Int32))) else ((fX7_rounds mn).bind (fun r22 => if r7 = r22 then (some ((1 : Int32))) else (some ((0 : Int32)))))) else if p0 = (3 : Int32) then ((fX7_firstAgain r1.2 r1.1).bind (fun r27 => if r27 = (-1 : Int32) then (some ((1 : Int32))) else (some ((0 : Int32))))) else if p0 = (4 : Int32) then ((fX7_firstAgain r1.2 r1.1).bind (fun r32 => some (r32))) else if p0 = (5 : Int32) then (if (Int32.ofNat r1.2) = 0 then (some ((0 : Int32))) else ((fX7_parts mn mch mcl mcf mif mlf).bind (fun r37 => some (r37)))) else if p0 = (6 : Int32) then ((fX7_musicOf r1.2 r1.1).bind (fun r41 => some (r41))) else none)))
abbrev rmX7_touchNow : Room := { frames := 7, cells := 1606, slots := 11571, locals := 159 }
set_option maxHeartbeats 4000000 in
set_option maxRecDepth 100000 in
theorem kX7_touchNow (l : Launch) (dC : Nat → ClassId) (dI : Nat → Nat → Nat) (tys : List (ClassId × FieldType)) (cI : ClassId) (ht0 : tys[0]? = some (cI, .int)) (o oc oi ol ob : Nat) (mth : Int32) (mn : Int32) (mch : Int32) (mcl : Int32) (mgo : Int32) (mmo : Int32) (mcf : (Nat → Int32)) (mif : (Nat → Int32)) (mlf : (Nat → Int32)) (mbn : Nat) (mbf : (Nat → Int32)) (p0 : Int32) (r : Int32) (hF : fX7_touchNow mn mch mcl mcf mif mlf p0 = some r) : ct l (dC, dI) tys yX7_touchNow wsX7_touchNow rmX7_touchNow [.ref o, .int p0] [(o, .inr (6, [.int mth, .int mn, .int mch, .ref oc, .ref oi, .int mcl, .ref ol, .int mgo, .int mmo, .ref ob])), (oc, .inl (cI, 14, .inl mcf)), (oi, .inl (cI, 3, .inl mif)), (ol, .inl (cI, 24, .inl mlf)), (ob, .inl (cI, mbn, .inl mbf))] (fun _ : Unit => some (.int r)) (fun _ : Unit => [(o, .inr (6, [.int mth, .int mn, .int mch, .ref oc, .ref oi, .int mcl, .ref ol, .int mgo, .int mmo, .ref ob])), (oc, .inl (cI, 14, .inl mcf)), (oi, .inl (cI, 3, .inl mif)), (ol, .inl (cI, 24, .inl mlf)), (ob, .inl (cI, mbn, .inl mbf))]) := by
  refine ct_of (cc := cX7_touchNow) (maxL := 4) (ret := (some .int)) (by decide) rfl (Nat.le_of_ble_eq_true rfl) ?_
  intro p e s m below meth c A ls hx hb hr hml hts hown hlocks hname hE hK hP hD hA hS hl
  have hown : s.vm.findClass RX7 = some m.cls := hown
  have hl : lv_has ls 4 [(0, .ref o), (1, .int p0)] := hl
  unfold fX7_touchNow at hF
  refine lv_aload_n hx hb dX7_touchNow_0 rfl (lv_at hl 0 rfl) ?_
  obtain ⟨r1, hC2, hF⟩ := gd_b hF
  refine ct_callV (C := RX7) (As := []) (rest := []) ⟨hx, hb, hml, hown, hts⟩ (kX7_rows_ l dC dI tys cI ht0 o oc oi ol ob mth mn mch mcl mgo mmo mcf mif mlf mbn mbf r1 hC2) (cwV 0 hts gX7_touchNow_X7_rows_ rfl rfl rfl (by decide +kernel) ⟨Nat.le_of_ble_eq_true rfl, Nat.le_of_ble_eq_true rfl⟩) hE hK hP hD hS hA [0, 1, 2, 3, 4] [] (by decide) rfl (by decide) (wr := []) rfl (by decide) (ci := 6) (T := TX7) (N := 10) (q0 := 0) rfl rfl hl.1 rfl rfl (Nat.le_of_ble_eq_true rfl) dX7_touchNow_1 ⟨(Nat.le_of_ble_eq_true rfl), (Nat.le_of_ble_eq_true rfl)⟩ (fun i3 H locs hP hD hS => ?_)
  have hP : va_P (dC, dI) vwCl [(o, .inr (6, [.int mth, .int mn, .int mch, .ref oc, .ref oi, .int mcl, .ref ol, .int mgo, .int mmo, .ref ob])), (oc, .inl (cI, 14, .inl mcf)), (oi, .inl (cI, 3, .inl mif)), (ol, .inl (cI, 24, .inl mlf)), (ob, .inl (cI, mbn, .inl mbf)), (i3, .inl (cI, r1.2, .inl r1.1))] H := hP
  have hD : va_D A [(o, .inr (6, [.int mth, .int mn, .int mch, .ref oc, .ref oi, .int mcl, .ref ol, .int mgo, .int mmo, .ref ob])), (oc, .inl (cI, 14, .inl mcf)), (oi, .inl (cI, 3, .inl mif)), (ol, .inl (cI, 24, .inl mlf)), (ob, .inl (cI, mbn, .inl mbf)), (i3, .inl (cI, r1.2, .inl r1.1))] := hD
  refine lv_astore_n (lv' := [(2, .ref i3), (0, .ref o), (1, .int p0)]) hx hb dX7_touchNow_4 rfl hl (by decide) rfl (fun ls hl => ?_)
  refine lv_aload_n hx hb dX7_touchNow_5 rfl (lv_at hl 1 rfl) ?_
  obtain ⟨r4, hC5, hF⟩ := gd_b hF
  refine ct_callV (C := RX7) (As := []) (rest := []) ⟨hx, hb, hml, hown, hts⟩ (kX7_order__ l dC dI tys cI ht0 o oc oi ol ob mth mn mch mcl mgo mmo mcf mif mlf mbn mbf r4 hC5) (cwV 0 hts gX7_touchNow_X7_order__ rfl rfl rfl (by decide +kernel) ⟨Nat.le_of_ble_eq_true rfl, Nat.le_of_ble_eq_true rfl⟩) hE hK hP hD hS hA [0, 1, 2, 3, 4] [5] (by decide) rfl (by decide) (wr := [(i3, .inl (cI, r1.2, .inl r1.1))]) rfl (by decide) (ci := 6) (T := TX7) (N := 10) (q0 := 0) rfl rfl hl.1 rfl rfl (Nat.le_of_ble_eq_true rfl) dX7_touchNow_6 ⟨(Nat.le_of_ble_eq_true rfl), (Nat.le_of_ble_eq_true rfl)⟩ (fun i6 H locs hP hD hS => ?_)
  have hP : va_P (dC, dI) vwCl [(i3, .inl (cI, r1.2, .inl r1.1)), (o, .inr (6, [.int mth, .int mn, .int mch, .ref oc, .ref oi, .int mcl, .ref ol, .int mgo, .int mmo, .ref ob])), (oc, .inl (cI, 14, .inl mcf)), (oi, .inl (cI, 3, .inl mif)), (ol, .inl (cI, 24, .inl mlf)), (ob, .inl (cI, mbn, .inl mbf)), (i6, .inl (cI, r4.2, .inl r4.1))] H := hP
  have hD : va_D A [(i3, .inl (cI, r1.2, .inl r1.1)), (o, .inr (6, [.int mth, .int mn, .int mch, .ref oc, .ref oi, .int mcl, .ref ol, .int mgo, .int mmo, .ref ob])), (oc, .inl (cI, 14, .inl mcf)), (oi, .inl (cI, 3, .inl mif)), (ol, .inl (cI, 24, .inl mlf)), (ob, .inl (cI, mbn, .inl mbf)), (i6, .inl (cI, r4.2, .inl r4.1))] := hD
  obtain ⟨r7, hC8, hF⟩ := gd_b hF
  refine ct_callS (As := [.ref i6]) (rest := []) ⟨hx, hb, hml, hown, hts⟩ (kX7_number l dC dI tys cI ht0 i6 r4.2 r4.1 r7 hC8) (va_cwS 1 hts gX7_touchNow_X7_number rfl rfl rfl (by decide +kernel) ⟨Nat.le_of_ble_eq_true rfl, Nat.le_of_ble_eq_true rfl⟩) hE hK hP hD hS hA [6] [0, 1, 2, 3, 4, 5] (by decide) rfl (by decide) (wr := [(i3, .inl (cI, r1.2, .inl r1.1)), (o, .inr (6, [.int mth, .int mn, .int mch, .ref oc, .ref oi, .int mcl, .ref ol, .int mgo, .int mmo, .ref ob])), (oc, .inl (cI, 14, .inl mcf)), (oi, .inl (cI, 3, .inl mif)), (ol, .inl (cI, 24, .inl mlf)), (ob, .inl (cI, mbn, .inl mbf))]) rfl (by decide) hl.1 rfl rfl (Nat.le_of_ble_eq_true rfl) dX7_touchNow_9 ⟨(Nat.le_of_ble_eq_true rfl), (Nat.le_of_ble_eq_true rfl)⟩ (fun i9 H locs hP hD hS => ?_)
  have hP : va_P (dC, dI) vwCl [(i3, .inl (cI, r1.2, .inl r1.1)), (o, .inr (6, [.int mth, .int mn, .int mch, .ref oc, .ref oi, .int mcl, .ref ol, .int mgo, .int mmo, .ref ob])), (oc, .inl (cI, 14, .inl mcf)), (oi, .inl (cI, 3, .inl mif)), (ol, .inl (cI, 24, .inl mlf)), (ob, .inl (cI, mbn, .inl mbf)), (i6, .inl (cI, r4.2, .inl r4.1))] H := hP
  have hD : va_D A [(i3, .inl (cI, r1.2, .inl r1.1)), (o, .inr (6, [.int mth, .int mn, .int mch, .ref oc, .ref oi, .int mcl, .ref ol, .int mgo, .int mmo, .ref ob])), (oc, .inl (cI, 14, .inl mcf)), (oi, .inl (cI, 3, .inl mif)), (ol, .inl (cI, 24, .inl mlf)), (ob, .inl (cI, mbn, .inl mbf)), (i6, .inl (cI, r4.2, .inl r4.1))] := hD
  refine lv_istore_n (lv' := [(3, .int r7), (2, .ref i3), (0, .ref o), (1, .int p0)]) hx hb dX7_touchNow_12 rfl hl (by decide) rfl (fun ls hl => ?_)
  refine lv_iload_n hx hb dX7_touchNow_13 rfl (lv_at hl 3 rfl) ?_
  by_cases c10 : p0 < (0 : Int32)
  · have hF := (if_pos c10).symm.trans hF
    refine lv_tableOut (tgt := 119) hx hb dX7_touchNow_14 (Or.inl (gd_lt c10 rfl)) (by decide) ?_
    refine lv_aload_n hx hb dX7_touchNow_119 rfl (lv_at hl 1 rfl) ?_
    obtain ⟨r12, hC13, hF⟩ := gd_b hF
    refine ct_callS (As := [.ref i3]) (rest := []) ⟨hx, hb, hml, hown, hts⟩ (kX7_different l dC dI tys cI ht0 i3 r1.2 r1.1 r12 hC13) (va_cwS 1 hts gX7_touchNow_X7_different rfl rfl rfl (by decide +kernel) ⟨Nat.le_of_ble_eq_true rfl, Nat.le_of_ble_eq_true rfl⟩) hE hK hP hD hS hA [0] [1, 2, 3, 4, 5, 6] (by decide) rfl (by decide) (wr := [(o, .inr (6, [.int mth, .int mn, .int mch, .ref oc, .ref oi, .int mcl, .ref ol, .int mgo, .int mmo, .ref ob])), (oc, .inl (cI, 14, .inl mcf)), (oi, .inl (cI, 3, .inl mif)), (ol, .inl (cI, 24, .inl mlf)), (ob, .inl (cI, mbn, .inl mbf)), (i6, .inl (cI, r4.2, .inl r4.1))]) rfl (by decide) hl.1 rfl rfl (Nat.le_of_ble_eq_true rfl) dX7_touchNow_120 ⟨(Nat.le_of_ble_eq_true rfl), (Nat.le_of_ble_eq_true rfl)⟩ (fun i14 H locs hP hD hS => ?_)
    have hP : va_P (dC, dI) vwCl [(o, .inr (6, [.int mth, .int mn, .int mch, .ref oc, .ref oi, .int mcl, .ref ol, .int mgo, .int mmo, .ref ob])), (oc, .inl (cI, 14, .inl mcf)), (oi, .inl (cI, 3, .inl mif)), (ol, .inl (cI, 24, .inl mlf)), (ob, .inl (cI, mbn, .inl mbf)), (i6, .inl (cI, r4.2, .inl r4.1)), (i3, .inl (cI, r1.2, .inl r1.1))] H := hP
    have hD : va_D A [(o, .inr (6, [.int mth, .int mn, .int mch, .ref oc, .ref oi, .int mcl, .ref ol, .int mgo, .int mmo, .ref ob])), (oc, .inl (cI, 14, .inl mcf)), (oi, .inl (cI, 3, .inl mif)), (ol, .inl (cI, 24, .inl mlf)), (ob, .inl (cI, mbn, .inl mbf)), (i6, .inl (cI, r4.2, .inl r4.1)), (i3, .inl (cI, r1.2, .inl r1.1))] := hD
    obtain rfl := Option.some.inj hF
    exact ct_i hx hb hr hlocks hK hP hD hS () rfl [0, 1, 2, 3, 4] (by decide) rfl (Nat.le_of_ble_eq_true rfl) (Nat.le_of_ble_eq_true rfl) dX7_touchNow_123
  have hF := (if_neg c10).symm.trans hF
  by_cases c11 : (6 : Int32) < p0
  · have hF := (if_pos c11).symm.trans hF
    refine lv_tableOut (tgt := 119) hx hb dX7_touchNow_14 (Or.inr (gd_gt c11 rfl)) (by decide) ?_
    refine lv_aload_n hx hb dX7_touchNow_119 rfl (lv_at hl 1 rfl) ?_
    obtain ⟨r15, hC16, hF⟩ := gd_b hF
    refine ct_callS (As := [.ref i3]) (rest := []) ⟨hx, hb, hml, hown, hts⟩ (kX7_different l dC dI tys cI ht0 i3 r1.2 r1.1 r15 hC16) (va_cwS 1 hts gX7_touchNow_X7_different rfl rfl rfl (by decide +kernel) ⟨Nat.le_of_ble_eq_true rfl, Nat.le_of_ble_eq_true rfl⟩) hE hK hP hD hS hA [0] [1, 2, 3, 4, 5, 6] (by decide) rfl (by decide) (wr := [(o, .inr (6, [.int mth, .int mn, .int mch, .ref oc, .ref oi, .int mcl, .ref ol, .int mgo, .int mmo, .ref ob])), (oc, .inl (cI, 14, .inl mcf)), (oi, .inl (cI, 3, .inl mif)), (ol, .inl (cI, 24, .inl mlf)), (ob, .inl (cI, mbn, .inl mbf)), (i6, .inl (cI, r4.2, .inl r4.1))]) rfl (by decide) hl.1 rfl rfl (Nat.le_of_ble_eq_true rfl) dX7_touchNow_120 ⟨(Nat.le_of_ble_eq_true rfl), (Nat.le_of_ble_eq_true rfl)⟩ (fun i17 H locs hP hD hS => ?_)
    have hP : va_P (dC, dI) vwCl [(o, .inr (6, [.int mth, .int mn, .int mch, .ref oc, .ref oi, .int mcl, .ref ol, .int mgo, .int mmo, .ref ob])), (oc, .inl (cI, 14, .inl mcf)), (oi, .inl (cI, 3, .inl mif)), (ol, .inl (cI, 24, .inl mlf)), (ob, .inl (cI, mbn, .inl mbf)), (i6, .inl (cI, r4.2, .inl r4.1)), (i3, .inl (cI, r1.2, .inl r1.1))] H := hP
    have hD : va_D A [(o, .inr (6, [.int mth, .int mn, .int mch, .ref oc, .ref oi, .int mcl, .ref ol, .int mgo, .int mmo, .ref ob])), (oc, .inl (cI, 14, .inl mcf)), (oi, .inl (cI, 3, .inl mif)), (ol, .inl (cI, 24, .inl mlf)), (ob, .inl (cI, mbn, .inl mbf)), (i6, .inl (cI, r4.2, .inl r4.1)), (i3, .inl (cI, r1.2, .inl r1.1))] := hD
    obtain rfl := Option.some.inj hF
    exact ct_i hx hb hr hlocks hK hP hD hS () rfl [0, 1, 2, 3, 4] (by decide) rfl (Nat.le_of_ble_eq_true rfl) (Nat.le_of_ble_eq_true rfl) dX7_touchNow_123
  have hF := (if_neg c11).symm.trans hF
  by_cases c18 : p0 = (0 : Int32)
  · have hF := (if_pos c18).symm.trans hF
    refine lv_tableIn (off := 42) (tgt := 56) hx hb dX7_touchNow_14 (gd_nlt c10 rfl) (gd_ngt c11 rfl) (by rw [c18]; rfl) (by decide) ?_
    refine lv_aload_n hx hb dX7_touchNow_56 rfl (lv_at hl 1 rfl) ?_
    refine va_alen hx hb hK hP 0 0 rfl ht0 (v := Int32.ofNat r1.2) rfl dX7_touchNow_57 ?_
    obtain rfl := Option.some.inj hF
    exact ct_i hx hb hr hlocks hK hP hD hS () rfl [1, 2, 3, 4, 5] (by decide) rfl (Nat.le_of_ble_eq_true rfl) (Nat.le_of_ble_eq_true rfl) dX7_touchNow_58
  have hF := (if_neg c18).symm.trans hF
  by_cases c19 : p0 = (1 : Int32)
  · have hF := (if_pos c19).symm.trans hF
    refine lv_tableIn (off := 45) (tgt := 59) hx hb dX7_touchNow_14 (gd_nlt c10 rfl) (gd_ngt c11 rfl) (by rw [c19]; rfl) (by decide) ?_
    refine lv_iload_n hx hb dX7_touchNow_59 rfl (lv_at hl 0 rfl) ?_
    obtain rfl := Option.some.inj hF
    exact ct_i hx hb hr hlocks hK hP hD hS () rfl [1, 2, 3, 4, 5] (by decide) rfl (Nat.le_of_ble_eq_true rfl) (Nat.le_of_ble_eq_true rfl) dX7_touchNow_60
  have hF := (if_neg c19).symm.trans hF
  by_cases c20 : p0 = (2 : Int32)
  · have hF := (if_pos c20).symm.trans hF
    refine lv_tableIn (off := 47) (tgt := 61) hx hb dX7_touchNow_14 (gd_nlt c10 rfl) (gd_ngt c11 rfl) (by rw [c20]; rfl) (by decide) ?_
    refine lv_aload_n hx hb dX7_touchNow_61 rfl (lv_at hl 1 rfl) ?_
    refine va_alen hx hb hK hP 0 0 rfl ht0 (v := Int32.ofNat r1.2) rfl dX7_touchNow_62 ?_
    refine lv_if_le (tgt := 78) hx hb dX7_touchNow_63 (by decide) (fun c21 => ?_) (fun c21 => ?_)
    · have hF := (if_pos c21).symm.trans hF
      refine lv_iconst (v := (0 : Int32)) hx hb dX7_touchNow_78 (by decide) ?_
      obtain rfl := Option.some.inj hF
      exact ct_i hx hb hr hlocks hK hP hD hS () rfl [1, 2, 3, 4, 5] (by decide) rfl (Nat.le_of_ble_eq_true rfl) (Nat.le_of_ble_eq_true rfl) dX7_touchNow_79
    · have hF := (if_neg c21).symm.trans hF
      refine lv_iload_n hx hb dX7_touchNow_66 rfl (lv_at hl 0 rfl) ?_
      refine lv_aload_n hx hb dX7_touchNow_67 rfl (lv_at hl 2 rfl) ?_
      obtain ⟨r22, hC23, hF⟩ := gd_b hF
      refine ct_callV (C := RX7) (As := []) (rest := [.int r7]) ⟨hx, hb, hml, hown, hts⟩ (kX7_rounds l dC dI tys cI ht0 o oc oi ol ob mth mn mch mcl mgo mmo mcf mif mlf mbn mbf r22 hC23) (cwV 0 hts gX7_touchNow_X7_rounds rfl rfl rfl (by decide +kernel) ⟨Nat.le_of_ble_eq_true rfl, Nat.le_of_ble_eq_true rfl⟩) hE hK hP hD hS hA [1, 2, 3, 4, 5] [0, 6] (by decide) rfl (by decide) (wr := [(i3, .inl (cI, r1.2, .inl r1.1)), (i6, .inl (cI, r4.2, .inl r4.1))]) rfl (by decide) (ci := 6) (T := TX7) (N := 10) (q0 := 0) rfl rfl hl.1 rfl rfl (Nat.le_of_ble_eq_true rfl) dX7_touchNow_68 ⟨(Nat.le_of_ble_eq_true rfl), (Nat.le_of_ble_eq_true rfl)⟩ (fun i24 H locs hP hD hS => ?_)
      have hP : va_P (dC, dI) vwCl [(i3, .inl (cI, r1.2, .inl r1.1)), (i6, .inl (cI, r4.2, .inl r4.1)), (o, .inr (6, [.int mth, .int mn, .int mch, .ref oc, .ref oi, .int mcl, .ref ol, .int mgo, .int mmo, .ref ob])), (oc, .inl (cI, 14, .inl mcf)), (oi, .inl (cI, 3, .inl mif)), (ol, .inl (cI, 24, .inl mlf)), (ob, .inl (cI, mbn, .inl mbf))] H := hP
      have hD : va_D A [(i3, .inl (cI, r1.2, .inl r1.1)), (i6, .inl (cI, r4.2, .inl r4.1)), (o, .inr (6, [.int mth, .int mn, .int mch, .ref oc, .ref oi, .int mcl, .ref ol, .int mgo, .int mmo, .ref ob])), (oc, .inl (cI, 14, .inl mcf)), (oi, .inl (cI, 3, .inl mif)), (ol, .inl (cI, 24, .inl mlf)), (ob, .inl (cI, mbn, .inl mbf))] := hD
      refine lv_icmp_ne (tgt := 78) hx hb dX7_touchNow_71 (by decide) (fun c25 => ?_) (fun c25 => ?_)
      · have hF := (if_neg c25).symm.trans hF
        refine lv_iconst (v := (0 : Int32)) hx hb dX7_touchNow_78 (by decide) ?_
        obtain rfl := Option.some.inj hF
        exact ct_i hx hb hr hlocks hK hP hD hS () rfl [2, 3, 4, 5, 6] (by decide) rfl (Nat.le_of_ble_eq_true rfl) (Nat.le_of_ble_eq_true rfl) dX7_touchNow_79
      · have hF := (if_pos c25).symm.trans hF
        refine lv_iconst (v := (1 : Int32)) hx hb dX7_touchNow_74 (by decide) ?_
        refine lv_goto (tgt := 79) hx hb dX7_touchNow_75 (by decide) ?_
        obtain rfl := Option.some.inj hF
        exact ct_i hx hb hr hlocks hK hP hD hS () rfl [2, 3, 4, 5, 6] (by decide) rfl (Nat.le_of_ble_eq_true rfl) (Nat.le_of_ble_eq_true rfl) dX7_touchNow_79
  have hF := (if_neg c20).symm.trans hF
  by_cases c26 : p0 = (3 : Int32)
  · have hF := (if_pos c26).symm.trans hF
    refine lv_tableIn (off := 66) (tgt := 80) hx hb dX7_touchNow_14 (gd_nlt c10 rfl) (gd_ngt c11 rfl) (by rw [c26]; rfl) (by decide) ?_
    refine lv_aload_n hx hb dX7_touchNow_80 rfl (lv_at hl 1 rfl) ?_
    obtain ⟨r27, hC28, hF⟩ := gd_b hF
    refine ct_callS (As := [.ref i3]) (rest := []) ⟨hx, hb, hml, hown, hts⟩ (kX7_firstAgain l dC dI tys cI ht0 i3 r1.2 r1.1 r27 hC28) (va_cwS 1 hts gX7_touchNow_X7_firstAgain rfl rfl rfl (by decide +kernel) ⟨Nat.le_of_ble_eq_true rfl, Nat.le_of_ble_eq_true rfl⟩) hE hK hP hD hS hA [0] [1, 2, 3, 4, 5, 6] (by decide) rfl (by decide) (wr := [(o, .inr (6, [.int mth, .int mn, .int mch, .ref oc, .ref oi, .int mcl, .ref ol, .int mgo, .int mmo, .ref ob])), (oc, .inl (cI, 14, .inl mcf)), (oi, .inl (cI, 3, .inl mif)), (ol, .inl (cI, 24, .inl mlf)), (ob, .inl (cI, mbn, .inl mbf)), (i6, .inl (cI, r4.2, .inl r4.1))]) rfl (by decide) hl.1 rfl rfl (Nat.le_of_ble_eq_true rfl) dX7_touchNow_81 ⟨(Nat.le_of_ble_eq_true rfl), (Nat.le_of_ble_eq_true rfl)⟩ (fun i29 H locs hP hD hS => ?_)
    have hP : va_P (dC, dI) vwCl [(o, .inr (6, [.int mth, .int mn, .int mch, .ref oc, .ref oi, .int mcl, .ref ol, .int mgo, .int mmo, .ref ob])), (oc, .inl (cI, 14, .inl mcf)), (oi, .inl (cI, 3, .inl mif)), (ol, .inl (cI, 24, .inl mlf)), (ob, .inl (cI, mbn, .inl mbf)), (i6, .inl (cI, r4.2, .inl r4.1)), (i3, .inl (cI, r1.2, .inl r1.1))] H := hP
    have hD : va_D A [(o, .inr (6, [.int mth, .int mn, .int mch, .ref oc, .ref oi, .int mcl, .ref ol, .int mgo, .int mmo, .ref ob])), (oc, .inl (cI, 14, .inl mcf)), (oi, .inl (cI, 3, .inl mif)), (ol, .inl (cI, 24, .inl mlf)), (ob, .inl (cI, mbn, .inl mbf)), (i6, .inl (cI, r4.2, .inl r4.1)), (i3, .inl (cI, r1.2, .inl r1.1))] := hD
    refine lv_iconst (v := (-1 : Int32)) hx hb dX7_touchNow_84 (by decide) ?_
    refine lv_icmp_ne (tgt := 92) hx hb dX7_touchNow_85 (by decide) (fun c30 => ?_) (fun c30 => ?_)
    · have hF := (if_neg c30).symm.trans hF
      refine lv_iconst (v := (0 : Int32)) hx hb dX7_touchNow_92 (by decide) ?_
      obtain rfl := Option.some.inj hF
      exact ct_i hx hb hr hlocks hK hP hD hS () rfl [0, 1, 2, 3, 4] (by decide) rfl (Nat.le_of_ble_eq_true rfl) (Nat.le_of_ble_eq_true rfl) dX7_touchNow_93
    · have hF := (if_pos c30).symm.trans hF
      refine lv_iconst (v := (1 : Int32)) hx hb dX7_touchNow_88 (by decide) ?_
      refine lv_goto (tgt := 93) hx hb dX7_touchNow_89 (by decide) ?_
      obtain rfl := Option.some.inj hF
      exact ct_i hx hb hr hlocks hK hP hD hS () rfl [0, 1, 2, 3, 4] (by decide) rfl (Nat.le_of_ble_eq_true rfl) (Nat.le_of_ble_eq_true rfl) dX7_touchNow_93
  have hF := (if_neg c26).symm.trans hF
  by_cases c31 : p0 = (4 : Int32)
  · have hF := (if_pos c31).symm.trans hF
    refine lv_tableIn (off := 80) (tgt := 94) hx hb dX7_touchNow_14 (gd_nlt c10 rfl) (gd_ngt c11 rfl) (by rw [c31]; rfl) (by decide) ?_
    refine lv_aload_n hx hb dX7_touchNow_94 rfl (lv_at hl 1 rfl) ?_
    obtain ⟨r32, hC33, hF⟩ := gd_b hF
    refine ct_callS (As := [.ref i3]) (rest := []) ⟨hx, hb, hml, hown, hts⟩ (kX7_firstAgain l dC dI tys cI ht0 i3 r1.2 r1.1 r32 hC33) (va_cwS 1 hts gX7_touchNow_X7_firstAgain rfl rfl rfl (by decide +kernel) ⟨Nat.le_of_ble_eq_true rfl, Nat.le_of_ble_eq_true rfl⟩) hE hK hP hD hS hA [0] [1, 2, 3, 4, 5, 6] (by decide) rfl (by decide) (wr := [(o, .inr (6, [.int mth, .int mn, .int mch, .ref oc, .ref oi, .int mcl, .ref ol, .int mgo, .int mmo, .ref ob])), (oc, .inl (cI, 14, .inl mcf)), (oi, .inl (cI, 3, .inl mif)), (ol, .inl (cI, 24, .inl mlf)), (ob, .inl (cI, mbn, .inl mbf)), (i6, .inl (cI, r4.2, .inl r4.1))]) rfl (by decide) hl.1 rfl rfl (Nat.le_of_ble_eq_true rfl) dX7_touchNow_95 ⟨(Nat.le_of_ble_eq_true rfl), (Nat.le_of_ble_eq_true rfl)⟩ (fun i34 H locs hP hD hS => ?_)
    have hP : va_P (dC, dI) vwCl [(o, .inr (6, [.int mth, .int mn, .int mch, .ref oc, .ref oi, .int mcl, .ref ol, .int mgo, .int mmo, .ref ob])), (oc, .inl (cI, 14, .inl mcf)), (oi, .inl (cI, 3, .inl mif)), (ol, .inl (cI, 24, .inl mlf)), (ob, .inl (cI, mbn, .inl mbf)), (i6, .inl (cI, r4.2, .inl r4.1)), (i3, .inl (cI, r1.2, .inl r1.1))] H := hP
    have hD : va_D A [(o, .inr (6, [.int mth, .int mn, .int mch, .ref oc, .ref oi, .int mcl, .ref ol, .int mgo, .int mmo, .ref ob])), (oc, .inl (cI, 14, .inl mcf)), (oi, .inl (cI, 3, .inl mif)), (ol, .inl (cI, 24, .inl mlf)), (ob, .inl (cI, mbn, .inl mbf)), (i6, .inl (cI, r4.2, .inl r4.1)), (i3, .inl (cI, r1.2, .inl r1.1))] := hD
    obtain rfl := Option.some.inj hF
    exact ct_i hx hb hr hlocks hK hP hD hS () rfl [0, 1, 2, 3, 4] (by decide) rfl (Nat.le_of_ble_eq_true rfl) (Nat.le_of_ble_eq_true rfl) dX7_touchNow_98
  have hF := (if_neg c31).symm.trans hF
  by_cases c35 : p0 = (5 : Int32)
  · have hF := (if_pos c35).symm.trans hF
    refine lv_tableIn (off := 85) (tgt := 99) hx hb dX7_touchNow_14 (gd_nlt c10 rfl) (gd_ngt c11 rfl) (by rw [c35]; rfl) (by decide) ?_
    refine lv_aload_n hx hb dX7_touchNow_99 rfl (lv_at hl 1 rfl) ?_
    refine va_alen hx hb hK hP 0 0 rfl ht0 (v := Int32.ofNat r1.2) rfl dX7_touchNow_100 ?_
    refine lv_if_ne (tgt := 108) hx hb dX7_touchNow_101 (by decide) (fun c36 => ?_) (fun c36 => ?_)
    · have hF := (if_neg c36).symm.trans hF
      refine lv_aload_n hx hb dX7_touchNow_108 rfl (lv_at hl 2 rfl) ?_
      obtain ⟨r37, hC38, hF⟩ := gd_b hF
      refine ct_callV (C := RX7) (As := []) (rest := []) ⟨hx, hb, hml, hown, hts⟩ (kX7_parts l dC dI tys cI ht0 o oc oi ol ob mth mn mch mcl mgo mmo mcf mif mlf mbn mbf r37 hC38) (cwV 0 hts gX7_touchNow_X7_parts rfl rfl rfl (by decide +kernel) ⟨Nat.le_of_ble_eq_true rfl, Nat.le_of_ble_eq_true rfl⟩) hE hK hP hD hS hA [1, 2, 3, 4, 5] [0, 6] (by decide) rfl (by decide) (wr := [(i3, .inl (cI, r1.2, .inl r1.1)), (i6, .inl (cI, r4.2, .inl r4.1))]) rfl (by decide) (ci := 6) (T := TX7) (N := 10) (q0 := 0) rfl rfl hl.1 rfl rfl (Nat.le_of_ble_eq_true rfl) dX7_touchNow_109 ⟨(Nat.le_of_ble_eq_true rfl), (Nat.le_of_ble_eq_true rfl)⟩ (fun i39 H locs hP hD hS => ?_)
      have hP : va_P (dC, dI) vwCl [(i3, .inl (cI, r1.2, .inl r1.1)), (i6, .inl (cI, r4.2, .inl r4.1)), (o, .inr (6, [.int mth, .int mn, .int mch, .ref oc, .ref oi, .int mcl, .ref ol, .int mgo, .int mmo, .ref ob])), (oc, .inl (cI, 14, .inl mcf)), (oi, .inl (cI, 3, .inl mif)), (ol, .inl (cI, 24, .inl mlf)), (ob, .inl (cI, mbn, .inl mbf))] H := hP
      have hD : va_D A [(i3, .inl (cI, r1.2, .inl r1.1)), (i6, .inl (cI, r4.2, .inl r4.1)), (o, .inr (6, [.int mth, .int mn, .int mch, .ref oc, .ref oi, .int mcl, .ref ol, .int mgo, .int mmo, .ref ob])), (oc, .inl (cI, 14, .inl mcf)), (oi, .inl (cI, 3, .inl mif)), (ol, .inl (cI, 24, .inl mlf)), (ob, .inl (cI, mbn, .inl mbf))] := hD
      obtain rfl := Option.some.inj hF
      exact ct_i hx hb hr hlocks hK hP hD hS () rfl [2, 3, 4, 5, 6] (by decide) rfl (Nat.le_of_ble_eq_true rfl) (Nat.le_of_ble_eq_true rfl) dX7_touchNow_112
    · have hF := (if_pos c36).symm.trans hF
      refine lv_iconst (v := (0 : Int32)) hx hb dX7_touchNow_104 (by decide) ?_
      refine lv_goto (tgt := 112) hx hb dX7_touchNow_105 (by decide) ?_
      obtain rfl := Option.some.inj hF
      exact ct_i hx hb hr hlocks hK hP hD hS () rfl [1, 2, 3, 4, 5] (by decide) rfl (Nat.le_of_ble_eq_true rfl) (Nat.le_of_ble_eq_true rfl) dX7_touchNow_112
  have hF := (if_neg c35).symm.trans hF
  by_cases c40 : p0 = (6 : Int32)
  · have hF := (if_pos c40).symm.trans hF
    refine lv_tableIn (off := 99) (tgt := 113) hx hb dX7_touchNow_14 (gd_nlt c10 rfl) (gd_ngt c11 rfl) (by rw [c40]; rfl) (by decide) ?_
    refine lv_aload_n hx hb dX7_touchNow_113 rfl (lv_at hl 2 rfl) ?_
    refine lv_aload_n hx hb dX7_touchNow_114 rfl (lv_at hl 1 rfl) ?_
    obtain ⟨r41, hC42, hF⟩ := gd_b hF
    refine ct_callV (C := RX7) (As := [.ref i3]) (rest := []) ⟨hx, hb, hml, hown, hts⟩ (kX7_musicOf l dC dI tys cI ht0 o oc oi ol ob i3 mth mn mch mcl mgo mmo mcf mif mlf mbn mbf r1.2 r1.1 r41 hC42) (cwV 1 hts gX7_touchNow_X7_musicOf rfl rfl rfl (by decide +kernel) ⟨Nat.le_of_ble_eq_true rfl, Nat.le_of_ble_eq_true rfl⟩) hE hK hP hD hS hA [1, 2, 3, 4, 5, 0] [6] (by decide) rfl (by decide) (wr := [(i6, .inl (cI, r4.2, .inl r4.1))]) rfl (by decide) (ci := 6) (T := TX7) (N := 10) (q0 := 0) rfl rfl hl.1 rfl rfl (Nat.le_of_ble_eq_true rfl) dX7_touchNow_115 ⟨(Nat.le_of_ble_eq_true rfl), (Nat.le_of_ble_eq_true rfl)⟩ (fun i43 H locs hP hD hS => ?_)
    have hP : va_P (dC, dI) vwCl [(i6, .inl (cI, r4.2, .inl r4.1)), (o, .inr (6, [.int mth, .int mn, .int mch, .ref oc, .ref oi, .int mcl, .ref ol, .int mgo, .int mmo, .ref ob])), (oc, .inl (cI, 14, .inl mcf)), (oi, .inl (cI, 3, .inl mif)), (ol, .inl (cI, 24, .inl mlf)), (ob, .inl (cI, mbn, .inl mbf)), (i3, .inl (cI, r1.2, .inl r1.1))] H := hP
    have hD : va_D A [(i6, .inl (cI, r4.2, .inl r4.1)), (o, .inr (6, [.int mth, .int mn, .int mch, .ref oc, .ref oi, .int mcl, .ref ol, .int mgo, .int mmo, .ref ob])), (oc, .inl (cI, 14, .inl mcf)), (oi, .inl (cI, 3, .inl mif)), (ol, .inl (cI, 24, .inl mlf)), (ob, .inl (cI, mbn, .inl mbf)), (i3, .inl (cI, r1.2, .inl r1.1))] := hD
    obtain rfl := Option.some.inj hF
    exact ct_i hx hb hr hlocks hK hP hD hS () rfl [1, 2, 3, 4, 5] (by decide) rfl (Nat.le_of_ble_eq_true rfl) (Nat.le_of_ble_eq_true rfl) dX7_touchNow_118
  have hF := (if_neg c40).symm.trans hF
  cases hF

def fX7_touch (mn : Int32) (mch : Int32) (mcl : Int32) (mcf : (Nat → Int32)) (mif : (Nat → Int32)) (mlf : (Nat → Int32)) (p0 : Int32) : Option (Int32 × Int32) := (fX7_isIn p0 (0 : Int32) (7 : Int32)).bind (fun r1 => if r1 = 0 then ((fX7_no (1 : Int32)).bind (fun r5 => some (r5.1, r5.2))) else ((fX7_touchNow mn mch mcl mcf mif mlf p0).bind (fun r8 => some (r8, (0 : Int32)))))
abbrev rmX7_touch : Room := { frames := 8, cells := 1606, slots := 11571, locals := 182 }
set_option maxHeartbeats 4000000 in
set_option maxRecDepth 100000 in
theorem kX7_touch (l : Launch) (dC : Nat → ClassId) (dI : Nat → Nat → Nat) (tys : List (ClassId × FieldType)) (cI : ClassId) (ht0 : tys[0]? = some (cI, .int)) (o oc oi ol ob : Nat) (mth : Int32) (mn : Int32) (mch : Int32) (mcl : Int32) (mgo : Int32) (mmo : Int32) (mcf : (Nat → Int32)) (mif : (Nat → Int32)) (mlf : (Nat → Int32)) (mbn : Nat) (mbf : (Nat → Int32)) (p0 : Int32) (r : (Int32 × Int32)) (hF : fX7_touch mn mch mcl mcf mif mlf p0 = some r) : ct l (dC, dI) tys yX7_touch wsX7_touch rmX7_touch [.ref o, .int p0] [(o, .inr (6, [.int mth, .int mn, .int mch, .ref oc, .ref oi, .int mcl, .ref ol, .int mgo, .int mmo, .ref ob])), (oc, .inl (cI, 14, .inl mcf)), (oi, .inl (cI, 3, .inl mif)), (ol, .inl (cI, 24, .inl mlf)), (ob, .inl (cI, mbn, .inl mbf))] (fun _ : Unit => some (.int r.1)) (fun _ : Unit => [(o, .inr (6, [.int r.2, .int mn, .int mch, .ref oc, .ref oi, .int mcl, .ref ol, .int mgo, .int mmo, .ref ob])), (oc, .inl (cI, 14, .inl mcf)), (oi, .inl (cI, 3, .inl mif)), (ol, .inl (cI, 24, .inl mlf)), (ob, .inl (cI, mbn, .inl mbf))]) := by
  refine ct_of (cc := cX7_touch) (maxL := 2) (ret := (some .int)) (by decide) rfl (Nat.le_of_ble_eq_true rfl) ?_
  intro p e s m below meth c A ls hx hb hr hml hts hown hlocks hname hE hK hP hD hA hS hl
  have hown : s.vm.findClass RX7 = some m.cls := hown
  have hl : lv_has ls 2 [(0, .ref o), (1, .int p0)] := hl
  unfold fX7_touch at hF
  have uX7 : ∀ w ∈ wsX70, w ∈ wsX7_touch := (fun _ h => (List.mem_cons_of_mem _ (List.mem_append_right _ h)))
  have w1 := hts (.fieldLink RX7 36 "BellfounderTowerModel" "thrown" "I") (List.mem_cons_of_mem _ (List.mem_append_left _ (List.mem_append_left _ (List.mem_of_getElem? (i := 0) rfl))))
  refine lv_aload_n hx hb dX7_touch_0 rfl (lv_at hl 0 rfl) ?_
  refine lv_iconst (v := (0 : Int32)) hx hb dX7_touch_1 (by decide) ?_
  refine va_put (D := (dC, dI)) (ci := 6) (v := .int (0 : Int32)) (ty := .int) (C := RX7) (T := TX7) (N := 10) hx hb hts uX7 tyX7 tyX7_ok nmX7 hown hK hP hD hS 0 rfl rfl 0 (by decide) w1 (fun _ h9 => h9) rfl (by decide +kernel) rfl rfl (Nat.le_of_ble_eq_true rfl) dX7_touch_2 (fun H locs hP hD hS => ?_)
  have hP : va_P (dC, dI) vwCl [(o, .inr (6, [.int (0 : Int32), .int mn, .int mch, .ref oc, .ref oi, .int mcl, .ref ol, .int mgo, .int mmo, .ref ob])), (oc, .inl (cI, 14, .inl mcf)), (oi, .inl (cI, 3, .inl mif)), (ol, .inl (cI, 24, .inl mlf)), (ob, .inl (cI, mbn, .inl mbf))] H := hP
  have hD : va_D A [(o, .inr (6, [.int (0 : Int32), .int mn, .int mch, .ref oc, .ref oi, .int mcl, .ref ol, .int mgo, .int mmo, .ref ob])), (oc, .inl (cI, 14, .inl mcf)), (oi, .inl (cI, 3, .inl mif)), (ol, .inl (cI, 24, .inl mlf)), (ob, .inl (cI, mbn, .inl mbf))] := hD
  refine lv_iload_n hx hb dX7_touch_5 rfl (lv_at hl 1 rfl) ?_
  refine lv_iconst (v := (0 : Int32)) hx hb dX7_touch_6 (by decide) ?_
  refine lv_bipush (v := (7 : Int32)) hx hb dX7_touch_7 (by decide) ?_
  obtain ⟨r1, hC2, hF⟩ := gd_b hF
  refine ct_callS (As := [.int p0, .int (0 : Int32), .int (7 : Int32)]) (rest := []) ⟨hx, hb, hml, hown, hts⟩ (kX7_isIn l dC dI tys cI ht0 p0 (0 : Int32) (7 : Int32) r1 hC2) (va_cwS 3 hts gX7_touch_X7_isIn rfl rfl rfl (by decide +kernel) ⟨Nat.le_of_ble_eq_true rfl, Nat.le_of_ble_eq_true rfl⟩) hE hK hP hD hS hA [] [0, 1, 2, 3, 4] (by decide) rfl (by decide) (wr := [(o, .inr (6, [.int (0 : Int32), .int mn, .int mch, .ref oc, .ref oi, .int mcl, .ref ol, .int mgo, .int mmo, .ref ob])), (oc, .inl (cI, 14, .inl mcf)), (oi, .inl (cI, 3, .inl mif)), (ol, .inl (cI, 24, .inl mlf)), (ob, .inl (cI, mbn, .inl mbf))]) rfl (by decide) hl.1 rfl rfl (Nat.le_of_ble_eq_true rfl) dX7_touch_9 ⟨(Nat.le_of_ble_eq_true rfl), (Nat.le_of_ble_eq_true rfl)⟩ (fun i3 H locs hP hD hS => ?_)
  have hP : va_P (dC, dI) vwCl [(o, .inr (6, [.int (0 : Int32), .int mn, .int mch, .ref oc, .ref oi, .int mcl, .ref ol, .int mgo, .int mmo, .ref ob])), (oc, .inl (cI, 14, .inl mcf)), (oi, .inl (cI, 3, .inl mif)), (ol, .inl (cI, 24, .inl mlf)), (ob, .inl (cI, mbn, .inl mbf))] H := hP
  have hD : va_D A [(o, .inr (6, [.int (0 : Int32), .int mn, .int mch, .ref oc, .ref oi, .int mcl, .ref ol, .int mgo, .int mmo, .ref ob])), (oc, .inl (cI, 14, .inl mcf)), (oi, .inl (cI, 3, .inl mif)), (ol, .inl (cI, 24, .inl mlf)), (ob, .inl (cI, mbn, .inl mbf))] := hD
  refine lv_if_eq (tgt := 23) hx hb dX7_touch_12 (by decide) (fun c4 => ?_) (fun c4 => ?_)
  · have hF := (if_pos c4).symm.trans hF
    refine lv_aload_n hx hb dX7_touch_23 rfl (lv_at hl 0 rfl) ?_
    refine lv_iconst (v := (1 : Int32)) hx hb dX7_touch_24 (by decide) ?_
    obtain ⟨r5, hC6, hF⟩ := gd_b hF
    refine ct_callV (C := RX7) (As := [.int (1 : Int32)]) (rest := []) ⟨hx, hb, hml, hown, hts⟩ (kX7_no l dC dI tys cI ht0 o oc oi ol ob (0 : Int32) mn mch mcl mgo mmo mcf mif mlf mbn mbf (1 : Int32) r5 hC6) (cwV 1 hts gX7_touch_X7_no rfl rfl rfl (by decide +kernel) ⟨Nat.le_of_ble_eq_true rfl, Nat.le_of_ble_eq_true rfl⟩) hE hK hP hD hS hA [0, 1, 2, 3, 4] [] (by decide) rfl (by decide) (wr := []) rfl (by decide) (ci := 6) (T := TX7) (N := 10) (q0 := 0) rfl rfl hl.1 rfl rfl (Nat.le_of_ble_eq_true rfl) dX7_touch_25 ⟨(Nat.le_of_ble_eq_true rfl), (Nat.le_of_ble_eq_true rfl)⟩ (fun i7 H locs hP hD hS => ?_)
    have hP : va_P (dC, dI) vwCl [(o, .inr (6, [.int r5.2, .int mn, .int mch, .ref oc, .ref oi, .int mcl, .ref ol, .int mgo, .int mmo, .ref ob])), (oc, .inl (cI, 14, .inl mcf)), (oi, .inl (cI, 3, .inl mif)), (ol, .inl (cI, 24, .inl mlf)), (ob, .inl (cI, mbn, .inl mbf))] H := hP
    have hD : va_D A [(o, .inr (6, [.int r5.2, .int mn, .int mch, .ref oc, .ref oi, .int mcl, .ref ol, .int mgo, .int mmo, .ref ob])), (oc, .inl (cI, 14, .inl mcf)), (oi, .inl (cI, 3, .inl mif)), (ol, .inl (cI, 24, .inl mlf)), (ob, .inl (cI, mbn, .inl mbf))] := hD
    obtain rfl := Option.some.inj hF
    exact ct_i hx hb hr hlocks hK hP hD hS () rfl [0, 1, 2, 3, 4] (by decide) rfl (Nat.le_of_ble_eq_true rfl) (Nat.le_of_ble_eq_true rfl) dX7_touch_28
  · have hF := (if_neg c4).symm.trans hF
    refine lv_aload_n hx hb dX7_touch_15 rfl (lv_at hl 0 rfl) ?_
    refine lv_iload_n hx hb dX7_touch_16 rfl (lv_at hl 1 rfl) ?_
    obtain ⟨r8, hC9, hF⟩ := gd_b hF
    refine ct_callV (C := RX7) (As := [.int p0]) (rest := []) ⟨hx, hb, hml, hown, hts⟩ (kX7_touchNow l dC dI tys cI ht0 o oc oi ol ob (0 : Int32) mn mch mcl mgo mmo mcf mif mlf mbn mbf p0 r8 hC9) (cwV 1 hts gX7_touch_X7_touchNow rfl rfl rfl (by decide +kernel) ⟨Nat.le_of_ble_eq_true rfl, Nat.le_of_ble_eq_true rfl⟩) hE hK hP hD hS hA [0, 1, 2, 3, 4] [] (by decide) rfl (by decide) (wr := []) rfl (by decide) (ci := 6) (T := TX7) (N := 10) (q0 := 0) rfl rfl hl.1 rfl rfl (Nat.le_of_ble_eq_true rfl) dX7_touch_17 ⟨(Nat.le_of_ble_eq_true rfl), (Nat.le_of_ble_eq_true rfl)⟩ (fun i10 H locs hP hD hS => ?_)
    have hP : va_P (dC, dI) vwCl [(o, .inr (6, [.int (0 : Int32), .int mn, .int mch, .ref oc, .ref oi, .int mcl, .ref ol, .int mgo, .int mmo, .ref ob])), (oc, .inl (cI, 14, .inl mcf)), (oi, .inl (cI, 3, .inl mif)), (ol, .inl (cI, 24, .inl mlf)), (ob, .inl (cI, mbn, .inl mbf))] H := hP
    have hD : va_D A [(o, .inr (6, [.int (0 : Int32), .int mn, .int mch, .ref oc, .ref oi, .int mcl, .ref ol, .int mgo, .int mmo, .ref ob])), (oc, .inl (cI, 14, .inl mcf)), (oi, .inl (cI, 3, .inl mif)), (ol, .inl (cI, 24, .inl mlf)), (ob, .inl (cI, mbn, .inl mbf))] := hD
    refine lv_goto (tgt := 28) hx hb dX7_touch_20 (by decide) ?_
    obtain rfl := Option.some.inj hF
    exact ct_i hx hb hr hlocks hK hP hD hS () rfl [0, 1, 2, 3, 4] (by decide) rfl (Nat.le_of_ble_eq_true rfl) (Nat.le_of_ble_eq_true rfl) dX7_touch_28

def fX7_row (mn : Int32) (mch : Int32) (mcl : Int32) (mcf : (Nat → Int32)) (mif : (Nat → Int32)) (mlf : (Nat → Int32)) (p0 : Int32) : Option (Int32 × Int32) := (fX7_rows_ mn mch mcl mcf mif mlf).bind (fun r1 => (fX7_isIn p0 (0 : Int32) ((Int32.ofNat r1.2) - (1 : Int32))).bind (fun r4 => if r4 = 0 then ((fX7_no (1 : Int32)).bind (fun r8 => some (r8.1, r8.2))) else (if (p0 < 0 ∨ r1.2 ≤ p0.toNatClampNeg) then none else (some ((r1.1 p0.toNatClampNeg), (0 : Int32))))))
abbrev rmX7_row : Room := { frames := 3, cells := 4, slots := 357, locals := 75 }
set_option maxHeartbeats 4000000 in
set_option maxRecDepth 100000 in
theorem kX7_row (l : Launch) (dC : Nat → ClassId) (dI : Nat → Nat → Nat) (tys : List (ClassId × FieldType)) (cI : ClassId) (ht0 : tys[0]? = some (cI, .int)) (o oc oi ol ob : Nat) (mth : Int32) (mn : Int32) (mch : Int32) (mcl : Int32) (mgo : Int32) (mmo : Int32) (mcf : (Nat → Int32)) (mif : (Nat → Int32)) (mlf : (Nat → Int32)) (mbn : Nat) (mbf : (Nat → Int32)) (p0 : Int32) (r : (Int32 × Int32)) (hF : fX7_row mn mch mcl mcf mif mlf p0 = some r) : ct l (dC, dI) tys yX7_row wsX7_row rmX7_row [.ref o, .int p0] [(o, .inr (6, [.int mth, .int mn, .int mch, .ref oc, .ref oi, .int mcl, .ref ol, .int mgo, .int mmo, .ref ob])), (oc, .inl (cI, 14, .inl mcf)), (oi, .inl (cI, 3, .inl mif)), (ol, .inl (cI, 24, .inl mlf)), (ob, .inl (cI, mbn, .inl mbf))] (fun _ : Unit => some (.int r.1)) (fun _ : Unit => [(o, .inr (6, [.int r.2, .int mn, .int mch, .ref oc, .ref oi, .int mcl, .ref ol, .int mgo, .int mmo, .ref ob])), (oc, .inl (cI, 14, .inl mcf)), (oi, .inl (cI, 3, .inl mif)), (ol, .inl (cI, 24, .inl mlf)), (ob, .inl (cI, mbn, .inl mbf))]) := by
  refine ct_of (cc := cX7_row) (maxL := 3) (ret := (some .int)) (by decide) rfl (Nat.le_of_ble_eq_true rfl) ?_
  intro p e s m below meth c A ls hx hb hr hml hts hown hlocks hname hE hK hP hD hA hS hl
  have hown : s.vm.findClass RX7 = some m.cls := hown
  have hl : lv_has ls 3 [(0, .ref o), (1, .int p0)] := hl
  unfold fX7_row at hF
  have uX7 : ∀ w ∈ wsX70, w ∈ wsX7_row := (fun _ h => (List.mem_cons_of_mem _ (List.mem_append_right _ h)))
  have w1 := hts (.fieldLink RX7 36 "BellfounderTowerModel" "thrown" "I") (List.mem_cons_of_mem _ (List.mem_append_left _ (List.mem_append_left _ (List.mem_of_getElem? (i := 0) rfl))))
  refine lv_aload_n hx hb dX7_row_0 rfl (lv_at hl 0 rfl) ?_
  refine lv_iconst (v := (0 : Int32)) hx hb dX7_row_1 (by decide) ?_
  refine va_put (D := (dC, dI)) (ci := 6) (v := .int (0 : Int32)) (ty := .int) (C := RX7) (T := TX7) (N := 10) hx hb hts uX7 tyX7 tyX7_ok nmX7 hown hK hP hD hS 0 rfl rfl 0 (by decide) w1 (fun _ h9 => h9) rfl (by decide +kernel) rfl rfl (Nat.le_of_ble_eq_true rfl) dX7_row_2 (fun H locs hP hD hS => ?_)
  have hP : va_P (dC, dI) vwCl [(o, .inr (6, [.int (0 : Int32), .int mn, .int mch, .ref oc, .ref oi, .int mcl, .ref ol, .int mgo, .int mmo, .ref ob])), (oc, .inl (cI, 14, .inl mcf)), (oi, .inl (cI, 3, .inl mif)), (ol, .inl (cI, 24, .inl mlf)), (ob, .inl (cI, mbn, .inl mbf))] H := hP
  have hD : va_D A [(o, .inr (6, [.int (0 : Int32), .int mn, .int mch, .ref oc, .ref oi, .int mcl, .ref ol, .int mgo, .int mmo, .ref ob])), (oc, .inl (cI, 14, .inl mcf)), (oi, .inl (cI, 3, .inl mif)), (ol, .inl (cI, 24, .inl mlf)), (ob, .inl (cI, mbn, .inl mbf))] := hD
  refine lv_aload_n hx hb dX7_row_5 rfl (lv_at hl 0 rfl) ?_
  obtain ⟨r1, hC2, hF⟩ := gd_b hF
  refine ct_callV (C := RX7) (As := []) (rest := []) ⟨hx, hb, hml, hown, hts⟩ (kX7_rows_ l dC dI tys cI ht0 o oc oi ol ob (0 : Int32) mn mch mcl mgo mmo mcf mif mlf mbn mbf r1 hC2) (cwV 0 hts gX7_row_X7_rows_ rfl rfl rfl (by decide +kernel) ⟨Nat.le_of_ble_eq_true rfl, Nat.le_of_ble_eq_true rfl⟩) hE hK hP hD hS hA [0, 1, 2, 3, 4] [] (by decide) rfl (by decide) (wr := []) rfl (by decide) (ci := 6) (T := TX7) (N := 10) (q0 := 0) rfl rfl hl.1 rfl rfl (Nat.le_of_ble_eq_true rfl) dX7_row_6 ⟨(Nat.le_of_ble_eq_true rfl), (Nat.le_of_ble_eq_true rfl)⟩ (fun i3 H locs hP hD hS => ?_)
  have hP : va_P (dC, dI) vwCl [(o, .inr (6, [.int (0 : Int32), .int mn, .int mch, .ref oc, .ref oi, .int mcl, .ref ol, .int mgo, .int mmo, .ref ob])), (oc, .inl (cI, 14, .inl mcf)), (oi, .inl (cI, 3, .inl mif)), (ol, .inl (cI, 24, .inl mlf)), (ob, .inl (cI, mbn, .inl mbf)), (i3, .inl (cI, r1.2, .inl r1.1))] H := hP
  have hD : va_D A [(o, .inr (6, [.int (0 : Int32), .int mn, .int mch, .ref oc, .ref oi, .int mcl, .ref ol, .int mgo, .int mmo, .ref ob])), (oc, .inl (cI, 14, .inl mcf)), (oi, .inl (cI, 3, .inl mif)), (ol, .inl (cI, 24, .inl mlf)), (ob, .inl (cI, mbn, .inl mbf)), (i3, .inl (cI, r1.2, .inl r1.1))] := hD
  refine lv_astore_n (lv' := [(2, .ref i3), (0, .ref o), (1, .int p0)]) hx hb dX7_row_9 rfl hl (by decide) rfl (fun ls hl => ?_)
  refine lv_iload_n hx hb dX7_row_10 rfl (lv_at hl 2 rfl) ?_
  refine lv_iconst (v := (0 : Int32)) hx hb dX7_row_11 (by decide) ?_
  refine lv_aload_n hx hb dX7_row_12 rfl (lv_at hl 0 rfl) ?_
  refine va_alen hx hb hK hP 5 0 rfl ht0 (v := Int32.ofNat r1.2) rfl dX7_row_13 ?_
  refine lv_iconst (v := (1 : Int32)) hx hb dX7_row_14 (by decide) ?_
  refine lv_isub hx hb dX7_row_15 ?_
  obtain ⟨r4, hC5, hF⟩ := gd_b hF
  refine ct_callS (As := [.int p0, .int (0 : Int32), .int ((Int32.ofNat r1.2) - (1 : Int32))]) (rest := []) ⟨hx, hb, hml, hown, hts⟩ (kX7_isIn l dC dI tys cI ht0 p0 (0 : Int32) ((Int32.ofNat r1.2) - (1 : Int32)) r4 hC5) (va_cwS 3 hts gX7_row_X7_isIn rfl rfl rfl (by decide +kernel) ⟨Nat.le_of_ble_eq_true rfl, Nat.le_of_ble_eq_true rfl⟩) hE hK hP hD hS hA [] [0, 1, 2, 3, 4, 5] (by decide) rfl (by decide) (wr := [(o, .inr (6, [.int (0 : Int32), .int mn, .int mch, .ref oc, .ref oi, .int mcl, .ref ol, .int mgo, .int mmo, .ref ob])), (oc, .inl (cI, 14, .inl mcf)), (oi, .inl (cI, 3, .inl mif)), (ol, .inl (cI, 24, .inl mlf)), (ob, .inl (cI, mbn, .inl mbf)), (i3, .inl (cI, r1.2, .inl r1.1))]) rfl (by decide) hl.1 rfl rfl (Nat.le_of_ble_eq_true rfl) dX7_row_16 ⟨(Nat.le_of_ble_eq_true rfl), (Nat.le_of_ble_eq_true rfl)⟩ (fun i6 H locs hP hD hS => ?_)
  have hP : va_P (dC, dI) vwCl [(o, .inr (6, [.int (0 : Int32), .int mn, .int mch, .ref oc, .ref oi, .int mcl, .ref ol, .int mgo, .int mmo, .ref ob])), (oc, .inl (cI, 14, .inl mcf)), (oi, .inl (cI, 3, .inl mif)), (ol, .inl (cI, 24, .inl mlf)), (ob, .inl (cI, mbn, .inl mbf)), (i3, .inl (cI, r1.2, .inl r1.1))] H := hP
  have hD : va_D A [(o, .inr (6, [.int (0 : Int32), .int mn, .int mch, .ref oc, .ref oi, .int mcl, .ref ol, .int mgo, .int mmo, .ref ob])), (oc, .inl (cI, 14, .inl mcf)), (oi, .inl (cI, 3, .inl mif)), (ol, .inl (cI, 24, .inl mlf)), (ob, .inl (cI, mbn, .inl mbf)), (i3, .inl (cI, r1.2, .inl r1.1))] := hD
  refine lv_if_eq (tgt := 28) hx hb dX7_row_19 (by decide) (fun c7 => ?_) (fun c7 => ?_)
  · have hF := (if_pos c7).symm.trans hF
    refine lv_aload_n hx hb dX7_row_28 rfl (lv_at hl 1 rfl) ?_
    refine lv_iconst (v := (1 : Int32)) hx hb dX7_row_29 (by decide) ?_
    obtain ⟨r8, hC9, hF⟩ := gd_b hF
    refine ct_callV (C := RX7) (As := [.int (1 : Int32)]) (rest := []) ⟨hx, hb, hml, hown, hts⟩ (kX7_no l dC dI tys cI ht0 o oc oi ol ob (0 : Int32) mn mch mcl mgo mmo mcf mif mlf mbn mbf (1 : Int32) r8 hC9) (cwV 1 hts gX7_row_X7_no rfl rfl rfl (by decide +kernel) ⟨Nat.le_of_ble_eq_true rfl, Nat.le_of_ble_eq_true rfl⟩) hE hK hP hD hS hA [0, 1, 2, 3, 4] [5] (by decide) rfl (by decide) (wr := [(i3, .inl (cI, r1.2, .inl r1.1))]) rfl (by decide) (ci := 6) (T := TX7) (N := 10) (q0 := 0) rfl rfl hl.1 rfl rfl (Nat.le_of_ble_eq_true rfl) dX7_row_30 ⟨(Nat.le_of_ble_eq_true rfl), (Nat.le_of_ble_eq_true rfl)⟩ (fun i10 H locs hP hD hS => ?_)
    have hP : va_P (dC, dI) vwCl [(i3, .inl (cI, r1.2, .inl r1.1)), (o, .inr (6, [.int r8.2, .int mn, .int mch, .ref oc, .ref oi, .int mcl, .ref ol, .int mgo, .int mmo, .ref ob])), (oc, .inl (cI, 14, .inl mcf)), (oi, .inl (cI, 3, .inl mif)), (ol, .inl (cI, 24, .inl mlf)), (ob, .inl (cI, mbn, .inl mbf))] H := hP
    have hD : va_D A [(i3, .inl (cI, r1.2, .inl r1.1)), (o, .inr (6, [.int r8.2, .int mn, .int mch, .ref oc, .ref oi, .int mcl, .ref ol, .int mgo, .int mmo, .ref ob])), (oc, .inl (cI, 14, .inl mcf)), (oi, .inl (cI, 3, .inl mif)), (ol, .inl (cI, 24, .inl mlf)), (ob, .inl (cI, mbn, .inl mbf))] := hD
    obtain rfl := Option.some.inj hF
    exact ct_i hx hb hr hlocks hK hP hD hS () rfl [1, 2, 3, 4, 5] (by decide) rfl (Nat.le_of_ble_eq_true rfl) (Nat.le_of_ble_eq_true rfl) dX7_row_33
  · have hF := (if_neg c7).symm.trans hF
    refine lv_aload_n hx hb dX7_row_22 rfl (lv_at hl 0 rfl) ?_
    refine lv_iload_n hx hb dX7_row_23 rfl (lv_at hl 2 rfl) ?_
    obtain ⟨g11, hF⟩ := gd_n hF
    refine va_iald hx hb hK hP 5 0 rfl ht0 g11 dX7_row_24 ?_
    refine lv_goto (tgt := 33) hx hb dX7_row_25 (by decide) ?_
    obtain rfl := Option.some.inj hF
    exact ct_i hx hb hr hlocks hK hP hD hS () rfl [0, 1, 2, 3, 4] (by decide) rfl (Nat.le_of_ble_eq_true rfl) (Nat.le_of_ble_eq_true rfl) dX7_row_33

def fX7_where (mn : Int32) (mch : Int32) (mcl : Int32) (mcf : (Nat → Int32)) (mif : (Nat → Int32)) (mlf : (Nat → Int32)) (p0 : Int32) : Option (Int32 × Int32) := (fX7_isRow mn p0).bind (fun r1 => if r1 = 0 then ((fX7_no (1 : Int32)).bind (fun r12 => some (r12.1, r12.2))) else ((fX7_rows_ mn mch mcl mcf mif mlf).bind (fun r5 => (fX7_first r5.2 r5.1 p0).bind (fun r8 => if r8 = (Int32.ofNat r5.2) then (some ((-1 : Int32), (0 : Int32))) else (some (r8, (0 : Int32)))))))
abbrev rmX7_where : Room := { frames := 3, cells := 7, slots := 374, locals := 75 }
set_option maxHeartbeats 4000000 in
set_option maxRecDepth 100000 in
theorem kX7_where (l : Launch) (dC : Nat → ClassId) (dI : Nat → Nat → Nat) (tys : List (ClassId × FieldType)) (cI : ClassId) (ht0 : tys[0]? = some (cI, .int)) (cZ : ClassId) (ht1 : tys[1]? = some (cZ, .boolean)) (o oc oi ol ob : Nat) (mth : Int32) (mn : Int32) (mch : Int32) (mcl : Int32) (mgo : Int32) (mmo : Int32) (mcf : (Nat → Int32)) (mif : (Nat → Int32)) (mlf : (Nat → Int32)) (mbn : Nat) (mbf : (Nat → Int32)) (p0 : Int32) (r : (Int32 × Int32)) (hF : fX7_where mn mch mcl mcf mif mlf p0 = some r) : ct l (dC, dI) tys yX7_where wsX7_where rmX7_where [.ref o, .int p0] [(o, .inr (6, [.int mth, .int mn, .int mch, .ref oc, .ref oi, .int mcl, .ref ol, .int mgo, .int mmo, .ref ob])), (oc, .inl (cI, 14, .inl mcf)), (oi, .inl (cI, 3, .inl mif)), (ol, .inl (cI, 24, .inl mlf)), (ob, .inl (cI, mbn, .inl mbf))] (fun _ : Unit => some (.int r.1)) (fun _ : Unit => [(o, .inr (6, [.int r.2, .int mn, .int mch, .ref oc, .ref oi, .int mcl, .ref ol, .int mgo, .int mmo, .ref ob])), (oc, .inl (cI, 14, .inl mcf)), (oi, .inl (cI, 3, .inl mif)), (ol, .inl (cI, 24, .inl mlf)), (ob, .inl (cI, mbn, .inl mbf))]) := by
  refine ct_of (cc := cX7_where) (maxL := 4) (ret := (some .int)) (by decide) rfl (Nat.le_of_ble_eq_true rfl) ?_
  intro p e s m below meth c A ls hx hb hr hml hts hown hlocks hname hE hK hP hD hA hS hl
  have hown : s.vm.findClass RX7 = some m.cls := hown
  have hl : lv_has ls 4 [(0, .ref o), (1, .int p0)] := hl
  unfold fX7_where at hF
  have uX7 : ∀ w ∈ wsX70, w ∈ wsX7_where := (fun _ h => (List.mem_cons_of_mem _ (List.mem_append_right _ h)))
  have w1 := hts (.fieldLink RX7 36 "BellfounderTowerModel" "thrown" "I") (List.mem_cons_of_mem _ (List.mem_append_left _ (List.mem_append_left _ (List.mem_of_getElem? (i := 0) rfl))))
  refine lv_aload_n hx hb dX7_where_0 rfl (lv_at hl 0 rfl) ?_
  refine lv_iconst (v := (0 : Int32)) hx hb dX7_where_1 (by decide) ?_
  refine va_put (D := (dC, dI)) (ci := 6) (v := .int (0 : Int32)) (ty := .int) (C := RX7) (T := TX7) (N := 10) hx hb hts uX7 tyX7 tyX7_ok nmX7 hown hK hP hD hS 0 rfl rfl 0 (by decide) w1 (fun _ h9 => h9) rfl (by decide +kernel) rfl rfl (Nat.le_of_ble_eq_true rfl) dX7_where_2 (fun H locs hP hD hS => ?_)
  have hP : va_P (dC, dI) vwCl [(o, .inr (6, [.int (0 : Int32), .int mn, .int mch, .ref oc, .ref oi, .int mcl, .ref ol, .int mgo, .int mmo, .ref ob])), (oc, .inl (cI, 14, .inl mcf)), (oi, .inl (cI, 3, .inl mif)), (ol, .inl (cI, 24, .inl mlf)), (ob, .inl (cI, mbn, .inl mbf))] H := hP
  have hD : va_D A [(o, .inr (6, [.int (0 : Int32), .int mn, .int mch, .ref oc, .ref oi, .int mcl, .ref ol, .int mgo, .int mmo, .ref ob])), (oc, .inl (cI, 14, .inl mcf)), (oi, .inl (cI, 3, .inl mif)), (ol, .inl (cI, 24, .inl mlf)), (ob, .inl (cI, mbn, .inl mbf))] := hD
  refine lv_aload_n hx hb dX7_where_5 rfl (lv_at hl 0 rfl) ?_
  refine lv_iload_n hx hb dX7_where_6 rfl (lv_at hl 1 rfl) ?_
  obtain ⟨r1, hC2, hF⟩ := gd_b hF
  refine ct_callV (C := RX7) (As := [.int p0]) (rest := []) ⟨hx, hb, hml, hown, hts⟩ (kX7_isRow l dC dI tys cI ht0 cZ ht1 o oc oi ol ob (0 : Int32) mn mch mcl mgo mmo mcf mif mlf mbn mbf p0 r1 hC2) (cwV 1 hts gX7_where_X7_isRow rfl rfl rfl (by decide +kernel) ⟨Nat.le_of_ble_eq_true rfl, Nat.le_of_ble_eq_true rfl⟩) hE hK hP hD hS hA [0, 1, 2, 3, 4] [] (by decide) rfl (by decide) (wr := []) rfl (by decide) (ci := 6) (T := TX7) (N := 10) (q0 := 0) rfl rfl hl.1 rfl rfl (Nat.le_of_ble_eq_true rfl) dX7_where_7 ⟨(Nat.le_of_ble_eq_true rfl), (Nat.le_of_ble_eq_true rfl)⟩ (fun i3 H locs hP hD hS => ?_)
  have hP : va_P (dC, dI) vwCl [(o, .inr (6, [.int (0 : Int32), .int mn, .int mch, .ref oc, .ref oi, .int mcl, .ref ol, .int mgo, .int mmo, .ref ob])), (oc, .inl (cI, 14, .inl mcf)), (oi, .inl (cI, 3, .inl mif)), (ol, .inl (cI, 24, .inl mlf)), (ob, .inl (cI, mbn, .inl mbf))] H := hP
  have hD : va_D A [(o, .inr (6, [.int (0 : Int32), .int mn, .int mch, .ref oc, .ref oi, .int mcl, .ref ol, .int mgo, .int mmo, .ref ob])), (oc, .inl (cI, 14, .inl mcf)), (oi, .inl (cI, 3, .inl mif)), (ol, .inl (cI, 24, .inl mlf)), (ob, .inl (cI, mbn, .inl mbf))] := hD
  refine lv_if_ne (tgt := 19) hx hb dX7_where_10 (by decide) (fun c4 => ?_) (fun c4 => ?_)
  · have hF := (if_neg c4).symm.trans hF
    refine lv_aload_n hx hb dX7_where_19 rfl (lv_at hl 0 rfl) ?_
    obtain ⟨r5, hC6, hF⟩ := gd_b hF
    refine ct_callV (C := RX7) (As := []) (rest := []) ⟨hx, hb, hml, hown, hts⟩ (kX7_rows_ l dC dI tys cI ht0 o oc oi ol ob (0 : Int32) mn mch mcl mgo mmo mcf mif mlf mbn mbf r5 hC6) (cwV 0 hts gX7_where_X7_rows_ rfl rfl rfl (by decide +kernel) ⟨Nat.le_of_ble_eq_true rfl, Nat.le_of_ble_eq_true rfl⟩) hE hK hP hD hS hA [0, 1, 2, 3, 4] [] (by decide) rfl (by decide) (wr := []) rfl (by decide) (ci := 6) (T := TX7) (N := 10) (q0 := 0) rfl rfl hl.1 rfl rfl (Nat.le_of_ble_eq_true rfl) dX7_where_20 ⟨(Nat.le_of_ble_eq_true rfl), (Nat.le_of_ble_eq_true rfl)⟩ (fun i7 H locs hP hD hS => ?_)
    have hP : va_P (dC, dI) vwCl [(o, .inr (6, [.int (0 : Int32), .int mn, .int mch, .ref oc, .ref oi, .int mcl, .ref ol, .int mgo, .int mmo, .ref ob])), (oc, .inl (cI, 14, .inl mcf)), (oi, .inl (cI, 3, .inl mif)), (ol, .inl (cI, 24, .inl mlf)), (ob, .inl (cI, mbn, .inl mbf)), (i7, .inl (cI, r5.2, .inl r5.1))] H := hP
    have hD : va_D A [(o, .inr (6, [.int (0 : Int32), .int mn, .int mch, .ref oc, .ref oi, .int mcl, .ref ol, .int mgo, .int mmo, .ref ob])), (oc, .inl (cI, 14, .inl mcf)), (oi, .inl (cI, 3, .inl mif)), (ol, .inl (cI, 24, .inl mlf)), (ob, .inl (cI, mbn, .inl mbf)), (i7, .inl (cI, r5.2, .inl r5.1))] := hD
    refine lv_astore_n (lv' := [(2, .ref i7), (0, .ref o), (1, .int p0)]) hx hb dX7_where_23 rfl hl (by decide) rfl (fun ls hl => ?_)
    refine lv_aload_n hx hb dX7_where_24 rfl (lv_at hl 0 rfl) ?_
    refine lv_iload_n hx hb dX7_where_25 rfl (lv_at hl 2 rfl) ?_
    obtain ⟨r8, hC9, hF⟩ := gd_b hF
    refine ct_callS (As := [.ref i7, .int p0]) (rest := []) ⟨hx, hb, hml, hown, hts⟩ (kX7_first l dC dI tys cI ht0 i7 r5.2 r5.1 p0 r8 hC9) (va_cwS 2 hts gX7_where_X7_first rfl rfl rfl (by decide +kernel) ⟨Nat.le_of_ble_eq_true rfl, Nat.le_of_ble_eq_true rfl⟩) hE hK hP hD hS hA [5] [0, 1, 2, 3, 4] (by decide) rfl (by decide) (wr := [(o, .inr (6, [.int (0 : Int32), .int mn, .int mch, .ref oc, .ref oi, .int mcl, .ref ol, .int mgo, .int mmo, .ref ob])), (oc, .inl (cI, 14, .inl mcf)), (oi, .inl (cI, 3, .inl mif)), (ol, .inl (cI, 24, .inl mlf)), (ob, .inl (cI, mbn, .inl mbf))]) rfl (by decide) hl.1 rfl rfl (Nat.le_of_ble_eq_true rfl) dX7_where_26 ⟨(Nat.le_of_ble_eq_true rfl), (Nat.le_of_ble_eq_true rfl)⟩ (fun i10 H locs hP hD hS => ?_)
    have hP : va_P (dC, dI) vwCl [(o, .inr (6, [.int (0 : Int32), .int mn, .int mch, .ref oc, .ref oi, .int mcl, .ref ol, .int mgo, .int mmo, .ref ob])), (oc, .inl (cI, 14, .inl mcf)), (oi, .inl (cI, 3, .inl mif)), (ol, .inl (cI, 24, .inl mlf)), (ob, .inl (cI, mbn, .inl mbf)), (i7, .inl (cI, r5.2, .inl r5.1))] H := hP
    have hD : va_D A [(o, .inr (6, [.int (0 : Int32), .int mn, .int mch, .ref oc, .ref oi, .int mcl, .ref ol, .int mgo, .int mmo, .ref ob])), (oc, .inl (cI, 14, .inl mcf)), (oi, .inl (cI, 3, .inl mif)), (ol, .inl (cI, 24, .inl mlf)), (ob, .inl (cI, mbn, .inl mbf)), (i7, .inl (cI, r5.2, .inl r5.1))] := hD
    refine lv_istore_n (lv' := [(3, .int r8), (2, .ref i7), (0, .ref o), (1, .int p0)]) hx hb dX7_where_29 rfl hl (by decide) rfl (fun ls hl => ?_)
    refine lv_iload_n hx hb dX7_where_30 rfl (lv_at hl 0 rfl) ?_
    refine lv_aload_n hx hb dX7_where_31 rfl (lv_at hl 1 rfl) ?_
    refine va_alen hx hb hK hP 5 0 rfl ht0 (v := Int32.ofNat r5.2) rfl dX7_where_32 ?_
    refine lv_icmp_ne (tgt := 40) hx hb dX7_where_33 (by decide) (fun c11 => ?_) (fun c11 => ?_)
    · have hF := (if_neg c11).symm.trans hF
      refine lv_iload_n hx hb dX7_where_40 rfl (lv_at hl 0 rfl) ?_
      obtain rfl := Option.some.inj hF
      exact ct_i hx hb hr hlocks hK hP hD hS () rfl [0, 1, 2, 3, 4] (by decide) rfl (Nat.le_of_ble_eq_true rfl) (Nat.le_of_ble_eq_true rfl) dX7_where_41
    · have hF := (if_pos c11).symm.trans hF
      refine lv_iconst (v := (-1 : Int32)) hx hb dX7_where_36 (by decide) ?_
      refine lv_goto (tgt := 41) hx hb dX7_where_37 (by decide) ?_
      obtain rfl := Option.some.inj hF
      exact ct_i hx hb hr hlocks hK hP hD hS () rfl [0, 1, 2, 3, 4] (by decide) rfl (Nat.le_of_ble_eq_true rfl) (Nat.le_of_ble_eq_true rfl) dX7_where_41
  · have hF := (if_pos c4).symm.trans hF
    refine lv_aload_n hx hb dX7_where_13 rfl (lv_at hl 0 rfl) ?_
    refine lv_iconst (v := (1 : Int32)) hx hb dX7_where_14 (by decide) ?_
    obtain ⟨r12, hC13, hF⟩ := gd_b hF
    refine ct_callV (C := RX7) (As := [.int (1 : Int32)]) (rest := []) ⟨hx, hb, hml, hown, hts⟩ (kX7_no l dC dI tys cI ht0 o oc oi ol ob (0 : Int32) mn mch mcl mgo mmo mcf mif mlf mbn mbf (1 : Int32) r12 hC13) (cwV 1 hts gX7_where_X7_no rfl rfl rfl (by decide +kernel) ⟨Nat.le_of_ble_eq_true rfl, Nat.le_of_ble_eq_true rfl⟩) hE hK hP hD hS hA [0, 1, 2, 3, 4] [] (by decide) rfl (by decide) (wr := []) rfl (by decide) (ci := 6) (T := TX7) (N := 10) (q0 := 0) rfl rfl hl.1 rfl rfl (Nat.le_of_ble_eq_true rfl) dX7_where_15 ⟨(Nat.le_of_ble_eq_true rfl), (Nat.le_of_ble_eq_true rfl)⟩ (fun i14 H locs hP hD hS => ?_)
    have hP : va_P (dC, dI) vwCl [(o, .inr (6, [.int r12.2, .int mn, .int mch, .ref oc, .ref oi, .int mcl, .ref ol, .int mgo, .int mmo, .ref ob])), (oc, .inl (cI, 14, .inl mcf)), (oi, .inl (cI, 3, .inl mif)), (ol, .inl (cI, 24, .inl mlf)), (ob, .inl (cI, mbn, .inl mbf))] H := hP
    have hD : va_D A [(o, .inr (6, [.int r12.2, .int mn, .int mch, .ref oc, .ref oi, .int mcl, .ref ol, .int mgo, .int mmo, .ref ob])), (oc, .inl (cI, 14, .inl mcf)), (oi, .inl (cI, 3, .inl mif)), (ol, .inl (cI, 24, .inl mlf)), (ob, .inl (cI, mbn, .inl mbf))] := hD
    obtain rfl := Option.some.inj hF
    exact ct_i hx hb hr hlocks hK hP hD hS () rfl [0, 1, 2, 3, 4] (by decide) rfl (Nat.le_of_ble_eq_true rfl) (Nat.le_of_ble_eq_true rfl) dX7_where_18

def fX7_placeNow_X10  (x4_10 : Int32) (x3_10 : Int32) : Option Int32 := some (x3_10)
def fX7_placeNow_L10 (p0 : Int32) (K10 : Int32 → Int32 → Option Int32) : Nat → Int32 → Int32 → Option Int32
  | 0, _, _ => none
  | n + 1, x4_10, x3_10 => if (x4_10 - x4_10 / (10 : Int32) * (10 : Int32)) = p0 then (K10 x4_10 x3_10) else ((fX7_placeNow_L10 p0 K10 n) (x4_10 / (10 : Int32)) (x3_10 + (-1 : Int32)))
def fX7_placeNow (mn : Int32) (p0 : Int32) (p1 : Int32) : Option Int32 := fX7_placeNow_L10 p0 fX7_placeNow_X10 1000 p1 (mn - (1 : Int32))
abbrev rmX7_placeNow : Room := { frames := 0, cells := 0, slots := 0, locals := 0 }
set_option maxHeartbeats 4000000 in
set_option maxRecDepth 100000 in
theorem kX7_placeNow (l : Launch) (dC : Nat → ClassId) (dI : Nat → Nat → Nat) (tys : List (ClassId × FieldType)) (cI : ClassId) (ht0 : tys[0]? = some (cI, .int)) (o oc oi ol ob : Nat) (mth : Int32) (mn : Int32) (mch : Int32) (mcl : Int32) (mgo : Int32) (mmo : Int32) (mcf : (Nat → Int32)) (mif : (Nat → Int32)) (mlf : (Nat → Int32)) (mbn : Nat) (mbf : (Nat → Int32)) (p0 : Int32) (p1 : Int32) (r : Int32) (hF : fX7_placeNow mn p0 p1 = some r) : ct l (dC, dI) tys yX7_placeNow wsX7_placeNow rmX7_placeNow [.ref o, .int p0, .int p1] [(o, .inr (6, [.int mth, .int mn, .int mch, .ref oc, .ref oi, .int mcl, .ref ol, .int mgo, .int mmo, .ref ob])), (oc, .inl (cI, 14, .inl mcf)), (oi, .inl (cI, 3, .inl mif)), (ol, .inl (cI, 24, .inl mlf)), (ob, .inl (cI, mbn, .inl mbf))] (fun _ : Unit => some (.int r)) (fun _ : Unit => [(o, .inr (6, [.int mth, .int mn, .int mch, .ref oc, .ref oi, .int mcl, .ref ol, .int mgo, .int mmo, .ref ob])), (oc, .inl (cI, 14, .inl mcf)), (oi, .inl (cI, 3, .inl mif)), (ol, .inl (cI, 24, .inl mlf)), (ob, .inl (cI, mbn, .inl mbf))]) := by
  refine ct_of (cc := cX7_placeNow) (maxL := 5) (ret := (some .int)) (by decide) rfl (Nat.le_of_ble_eq_true rfl) ?_
  intro p e s m below meth c A ls hx hb hr hml hts hown hlocks hname hE hK hP hD hA hS hl
  have hown : s.vm.findClass RX7 = some m.cls := hown
  have hl : lv_has ls 5 [(0, .ref o), (1, .int p0), (2, .int p1)] := hl
  unfold fX7_placeNow at hF
  have uX7 : ∀ w ∈ wsX70, w ∈ wsX7_placeNow := (fun _ h => (List.mem_cons_of_mem _ (List.mem_append_right _ h)))
  have w1 := hts (.fieldLink RX7 26 "BellfounderTowerModel" "n" "I") (List.mem_cons_of_mem _ (List.mem_append_left _ (List.mem_of_getElem? (i := 0) rfl)))
  refine lv_aload_n hx hb dX7_placeNow_0 rfl (lv_at hl 0 rfl) ?_
  refine va_get (D := (dC, dI)) (ci := 6) (v := .int mn) (C := RX7) (T := TX7) (N := 10) hx hb hts uX7 hown hK hP 0 rfl rfl 1 (by decide) w1 (fun _ h9 => h9) rfl dX7_placeNow_1 ?_
  refine lv_iconst (v := (1 : Int32)) hx hb dX7_placeNow_4 (by decide) ?_
  refine lv_isub hx hb dX7_placeNow_5 ?_
  refine lv_istore_n (lv' := [(3, .int (mn - (1 : Int32))), (0, .ref o), (1, .int p0), (2, .int p1)]) hx hb dX7_placeNow_6 rfl hl (by decide) rfl (fun ls hl => ?_)
  refine lv_iload_n hx hb dX7_placeNow_7 rfl (lv_at hl 3 rfl) ?_
  refine lv_istore (lv' := [(4, .int p1), (3, .int (mn - (1 : Int32))), (0, .ref o), (1, .int p0), (2, .int p1)]) hx hb dX7_placeNow_8 hl (by decide) rfl (fun ls hl => ?_)
  have X10 : ∀ (x4_10 : Int32) (x3_10 : Int32) (H : Heap) (locs : List Loc) (ls : Array Slot), fX7_placeNow_X10 x4_10 x3_10 = some r → va_P (dC, dI) vwCl [(o, .inr (6, [.int mth, .int mn, .int mch, .ref oc, .ref oi, .int mcl, .ref ol, .int mgo, .int mmo, .ref ob])), (oc, .inl (cI, 14, .inl mcf)), (oi, .inl (cI, 3, .inl mif)), (ol, .inl (cI, 24, .inl mlf)), (ob, .inl (cI, mbn, .inl mbf))] H → va_D A [(o, .inr (6, [.int mth, .int mn, .int mch, .ref oc, .ref oi, .int mcl, .ref ol, .int mgo, .int mmo, .ref ob])), (oc, .inl (cI, 14, .inl mcf)), (oi, .inl (cI, 3, .inl mif)), (ol, .inl (cI, 24, .inl mlf)), (ob, .inl (cI, mbn, .inl mbf))] → va_S A s.heap H locs → lv_has ls 5 [(4, .int x4_10), (3, .int x3_10), (0, .ref o), (1, .int p0), (2, .int p1)] → W p l e rmX7_placeNow s m ([.ref o, .int p0, .int p1] : List Value).toArray below meth c H locs 0 0 (MQ below (ct_Q (dC, dI) tys (fun _ : Unit => some (.int r)) (fun _ : Unit => [(o, .inr (6, [.int mth, .int mn, .int mch, .ref oc, .ref oi, .int mcl, .ref ol, .int mgo, .int mmo, .ref ob])), (oc, .inl (cI, 14, .inl mcf)), (oi, .inl (cI, 3, .inl mif)), (ol, .inl (cI, 24, .inl mlf)), (ob, .inl (cI, mbn, .inl mbf))]) A) ([.ref o, .int p0, .int p1] : List Value).toArray s rmX7_placeNow.cells rmX7_placeNow.slots A) (F0 m 32 ls []) := by
    intro x4_10 x3_10 H locs ls hF hP hD hS hl
    unfold fX7_placeNow_X10 at hF
    refine lv_iload_n hx hb dX7_placeNow_32 rfl (lv_at hl 1 rfl) ?_
    obtain rfl := Option.some.inj hF
    exact ct_i hx hb hr hlocks hK hP hD hS () rfl [0, 1, 2, 3, 4] (by decide) rfl (Nat.le_of_ble_eq_true rfl) (Nat.le_of_ble_eq_true rfl) dX7_placeNow_33
  have L10 : ∀ (n10 : Nat) (x4_10 : Int32) (x3_10 : Int32) (H : Heap) (locs : List Loc) (ls : Array Slot), fX7_placeNow_L10 p0 fX7_placeNow_X10 n10 x4_10 x3_10 = some r → va_P (dC, dI) vwCl [(o, .inr (6, [.int mth, .int mn, .int mch, .ref oc, .ref oi, .int mcl, .ref ol, .int mgo, .int mmo, .ref ob])), (oc, .inl (cI, 14, .inl mcf)), (oi, .inl (cI, 3, .inl mif)), (ol, .inl (cI, 24, .inl mlf)), (ob, .inl (cI, mbn, .inl mbf))] H → va_D A [(o, .inr (6, [.int mth, .int mn, .int mch, .ref oc, .ref oi, .int mcl, .ref ol, .int mgo, .int mmo, .ref ob])), (oc, .inl (cI, 14, .inl mcf)), (oi, .inl (cI, 3, .inl mif)), (ol, .inl (cI, 24, .inl mlf)), (ob, .inl (cI, mbn, .inl mbf))] → va_S A s.heap H locs → lv_has ls 5 [(4, .int x4_10), (3, .int x3_10), (0, .ref o), (1, .int p0), (2, .int p1)] → W p l e rmX7_placeNow s m ([.ref o, .int p0, .int p1] : List Value).toArray below meth c H locs 0 0 (MQ below (ct_Q (dC, dI) tys (fun _ : Unit => some (.int r)) (fun _ : Unit => [(o, .inr (6, [.int mth, .int mn, .int mch, .ref oc, .ref oi, .int mcl, .ref ol, .int mgo, .int mmo, .ref ob])), (oc, .inl (cI, 14, .inl mcf)), (oi, .inl (cI, 3, .inl mif)), (ol, .inl (cI, 24, .inl mlf)), (ob, .inl (cI, mbn, .inl mbf))]) A) ([.ref o, .int p0, .int p1] : List Value).toArray s rmX7_placeNow.cells rmX7_placeNow.slots A) (F0 m 10 ls []) := by
    intro n10
    induction n10 with
    | zero => intro x4_10 x3_10 H locs ls hF; rw [fX7_placeNow_L10] at hF; cases hF
    | succ n10 ih10 =>
      intro x4_10 x3_10 H locs ls hF hP hD hS hl
      rw [fX7_placeNow_L10] at hF
      refine lv_iload hx hb dX7_placeNow_10 (lv_at hl 0 rfl) ?_
      refine lv_bipush (v := (10 : Int32)) hx hb dX7_placeNow_12 (by decide) ?_
      refine lv_irem hx hb dX7_placeNow_14 (by decide) ?_
      refine lv_iload_n hx hb dX7_placeNow_15 rfl (lv_at hl 3 rfl) ?_
      refine lv_icmp_eq (tgt := 32) hx hb dX7_placeNow_16 (by decide) (fun c1 => ?_) (fun c1 => ?_)
      · have hF := (if_pos c1).symm.trans hF
        exact X10 x4_10 x3_10 _ _ _ hF (hP.sub [0, 1, 2, 3, 4] rfl) (hD.sub [0, 1, 2, 3, 4] (by decide) rfl) hS (lv_sub hl [0, 1, 2, 3, 4] rfl)
      · have hF := (if_neg c1).symm.trans hF
        refine lv_iinc (v := x3_10 + (-1 : Int32)) (lv' := [(3, .int (x3_10 + (-1 : Int32))), (4, .int x4_10), (0, .ref o), (1, .int p0), (2, .int p1)]) hx hb dX7_placeNow_19 hl (k := 1) rfl rfl (by decide) rfl (fun ls hl => ?_)
        refine lv_iload hx hb dX7_placeNow_22 (lv_at hl 1 rfl) ?_
        refine lv_bipush (v := (10 : Int32)) hx hb dX7_placeNow_24 (by decide) ?_
        refine lv_idiv hx hb dX7_placeNow_26 (by decide) ?_
        refine lv_istore (lv' := [(4, .int (x4_10 / (10 : Int32))), (3, .int (x3_10 + (-1 : Int32))), (0, .ref o), (1, .int p0), (2, .int p1)]) hx hb dX7_placeNow_27 hl (by decide) rfl (fun ls hl => ?_)
        refine lv_goto (tgt := 10) hx hb dX7_placeNow_29 (by decide) ?_
        exact ih10 (x4_10 / (10 : Int32)) (x3_10 + (-1 : Int32)) _ _ _ hF (hP.sub [0, 1, 2, 3, 4] rfl) (hD.sub [0, 1, 2, 3, 4] (by decide) rfl) hS (lv_sub hl [0, 1, 2, 3, 4] rfl)
  exact L10 1000 p1 (mn - (1 : Int32)) _ _ _ hF (hP.sub [0, 1, 2, 3, 4] rfl) (hD.sub [0, 1, 2, 3, 4] (by decide) rfl) hS (lv_sub hl [0, 1, 2, 3, 4] rfl)

def fX7_place (mn : Int32) (mch : Int32) (mcl : Int32) (mcf : (Nat → Int32)) (mif : (Nat → Int32)) (mlf : (Nat → Int32)) (p0 : Int32) (p1 : Int32) : Option (Int32 × Int32) := (fX7_rows_ mn mch mcl mcf mif mlf).bind (fun r1 => (fX7_isIn p0 (1 : Int32) mn).bind (fun r4 => if r4 = 0 then ((fX7_no (1 : Int32)).bind (fun r8 => some (r8.1, r8.2))) else ((fX7_isIn p1 (0 : Int32) ((Int32.ofNat r1.2) - (1 : Int32))).bind (fun r11 => if r11 = 0 then ((fX7_no (1 : Int32)).bind (fun r15 => some (r15.1, r15.2))) else (if (p1 < 0 ∨ r1.2 ≤ p1.toNatClampNeg) then none else ((fX7_placeNow mn p0 (r1.1 p1.toNatClampNeg)).bind (fun r19 => some ((r19 + (1 : Int32)), (0 : Int32)))))))))
abbrev rmX7_place : Room := { frames := 3, cells := 4, slots := 357, locals := 75 }
set_option maxHeartbeats 4000000 in
set_option maxRecDepth 100000 in
theorem kX7_place (l : Launch) (dC : Nat → ClassId) (dI : Nat → Nat → Nat) (tys : List (ClassId × FieldType)) (cI : ClassId) (ht0 : tys[0]? = some (cI, .int)) (o oc oi ol ob : Nat) (mth : Int32) (mn : Int32) (mch : Int32) (mcl : Int32) (mgo : Int32) (mmo : Int32) (mcf : (Nat → Int32)) (mif : (Nat → Int32)) (mlf : (Nat → Int32)) (mbn : Nat) (mbf : (Nat → Int32)) (p0 : Int32) (p1 : Int32) (r : (Int32 × Int32)) (hF : fX7_place mn mch mcl mcf mif mlf p0 p1 = some r) : ct l (dC, dI) tys yX7_place wsX7_place rmX7_place [.ref o, .int p0, .int p1] [(o, .inr (6, [.int mth, .int mn, .int mch, .ref oc, .ref oi, .int mcl, .ref ol, .int mgo, .int mmo, .ref ob])), (oc, .inl (cI, 14, .inl mcf)), (oi, .inl (cI, 3, .inl mif)), (ol, .inl (cI, 24, .inl mlf)), (ob, .inl (cI, mbn, .inl mbf))] (fun _ : Unit => some (.int r.1)) (fun _ : Unit => [(o, .inr (6, [.int r.2, .int mn, .int mch, .ref oc, .ref oi, .int mcl, .ref ol, .int mgo, .int mmo, .ref ob])), (oc, .inl (cI, 14, .inl mcf)), (oi, .inl (cI, 3, .inl mif)), (ol, .inl (cI, 24, .inl mlf)), (ob, .inl (cI, mbn, .inl mbf))]) := by
  refine ct_of (cc := cX7_place) (maxL := 4) (ret := (some .int)) (by decide) rfl (Nat.le_of_ble_eq_true rfl) ?_
  intro p e s m below meth c A ls hx hb hr hml hts hown hlocks hname hE hK hP hD hA hS hl
  have hown : s.vm.findClass RX7 = some m.cls := hown
  have hl : lv_has ls 4 [(0, .ref o), (1, .int p0), (2, .int p1)] := hl
  unfold fX7_place at hF
  have uX7 : ∀ w ∈ wsX70, w ∈ wsX7_place := (fun _ h => (List.mem_cons_of_mem _ (List.mem_append_right _ h)))
  have w1 := hts (.fieldLink RX7 36 "BellfounderTowerModel" "thrown" "I") (List.mem_cons_of_mem _ (List.mem_append_left _ (List.mem_append_left _ (List.mem_of_getElem? (i := 0) rfl))))
  have w2 := hts (.fieldLink RX7 26 "BellfounderTowerModel" "n" "I") (List.mem_cons_of_mem _ (List.mem_append_left _ (List.mem_append_left _ (List.mem_of_getElem? (i := 1) rfl))))
  refine lv_aload_n hx hb dX7_place_0 rfl (lv_at hl 0 rfl) ?_
  refine lv_iconst (v := (0 : Int32)) hx hb dX7_place_1 (by decide) ?_
  refine va_put (D := (dC, dI)) (ci := 6) (v := .int (0 : Int32)) (ty := .int) (C := RX7) (T := TX7) (N := 10) hx hb hts uX7 tyX7 tyX7_ok nmX7 hown hK hP hD hS 0 rfl rfl 0 (by decide) w1 (fun _ h9 => h9) rfl (by decide +kernel) rfl rfl (Nat.le_of_ble_eq_true rfl) dX7_place_2 (fun H locs hP hD hS => ?_)
  have hP : va_P (dC, dI) vwCl [(o, .inr (6, [.int (0 : Int32), .int mn, .int mch, .ref oc, .ref oi, .int mcl, .ref ol, .int mgo, .int mmo, .ref ob])), (oc, .inl (cI, 14, .inl mcf)), (oi, .inl (cI, 3, .inl mif)), (ol, .inl (cI, 24, .inl mlf)), (ob, .inl (cI, mbn, .inl mbf))] H := hP
  have hD : va_D A [(o, .inr (6, [.int (0 : Int32), .int mn, .int mch, .ref oc, .ref oi, .int mcl, .ref ol, .int mgo, .int mmo, .ref ob])), (oc, .inl (cI, 14, .inl mcf)), (oi, .inl (cI, 3, .inl mif)), (ol, .inl (cI, 24, .inl mlf)), (ob, .inl (cI, mbn, .inl mbf))] := hD
  refine lv_aload_n hx hb dX7_place_5 rfl (lv_at hl 0 rfl) ?_
  obtain ⟨r1, hC2, hF⟩ := gd_b hF
  refine ct_callV (C := RX7) (As := []) (rest := []) ⟨hx, hb, hml, hown, hts⟩ (kX7_rows_ l dC dI tys cI ht0 o oc oi ol ob (0 : Int32) mn mch mcl mgo mmo mcf mif mlf mbn mbf r1 hC2) (cwV 0 hts gX7_place_X7_rows_ rfl rfl rfl (by decide +kernel) ⟨Nat.le_of_ble_eq_true rfl, Nat.le_of_ble_eq_true rfl⟩) hE hK hP hD hS hA [0, 1, 2, 3, 4] [] (by decide) rfl (by decide) (wr := []) rfl (by decide) (ci := 6) (T := TX7) (N := 10) (q0 := 0) rfl rfl hl.1 rfl rfl (Nat.le_of_ble_eq_true rfl) dX7_place_6 ⟨(Nat.le_of_ble_eq_true rfl), (Nat.le_of_ble_eq_true rfl)⟩ (fun i3 H locs hP hD hS => ?_)
  have hP : va_P (dC, dI) vwCl [(o, .inr (6, [.int (0 : Int32), .int mn, .int mch, .ref oc, .ref oi, .int mcl, .ref ol, .int mgo, .int mmo, .ref ob])), (oc, .inl (cI, 14, .inl mcf)), (oi, .inl (cI, 3, .inl mif)), (ol, .inl (cI, 24, .inl mlf)), (ob, .inl (cI, mbn, .inl mbf)), (i3, .inl (cI, r1.2, .inl r1.1))] H := hP
  have hD : va_D A [(o, .inr (6, [.int (0 : Int32), .int mn, .int mch, .ref oc, .ref oi, .int mcl, .ref ol, .int mgo, .int mmo, .ref ob])), (oc, .inl (cI, 14, .inl mcf)), (oi, .inl (cI, 3, .inl mif)), (ol, .inl (cI, 24, .inl mlf)), (ob, .inl (cI, mbn, .inl mbf)), (i3, .inl (cI, r1.2, .inl r1.1))] := hD
  refine lv_astore_n (lv' := [(3, .ref i3), (0, .ref o), (1, .int p0), (2, .int p1)]) hx hb dX7_place_9 rfl hl (by decide) rfl (fun ls hl => ?_)
  refine lv_iload_n hx hb dX7_place_10 rfl (lv_at hl 2 rfl) ?_
  refine lv_iconst (v := (1 : Int32)) hx hb dX7_place_11 (by decide) ?_
  refine lv_aload_n hx hb dX7_place_12 rfl (lv_at hl 1 rfl) ?_
  refine va_get (D := (dC, dI)) (ci := 6) (v := .int mn) (C := RX7) (T := TX7) (N := 10) hx hb hts uX7 hown hK hP 0 rfl rfl 1 (by decide) w2 (fun _ h9 => h9) rfl dX7_place_13 ?_
  obtain ⟨r4, hC5, hF⟩ := gd_b hF
  refine ct_callS (As := [.int p0, .int (1 : Int32), .int mn]) (rest := []) ⟨hx, hb, hml, hown, hts⟩ (kX7_isIn l dC dI tys cI ht0 p0 (1 : Int32) mn r4 hC5) (va_cwS 3 hts gX7_place_X7_isIn rfl rfl rfl (by decide +kernel) ⟨Nat.le_of_ble_eq_true rfl, Nat.le_of_ble_eq_true rfl⟩) hE hK hP hD hS hA [] [0, 1, 2, 3, 4, 5] (by decide) rfl (by decide) (wr := [(o, .inr (6, [.int (0 : Int32), .int mn, .int mch, .ref oc, .ref oi, .int mcl, .ref ol, .int mgo, .int mmo, .ref ob])), (oc, .inl (cI, 14, .inl mcf)), (oi, .inl (cI, 3, .inl mif)), (ol, .inl (cI, 24, .inl mlf)), (ob, .inl (cI, mbn, .inl mbf)), (i3, .inl (cI, r1.2, .inl r1.1))]) rfl (by decide) hl.1 rfl rfl (Nat.le_of_ble_eq_true rfl) dX7_place_16 ⟨(Nat.le_of_ble_eq_true rfl), (Nat.le_of_ble_eq_true rfl)⟩ (fun i6 H locs hP hD hS => ?_)
  have hP : va_P (dC, dI) vwCl [(o, .inr (6, [.int (0 : Int32), .int mn, .int mch, .ref oc, .ref oi, .int mcl, .ref ol, .int mgo, .int mmo, .ref ob])), (oc, .inl (cI, 14, .inl mcf)), (oi, .inl (cI, 3, .inl mif)), (ol, .inl (cI, 24, .inl mlf)), (ob, .inl (cI, mbn, .inl mbf)), (i3, .inl (cI, r1.2, .inl r1.1))] H := hP
  have hD : va_D A [(o, .inr (6, [.int (0 : Int32), .int mn, .int mch, .ref oc, .ref oi, .int mcl, .ref ol, .int mgo, .int mmo, .ref ob])), (oc, .inl (cI, 14, .inl mcf)), (oi, .inl (cI, 3, .inl mif)), (ol, .inl (cI, 24, .inl mlf)), (ob, .inl (cI, mbn, .inl mbf)), (i3, .inl (cI, r1.2, .inl r1.1))] := hD
  refine lv_if_eq (tgt := 47) hx hb dX7_place_19 (by decide) (fun c7 => ?_) (fun c7 => ?_)
  · have hF := (if_pos c7).symm.trans hF
    refine lv_aload_n hx hb dX7_place_47 rfl (lv_at hl 1 rfl) ?_
    refine lv_iconst (v := (1 : Int32)) hx hb dX7_place_48 (by decide) ?_
    obtain ⟨r8, hC9, hF⟩ := gd_b hF
    refine ct_callV (C := RX7) (As := [.int (1 : Int32)]) (rest := []) ⟨hx, hb, hml, hown, hts⟩ (kX7_no l dC dI tys cI ht0 o oc oi ol ob (0 : Int32) mn mch mcl mgo mmo mcf mif mlf mbn mbf (1 : Int32) r8 hC9) (cwV 1 hts gX7_place_X7_no rfl rfl rfl (by decide +kernel) ⟨Nat.le_of_ble_eq_true rfl, Nat.le_of_ble_eq_true rfl⟩) hE hK hP hD hS hA [0, 1, 2, 3, 4] [5] (by decide) rfl (by decide) (wr := [(i3, .inl (cI, r1.2, .inl r1.1))]) rfl (by decide) (ci := 6) (T := TX7) (N := 10) (q0 := 0) rfl rfl hl.1 rfl rfl (Nat.le_of_ble_eq_true rfl) dX7_place_49 ⟨(Nat.le_of_ble_eq_true rfl), (Nat.le_of_ble_eq_true rfl)⟩ (fun i10 H locs hP hD hS => ?_)
    have hP : va_P (dC, dI) vwCl [(i3, .inl (cI, r1.2, .inl r1.1)), (o, .inr (6, [.int r8.2, .int mn, .int mch, .ref oc, .ref oi, .int mcl, .ref ol, .int mgo, .int mmo, .ref ob])), (oc, .inl (cI, 14, .inl mcf)), (oi, .inl (cI, 3, .inl mif)), (ol, .inl (cI, 24, .inl mlf)), (ob, .inl (cI, mbn, .inl mbf))] H := hP
    have hD : va_D A [(i3, .inl (cI, r1.2, .inl r1.1)), (o, .inr (6, [.int r8.2, .int mn, .int mch, .ref oc, .ref oi, .int mcl, .ref ol, .int mgo, .int mmo, .ref ob])), (oc, .inl (cI, 14, .inl mcf)), (oi, .inl (cI, 3, .inl mif)), (ol, .inl (cI, 24, .inl mlf)), (ob, .inl (cI, mbn, .inl mbf))] := hD
    obtain rfl := Option.some.inj hF
    exact ct_i hx hb hr hlocks hK hP hD hS () rfl [1, 2, 3, 4, 5] (by decide) rfl (Nat.le_of_ble_eq_true rfl) (Nat.le_of_ble_eq_true rfl) dX7_place_52
  · have hF := (if_neg c7).symm.trans hF
    refine lv_iload_n hx hb dX7_place_22 rfl (lv_at hl 3 rfl) ?_
    refine lv_iconst (v := (0 : Int32)) hx hb dX7_place_23 (by decide) ?_
    refine lv_aload_n hx hb dX7_place_24 rfl (lv_at hl 0 rfl) ?_
    refine va_alen hx hb hK hP 5 0 rfl ht0 (v := Int32.ofNat r1.2) rfl dX7_place_25 ?_
    refine lv_iconst (v := (1 : Int32)) hx hb dX7_place_26 (by decide) ?_
    refine lv_isub hx hb dX7_place_27 ?_
    obtain ⟨r11, hC12, hF⟩ := gd_b hF
    refine ct_callS (As := [.int p1, .int (0 : Int32), .int ((Int32.ofNat r1.2) - (1 : Int32))]) (rest := []) ⟨hx, hb, hml, hown, hts⟩ (kX7_isIn l dC dI tys cI ht0 p1 (0 : Int32) ((Int32.ofNat r1.2) - (1 : Int32)) r11 hC12) (va_cwS 3 hts gX7_place_X7_isIn rfl rfl rfl (by decide +kernel) ⟨Nat.le_of_ble_eq_true rfl, Nat.le_of_ble_eq_true rfl⟩) hE hK hP hD hS hA [] [0, 1, 2, 3, 4, 5] (by decide) rfl (by decide) (wr := [(o, .inr (6, [.int (0 : Int32), .int mn, .int mch, .ref oc, .ref oi, .int mcl, .ref ol, .int mgo, .int mmo, .ref ob])), (oc, .inl (cI, 14, .inl mcf)), (oi, .inl (cI, 3, .inl mif)), (ol, .inl (cI, 24, .inl mlf)), (ob, .inl (cI, mbn, .inl mbf)), (i3, .inl (cI, r1.2, .inl r1.1))]) rfl (by decide) hl.1 rfl rfl (Nat.le_of_ble_eq_true rfl) dX7_place_28 ⟨(Nat.le_of_ble_eq_true rfl), (Nat.le_of_ble_eq_true rfl)⟩ (fun i13 H locs hP hD hS => ?_)
    have hP : va_P (dC, dI) vwCl [(o, .inr (6, [.int (0 : Int32), .int mn, .int mch, .ref oc, .ref oi, .int mcl, .ref ol, .int mgo, .int mmo, .ref ob])), (oc, .inl (cI, 14, .inl mcf)), (oi, .inl (cI, 3, .inl mif)), (ol, .inl (cI, 24, .inl mlf)), (ob, .inl (cI, mbn, .inl mbf)), (i3, .inl (cI, r1.2, .inl r1.1))] H := hP
    have hD : va_D A [(o, .inr (6, [.int (0 : Int32), .int mn, .int mch, .ref oc, .ref oi, .int mcl, .ref ol, .int mgo, .int mmo, .ref ob])), (oc, .inl (cI, 14, .inl mcf)), (oi, .inl (cI, 3, .inl mif)), (ol, .inl (cI, 24, .inl mlf)), (ob, .inl (cI, mbn, .inl mbf)), (i3, .inl (cI, r1.2, .inl r1.1))] := hD
    refine lv_if_eq (tgt := 47) hx hb dX7_place_31 (by decide) (fun c14 => ?_) (fun c14 => ?_)
    · have hF := (if_pos c14).symm.trans hF
      refine lv_aload_n hx hb dX7_place_47 rfl (lv_at hl 1 rfl) ?_
      refine lv_iconst (v := (1 : Int32)) hx hb dX7_place_48 (by decide) ?_
      obtain ⟨r15, hC16, hF⟩ := gd_b hF
      refine ct_callV (C := RX7) (As := [.int (1 : Int32)]) (rest := []) ⟨hx, hb, hml, hown, hts⟩ (kX7_no l dC dI tys cI ht0 o oc oi ol ob (0 : Int32) mn mch mcl mgo mmo mcf mif mlf mbn mbf (1 : Int32) r15 hC16) (cwV 1 hts gX7_place_X7_no rfl rfl rfl (by decide +kernel) ⟨Nat.le_of_ble_eq_true rfl, Nat.le_of_ble_eq_true rfl⟩) hE hK hP hD hS hA [0, 1, 2, 3, 4] [5] (by decide) rfl (by decide) (wr := [(i3, .inl (cI, r1.2, .inl r1.1))]) rfl (by decide) (ci := 6) (T := TX7) (N := 10) (q0 := 0) rfl rfl hl.1 rfl rfl (Nat.le_of_ble_eq_true rfl) dX7_place_49 ⟨(Nat.le_of_ble_eq_true rfl), (Nat.le_of_ble_eq_true rfl)⟩ (fun i17 H locs hP hD hS => ?_)
      have hP : va_P (dC, dI) vwCl [(i3, .inl (cI, r1.2, .inl r1.1)), (o, .inr (6, [.int r15.2, .int mn, .int mch, .ref oc, .ref oi, .int mcl, .ref ol, .int mgo, .int mmo, .ref ob])), (oc, .inl (cI, 14, .inl mcf)), (oi, .inl (cI, 3, .inl mif)), (ol, .inl (cI, 24, .inl mlf)), (ob, .inl (cI, mbn, .inl mbf))] H := hP
      have hD : va_D A [(i3, .inl (cI, r1.2, .inl r1.1)), (o, .inr (6, [.int r15.2, .int mn, .int mch, .ref oc, .ref oi, .int mcl, .ref ol, .int mgo, .int mmo, .ref ob])), (oc, .inl (cI, 14, .inl mcf)), (oi, .inl (cI, 3, .inl mif)), (ol, .inl (cI, 24, .inl mlf)), (ob, .inl (cI, mbn, .inl mbf))] := hD
      obtain rfl := Option.some.inj hF
      exact ct_i hx hb hr hlocks hK hP hD hS () rfl [1, 2, 3, 4, 5] (by decide) rfl (Nat.le_of_ble_eq_true rfl) (Nat.le_of_ble_eq_true rfl) dX7_place_52
    · have hF := (if_neg c14).symm.trans hF
      refine lv_aload_n hx hb dX7_place_34 rfl (lv_at hl 1 rfl) ?_
      refine lv_iload_n hx hb dX7_place_35 rfl (lv_at hl 2 rfl) ?_
      refine lv_aload_n hx hb dX7_place_36 rfl (lv_at hl 0 rfl) ?_
      refine lv_iload_n hx hb dX7_place_37 rfl (lv_at hl 3 rfl) ?_
      obtain ⟨g18, hF⟩ := gd_n hF
      refine va_iald hx hb hK hP 5 0 rfl ht0 g18 dX7_place_38 ?_
      obtain ⟨r19, hC20, hF⟩ := gd_b hF
      refine ct_callV (C := RX7) (As := [.int p0, .int (r1.1 p1.toNatClampNeg)]) (rest := []) ⟨hx, hb, hml, hown, hts⟩ (kX7_placeNow l dC dI tys cI ht0 o oc oi ol ob (0 : Int32) mn mch mcl mgo mmo mcf mif mlf mbn mbf p0 (r1.1 p1.toNatClampNeg) r19 hC20) (cwV 2 hts gX7_place_X7_placeNow rfl rfl rfl (by decide +kernel) ⟨Nat.le_of_ble_eq_true rfl, Nat.le_of_ble_eq_true rfl⟩) hE hK hP hD hS hA [0, 1, 2, 3, 4] [5] (by decide) rfl (by decide) (wr := [(i3, .inl (cI, r1.2, .inl r1.1))]) rfl (by decide) (ci := 6) (T := TX7) (N := 10) (q0 := 0) rfl rfl hl.1 rfl rfl (Nat.le_of_ble_eq_true rfl) dX7_place_39 ⟨(Nat.le_of_ble_eq_true rfl), (Nat.le_of_ble_eq_true rfl)⟩ (fun i21 H locs hP hD hS => ?_)
      have hP : va_P (dC, dI) vwCl [(i3, .inl (cI, r1.2, .inl r1.1)), (o, .inr (6, [.int (0 : Int32), .int mn, .int mch, .ref oc, .ref oi, .int mcl, .ref ol, .int mgo, .int mmo, .ref ob])), (oc, .inl (cI, 14, .inl mcf)), (oi, .inl (cI, 3, .inl mif)), (ol, .inl (cI, 24, .inl mlf)), (ob, .inl (cI, mbn, .inl mbf))] H := hP
      have hD : va_D A [(i3, .inl (cI, r1.2, .inl r1.1)), (o, .inr (6, [.int (0 : Int32), .int mn, .int mch, .ref oc, .ref oi, .int mcl, .ref ol, .int mgo, .int mmo, .ref ob])), (oc, .inl (cI, 14, .inl mcf)), (oi, .inl (cI, 3, .inl mif)), (ol, .inl (cI, 24, .inl mlf)), (ob, .inl (cI, mbn, .inl mbf))] := hD
      refine lv_iconst (v := (1 : Int32)) hx hb dX7_place_42 (by decide) ?_
      refine lv_iadd hx hb dX7_place_43 ?_
      refine lv_goto (tgt := 52) hx hb dX7_place_44 (by decide) ?_
      obtain rfl := Option.some.inj hF
      exact ct_i hx hb hr hlocks hK hP hD hS () rfl [1, 2, 3, 4, 5] (by decide) rfl (Nat.le_of_ble_eq_true rfl) (Nat.le_of_ble_eq_true rfl) dX7_place_52

def fX7_longestNow_X8  (x5_8 : Int32) (x4_8 : Int32) (x3_8 : Int32) : Option Int32 := some (x3_8)
def fX7_longestNow_L8 (pbn : Nat) (mn : Int32) (p0 : Int32) (pbf : (Nat → Int32)) (K8 : Int32 → Int32 → Int32 → Option Int32) : Nat → Int32 → Int32 → Int32 → Option Int32
  | 0, _, _, _ => none
  | n + 1, x5_8, x4_8, x3_8 => if (Int32.ofNat pbn) ≤ x5_8 then (K8 x5_8 x4_8 x3_8) else (if x5_8 ≤ 0 then ((fX7_longestNow_L8 pbn mn p0 pbf K8 n) (x5_8 + (1 : Int32)) (1 : Int32) (if x3_8 < (1 : Int32) then (1 : Int32) else x3_8)) else (if (x5_8 < 0 ∨ pbn ≤ x5_8.toNatClampNeg) then none else ((fX7_placeNow mn p0 (pbf x5_8.toNatClampNeg)).bind (fun r4 => if ((x5_8 - (1 : Int32)) < 0 ∨ pbn ≤ (x5_8 - (1 : Int32)).toNatClampNeg) then none else ((fX7_placeNow mn p0 (pbf (x5_8 - (1 : Int32)).toNatClampNeg)).bind (fun r8 => if r4 = r8 then ((fX7_longestNow_L8 pbn mn p0 pbf K8 n) (x5_8 + (1 : Int32)) (x4_8 + (1 : Int32)) (if x3_8 < (x4_8 + (1 : Int32)) then (x4_8 + (1 : Int32)) else x3_8)) else ((fX7_longestNow_L8 pbn mn p0 pbf K8 n) (x5_8 + (1 : Int32)) (1 : Int32) (if x3_8 < (1 : Int32) then (1 : Int32) else x3_8))))))))
def fX7_longestNow (mn : Int32) (pbn : Nat) (pbf : (Nat → Int32)) (p0 : Int32) : Option Int32 := fX7_longestNow_L8 pbn mn p0 pbf fX7_longestNow_X8 1000 (0 : Int32) (0 : Int32) (0 : Int32)
abbrev rmX7_longestNow : Room := { frames := 1, cells := 0, slots := 0, locals := 24 }
set_option maxHeartbeats 4000000 in
set_option maxRecDepth 100000 in
theorem kX7_longestNow (l : Launch) (dC : Nat → ClassId) (dI : Nat → Nat → Nat) (tys : List (ClassId × FieldType)) (cI : ClassId) (ht0 : tys[0]? = some (cI, .int)) (o oc oi ol ob pb : Nat) (mth : Int32) (mn : Int32) (mch : Int32) (mcl : Int32) (mgo : Int32) (mmo : Int32) (mcf : (Nat → Int32)) (mif : (Nat → Int32)) (mlf : (Nat → Int32)) (mbn : Nat) (mbf : (Nat → Int32)) (pbn : Nat) (pbf : (Nat → Int32)) (p0 : Int32) (r : Int32) (hF : fX7_longestNow mn pbn pbf p0 = some r) : ct l (dC, dI) tys yX7_longestNow wsX7_longestNow rmX7_longestNow [.ref o, .int p0, .ref pb] [(o, .inr (6, [.int mth, .int mn, .int mch, .ref oc, .ref oi, .int mcl, .ref ol, .int mgo, .int mmo, .ref ob])), (oc, .inl (cI, 14, .inl mcf)), (oi, .inl (cI, 3, .inl mif)), (ol, .inl (cI, 24, .inl mlf)), (ob, .inl (cI, mbn, .inl mbf)), (pb, .inl (cI, pbn, .inl pbf))] (fun _ : Unit => some (.int r)) (fun _ : Unit => [(o, .inr (6, [.int mth, .int mn, .int mch, .ref oc, .ref oi, .int mcl, .ref ol, .int mgo, .int mmo, .ref ob])), (oc, .inl (cI, 14, .inl mcf)), (oi, .inl (cI, 3, .inl mif)), (ol, .inl (cI, 24, .inl mlf)), (ob, .inl (cI, mbn, .inl mbf)), (pb, .inl (cI, pbn, .inl pbf))]) := by
  refine ct_of (cc := cX7_longestNow) (maxL := 6) (ret := (some .int)) (by decide) rfl (Nat.le_of_ble_eq_true rfl) ?_
  intro p e s m below meth c A ls hx hb hr hml hts hown hlocks hname hE hK hP hD hA hS hl
  have hown : s.vm.findClass RX7 = some m.cls := hown
  have hl : lv_has ls 6 [(0, .ref o), (1, .int p0), (2, .ref pb)] := hl
  unfold fX7_longestNow at hF
  have w0 := hts (.methodLink RX7 138 Lib.Math.max.name) (List.mem_cons_of_mem _ (List.mem_append_left _ (List.mem_of_getElem? (i := 0) rfl)))
  have w1 := hts (.static Lib.Math.max.name) (List.mem_cons_of_mem _ (List.mem_append_left _ (List.mem_of_getElem? (i := 1) rfl)))
  have w2 := hts (.initialized "java/lang/Math") (List.mem_cons_of_mem _ (List.mem_append_left _ (List.mem_of_getElem? (i := 2) rfl)))
  have w3 := hts (.code Lib.Math.max.name Lib.Math.max.code 2 (some .int)) (List.mem_cons_of_mem _ (List.mem_append_left _ (List.mem_of_getElem? (i := 3) rfl)))
  refine lv_iconst (v := (0 : Int32)) hx hb dX7_longestNow_0 (by decide) ?_
  refine lv_istore_n (lv' := [(3, .int (0 : Int32)), (0, .ref o), (1, .int p0), (2, .ref pb)]) hx hb dX7_longestNow_1 rfl hl (by decide) rfl (fun ls hl => ?_)
  refine lv_iconst (v := (0 : Int32)) hx hb dX7_longestNow_2 (by decide) ?_
  refine lv_istore (lv' := [(4, .int (0 : Int32)), (3, .int (0 : Int32)), (0, .ref o), (1, .int p0), (2, .ref pb)]) hx hb dX7_longestNow_3 hl (by decide) rfl (fun ls hl => ?_)
  refine lv_iconst (v := (0 : Int32)) hx hb dX7_longestNow_5 (by decide) ?_
  refine lv_istore (lv' := [(5, .int (0 : Int32)), (4, .int (0 : Int32)), (3, .int (0 : Int32)), (0, .ref o), (1, .int p0), (2, .ref pb)]) hx hb dX7_longestNow_6 hl (by decide) rfl (fun ls hl => ?_)
  have X8 : ∀ (x5_8 : Int32) (x4_8 : Int32) (x3_8 : Int32) (H : Heap) (locs : List Loc) (ls : Array Slot), fX7_longestNow_X8 x5_8 x4_8 x3_8 = some r → va_P (dC, dI) vwCl [(o, .inr (6, [.int mth, .int mn, .int mch, .ref oc, .ref oi, .int mcl, .ref ol, .int mgo, .int mmo, .ref ob])), (oc, .inl (cI, 14, .inl mcf)), (oi, .inl (cI, 3, .inl mif)), (ol, .inl (cI, 24, .inl mlf)), (ob, .inl (cI, mbn, .inl mbf)), (pb, .inl (cI, pbn, .inl pbf))] H → va_D A [(o, .inr (6, [.int mth, .int mn, .int mch, .ref oc, .ref oi, .int mcl, .ref ol, .int mgo, .int mmo, .ref ob])), (oc, .inl (cI, 14, .inl mcf)), (oi, .inl (cI, 3, .inl mif)), (ol, .inl (cI, 24, .inl mlf)), (ob, .inl (cI, mbn, .inl mbf)), (pb, .inl (cI, pbn, .inl pbf))] → va_S A s.heap H locs → lv_has ls 6 [(5, .int x5_8), (4, .int x4_8), (3, .int x3_8), (0, .ref o), (1, .int p0), (2, .ref pb)] → W p l e rmX7_longestNow s m ([.ref o, .int p0, .ref pb] : List Value).toArray below meth c H locs 0 0 (MQ below (ct_Q (dC, dI) tys (fun _ : Unit => some (.int r)) (fun _ : Unit => [(o, .inr (6, [.int mth, .int mn, .int mch, .ref oc, .ref oi, .int mcl, .ref ol, .int mgo, .int mmo, .ref ob])), (oc, .inl (cI, 14, .inl mcf)), (oi, .inl (cI, 3, .inl mif)), (ol, .inl (cI, 24, .inl mlf)), (ob, .inl (cI, mbn, .inl mbf)), (pb, .inl (cI, pbn, .inl pbf))]) A) ([.ref o, .int p0, .ref pb] : List Value).toArray s rmX7_longestNow.cells rmX7_longestNow.slots A) (F0 m 66 ls []) := by
    intro x5_8 x4_8 x3_8 H locs ls hF hP hD hS hl
    unfold fX7_longestNow_X8 at hF
    refine lv_iload_n hx hb dX7_longestNow_66 rfl (lv_at hl 2 rfl) ?_
    obtain rfl := Option.some.inj hF
    exact ct_i hx hb hr hlocks hK hP hD hS () rfl [0, 1, 2, 3, 4, 5] (by decide) rfl (Nat.le_of_ble_eq_true rfl) (Nat.le_of_ble_eq_true rfl) dX7_longestNow_67
  have L8 : ∀ (n8 : Nat) (x5_8 : Int32) (x4_8 : Int32) (x3_8 : Int32) (H : Heap) (locs : List Loc) (ls : Array Slot), fX7_longestNow_L8 pbn mn p0 pbf fX7_longestNow_X8 n8 x5_8 x4_8 x3_8 = some r → va_P (dC, dI) vwCl [(o, .inr (6, [.int mth, .int mn, .int mch, .ref oc, .ref oi, .int mcl, .ref ol, .int mgo, .int mmo, .ref ob])), (oc, .inl (cI, 14, .inl mcf)), (oi, .inl (cI, 3, .inl mif)), (ol, .inl (cI, 24, .inl mlf)), (ob, .inl (cI, mbn, .inl mbf)), (pb, .inl (cI, pbn, .inl pbf))] H → va_D A [(o, .inr (6, [.int mth, .int mn, .int mch, .ref oc, .ref oi, .int mcl, .ref ol, .int mgo, .int mmo, .ref ob])), (oc, .inl (cI, 14, .inl mcf)), (oi, .inl (cI, 3, .inl mif)), (ol, .inl (cI, 24, .inl mlf)), (ob, .inl (cI, mbn, .inl mbf)), (pb, .inl (cI, pbn, .inl pbf))] → va_S A s.heap H locs → lv_has ls 6 [(5, .int x5_8), (4, .int x4_8), (3, .int x3_8), (0, .ref o), (1, .int p0), (2, .ref pb)] → W p l e rmX7_longestNow s m ([.ref o, .int p0, .ref pb] : List Value).toArray below meth c H locs 0 0 (MQ below (ct_Q (dC, dI) tys (fun _ : Unit => some (.int r)) (fun _ : Unit => [(o, .inr (6, [.int mth, .int mn, .int mch, .ref oc, .ref oi, .int mcl, .ref ol, .int mgo, .int mmo, .ref ob])), (oc, .inl (cI, 14, .inl mcf)), (oi, .inl (cI, 3, .inl mif)), (ol, .inl (cI, 24, .inl mlf)), (ob, .inl (cI, mbn, .inl mbf)), (pb, .inl (cI, pbn, .inl pbf))]) A) ([.ref o, .int p0, .ref pb] : List Value).toArray s rmX7_longestNow.cells rmX7_longestNow.slots A) (F0 m 8 ls []) := by
    intro n8
    induction n8 with
    | zero => intro x5_8 x4_8 x3_8 H locs ls hF; rw [fX7_longestNow_L8] at hF; cases hF
    | succ n8 ih8 =>
      intro x5_8 x4_8 x3_8 H locs ls hF hP hD hS hl
      rw [fX7_longestNow_L8] at hF
      refine lv_iload hx hb dX7_longestNow_8 (lv_at hl 0 rfl) ?_
      refine lv_aload_n hx hb dX7_longestNow_10 rfl (lv_at hl 5 rfl) ?_
      refine va_alen hx hb hK hP 5 0 rfl ht0 (v := Int32.ofNat pbn) rfl dX7_longestNow_11 ?_
      refine lv_icmp_ge (tgt := 66) hx hb dX7_longestNow_12 (by decide) (fun c1 => ?_) (fun c1 => ?_)
      · have hF := (if_pos c1).symm.trans hF
        exact X8 x5_8 x4_8 x3_8 _ _ _ hF (hP.sub [0, 1, 2, 3, 4, 5] rfl) (hD.sub [0, 1, 2, 3, 4, 5] (by decide) rfl) hS (lv_sub hl [0, 1, 2, 3, 4, 5] rfl)
      · have hF := (if_neg c1).symm.trans hF
        refine lv_iload hx hb dX7_longestNow_15 (lv_at hl 0 rfl) ?_
        refine lv_if_le (tgt := 50) hx hb dX7_longestNow_17 (by decide) (fun c2 => ?_) (fun c2 => ?_)
        · have hF := (if_pos c2).symm.trans hF
          refine lv_iconst (v := (1 : Int32)) hx hb dX7_longestNow_50 (by decide) ?_
          refine lv_istore (lv' := [(4, .int (1 : Int32)), (5, .int x5_8), (3, .int x3_8), (0, .ref o), (1, .int p0), (2, .ref pb)]) hx hb dX7_longestNow_51 hl (by decide) rfl (fun ls hl => ?_)
          refine lv_iload_n hx hb dX7_longestNow_53 rfl (lv_at hl 2 rfl) ?_
          refine lv_iload hx hb dX7_longestNow_54 (lv_at hl 0 rfl) ?_
          refine va_mmax hx hb (hml.trans hl.1.symm) hown w0 w1 w2 w3 (Nat.le_of_ble_eq_true rfl) (Nat.le_of_ble_eq_true rfl) (Nat.le_of_ble_eq_true rfl) (Nat.le_of_ble_eq_true rfl) dX7_longestNow_56 ?_
          refine lv_istore_n (lv' := [(3, .int (if x3_8 < (1 : Int32) then (1 : Int32) else x3_8)), (4, .int (1 : Int32)), (5, .int x5_8), (0, .ref o), (1, .int p0), (2, .ref pb)]) hx hb dX7_longestNow_59 rfl hl (by decide) rfl (fun ls hl => ?_)
          refine lv_iinc (v := x5_8 + (1 : Int32)) (lv' := [(5, .int (x5_8 + (1 : Int32))), (3, .int (if x3_8 < (1 : Int32) then (1 : Int32) else x3_8)), (4, .int (1 : Int32)), (0, .ref o), (1, .int p0), (2, .ref pb)]) hx hb dX7_longestNow_60 hl (k := 2) rfl rfl (by decide) rfl (fun ls hl => ?_)
          refine lv_goto (tgt := 8) hx hb dX7_longestNow_63 (by decide) ?_
          exact ih8 (x5_8 + (1 : Int32)) (1 : Int32) (if x3_8 < (1 : Int32) then (1 : Int32) else x3_8) _ _ _ hF (hP.sub [0, 1, 2, 3, 4, 5] rfl) (hD.sub [0, 1, 2, 3, 4, 5] (by decide) rfl) hS (lv_sub hl [0, 2, 1, 3, 4, 5] rfl)
        · have hF := (if_neg c2).symm.trans hF
          refine lv_aload_n hx hb dX7_longestNow_20 rfl (lv_at hl 3 rfl) ?_
          refine lv_iload_n hx hb dX7_longestNow_21 rfl (lv_at hl 4 rfl) ?_
          refine lv_aload_n hx hb dX7_longestNow_22 rfl (lv_at hl 5 rfl) ?_
          refine lv_iload hx hb dX7_longestNow_23 (lv_at hl 0 rfl) ?_
          obtain ⟨g3, hF⟩ := gd_n hF
          refine va_iald hx hb hK hP 5 0 rfl ht0 g3 dX7_longestNow_25 ?_
          obtain ⟨r4, hC5, hF⟩ := gd_b hF
          refine ct_callV (C := RX7) (As := [.int p0, .int (pbf x5_8.toNatClampNeg)]) (rest := []) ⟨hx, hb, hml, hown, hts⟩ (kX7_placeNow l dC dI tys cI ht0 o oc oi ol ob mth mn mch mcl mgo mmo mcf mif mlf mbn mbf p0 (pbf x5_8.toNatClampNeg) r4 hC5) (cwV 2 hts gX7_longestNow_X7_placeNow rfl rfl rfl (by decide +kernel) ⟨Nat.le_of_ble_eq_true rfl, Nat.le_of_ble_eq_true rfl⟩) hE hK hP hD hS hA [0, 1, 2, 3, 4] [5] (by decide) rfl (by decide) (wr := [(pb, .inl (cI, pbn, .inl pbf))]) rfl (by decide) (ci := 6) (T := TX7) (N := 10) (q0 := 0) rfl rfl hl.1 rfl rfl (Nat.le_of_ble_eq_true rfl) dX7_longestNow_26 ⟨(Nat.le_of_ble_eq_true rfl), (Nat.le_of_ble_eq_true rfl)⟩ (fun i6 H locs hP hD hS => ?_)
          have hP : va_P (dC, dI) vwCl [(pb, .inl (cI, pbn, .inl pbf)), (o, .inr (6, [.int mth, .int mn, .int mch, .ref oc, .ref oi, .int mcl, .ref ol, .int mgo, .int mmo, .ref ob])), (oc, .inl (cI, 14, .inl mcf)), (oi, .inl (cI, 3, .inl mif)), (ol, .inl (cI, 24, .inl mlf)), (ob, .inl (cI, mbn, .inl mbf))] H := hP
          have hD : va_D A [(pb, .inl (cI, pbn, .inl pbf)), (o, .inr (6, [.int mth, .int mn, .int mch, .ref oc, .ref oi, .int mcl, .ref ol, .int mgo, .int mmo, .ref ob])), (oc, .inl (cI, 14, .inl mcf)), (oi, .inl (cI, 3, .inl mif)), (ol, .inl (cI, 24, .inl mlf)), (ob, .inl (cI, mbn, .inl mbf))] := hD
          refine lv_aload_n hx hb dX7_longestNow_29 rfl (lv_at hl 3 rfl) ?_
          refine lv_iload_n hx hb dX7_longestNow_30 rfl (lv_at hl 4 rfl) ?_
          refine lv_aload_n hx hb dX7_longestNow_31 rfl (lv_at hl 5 rfl) ?_
          refine lv_iload hx hb dX7_longestNow_32 (lv_at hl 0 rfl) ?_
          refine lv_iconst (v := (1 : Int32)) hx hb dX7_longestNow_34 (by decide) ?_
          refine lv_isub hx hb dX7_longestNow_35 ?_
          obtain ⟨g7, hF⟩ := gd_n hF
          refine va_iald hx hb hK hP 0 0 rfl ht0 g7 dX7_longestNow_36 ?_
          obtain ⟨r8, hC9, hF⟩ := gd_b hF
          refine ct_callV (C := RX7) (As := [.int p0, .int (pbf (x5_8 - (1 : Int32)).toNatClampNeg)]) (rest := [.int r4]) ⟨hx, hb, hml, hown, hts⟩ (kX7_placeNow l dC dI tys cI ht0 o oc oi ol ob mth mn mch mcl mgo mmo mcf mif mlf mbn mbf p0 (pbf (x5_8 - (1 : Int32)).toNatClampNeg) r8 hC9) (cwV 2 hts gX7_longestNow_X7_placeNow rfl rfl rfl (by decide +kernel) ⟨Nat.le_of_ble_eq_true rfl, Nat.le_of_ble_eq_true rfl⟩) hE hK hP hD hS hA [1, 2, 3, 4, 5] [0] (by decide) rfl (by decide) (wr := [(pb, .inl (cI, pbn, .inl pbf))]) rfl (by decide) (ci := 6) (T := TX7) (N := 10) (q0 := 0) rfl rfl hl.1 rfl rfl (Nat.le_of_ble_eq_true rfl) dX7_longestNow_37 ⟨(Nat.le_of_ble_eq_true rfl), (Nat.le_of_ble_eq_true rfl)⟩ (fun i10 H locs hP hD hS => ?_)
          have hP : va_P (dC, dI) vwCl [(pb, .inl (cI, pbn, .inl pbf)), (o, .inr (6, [.int mth, .int mn, .int mch, .ref oc, .ref oi, .int mcl, .ref ol, .int mgo, .int mmo, .ref ob])), (oc, .inl (cI, 14, .inl mcf)), (oi, .inl (cI, 3, .inl mif)), (ol, .inl (cI, 24, .inl mlf)), (ob, .inl (cI, mbn, .inl mbf))] H := hP
          have hD : va_D A [(pb, .inl (cI, pbn, .inl pbf)), (o, .inr (6, [.int mth, .int mn, .int mch, .ref oc, .ref oi, .int mcl, .ref ol, .int mgo, .int mmo, .ref ob])), (oc, .inl (cI, 14, .inl mcf)), (oi, .inl (cI, 3, .inl mif)), (ol, .inl (cI, 24, .inl mlf)), (ob, .inl (cI, mbn, .inl mbf))] := hD
          refine lv_icmp_ne (tgt := 50) hx hb dX7_longestNow_40 (by decide) (fun c11 => ?_) (fun c11 => ?_)
          · have hF := (if_neg c11).symm.trans hF
            refine lv_iconst (v := (1 : Int32)) hx hb dX7_longestNow_50 (by decide) ?_
            refine lv_istore (lv' := [(4, .int (1 : Int32)), (5, .int x5_8), (3, .int x3_8), (0, .ref o), (1, .int p0), (2, .ref pb)]) hx hb dX7_longestNow_51 hl (by decide) rfl (fun ls hl => ?_)
            refine lv_iload_n hx hb dX7_longestNow_53 rfl (lv_at hl 2 rfl) ?_
            refine lv_iload hx hb dX7_longestNow_54 (lv_at hl 0 rfl) ?_
            refine va_mmax hx hb (hml.trans hl.1.symm) hown w0 w1 w2 w3 (Nat.le_of_ble_eq_true rfl) (Nat.le_of_ble_eq_true rfl) (Nat.le_of_ble_eq_true rfl) (Nat.le_of_ble_eq_true rfl) dX7_longestNow_56 ?_
            refine lv_istore_n (lv' := [(3, .int (if x3_8 < (1 : Int32) then (1 : Int32) else x3_8)), (4, .int (1 : Int32)), (5, .int x5_8), (0, .ref o), (1, .int p0), (2, .ref pb)]) hx hb dX7_longestNow_59 rfl hl (by decide) rfl (fun ls hl => ?_)
            refine lv_iinc (v := x5_8 + (1 : Int32)) (lv' := [(5, .int (x5_8 + (1 : Int32))), (3, .int (if x3_8 < (1 : Int32) then (1 : Int32) else x3_8)), (4, .int (1 : Int32)), (0, .ref o), (1, .int p0), (2, .ref pb)]) hx hb dX7_longestNow_60 hl (k := 2) rfl rfl (by decide) rfl (fun ls hl => ?_)
            refine lv_goto (tgt := 8) hx hb dX7_longestNow_63 (by decide) ?_
            exact ih8 (x5_8 + (1 : Int32)) (1 : Int32) (if x3_8 < (1 : Int32) then (1 : Int32) else x3_8) _ _ _ hF (hP.sub [1, 2, 3, 4, 5, 0] rfl) (hD.sub [1, 2, 3, 4, 5, 0] (by decide) rfl) hS (lv_sub hl [0, 2, 1, 3, 4, 5] rfl)
          · have hF := (if_pos c11).symm.trans hF
            refine lv_iload hx hb dX7_longestNow_43 (lv_at hl 1 rfl) ?_
            refine lv_iconst (v := (1 : Int32)) hx hb dX7_longestNow_45 (by decide) ?_
            refine lv_iadd hx hb dX7_longestNow_46 ?_
            refine lv_goto (tgt := 51) hx hb dX7_longestNow_47 (by decide) ?_
            refine lv_istore (lv' := [(4, .int (x4_8 + (1 : Int32))), (5, .int x5_8), (3, .int x3_8), (0, .ref o), (1, .int p0), (2, .ref pb)]) hx hb dX7_longestNow_51 hl (by decide) rfl (fun ls hl => ?_)
            refine lv_iload_n hx hb dX7_longestNow_53 rfl (lv_at hl 2 rfl) ?_
            refine lv_iload hx hb dX7_longestNow_54 (lv_at hl 0 rfl) ?_
            refine va_mmax hx hb (hml.trans hl.1.symm) hown w0 w1 w2 w3 (Nat.le_of_ble_eq_true rfl) (Nat.le_of_ble_eq_true rfl) (Nat.le_of_ble_eq_true rfl) (Nat.le_of_ble_eq_true rfl) dX7_longestNow_56 ?_
            refine lv_istore_n (lv' := [(3, .int (if x3_8 < (x4_8 + (1 : Int32)) then (x4_8 + (1 : Int32)) else x3_8)), (4, .int (x4_8 + (1 : Int32))), (5, .int x5_8), (0, .ref o), (1, .int p0), (2, .ref pb)]) hx hb dX7_longestNow_59 rfl hl (by decide) rfl (fun ls hl => ?_)
            refine lv_iinc (v := x5_8 + (1 : Int32)) (lv' := [(5, .int (x5_8 + (1 : Int32))), (3, .int (if x3_8 < (x4_8 + (1 : Int32)) then (x4_8 + (1 : Int32)) else x3_8)), (4, .int (x4_8 + (1 : Int32))), (0, .ref o), (1, .int p0), (2, .ref pb)]) hx hb dX7_longestNow_60 hl (k := 2) rfl rfl (by decide) rfl (fun ls hl => ?_)
            refine lv_goto (tgt := 8) hx hb dX7_longestNow_63 (by decide) ?_
            exact ih8 (x5_8 + (1 : Int32)) (x4_8 + (1 : Int32)) (if x3_8 < (x4_8 + (1 : Int32)) then (x4_8 + (1 : Int32)) else x3_8) _ _ _ hF (hP.sub [1, 2, 3, 4, 5, 0] rfl) (hD.sub [1, 2, 3, 4, 5, 0] (by decide) rfl) hS (lv_sub hl [0, 2, 1, 3, 4, 5] rfl)
  exact L8 1000 (0 : Int32) (0 : Int32) (0 : Int32) _ _ _ hF (hP.sub [0, 1, 2, 3, 4, 5] rfl) (hD.sub [0, 1, 2, 3, 4, 5] (by decide) rfl) hS (lv_sub hl [0, 1, 2, 3, 4, 5] rfl)

def fX7_longest (mn : Int32) (mch : Int32) (mcl : Int32) (mcf : (Nat → Int32)) (mif : (Nat → Int32)) (mlf : (Nat → Int32)) (p0 : Int32) : Option (Int32 × Int32) := (fX7_isIn p0 (1 : Int32) mn).bind (fun r1 => if r1 = 0 then ((fX7_no (1 : Int32)).bind (fun r5 => some (r5.1, r5.2))) else ((fX7_rows_ mn mch mcl mcf mif mlf).bind (fun r8 => (fX7_longestNow mn r8.2 r8.1 p0).bind (fun r11 => some (r11, (0 : Int32))))))
abbrev rmX7_longest : Room := { frames := 3, cells := 4, slots := 357, locals := 75 }
set_option maxHeartbeats 4000000 in
set_option maxRecDepth 100000 in
theorem kX7_longest (l : Launch) (dC : Nat → ClassId) (dI : Nat → Nat → Nat) (tys : List (ClassId × FieldType)) (cI : ClassId) (ht0 : tys[0]? = some (cI, .int)) (o oc oi ol ob : Nat) (mth : Int32) (mn : Int32) (mch : Int32) (mcl : Int32) (mgo : Int32) (mmo : Int32) (mcf : (Nat → Int32)) (mif : (Nat → Int32)) (mlf : (Nat → Int32)) (mbn : Nat) (mbf : (Nat → Int32)) (p0 : Int32) (r : (Int32 × Int32)) (hF : fX7_longest mn mch mcl mcf mif mlf p0 = some r) : ct l (dC, dI) tys yX7_longest wsX7_longest rmX7_longest [.ref o, .int p0] [(o, .inr (6, [.int mth, .int mn, .int mch, .ref oc, .ref oi, .int mcl, .ref ol, .int mgo, .int mmo, .ref ob])), (oc, .inl (cI, 14, .inl mcf)), (oi, .inl (cI, 3, .inl mif)), (ol, .inl (cI, 24, .inl mlf)), (ob, .inl (cI, mbn, .inl mbf))] (fun _ : Unit => some (.int r.1)) (fun _ : Unit => [(o, .inr (6, [.int r.2, .int mn, .int mch, .ref oc, .ref oi, .int mcl, .ref ol, .int mgo, .int mmo, .ref ob])), (oc, .inl (cI, 14, .inl mcf)), (oi, .inl (cI, 3, .inl mif)), (ol, .inl (cI, 24, .inl mlf)), (ob, .inl (cI, mbn, .inl mbf))]) := by
  refine ct_of (cc := cX7_longest) (maxL := 2) (ret := (some .int)) (by decide) rfl (Nat.le_of_ble_eq_true rfl) ?_
  intro p e s m below meth c A ls hx hb hr hml hts hown hlocks hname hE hK hP hD hA hS hl
  have hown : s.vm.findClass RX7 = some m.cls := hown
  have hl : lv_has ls 2 [(0, .ref o), (1, .int p0)] := hl
  unfold fX7_longest at hF
  have uX7 : ∀ w ∈ wsX70, w ∈ wsX7_longest := (fun _ h => (List.mem_cons_of_mem _ (List.mem_append_right _ h)))
  have w1 := hts (.fieldLink RX7 36 "BellfounderTowerModel" "thrown" "I") (List.mem_cons_of_mem _ (List.mem_append_left _ (List.mem_append_left _ (List.mem_of_getElem? (i := 0) rfl))))
  have w2 := hts (.fieldLink RX7 26 "BellfounderTowerModel" "n" "I") (List.mem_cons_of_mem _ (List.mem_append_left _ (List.mem_append_left _ (List.mem_of_getElem? (i := 1) rfl))))
  refine lv_aload_n hx hb dX7_longest_0 rfl (lv_at hl 0 rfl) ?_
  refine lv_iconst (v := (0 : Int32)) hx hb dX7_longest_1 (by decide) ?_
  refine va_put (D := (dC, dI)) (ci := 6) (v := .int (0 : Int32)) (ty := .int) (C := RX7) (T := TX7) (N := 10) hx hb hts uX7 tyX7 tyX7_ok nmX7 hown hK hP hD hS 0 rfl rfl 0 (by decide) w1 (fun _ h9 => h9) rfl (by decide +kernel) rfl rfl (Nat.le_of_ble_eq_true rfl) dX7_longest_2 (fun H locs hP hD hS => ?_)
  have hP : va_P (dC, dI) vwCl [(o, .inr (6, [.int (0 : Int32), .int mn, .int mch, .ref oc, .ref oi, .int mcl, .ref ol, .int mgo, .int mmo, .ref ob])), (oc, .inl (cI, 14, .inl mcf)), (oi, .inl (cI, 3, .inl mif)), (ol, .inl (cI, 24, .inl mlf)), (ob, .inl (cI, mbn, .inl mbf))] H := hP
  have hD : va_D A [(o, .inr (6, [.int (0 : Int32), .int mn, .int mch, .ref oc, .ref oi, .int mcl, .ref ol, .int mgo, .int mmo, .ref ob])), (oc, .inl (cI, 14, .inl mcf)), (oi, .inl (cI, 3, .inl mif)), (ol, .inl (cI, 24, .inl mlf)), (ob, .inl (cI, mbn, .inl mbf))] := hD
  refine lv_iload_n hx hb dX7_longest_5 rfl (lv_at hl 1 rfl) ?_
  refine lv_iconst (v := (1 : Int32)) hx hb dX7_longest_6 (by decide) ?_
  refine lv_aload_n hx hb dX7_longest_7 rfl (lv_at hl 0 rfl) ?_
  refine va_get (D := (dC, dI)) (ci := 6) (v := .int mn) (C := RX7) (T := TX7) (N := 10) hx hb hts uX7 hown hK hP 0 rfl rfl 1 (by decide) w2 (fun _ h9 => h9) rfl dX7_longest_8 ?_
  obtain ⟨r1, hC2, hF⟩ := gd_b hF
  refine ct_callS (As := [.int p0, .int (1 : Int32), .int mn]) (rest := []) ⟨hx, hb, hml, hown, hts⟩ (kX7_isIn l dC dI tys cI ht0 p0 (1 : Int32) mn r1 hC2) (va_cwS 3 hts gX7_longest_X7_isIn rfl rfl rfl (by decide +kernel) ⟨Nat.le_of_ble_eq_true rfl, Nat.le_of_ble_eq_true rfl⟩) hE hK hP hD hS hA [] [0, 1, 2, 3, 4] (by decide) rfl (by decide) (wr := [(o, .inr (6, [.int (0 : Int32), .int mn, .int mch, .ref oc, .ref oi, .int mcl, .ref ol, .int mgo, .int mmo, .ref ob])), (oc, .inl (cI, 14, .inl mcf)), (oi, .inl (cI, 3, .inl mif)), (ol, .inl (cI, 24, .inl mlf)), (ob, .inl (cI, mbn, .inl mbf))]) rfl (by decide) hl.1 rfl rfl (Nat.le_of_ble_eq_true rfl) dX7_longest_11 ⟨(Nat.le_of_ble_eq_true rfl), (Nat.le_of_ble_eq_true rfl)⟩ (fun i3 H locs hP hD hS => ?_)
  have hP : va_P (dC, dI) vwCl [(o, .inr (6, [.int (0 : Int32), .int mn, .int mch, .ref oc, .ref oi, .int mcl, .ref ol, .int mgo, .int mmo, .ref ob])), (oc, .inl (cI, 14, .inl mcf)), (oi, .inl (cI, 3, .inl mif)), (ol, .inl (cI, 24, .inl mlf)), (ob, .inl (cI, mbn, .inl mbf))] H := hP
  have hD : va_D A [(o, .inr (6, [.int (0 : Int32), .int mn, .int mch, .ref oc, .ref oi, .int mcl, .ref ol, .int mgo, .int mmo, .ref ob])), (oc, .inl (cI, 14, .inl mcf)), (oi, .inl (cI, 3, .inl mif)), (ol, .inl (cI, 24, .inl mlf)), (ob, .inl (cI, mbn, .inl mbf))] := hD
  refine lv_if_eq (tgt := 29) hx hb dX7_longest_14 (by decide) (fun c4 => ?_) (fun c4 => ?_)
  · have hF := (if_pos c4).symm.trans hF
    refine lv_aload_n hx hb dX7_longest_29 rfl (lv_at hl 0 rfl) ?_
    refine lv_iconst (v := (1 : Int32)) hx hb dX7_longest_30 (by decide) ?_
    obtain ⟨r5, hC6, hF⟩ := gd_b hF
    refine ct_callV (C := RX7) (As := [.int (1 : Int32)]) (rest := []) ⟨hx, hb, hml, hown, hts⟩ (kX7_no l dC dI tys cI ht0 o oc oi ol ob (0 : Int32) mn mch mcl mgo mmo mcf mif mlf mbn mbf (1 : Int32) r5 hC6) (cwV 1 hts gX7_longest_X7_no rfl rfl rfl (by decide +kernel) ⟨Nat.le_of_ble_eq_true rfl, Nat.le_of_ble_eq_true rfl⟩) hE hK hP hD hS hA [0, 1, 2, 3, 4] [] (by decide) rfl (by decide) (wr := []) rfl (by decide) (ci := 6) (T := TX7) (N := 10) (q0 := 0) rfl rfl hl.1 rfl rfl (Nat.le_of_ble_eq_true rfl) dX7_longest_31 ⟨(Nat.le_of_ble_eq_true rfl), (Nat.le_of_ble_eq_true rfl)⟩ (fun i7 H locs hP hD hS => ?_)
    have hP : va_P (dC, dI) vwCl [(o, .inr (6, [.int r5.2, .int mn, .int mch, .ref oc, .ref oi, .int mcl, .ref ol, .int mgo, .int mmo, .ref ob])), (oc, .inl (cI, 14, .inl mcf)), (oi, .inl (cI, 3, .inl mif)), (ol, .inl (cI, 24, .inl mlf)), (ob, .inl (cI, mbn, .inl mbf))] H := hP
    have hD : va_D A [(o, .inr (6, [.int r5.2, .int mn, .int mch, .ref oc, .ref oi, .int mcl, .ref ol, .int mgo, .int mmo, .ref ob])), (oc, .inl (cI, 14, .inl mcf)), (oi, .inl (cI, 3, .inl mif)), (ol, .inl (cI, 24, .inl mlf)), (ob, .inl (cI, mbn, .inl mbf))] := hD
    obtain rfl := Option.some.inj hF
    exact ct_i hx hb hr hlocks hK hP hD hS () rfl [0, 1, 2, 3, 4] (by decide) rfl (Nat.le_of_ble_eq_true rfl) (Nat.le_of_ble_eq_true rfl) dX7_longest_34
  · have hF := (if_neg c4).symm.trans hF
    refine lv_aload_n hx hb dX7_longest_17 rfl (lv_at hl 0 rfl) ?_
    refine lv_iload_n hx hb dX7_longest_18 rfl (lv_at hl 1 rfl) ?_
    refine lv_aload_n hx hb dX7_longest_19 rfl (lv_at hl 0 rfl) ?_
    obtain ⟨r8, hC9, hF⟩ := gd_b hF
    refine ct_callV (C := RX7) (As := []) (rest := [.int p0, .ref o]) ⟨hx, hb, hml, hown, hts⟩ (kX7_rows_ l dC dI tys cI ht0 o oc oi ol ob (0 : Int32) mn mch mcl mgo mmo mcf mif mlf mbn mbf r8 hC9) (cwV 0 hts gX7_longest_X7_rows_ rfl rfl rfl (by decide +kernel) ⟨Nat.le_of_ble_eq_true rfl, Nat.le_of_ble_eq_true rfl⟩) hE hK hP hD hS hA [0, 1, 2, 3, 4] [] (by decide) rfl (by decide) (wr := []) rfl (by decide) (ci := 6) (T := TX7) (N := 10) (q0 := 0) rfl rfl hl.1 rfl rfl (Nat.le_of_ble_eq_true rfl) dX7_longest_20 ⟨(Nat.le_of_ble_eq_true rfl), (Nat.le_of_ble_eq_true rfl)⟩ (fun i10 H locs hP hD hS => ?_)
    have hP : va_P (dC, dI) vwCl [(o, .inr (6, [.int (0 : Int32), .int mn, .int mch, .ref oc, .ref oi, .int mcl, .ref ol, .int mgo, .int mmo, .ref ob])), (oc, .inl (cI, 14, .inl mcf)), (oi, .inl (cI, 3, .inl mif)), (ol, .inl (cI, 24, .inl mlf)), (ob, .inl (cI, mbn, .inl mbf)), (i10, .inl (cI, r8.2, .inl r8.1))] H := hP
    have hD : va_D A [(o, .inr (6, [.int (0 : Int32), .int mn, .int mch, .ref oc, .ref oi, .int mcl, .ref ol, .int mgo, .int mmo, .ref ob])), (oc, .inl (cI, 14, .inl mcf)), (oi, .inl (cI, 3, .inl mif)), (ol, .inl (cI, 24, .inl mlf)), (ob, .inl (cI, mbn, .inl mbf)), (i10, .inl (cI, r8.2, .inl r8.1))] := hD
    obtain ⟨r11, hC12, hF⟩ := gd_b hF
    refine ct_callV (C := RX7) (As := [.int p0, .ref i10]) (rest := []) ⟨hx, hb, hml, hown, hts⟩ (kX7_longestNow l dC dI tys cI ht0 o oc oi ol ob i10 (0 : Int32) mn mch mcl mgo mmo mcf mif mlf mbn mbf r8.2 r8.1 p0 r11 hC12) (cwV 2 hts gX7_longest_X7_longestNow rfl rfl rfl (by decide +kernel) ⟨Nat.le_of_ble_eq_true rfl, Nat.le_of_ble_eq_true rfl⟩) hE hK hP hD hS hA [0, 1, 2, 3, 4, 5] [] (by decide) rfl (by decide) (wr := []) rfl (by decide) (ci := 6) (T := TX7) (N := 10) (q0 := 0) rfl rfl hl.1 rfl rfl (Nat.le_of_ble_eq_true rfl) dX7_longest_23 ⟨(Nat.le_of_ble_eq_true rfl), (Nat.le_of_ble_eq_true rfl)⟩ (fun i13 H locs hP hD hS => ?_)
    have hP : va_P (dC, dI) vwCl [(o, .inr (6, [.int (0 : Int32), .int mn, .int mch, .ref oc, .ref oi, .int mcl, .ref ol, .int mgo, .int mmo, .ref ob])), (oc, .inl (cI, 14, .inl mcf)), (oi, .inl (cI, 3, .inl mif)), (ol, .inl (cI, 24, .inl mlf)), (ob, .inl (cI, mbn, .inl mbf)), (i10, .inl (cI, r8.2, .inl r8.1))] H := hP
    have hD : va_D A [(o, .inr (6, [.int (0 : Int32), .int mn, .int mch, .ref oc, .ref oi, .int mcl, .ref ol, .int mgo, .int mmo, .ref ob])), (oc, .inl (cI, 14, .inl mcf)), (oi, .inl (cI, 3, .inl mif)), (ol, .inl (cI, 24, .inl mlf)), (ob, .inl (cI, mbn, .inl mbf)), (i10, .inl (cI, r8.2, .inl r8.1))] := hD
    refine lv_goto (tgt := 34) hx hb dX7_longest_26 (by decide) ?_
    obtain rfl := Option.some.inj hF
    exact ct_i hx hb hr hlocks hK hP hD hS () rfl [0, 1, 2, 3, 4] (by decide) rfl (Nat.le_of_ble_eq_true rfl) (Nat.le_of_ble_eq_true rfl) dX7_longest_34

def fX7_music (mn : Int32) (p0 : Int32) : Option (Int32 × Int32) := (fX7_isRow mn p0).bind (fun r1 => if r1 = 0 then ((fX7_no (1 : Int32)).bind (fun r5 => some (r5.1, r5.2))) else ((fX7_musicNow p0).bind (fun r8 => some (r8, (0 : Int32)))))
abbrev rmX7_music : Room := { frames := 3, cells := 3, slots := 17, locals := 69 }
set_option maxHeartbeats 4000000 in
set_option maxRecDepth 100000 in
theorem kX7_music (l : Launch) (dC : Nat → ClassId) (dI : Nat → Nat → Nat) (tys : List (ClassId × FieldType)) (cI : ClassId) (ht0 : tys[0]? = some (cI, .int)) (cZ : ClassId) (ht1 : tys[1]? = some (cZ, .boolean)) (o oc oi ol ob : Nat) (mth : Int32) (mn : Int32) (mch : Int32) (mcl : Int32) (mgo : Int32) (mmo : Int32) (mcf : (Nat → Int32)) (mif : (Nat → Int32)) (mlf : (Nat → Int32)) (mbn : Nat) (mbf : (Nat → Int32)) (p0 : Int32) (r : (Int32 × Int32)) (hF : fX7_music mn p0 = some r) : ct l (dC, dI) tys yX7_music wsX7_music rmX7_music [.ref o, .int p0] [(o, .inr (6, [.int mth, .int mn, .int mch, .ref oc, .ref oi, .int mcl, .ref ol, .int mgo, .int mmo, .ref ob])), (oc, .inl (cI, 14, .inl mcf)), (oi, .inl (cI, 3, .inl mif)), (ol, .inl (cI, 24, .inl mlf)), (ob, .inl (cI, mbn, .inl mbf))] (fun _ : Unit => some (.int r.1)) (fun _ : Unit => [(o, .inr (6, [.int r.2, .int mn, .int mch, .ref oc, .ref oi, .int mcl, .ref ol, .int mgo, .int mmo, .ref ob])), (oc, .inl (cI, 14, .inl mcf)), (oi, .inl (cI, 3, .inl mif)), (ol, .inl (cI, 24, .inl mlf)), (ob, .inl (cI, mbn, .inl mbf))]) := by
  refine ct_of (cc := cX7_music) (maxL := 2) (ret := (some .int)) (by decide) rfl (Nat.le_of_ble_eq_true rfl) ?_
  intro p e s m below meth c A ls hx hb hr hml hts hown hlocks hname hE hK hP hD hA hS hl
  have hown : s.vm.findClass RX7 = some m.cls := hown
  have hl : lv_has ls 2 [(0, .ref o), (1, .int p0)] := hl
  unfold fX7_music at hF
  have uX7 : ∀ w ∈ wsX70, w ∈ wsX7_music := (fun _ h => (List.mem_cons_of_mem _ (List.mem_append_right _ h)))
  have w1 := hts (.fieldLink RX7 36 "BellfounderTowerModel" "thrown" "I") (List.mem_cons_of_mem _ (List.mem_append_left _ (List.mem_append_left _ (List.mem_of_getElem? (i := 0) rfl))))
  refine lv_aload_n hx hb dX7_music_0 rfl (lv_at hl 0 rfl) ?_
  refine lv_iconst (v := (0 : Int32)) hx hb dX7_music_1 (by decide) ?_
  refine va_put (D := (dC, dI)) (ci := 6) (v := .int (0 : Int32)) (ty := .int) (C := RX7) (T := TX7) (N := 10) hx hb hts uX7 tyX7 tyX7_ok nmX7 hown hK hP hD hS 0 rfl rfl 0 (by decide) w1 (fun _ h9 => h9) rfl (by decide +kernel) rfl rfl (Nat.le_of_ble_eq_true rfl) dX7_music_2 (fun H locs hP hD hS => ?_)
  have hP : va_P (dC, dI) vwCl [(o, .inr (6, [.int (0 : Int32), .int mn, .int mch, .ref oc, .ref oi, .int mcl, .ref ol, .int mgo, .int mmo, .ref ob])), (oc, .inl (cI, 14, .inl mcf)), (oi, .inl (cI, 3, .inl mif)), (ol, .inl (cI, 24, .inl mlf)), (ob, .inl (cI, mbn, .inl mbf))] H := hP
  have hD : va_D A [(o, .inr (6, [.int (0 : Int32), .int mn, .int mch, .ref oc, .ref oi, .int mcl, .ref ol, .int mgo, .int mmo, .ref ob])), (oc, .inl (cI, 14, .inl mcf)), (oi, .inl (cI, 3, .inl mif)), (ol, .inl (cI, 24, .inl mlf)), (ob, .inl (cI, mbn, .inl mbf))] := hD
  refine lv_aload_n hx hb dX7_music_5 rfl (lv_at hl 0 rfl) ?_
  refine lv_iload_n hx hb dX7_music_6 rfl (lv_at hl 1 rfl) ?_
  obtain ⟨r1, hC2, hF⟩ := gd_b hF
  refine ct_callV (C := RX7) (As := [.int p0]) (rest := []) ⟨hx, hb, hml, hown, hts⟩ (kX7_isRow l dC dI tys cI ht0 cZ ht1 o oc oi ol ob (0 : Int32) mn mch mcl mgo mmo mcf mif mlf mbn mbf p0 r1 hC2) (cwV 1 hts gX7_music_X7_isRow rfl rfl rfl (by decide +kernel) ⟨Nat.le_of_ble_eq_true rfl, Nat.le_of_ble_eq_true rfl⟩) hE hK hP hD hS hA [0, 1, 2, 3, 4] [] (by decide) rfl (by decide) (wr := []) rfl (by decide) (ci := 6) (T := TX7) (N := 10) (q0 := 0) rfl rfl hl.1 rfl rfl (Nat.le_of_ble_eq_true rfl) dX7_music_7 ⟨(Nat.le_of_ble_eq_true rfl), (Nat.le_of_ble_eq_true rfl)⟩ (fun i3 H locs hP hD hS => ?_)
  have hP : va_P (dC, dI) vwCl [(o, .inr (6, [.int (0 : Int32), .int mn, .int mch, .ref oc, .ref oi, .int mcl, .ref ol, .int mgo, .int mmo, .ref ob])), (oc, .inl (cI, 14, .inl mcf)), (oi, .inl (cI, 3, .inl mif)), (ol, .inl (cI, 24, .inl mlf)), (ob, .inl (cI, mbn, .inl mbf))] H := hP
  have hD : va_D A [(o, .inr (6, [.int (0 : Int32), .int mn, .int mch, .ref oc, .ref oi, .int mcl, .ref ol, .int mgo, .int mmo, .ref ob])), (oc, .inl (cI, 14, .inl mcf)), (oi, .inl (cI, 3, .inl mif)), (ol, .inl (cI, 24, .inl mlf)), (ob, .inl (cI, mbn, .inl mbf))] := hD
  refine lv_if_eq (tgt := 20) hx hb dX7_music_10 (by decide) (fun c4 => ?_) (fun c4 => ?_)
  · have hF := (if_pos c4).symm.trans hF
    refine lv_aload_n hx hb dX7_music_20 rfl (lv_at hl 0 rfl) ?_
    refine lv_iconst (v := (1 : Int32)) hx hb dX7_music_21 (by decide) ?_
    obtain ⟨r5, hC6, hF⟩ := gd_b hF
    refine ct_callV (C := RX7) (As := [.int (1 : Int32)]) (rest := []) ⟨hx, hb, hml, hown, hts⟩ (kX7_no l dC dI tys cI ht0 o oc oi ol ob (0 : Int32) mn mch mcl mgo mmo mcf mif mlf mbn mbf (1 : Int32) r5 hC6) (cwV 1 hts gX7_music_X7_no rfl rfl rfl (by decide +kernel) ⟨Nat.le_of_ble_eq_true rfl, Nat.le_of_ble_eq_true rfl⟩) hE hK hP hD hS hA [0, 1, 2, 3, 4] [] (by decide) rfl (by decide) (wr := []) rfl (by decide) (ci := 6) (T := TX7) (N := 10) (q0 := 0) rfl rfl hl.1 rfl rfl (Nat.le_of_ble_eq_true rfl) dX7_music_22 ⟨(Nat.le_of_ble_eq_true rfl), (Nat.le_of_ble_eq_true rfl)⟩ (fun i7 H locs hP hD hS => ?_)
    have hP : va_P (dC, dI) vwCl [(o, .inr (6, [.int r5.2, .int mn, .int mch, .ref oc, .ref oi, .int mcl, .ref ol, .int mgo, .int mmo, .ref ob])), (oc, .inl (cI, 14, .inl mcf)), (oi, .inl (cI, 3, .inl mif)), (ol, .inl (cI, 24, .inl mlf)), (ob, .inl (cI, mbn, .inl mbf))] H := hP
    have hD : va_D A [(o, .inr (6, [.int r5.2, .int mn, .int mch, .ref oc, .ref oi, .int mcl, .ref ol, .int mgo, .int mmo, .ref ob])), (oc, .inl (cI, 14, .inl mcf)), (oi, .inl (cI, 3, .inl mif)), (ol, .inl (cI, 24, .inl mlf)), (ob, .inl (cI, mbn, .inl mbf))] := hD
    obtain rfl := Option.some.inj hF
    exact ct_i hx hb hr hlocks hK hP hD hS () rfl [0, 1, 2, 3, 4] (by decide) rfl (Nat.le_of_ble_eq_true rfl) (Nat.le_of_ble_eq_true rfl) dX7_music_25
  · have hF := (if_neg c4).symm.trans hF
    refine lv_iload_n hx hb dX7_music_13 rfl (lv_at hl 1 rfl) ?_
    obtain ⟨r8, hC9, hF⟩ := gd_b hF
    refine ct_callS (As := [.int p0]) (rest := []) ⟨hx, hb, hml, hown, hts⟩ (kX7_musicNow l dC dI tys cI ht0 p0 r8 hC9) (va_cwS 1 hts gX7_music_X7_musicNow rfl rfl rfl (by decide +kernel) ⟨Nat.le_of_ble_eq_true rfl, Nat.le_of_ble_eq_true rfl⟩) hE hK hP hD hS hA [] [0, 1, 2, 3, 4] (by decide) rfl (by decide) (wr := [(o, .inr (6, [.int (0 : Int32), .int mn, .int mch, .ref oc, .ref oi, .int mcl, .ref ol, .int mgo, .int mmo, .ref ob])), (oc, .inl (cI, 14, .inl mcf)), (oi, .inl (cI, 3, .inl mif)), (ol, .inl (cI, 24, .inl mlf)), (ob, .inl (cI, mbn, .inl mbf))]) rfl (by decide) hl.1 rfl rfl (Nat.le_of_ble_eq_true rfl) dX7_music_14 ⟨(Nat.le_of_ble_eq_true rfl), (Nat.le_of_ble_eq_true rfl)⟩ (fun i10 H locs hP hD hS => ?_)
    have hP : va_P (dC, dI) vwCl [(o, .inr (6, [.int (0 : Int32), .int mn, .int mch, .ref oc, .ref oi, .int mcl, .ref ol, .int mgo, .int mmo, .ref ob])), (oc, .inl (cI, 14, .inl mcf)), (oi, .inl (cI, 3, .inl mif)), (ol, .inl (cI, 24, .inl mlf)), (ob, .inl (cI, mbn, .inl mbf))] H := hP
    have hD : va_D A [(o, .inr (6, [.int (0 : Int32), .int mn, .int mch, .ref oc, .ref oi, .int mcl, .ref ol, .int mgo, .int mmo, .ref ob])), (oc, .inl (cI, 14, .inl mcf)), (oi, .inl (cI, 3, .inl mif)), (ol, .inl (cI, 24, .inl mlf)), (ob, .inl (cI, mbn, .inl mbf))] := hD
    refine lv_goto (tgt := 25) hx hb dX7_music_17 (by decide) ?_
    obtain rfl := Option.some.inj hF
    exact ct_i hx hb hr hlocks hK hP hD hS () rfl [0, 1, 2, 3, 4] (by decide) rfl (Nat.le_of_ble_eq_true rfl) (Nat.le_of_ble_eq_true rfl) dX7_music_25

def fX7_common (mn : Int32) (mch : Int32) (mcl : Int32) (mcf : (Nat → Int32)) (mif : (Nat → Int32)) (mlf : (Nat → Int32)) (p0 : Int32) (p1 : Int32) : Option (Int32 × Int32) := (fX7_isIn p0 (0 : Int32) (mcl - (1 : Int32))).bind (fun r1 => if r1 = 0 then ((fX7_no (1 : Int32)).bind (fun r5 => some (r5.1, r5.2))) else ((fX7_isIn p1 (0 : Int32) (mcl - (1 : Int32))).bind (fun r8 => if r8 = 0 then ((fX7_no (1 : Int32)).bind (fun r15 => some (r15.1, r15.2))) else ((fX7_rows_ mn mch mcl mcf mif mlf).bind (fun r12 => none)))))
abbrev rmX7_common : Room := { frames := 3, cells := 4, slots := 357, locals := 75 }
set_option maxHeartbeats 4000000 in
set_option maxRecDepth 100000 in
theorem kX7_common (l : Launch) (dC : Nat → ClassId) (dI : Nat → Nat → Nat) (tys : List (ClassId × FieldType)) (cI : ClassId) (ht0 : tys[0]? = some (cI, .int)) (o oc oi ol ob : Nat) (mth : Int32) (mn : Int32) (mch : Int32) (mcl : Int32) (mgo : Int32) (mmo : Int32) (mcf : (Nat → Int32)) (mif : (Nat → Int32)) (mlf : (Nat → Int32)) (mbn : Nat) (mbf : (Nat → Int32)) (p0 : Int32) (p1 : Int32) (r : (Int32 × Int32)) (hF : fX7_common mn mch mcl mcf mif mlf p0 p1 = some r) : ct l (dC, dI) tys yX7_common wsX7_common rmX7_common [.ref o, .int p0, .int p1] [(o, .inr (6, [.int mth, .int mn, .int mch, .ref oc, .ref oi, .int mcl, .ref ol, .int mgo, .int mmo, .ref ob])), (oc, .inl (cI, 14, .inl mcf)), (oi, .inl (cI, 3, .inl mif)), (ol, .inl (cI, 24, .inl mlf)), (ob, .inl (cI, mbn, .inl mbf))] (fun _ : Unit => some (.int r.1)) (fun _ : Unit => [(o, .inr (6, [.int r.2, .int mn, .int mch, .ref oc, .ref oi, .int mcl, .ref ol, .int mgo, .int mmo, .ref ob])), (oc, .inl (cI, 14, .inl mcf)), (oi, .inl (cI, 3, .inl mif)), (ol, .inl (cI, 24, .inl mlf)), (ob, .inl (cI, mbn, .inl mbf))]) := by
  refine ct_of (cc := cX7_common) (maxL := 7) (ret := (some .int)) (by decide) rfl (Nat.le_of_ble_eq_true rfl) ?_
  intro p e s m below meth c A ls hx hb hr hml hts hown hlocks hname hE hK hP hD hA hS hl
  have hown : s.vm.findClass RX7 = some m.cls := hown
  have hl : lv_has ls 7 [(0, .ref o), (1, .int p0), (2, .int p1)] := hl
  unfold fX7_common at hF
  have uX7 : ∀ w ∈ wsX70, w ∈ wsX7_common := (fun _ h => (List.mem_cons_of_mem _ (List.mem_append_right _ h)))
  have w1 := hts (.fieldLink RX7 36 "BellfounderTowerModel" "thrown" "I") (List.mem_cons_of_mem _ (List.mem_append_left _ (List.mem_append_left _ (List.mem_of_getElem? (i := 0) rfl))))
  have w2 := hts (.fieldLink RX7 33 "BellfounderTowerModel" "calls" "I") (List.mem_cons_of_mem _ (List.mem_append_left _ (List.mem_append_left _ (List.mem_of_getElem? (i := 1) rfl))))
  refine lv_aload_n hx hb dX7_common_0 rfl (lv_at hl 0 rfl) ?_
  refine lv_iconst (v := (0 : Int32)) hx hb dX7_common_1 (by decide) ?_
  refine va_put (D := (dC, dI)) (ci := 6) (v := .int (0 : Int32)) (ty := .int) (C := RX7) (T := TX7) (N := 10) hx hb hts uX7 tyX7 tyX7_ok nmX7 hown hK hP hD hS 0 rfl rfl 0 (by decide) w1 (fun _ h9 => h9) rfl (by decide +kernel) rfl rfl (Nat.le_of_ble_eq_true rfl) dX7_common_2 (fun H locs hP hD hS => ?_)
  have hP : va_P (dC, dI) vwCl [(o, .inr (6, [.int (0 : Int32), .int mn, .int mch, .ref oc, .ref oi, .int mcl, .ref ol, .int mgo, .int mmo, .ref ob])), (oc, .inl (cI, 14, .inl mcf)), (oi, .inl (cI, 3, .inl mif)), (ol, .inl (cI, 24, .inl mlf)), (ob, .inl (cI, mbn, .inl mbf))] H := hP
  have hD : va_D A [(o, .inr (6, [.int (0 : Int32), .int mn, .int mch, .ref oc, .ref oi, .int mcl, .ref ol, .int mgo, .int mmo, .ref ob])), (oc, .inl (cI, 14, .inl mcf)), (oi, .inl (cI, 3, .inl mif)), (ol, .inl (cI, 24, .inl mlf)), (ob, .inl (cI, mbn, .inl mbf))] := hD
  refine lv_iload_n hx hb dX7_common_5 rfl (lv_at hl 1 rfl) ?_
  refine lv_iconst (v := (0 : Int32)) hx hb dX7_common_6 (by decide) ?_
  refine lv_aload_n hx hb dX7_common_7 rfl (lv_at hl 0 rfl) ?_
  refine va_get (D := (dC, dI)) (ci := 6) (v := .int mcl) (C := RX7) (T := TX7) (N := 10) hx hb hts uX7 hown hK hP 0 rfl rfl 5 (by decide) w2 (fun _ h9 => h9) rfl dX7_common_8 ?_
  refine lv_iconst (v := (1 : Int32)) hx hb dX7_common_11 (by decide) ?_
  refine lv_isub hx hb dX7_common_12 ?_
  obtain ⟨r1, hC2, hF⟩ := gd_b hF
  refine ct_callS (As := [.int p0, .int (0 : Int32), .int (mcl - (1 : Int32))]) (rest := []) ⟨hx, hb, hml, hown, hts⟩ (kX7_isIn l dC dI tys cI ht0 p0 (0 : Int32) (mcl - (1 : Int32)) r1 hC2) (va_cwS 3 hts gX7_common_X7_isIn rfl rfl rfl (by decide +kernel) ⟨Nat.le_of_ble_eq_true rfl, Nat.le_of_ble_eq_true rfl⟩) hE hK hP hD hS hA [] [0, 1, 2, 3, 4] (by decide) rfl (by decide) (wr := [(o, .inr (6, [.int (0 : Int32), .int mn, .int mch, .ref oc, .ref oi, .int mcl, .ref ol, .int mgo, .int mmo, .ref ob])), (oc, .inl (cI, 14, .inl mcf)), (oi, .inl (cI, 3, .inl mif)), (ol, .inl (cI, 24, .inl mlf)), (ob, .inl (cI, mbn, .inl mbf))]) rfl (by decide) hl.1 rfl rfl (Nat.le_of_ble_eq_true rfl) dX7_common_13 ⟨(Nat.le_of_ble_eq_true rfl), (Nat.le_of_ble_eq_true rfl)⟩ (fun i3 H locs hP hD hS => ?_)
  have hP : va_P (dC, dI) vwCl [(o, .inr (6, [.int (0 : Int32), .int mn, .int mch, .ref oc, .ref oi, .int mcl, .ref ol, .int mgo, .int mmo, .ref ob])), (oc, .inl (cI, 14, .inl mcf)), (oi, .inl (cI, 3, .inl mif)), (ol, .inl (cI, 24, .inl mlf)), (ob, .inl (cI, mbn, .inl mbf))] H := hP
  have hD : va_D A [(o, .inr (6, [.int (0 : Int32), .int mn, .int mch, .ref oc, .ref oi, .int mcl, .ref ol, .int mgo, .int mmo, .ref ob])), (oc, .inl (cI, 14, .inl mcf)), (oi, .inl (cI, 3, .inl mif)), (ol, .inl (cI, 24, .inl mlf)), (ob, .inl (cI, mbn, .inl mbf))] := hD
  refine lv_if_eq (tgt := 33) hx hb dX7_common_16 (by decide) (fun c4 => ?_) (fun c4 => ?_)
  · have hF := (if_pos c4).symm.trans hF
    refine lv_aload_n hx hb dX7_common_33 rfl (lv_at hl 0 rfl) ?_
    refine lv_iconst (v := (1 : Int32)) hx hb dX7_common_34 (by decide) ?_
    obtain ⟨r5, hC6, hF⟩ := gd_b hF
    refine ct_callV (C := RX7) (As := [.int (1 : Int32)]) (rest := []) ⟨hx, hb, hml, hown, hts⟩ (kX7_no l dC dI tys cI ht0 o oc oi ol ob (0 : Int32) mn mch mcl mgo mmo mcf mif mlf mbn mbf (1 : Int32) r5 hC6) (cwV 1 hts gX7_common_X7_no rfl rfl rfl (by decide +kernel) ⟨Nat.le_of_ble_eq_true rfl, Nat.le_of_ble_eq_true rfl⟩) hE hK hP hD hS hA [0, 1, 2, 3, 4] [] (by decide) rfl (by decide) (wr := []) rfl (by decide) (ci := 6) (T := TX7) (N := 10) (q0 := 0) rfl rfl hl.1 rfl rfl (Nat.le_of_ble_eq_true rfl) dX7_common_35 ⟨(Nat.le_of_ble_eq_true rfl), (Nat.le_of_ble_eq_true rfl)⟩ (fun i7 H locs hP hD hS => ?_)
    have hP : va_P (dC, dI) vwCl [(o, .inr (6, [.int r5.2, .int mn, .int mch, .ref oc, .ref oi, .int mcl, .ref ol, .int mgo, .int mmo, .ref ob])), (oc, .inl (cI, 14, .inl mcf)), (oi, .inl (cI, 3, .inl mif)), (ol, .inl (cI, 24, .inl mlf)), (ob, .inl (cI, mbn, .inl mbf))] H := hP
    have hD : va_D A [(o, .inr (6, [.int r5.2, .int mn, .int mch, .ref oc, .ref oi, .int mcl, .ref ol, .int mgo, .int mmo, .ref ob])), (oc, .inl (cI, 14, .inl mcf)), (oi, .inl (cI, 3, .inl mif)), (ol, .inl (cI, 24, .inl mlf)), (ob, .inl (cI, mbn, .inl mbf))] := hD
    obtain rfl := Option.some.inj hF
    exact ct_i hx hb hr hlocks hK hP hD hS () rfl [0, 1, 2, 3, 4] (by decide) rfl (Nat.le_of_ble_eq_true rfl) (Nat.le_of_ble_eq_true rfl) dX7_common_38
  · have hF := (if_neg c4).symm.trans hF
    refine lv_iload_n hx hb dX7_common_19 rfl (lv_at hl 2 rfl) ?_
    refine lv_iconst (v := (0 : Int32)) hx hb dX7_common_20 (by decide) ?_
    refine lv_aload_n hx hb dX7_common_21 rfl (lv_at hl 0 rfl) ?_
    refine va_get (D := (dC, dI)) (ci := 6) (v := .int mcl) (C := RX7) (T := TX7) (N := 10) hx hb hts uX7 hown hK hP 0 rfl rfl 5 (by decide) w2 (fun _ h9 => h9) rfl dX7_common_22 ?_
    refine lv_iconst (v := (1 : Int32)) hx hb dX7_common_25 (by decide) ?_
    refine lv_isub hx hb dX7_common_26 ?_
    obtain ⟨r8, hC9, hF⟩ := gd_b hF
    refine ct_callS (As := [.int p1, .int (0 : Int32), .int (mcl - (1 : Int32))]) (rest := []) ⟨hx, hb, hml, hown, hts⟩ (kX7_isIn l dC dI tys cI ht0 p1 (0 : Int32) (mcl - (1 : Int32)) r8 hC9) (va_cwS 3 hts gX7_common_X7_isIn rfl rfl rfl (by decide +kernel) ⟨Nat.le_of_ble_eq_true rfl, Nat.le_of_ble_eq_true rfl⟩) hE hK hP hD hS hA [] [0, 1, 2, 3, 4] (by decide) rfl (by decide) (wr := [(o, .inr (6, [.int (0 : Int32), .int mn, .int mch, .ref oc, .ref oi, .int mcl, .ref ol, .int mgo, .int mmo, .ref ob])), (oc, .inl (cI, 14, .inl mcf)), (oi, .inl (cI, 3, .inl mif)), (ol, .inl (cI, 24, .inl mlf)), (ob, .inl (cI, mbn, .inl mbf))]) rfl (by decide) hl.1 rfl rfl (Nat.le_of_ble_eq_true rfl) dX7_common_27 ⟨(Nat.le_of_ble_eq_true rfl), (Nat.le_of_ble_eq_true rfl)⟩ (fun i10 H locs hP hD hS => ?_)
    have hP : va_P (dC, dI) vwCl [(o, .inr (6, [.int (0 : Int32), .int mn, .int mch, .ref oc, .ref oi, .int mcl, .ref ol, .int mgo, .int mmo, .ref ob])), (oc, .inl (cI, 14, .inl mcf)), (oi, .inl (cI, 3, .inl mif)), (ol, .inl (cI, 24, .inl mlf)), (ob, .inl (cI, mbn, .inl mbf))] H := hP
    have hD : va_D A [(o, .inr (6, [.int (0 : Int32), .int mn, .int mch, .ref oc, .ref oi, .int mcl, .ref ol, .int mgo, .int mmo, .ref ob])), (oc, .inl (cI, 14, .inl mcf)), (oi, .inl (cI, 3, .inl mif)), (ol, .inl (cI, 24, .inl mlf)), (ob, .inl (cI, mbn, .inl mbf))] := hD
    refine lv_if_ne (tgt := 39) hx hb dX7_common_30 (by decide) (fun c11 => ?_) (fun c11 => ?_)
    · have hF := (if_neg c11).symm.trans hF
      refine lv_aload_n hx hb dX7_common_39 rfl (lv_at hl 0 rfl) ?_
      refine lv_aload_n hx hb dX7_common_40 rfl (lv_at hl 0 rfl) ?_
      obtain ⟨r12, hC13, hF⟩ := gd_b hF
      refine ct_callV (C := RX7) (As := []) (rest := [.ref o]) ⟨hx, hb, hml, hown, hts⟩ (kX7_rows_ l dC dI tys cI ht0 o oc oi ol ob (0 : Int32) mn mch mcl mgo mmo mcf mif mlf mbn mbf r12 hC13) (cwV 0 hts gX7_common_X7_rows_ rfl rfl rfl (by decide +kernel) ⟨Nat.le_of_ble_eq_true rfl, Nat.le_of_ble_eq_true rfl⟩) hE hK hP hD hS hA [0, 1, 2, 3, 4] [] (by decide) rfl (by decide) (wr := []) rfl (by decide) (ci := 6) (T := TX7) (N := 10) (q0 := 0) rfl rfl hl.1 rfl rfl (Nat.le_of_ble_eq_true rfl) dX7_common_41 ⟨(Nat.le_of_ble_eq_true rfl), (Nat.le_of_ble_eq_true rfl)⟩ (fun i14 H locs hP hD hS => ?_)
      have hP : va_P (dC, dI) vwCl [(o, .inr (6, [.int (0 : Int32), .int mn, .int mch, .ref oc, .ref oi, .int mcl, .ref ol, .int mgo, .int mmo, .ref ob])), (oc, .inl (cI, 14, .inl mcf)), (oi, .inl (cI, 3, .inl mif)), (ol, .inl (cI, 24, .inl mlf)), (ob, .inl (cI, mbn, .inl mbf)), (i14, .inl (cI, r12.2, .inl r12.1))] H := hP
      have hD : va_D A [(o, .inr (6, [.int (0 : Int32), .int mn, .int mch, .ref oc, .ref oi, .int mcl, .ref ol, .int mgo, .int mmo, .ref ob])), (oc, .inl (cI, 14, .inl mcf)), (oi, .inl (cI, 3, .inl mif)), (ol, .inl (cI, 24, .inl mlf)), (ob, .inl (cI, mbn, .inl mbf)), (i14, .inl (cI, r12.2, .inl r12.1))] := hD
      refine lv_iload_n hx hb dX7_common_44 rfl (lv_at hl 1 rfl) ?_
      cases hF
    · have hF := (if_pos c11).symm.trans hF
      refine lv_aload_n hx hb dX7_common_33 rfl (lv_at hl 0 rfl) ?_
      refine lv_iconst (v := (1 : Int32)) hx hb dX7_common_34 (by decide) ?_
      obtain ⟨r15, hC16, hF⟩ := gd_b hF
      refine ct_callV (C := RX7) (As := [.int (1 : Int32)]) (rest := []) ⟨hx, hb, hml, hown, hts⟩ (kX7_no l dC dI tys cI ht0 o oc oi ol ob (0 : Int32) mn mch mcl mgo mmo mcf mif mlf mbn mbf (1 : Int32) r15 hC16) (cwV 1 hts gX7_common_X7_no rfl rfl rfl (by decide +kernel) ⟨Nat.le_of_ble_eq_true rfl, Nat.le_of_ble_eq_true rfl⟩) hE hK hP hD hS hA [0, 1, 2, 3, 4] [] (by decide) rfl (by decide) (wr := []) rfl (by decide) (ci := 6) (T := TX7) (N := 10) (q0 := 0) rfl rfl hl.1 rfl rfl (Nat.le_of_ble_eq_true rfl) dX7_common_35 ⟨(Nat.le_of_ble_eq_true rfl), (Nat.le_of_ble_eq_true rfl)⟩ (fun i17 H locs hP hD hS => ?_)
      have hP : va_P (dC, dI) vwCl [(o, .inr (6, [.int r15.2, .int mn, .int mch, .ref oc, .ref oi, .int mcl, .ref ol, .int mgo, .int mmo, .ref ob])), (oc, .inl (cI, 14, .inl mcf)), (oi, .inl (cI, 3, .inl mif)), (ol, .inl (cI, 24, .inl mlf)), (ob, .inl (cI, mbn, .inl mbf))] H := hP
      have hD : va_D A [(o, .inr (6, [.int r15.2, .int mn, .int mch, .ref oc, .ref oi, .int mcl, .ref ol, .int mgo, .int mmo, .ref ob])), (oc, .inl (cI, 14, .inl mcf)), (oi, .inl (cI, 3, .inl mif)), (ol, .inl (cI, 24, .inl mlf)), (ob, .inl (cI, mbn, .inl mbf))] := hD
      obtain rfl := Option.some.inj hF
      exact ct_i hx hb hr hlocks hK hP hD hS () rfl [0, 1, 2, 3, 4] (by decide) rfl (Nat.le_of_ble_eq_true rfl) (Nat.le_of_ble_eq_true rfl) dX7_common_38

def fX7_meanPlace_X21 (r1 : ((Nat → Int32) × Nat)) (x5_21 : Int32) (x2_21 : Int32) : Option UInt64 := if (Int32.ofNat r1.2) = 0 then (some (FP.dconst0)) else (if (FP.ddiv (FP.i2d x2_21) (FP.i2d (Int32.ofNat r1.2))) &&& 0x7fffffffffffffff ≤ 0x7ff0000000000000 then (some (FP.ddiv (FP.i2d x2_21) (FP.i2d (Int32.ofNat r1.2)))) else none)
def fX7_meanPlace_L21 (r1 : ((Nat → Int32) × Nat)) (mn : Int32) (K21 : Int32 → Int32 → Option UInt64) : Nat → Int32 → Int32 → Option UInt64
  | 0, _, _ => none
  | n + 1, x5_21, x2_21 => if (Int32.ofNat r1.2) ≤ x5_21 then (K21 x5_21 x2_21) else (if (x5_21 < 0 ∨ r1.2 ≤ x5_21.toNatClampNeg) then none else ((fX7_placeNow mn mn (r1.1 x5_21.toNatClampNeg)).bind (fun r8 => (fX7_meanPlace_L21 r1 mn K21 n) (x5_21 + (1 : Int32)) (x2_21 + (r8 + (1 : Int32))))))
def fX7_meanPlace (mn : Int32) (mch : Int32) (mcl : Int32) (mcf : (Nat → Int32)) (mif : (Nat → Int32)) (mlf : (Nat → Int32)) : Option UInt64 := (fX7_rows_ mn mch mcl mcf mif mlf).bind (fun r1 => fX7_meanPlace_L21 r1 mn (fX7_meanPlace_X21 r1) 1000 (0 : Int32) (0 : Int32))
abbrev rmX7_meanPlace : Room := { frames := 3, cells := 4, slots := 357, locals := 75 }
set_option maxHeartbeats 4000000 in
set_option maxRecDepth 100000 in
theorem kX7_meanPlace (l : Launch) (dC : Nat → ClassId) (dI : Nat → Nat → Nat) (tys : List (ClassId × FieldType)) (cI : ClassId) (ht0 : tys[0]? = some (cI, .int)) (o oc oi ol ob : Nat) (mth : Int32) (mn : Int32) (mch : Int32) (mcl : Int32) (mgo : Int32) (mmo : Int32) (mcf : (Nat → Int32)) (mif : (Nat → Int32)) (mlf : (Nat → Int32)) (mbn : Nat) (mbf : (Nat → Int32)) (r : UInt64) (hF : fX7_meanPlace mn mch mcl mcf mif mlf = some r) : ct l (dC, dI) tys yX7_meanPlace wsX7_meanPlace rmX7_meanPlace [.ref o] [(o, .inr (6, [.int mth, .int mn, .int mch, .ref oc, .ref oi, .int mcl, .ref ol, .int mgo, .int mmo, .ref ob])), (oc, .inl (cI, 14, .inl mcf)), (oi, .inl (cI, 3, .inl mif)), (ol, .inl (cI, 24, .inl mlf)), (ob, .inl (cI, mbn, .inl mbf))] (fun _ : Unit => some (.double r)) (fun _ : Unit => [(o, .inr (6, [.int (0 : Int32), .int mn, .int mch, .ref oc, .ref oi, .int mcl, .ref ol, .int mgo, .int mmo, .ref ob])), (oc, .inl (cI, 14, .inl mcf)), (oi, .inl (cI, 3, .inl mif)), (ol, .inl (cI, 24, .inl mlf)), (ob, .inl (cI, mbn, .inl mbf))]) := by
  refine ct_of (cc := cX7_meanPlace) (maxL := 7) (ret := (some .double)) (by decide) rfl (Nat.le_of_ble_eq_true rfl) ?_
  intro p e s m below meth c A ls hx hb hr hml hts hown hlocks hname hE hK hP hD hA hS hl
  have hown : s.vm.findClass RX7 = some m.cls := hown
  have hl : lv_has ls 7 [(0, .ref o)] := hl
  unfold fX7_meanPlace at hF
  have uX7 : ∀ w ∈ wsX70, w ∈ wsX7_meanPlace := (fun _ h => (List.mem_cons_of_mem _ (List.mem_append_right _ h)))
  have w1 := hts (.fieldLink RX7 36 "BellfounderTowerModel" "thrown" "I") (List.mem_cons_of_mem _ (List.mem_append_left _ (List.mem_append_left _ (List.mem_of_getElem? (i := 0) rfl))))
  have w2 := hts (.fieldLink RX7 26 "BellfounderTowerModel" "n" "I") (List.mem_cons_of_mem _ (List.mem_append_left _ (List.mem_append_left _ (List.mem_of_getElem? (i := 1) rfl))))
  refine lv_aload_n hx hb dX7_meanPlace_0 rfl (lv_at hl 0 rfl) ?_
  refine lv_iconst (v := (0 : Int32)) hx hb dX7_meanPlace_1 (by decide) ?_
  refine va_put (D := (dC, dI)) (ci := 6) (v := .int (0 : Int32)) (ty := .int) (C := RX7) (T := TX7) (N := 10) hx hb hts uX7 tyX7 tyX7_ok nmX7 hown hK hP hD hS 0 rfl rfl 0 (by decide) w1 (fun _ h9 => h9) rfl (by decide +kernel) rfl rfl (Nat.le_of_ble_eq_true rfl) dX7_meanPlace_2 (fun H locs hP hD hS => ?_)
  have hP : va_P (dC, dI) vwCl [(o, .inr (6, [.int (0 : Int32), .int mn, .int mch, .ref oc, .ref oi, .int mcl, .ref ol, .int mgo, .int mmo, .ref ob])), (oc, .inl (cI, 14, .inl mcf)), (oi, .inl (cI, 3, .inl mif)), (ol, .inl (cI, 24, .inl mlf)), (ob, .inl (cI, mbn, .inl mbf))] H := hP
  have hD : va_D A [(o, .inr (6, [.int (0 : Int32), .int mn, .int mch, .ref oc, .ref oi, .int mcl, .ref ol, .int mgo, .int mmo, .ref ob])), (oc, .inl (cI, 14, .inl mcf)), (oi, .inl (cI, 3, .inl mif)), (ol, .inl (cI, 24, .inl mlf)), (ob, .inl (cI, mbn, .inl mbf))] := hD
  refine lv_aload_n hx hb dX7_meanPlace_5 rfl (lv_at hl 0 rfl) ?_
  obtain ⟨r1, hC2, hF⟩ := gd_b hF
  refine ct_callV (C := RX7) (As := []) (rest := []) ⟨hx, hb, hml, hown, hts⟩ (kX7_rows_ l dC dI tys cI ht0 o oc oi ol ob (0 : Int32) mn mch mcl mgo mmo mcf mif mlf mbn mbf r1 hC2) (cwV 0 hts gX7_meanPlace_X7_rows_ rfl rfl rfl (by decide +kernel) ⟨Nat.le_of_ble_eq_true rfl, Nat.le_of_ble_eq_true rfl⟩) hE hK hP hD hS hA [0, 1, 2, 3, 4] [] (by decide) rfl (by decide) (wr := []) rfl (by decide) (ci := 6) (T := TX7) (N := 10) (q0 := 0) rfl rfl hl.1 rfl rfl (Nat.le_of_ble_eq_true rfl) dX7_meanPlace_6 ⟨(Nat.le_of_ble_eq_true rfl), (Nat.le_of_ble_eq_true rfl)⟩ (fun i3 H locs hP hD hS => ?_)
  have hP : va_P (dC, dI) vwCl [(o, .inr (6, [.int (0 : Int32), .int mn, .int mch, .ref oc, .ref oi, .int mcl, .ref ol, .int mgo, .int mmo, .ref ob])), (oc, .inl (cI, 14, .inl mcf)), (oi, .inl (cI, 3, .inl mif)), (ol, .inl (cI, 24, .inl mlf)), (ob, .inl (cI, mbn, .inl mbf)), (i3, .inl (cI, r1.2, .inl r1.1))] H := hP
  have hD : va_D A [(o, .inr (6, [.int (0 : Int32), .int mn, .int mch, .ref oc, .ref oi, .int mcl, .ref ol, .int mgo, .int mmo, .ref ob])), (oc, .inl (cI, 14, .inl mcf)), (oi, .inl (cI, 3, .inl mif)), (ol, .inl (cI, 24, .inl mlf)), (ob, .inl (cI, mbn, .inl mbf)), (i3, .inl (cI, r1.2, .inl r1.1))] := hD
  refine lv_astore_n (lv' := [(1, .ref i3), (0, .ref o)]) hx hb dX7_meanPlace_9 rfl hl (by decide) rfl (fun ls hl => ?_)
  refine lv_iconst (v := (0 : Int32)) hx hb dX7_meanPlace_10 (by decide) ?_
  refine lv_istore_n (lv' := [(2, .int (0 : Int32)), (1, .ref i3), (0, .ref o)]) hx hb dX7_meanPlace_11 rfl hl (by decide) rfl (fun ls hl => ?_)
  refine lv_aload_n hx hb dX7_meanPlace_12 rfl (lv_at hl 1 rfl) ?_
  refine lv_astore_n (lv' := [(3, .ref i3), (2, .int (0 : Int32)), (1, .ref i3), (0, .ref o)]) hx hb dX7_meanPlace_13 rfl hl (by decide) rfl (fun ls hl => ?_)
  refine lv_aload_n hx hb dX7_meanPlace_14 rfl (lv_at hl 0 rfl) ?_
  refine va_alen hx hb hK hP 5 0 rfl ht0 (v := Int32.ofNat r1.2) rfl dX7_meanPlace_15 ?_
  refine lv_istore (lv' := [(4, .int (Int32.ofNat r1.2)), (3, .ref i3), (2, .int (0 : Int32)), (1, .ref i3), (0, .ref o)]) hx hb dX7_meanPlace_16 hl (by decide) rfl (fun ls hl => ?_)
  refine lv_iconst (v := (0 : Int32)) hx hb dX7_meanPlace_18 (by decide) ?_
  refine lv_istore (lv' := [(5, .int (0 : Int32)), (4, .int (Int32.ofNat r1.2)), (3, .ref i3), (2, .int (0 : Int32)), (1, .ref i3), (0, .ref o)]) hx hb dX7_meanPlace_19 hl (by decide) rfl (fun ls hl => ?_)
  have X21 : ∀ (x5_21 : Int32) (x2_21 : Int32) (H : Heap) (locs : List Loc) (ls : Array Slot), fX7_meanPlace_X21 r1 x5_21 x2_21 = some r → va_P (dC, dI) vwCl [(o, .inr (6, [.int (0 : Int32), .int mn, .int mch, .ref oc, .ref oi, .int mcl, .ref ol, .int mgo, .int mmo, .ref ob])), (oc, .inl (cI, 14, .inl mcf)), (oi, .inl (cI, 3, .inl mif)), (ol, .inl (cI, 24, .inl mlf)), (ob, .inl (cI, mbn, .inl mbf)), (i3, .inl (cI, r1.2, .inl r1.1))] H → va_D A [(o, .inr (6, [.int (0 : Int32), .int mn, .int mch, .ref oc, .ref oi, .int mcl, .ref ol, .int mgo, .int mmo, .ref ob])), (oc, .inl (cI, 14, .inl mcf)), (oi, .inl (cI, 3, .inl mif)), (ol, .inl (cI, 24, .inl mlf)), (ob, .inl (cI, mbn, .inl mbf)), (i3, .inl (cI, r1.2, .inl r1.1))] → va_S A s.heap H locs → lv_has ls 7 [(5, .int x5_21), (4, .int (Int32.ofNat r1.2)), (3, .ref i3), (2, .int x2_21), (1, .ref i3), (0, .ref o)] → W p l e rmX7_meanPlace s m ([.ref o] : List Value).toArray below meth c H locs 4 357 (MQ below (ct_Q (dC, dI) tys (fun _ : Unit => some (.double r)) (fun _ : Unit => [(o, .inr (6, [.int (0 : Int32), .int mn, .int mch, .ref oc, .ref oi, .int mcl, .ref ol, .int mgo, .int mmo, .ref ob])), (oc, .inl (cI, 14, .inl mcf)), (oi, .inl (cI, 3, .inl mif)), (ol, .inl (cI, 24, .inl mlf)), (ob, .inl (cI, mbn, .inl mbf))]) A) ([.ref o] : List Value).toArray s rmX7_meanPlace.cells rmX7_meanPlace.slots A) (F0 m 55 ls []) := by
    intro x5_21 x2_21 H locs ls hF hP hD hS hl
    unfold fX7_meanPlace_X21 at hF
    refine lv_aload_n hx hb dX7_meanPlace_55 rfl (lv_at hl 4 rfl) ?_
    refine va_alen hx hb hK hP 5 0 rfl ht0 (v := Int32.ofNat r1.2) rfl dX7_meanPlace_56 ?_
    refine lv_if_ne (tgt := 64) hx hb dX7_meanPlace_57 (by decide) (fun c4 => ?_) (fun c4 => ?_)
    · have hF := (if_neg c4).symm.trans hF
      refine lv_iload_n hx hb dX7_meanPlace_64 rfl (lv_at hl 3 rfl) ?_
      refine lv_i2d hx hb dX7_meanPlace_65 ?_
      refine lv_aload_n hx hb dX7_meanPlace_66 rfl (lv_at hl 4 rfl) ?_
      refine va_alen hx hb hK hP 5 0 rfl ht0 (v := Int32.ofNat r1.2) rfl dX7_meanPlace_67 ?_
      refine lv_i2d hx hb dX7_meanPlace_68 ?_
      obtain ⟨g5, hF⟩ := gd_p hF
      refine lv_ddiv hx hb dX7_meanPlace_69 g5 ?_
      obtain rfl := Option.some.inj hF
      exact ct_d hx hb hr hlocks hK hP hD hS () rfl [0, 1, 2, 3, 4] (by decide) rfl (Nat.le_of_ble_eq_true rfl) (Nat.le_of_ble_eq_true rfl) dX7_meanPlace_70
    · have hF := (if_pos c4).symm.trans hF
      refine lv_dconst0 hx hb dX7_meanPlace_60 ?_
      refine lv_goto (tgt := 70) hx hb dX7_meanPlace_61 (by decide) ?_
      obtain rfl := Option.some.inj hF
      exact ct_d hx hb hr hlocks hK hP hD hS () rfl [0, 1, 2, 3, 4] (by decide) rfl (Nat.le_of_ble_eq_true rfl) (Nat.le_of_ble_eq_true rfl) dX7_meanPlace_70
  have L21 : ∀ (n21 : Nat) (x5_21 : Int32) (x2_21 : Int32) (H : Heap) (locs : List Loc) (ls : Array Slot), fX7_meanPlace_L21 r1 mn (fX7_meanPlace_X21 r1) n21 x5_21 x2_21 = some r → va_P (dC, dI) vwCl [(o, .inr (6, [.int (0 : Int32), .int mn, .int mch, .ref oc, .ref oi, .int mcl, .ref ol, .int mgo, .int mmo, .ref ob])), (oc, .inl (cI, 14, .inl mcf)), (oi, .inl (cI, 3, .inl mif)), (ol, .inl (cI, 24, .inl mlf)), (ob, .inl (cI, mbn, .inl mbf)), (i3, .inl (cI, r1.2, .inl r1.1))] H → va_D A [(o, .inr (6, [.int (0 : Int32), .int mn, .int mch, .ref oc, .ref oi, .int mcl, .ref ol, .int mgo, .int mmo, .ref ob])), (oc, .inl (cI, 14, .inl mcf)), (oi, .inl (cI, 3, .inl mif)), (ol, .inl (cI, 24, .inl mlf)), (ob, .inl (cI, mbn, .inl mbf)), (i3, .inl (cI, r1.2, .inl r1.1))] → va_S A s.heap H locs → lv_has ls 7 [(5, .int x5_21), (4, .int (Int32.ofNat r1.2)), (3, .ref i3), (2, .int x2_21), (1, .ref i3), (0, .ref o)] → W p l e rmX7_meanPlace s m ([.ref o] : List Value).toArray below meth c H locs 4 357 (MQ below (ct_Q (dC, dI) tys (fun _ : Unit => some (.double r)) (fun _ : Unit => [(o, .inr (6, [.int (0 : Int32), .int mn, .int mch, .ref oc, .ref oi, .int mcl, .ref ol, .int mgo, .int mmo, .ref ob])), (oc, .inl (cI, 14, .inl mcf)), (oi, .inl (cI, 3, .inl mif)), (ol, .inl (cI, 24, .inl mlf)), (ob, .inl (cI, mbn, .inl mbf))]) A) ([.ref o] : List Value).toArray s rmX7_meanPlace.cells rmX7_meanPlace.slots A) (F0 m 21 ls []) := by
    intro n21
    induction n21 with
    | zero => intro x5_21 x2_21 H locs ls hF; rw [fX7_meanPlace_L21] at hF; cases hF
    | succ n21 ih21 =>
      intro x5_21 x2_21 H locs ls hF hP hD hS hl
      rw [fX7_meanPlace_L21] at hF
      refine lv_iload hx hb dX7_meanPlace_21 (lv_at hl 0 rfl) ?_
      refine lv_iload hx hb dX7_meanPlace_23 (lv_at hl 1 rfl) ?_
      refine lv_icmp_ge (tgt := 55) hx hb dX7_meanPlace_25 (by decide) (fun c6 => ?_) (fun c6 => ?_)
      · have hF := (if_pos c6).symm.trans hF
        exact X21 x5_21 x2_21 _ _ _ hF (hP.sub [0, 1, 2, 3, 4, 5] rfl) (hD.sub [0, 1, 2, 3, 4, 5] (by decide) rfl) hS (lv_sub hl [0, 1, 2, 3, 4, 5] rfl)
      · have hF := (if_neg c6).symm.trans hF
        refine lv_aload_n hx hb dX7_meanPlace_28 rfl (lv_at hl 2 rfl) ?_
        refine lv_iload hx hb dX7_meanPlace_29 (lv_at hl 0 rfl) ?_
        obtain ⟨g7, hF⟩ := gd_n hF
        refine va_iald hx hb hK hP 5 0 rfl ht0 g7 dX7_meanPlace_31 ?_
        refine lv_istore (lv' := [(6, .int (r1.1 x5_21.toNatClampNeg)), (5, .int x5_21), (4, .int (Int32.ofNat r1.2)), (3, .ref i3), (2, .int x2_21), (1, .ref i3), (0, .ref o)]) hx hb dX7_meanPlace_32 hl (by decide) rfl (fun ls hl => ?_)
        refine lv_iload_n hx hb dX7_meanPlace_34 rfl (lv_at hl 4 rfl) ?_
        refine lv_aload_n hx hb dX7_meanPlace_35 rfl (lv_at hl 6 rfl) ?_
        refine lv_aload_n hx hb dX7_meanPlace_36 rfl (lv_at hl 6 rfl) ?_
        refine va_get (D := (dC, dI)) (ci := 6) (v := .int mn) (C := RX7) (T := TX7) (N := 10) hx hb hts uX7 hown hK hP 0 rfl rfl 1 (by decide) w2 (fun _ h9 => h9) rfl dX7_meanPlace_37 ?_
        refine lv_iload hx hb dX7_meanPlace_40 (lv_at hl 0 rfl) ?_
        obtain ⟨r8, hC9, hF⟩ := gd_b hF
        refine ct_callV (C := RX7) (As := [.int mn, .int (r1.1 x5_21.toNatClampNeg)]) (rest := [.int x2_21]) ⟨hx, hb, hml, hown, hts⟩ (kX7_placeNow l dC dI tys cI ht0 o oc oi ol ob (0 : Int32) mn mch mcl mgo mmo mcf mif mlf mbn mbf mn (r1.1 x5_21.toNatClampNeg) r8 hC9) (cwV 2 hts gX7_meanPlace_X7_placeNow rfl rfl rfl (by decide +kernel) ⟨Nat.le_of_ble_eq_true rfl, Nat.le_of_ble_eq_true rfl⟩) hE hK hP hD hS hA [0, 1, 2, 3, 4] [5] (by decide) rfl (by decide) (wr := [(i3, .inl (cI, r1.2, .inl r1.1))]) rfl (by decide) (ci := 6) (T := TX7) (N := 10) (q0 := 0) rfl rfl hl.1 rfl rfl (Nat.le_of_ble_eq_true rfl) dX7_meanPlace_42 ⟨(Nat.le_of_ble_eq_true rfl), (Nat.le_of_ble_eq_true rfl)⟩ (fun i10 H locs hP hD hS => ?_)
        have hP : va_P (dC, dI) vwCl [(i3, .inl (cI, r1.2, .inl r1.1)), (o, .inr (6, [.int (0 : Int32), .int mn, .int mch, .ref oc, .ref oi, .int mcl, .ref ol, .int mgo, .int mmo, .ref ob])), (oc, .inl (cI, 14, .inl mcf)), (oi, .inl (cI, 3, .inl mif)), (ol, .inl (cI, 24, .inl mlf)), (ob, .inl (cI, mbn, .inl mbf))] H := hP
        have hD : va_D A [(i3, .inl (cI, r1.2, .inl r1.1)), (o, .inr (6, [.int (0 : Int32), .int mn, .int mch, .ref oc, .ref oi, .int mcl, .ref ol, .int mgo, .int mmo, .ref ob])), (oc, .inl (cI, 14, .inl mcf)), (oi, .inl (cI, 3, .inl mif)), (ol, .inl (cI, 24, .inl mlf)), (ob, .inl (cI, mbn, .inl mbf))] := hD
        refine lv_iconst (v := (1 : Int32)) hx hb dX7_meanPlace_45 (by decide) ?_
        refine lv_iadd hx hb dX7_meanPlace_46 ?_
        refine lv_iadd hx hb dX7_meanPlace_47 ?_
        refine lv_istore_n (lv' := [(2, .int (x2_21 + (r8 + (1 : Int32)))), (6, .int (r1.1 x5_21.toNatClampNeg)), (5, .int x5_21), (4, .int (Int32.ofNat r1.2)), (3, .ref i3), (1, .ref i3), (0, .ref o)]) hx hb dX7_meanPlace_48 rfl hl (by decide) rfl (fun ls hl => ?_)
        refine lv_iinc (v := x5_21 + (1 : Int32)) (lv' := [(5, .int (x5_21 + (1 : Int32))), (2, .int (x2_21 + (r8 + (1 : Int32)))), (6, .int (r1.1 x5_21.toNatClampNeg)), (4, .int (Int32.ofNat r1.2)), (3, .ref i3), (1, .ref i3), (0, .ref o)]) hx hb dX7_meanPlace_49 hl (k := 2) rfl rfl (by decide) rfl (fun ls hl => ?_)
        refine lv_goto (tgt := 21) hx hb dX7_meanPlace_52 (by decide) ?_
        exact ih21 (x5_21 + (1 : Int32)) (x2_21 + (r8 + (1 : Int32))) _ _ _ hF (hP.sub [1, 2, 3, 4, 5, 0] rfl) (hD.sub [1, 2, 3, 4, 5, 0] (by decide) rfl) hS (lv_sub hl [0, 3, 4, 1, 5, 6] rfl)
  exact L21 1000 (0 : Int32) (0 : Int32) _ _ _ hF (hP.sub [0, 1, 2, 3, 4, 5] rfl) (hD.sub [0, 1, 2, 3, 4, 5] (by decide) rfl) hS (lv_sub hl [0, 1, 2, 3, 4, 5] rfl)

def fX7_search_X48   : Option Unit := some ()
def fX7_search_L48 (p0 : Int32) (mch : Int32) (mn : Int32) (K48 : Option Unit) : Nat → Option Unit
  | 0 => none
  | n + 1 => if p0 < (1 : Int32) then (K48) else (if mch ≤ 0 then (K48) else ((fX7_same mn).bind (fun r16 => none)))
def fX7_search (mn : Int32) (mch : Int32) (mcf : (Nat → Int32)) (mif : (Nat → Int32)) (p0 : Int32) : Option Unit := (fX7_leadOrder mn mch mcf mif (0 : Int32)).bind (fun r5 => (fX7_leadOrder mn mch mcf mif (1 : Int32)).bind (fun r8 => (fX7_leadOrder mn mch mcf mif (2 : Int32)).bind (fun r11 => fX7_search_L48 p0 mch mn fX7_search_X48 1000)))
abbrev rmX7_search : Room := { frames := 4, cells := 97, slots := 666, locals := 90 }
set_option maxHeartbeats 4000000 in
set_option maxRecDepth 100000 in
theorem kX7_search (l : Launch) (dC : Nat → ClassId) (dI : Nat → Nat → Nat) (tys : List (ClassId × FieldType)) (cI : ClassId) (ht0 : tys[0]? = some (cI, .int)) (cR : ClassId) (ht3 : tys[3]? = some (cR, .array .int)) (o oc oi ol ob : Nat) (mth : Int32) (mn : Int32) (mch : Int32) (mcl : Int32) (mgo : Int32) (mmo : Int32) (mcf : (Nat → Int32)) (mif : (Nat → Int32)) (mlf : (Nat → Int32)) (mbn : Nat) (mbf : (Nat → Int32)) (p0 : Int32) (r : Unit) (hF : fX7_search mn mch mcf mif p0 = some r) : ct l (dC, dI) tys yX7_search wsX7_search rmX7_search [.ref o, .int p0] [(o, .inr (6, [.int mth, .int mn, .int mch, .ref oc, .ref oi, .int mcl, .ref ol, .int mgo, .int mmo, .ref ob])), (oc, .inl (cI, 14, .inl mcf)), (oi, .inl (cI, 3, .inl mif)), (ol, .inl (cI, 24, .inl mlf)), (ob, .inl (cI, mbn, .inl mbf))] (fun _ : Nat => none) (fun i : Nat => [(o, .inr (6, [.int mth, .int mn, .int mch, .ref oc, .ref oi, .int mcl, .ref ol, .int (0 : Int32), .int (-1 : Int32), .ref i])), (oc, .inl (cI, 14, .inl mcf)), (oi, .inl (cI, 3, .inl mif)), (ol, .inl (cI, 24, .inl mlf)), (i, .inl (cI, 0, .inl (fun _ => 0)))]) := by
  refine ct_of (cc := cX7_search) (maxL := 4) (ret := none) (by decide) rfl (Nat.le_of_ble_eq_true rfl) ?_
  intro p e s m below meth c A ls hx hb hr hml hts hown hlocks hname hE hK hP hD hA hS hl
  have hown : s.vm.findClass RX7 = some m.cls := hown
  have hl : lv_has ls 4 [(0, .ref o), (1, .int p0)] := hl
  unfold fX7_search at hF
  have uX7 : ∀ w ∈ wsX70, w ∈ wsX7_search := (fun _ h => (List.mem_cons_of_mem _ (List.mem_append_right _ h)))
  have w1 := hts (.fieldLink RX7 154 "BellfounderTowerModel" "goods" "I") (List.mem_cons_of_mem _ (List.mem_append_left _ (List.mem_append_left _ (List.mem_of_getElem? (i := 0) rfl))))
  have w2 := hts (.fieldLink RX7 157 "BellfounderTowerModel" "most" "I") (List.mem_cons_of_mem _ (List.mem_append_left _ (List.mem_append_left _ (List.mem_of_getElem? (i := 1) rfl))))
  have w3 := hts (.arrayClass .int) (List.mem_cons_of_mem _ (List.mem_append_left _ (List.mem_append_left _ (List.mem_of_getElem? (i := 2) rfl))))
  have w4 := hts (.fieldLink RX7 19 "BellfounderTowerModel" "best" "[I") (List.mem_cons_of_mem _ (List.mem_append_left _ (List.mem_append_left _ (List.mem_of_getElem? (i := 3) rfl))))
  have w5 := hts (.classLink RX7 164 "[I") (List.mem_cons_of_mem _ (List.mem_append_left _ (List.mem_append_left _ (List.mem_of_getElem? (i := 4) rfl))))
  have w6 := hts (.fieldLink RX7 30 "BellfounderTowerModel" "changes" "I") (List.mem_cons_of_mem _ (List.mem_append_left _ (List.mem_append_left _ (List.mem_of_getElem? (i := 5) rfl))))
  refine lv_aload_n hx hb dX7_search_0 rfl (lv_at hl 0 rfl) ?_
  refine lv_iconst (v := (0 : Int32)) hx hb dX7_search_1 (by decide) ?_
  refine va_put (D := (dC, dI)) (ci := 6) (v := .int (0 : Int32)) (ty := .int) (C := RX7) (T := TX7) (N := 10) hx hb hts uX7 tyX7 tyX7_ok nmX7 hown hK hP hD hS 0 rfl rfl 7 (by decide) w1 (fun _ h9 => h9) rfl (by decide +kernel) rfl rfl (Nat.le_of_ble_eq_true rfl) dX7_search_2 (fun H locs hP hD hS => ?_)
  have hP : va_P (dC, dI) vwCl [(o, .inr (6, [.int mth, .int mn, .int mch, .ref oc, .ref oi, .int mcl, .ref ol, .int (0 : Int32), .int mmo, .ref ob])), (oc, .inl (cI, 14, .inl mcf)), (oi, .inl (cI, 3, .inl mif)), (ol, .inl (cI, 24, .inl mlf)), (ob, .inl (cI, mbn, .inl mbf))] H := hP
  have hD : va_D A [(o, .inr (6, [.int mth, .int mn, .int mch, .ref oc, .ref oi, .int mcl, .ref ol, .int (0 : Int32), .int mmo, .ref ob])), (oc, .inl (cI, 14, .inl mcf)), (oi, .inl (cI, 3, .inl mif)), (ol, .inl (cI, 24, .inl mlf)), (ob, .inl (cI, mbn, .inl mbf))] := hD
  refine lv_aload_n hx hb dX7_search_5 rfl (lv_at hl 0 rfl) ?_
  refine lv_iconst (v := (-1 : Int32)) hx hb dX7_search_6 (by decide) ?_
  refine va_put (D := (dC, dI)) (ci := 6) (v := .int (-1 : Int32)) (ty := .int) (C := RX7) (T := TX7) (N := 10) hx hb hts uX7 tyX7 tyX7_ok nmX7 hown hK hP hD hS 0 rfl rfl 8 (by decide) w2 (fun _ h9 => h9) rfl (by decide +kernel) rfl rfl (Nat.le_of_ble_eq_true rfl) dX7_search_7 (fun H locs hP hD hS => ?_)
  have hP : va_P (dC, dI) vwCl [(o, .inr (6, [.int mth, .int mn, .int mch, .ref oc, .ref oi, .int mcl, .ref ol, .int (0 : Int32), .int (-1 : Int32), .ref ob])), (oc, .inl (cI, 14, .inl mcf)), (oi, .inl (cI, 3, .inl mif)), (ol, .inl (cI, 24, .inl mlf)), (ob, .inl (cI, mbn, .inl mbf))] H := hP
  have hD : va_D A [(o, .inr (6, [.int mth, .int mn, .int mch, .ref oc, .ref oi, .int mcl, .ref ol, .int (0 : Int32), .int (-1 : Int32), .ref ob])), (oc, .inl (cI, 14, .inl mcf)), (oi, .inl (cI, 3, .inl mif)), (ol, .inl (cI, 24, .inl mlf)), (ob, .inl (cI, mbn, .inl mbf))] := hD
  refine lv_aload_n hx hb dX7_search_10 rfl (lv_at hl 0 rfl) ?_
  refine lv_iconst (v := (0 : Int32)) hx hb dX7_search_11 (by decide) ?_
  refine ct_newi hx hb w3 ht0 hK hP hD hS hA (N' := 0) (by decide) (by decide) (Nat.le_of_ble_eq_true rfl) (Nat.le_of_ble_eq_true rfl) (Nat.le_of_ble_eq_true rfl) dX7_search_12 (fun q3 H hP hD hS => ?_)
  have hP : va_P (dC, dI) vwCl [(o, .inr (6, [.int mth, .int mn, .int mch, .ref oc, .ref oi, .int mcl, .ref ol, .int (0 : Int32), .int (-1 : Int32), .ref ob])), (oc, .inl (cI, 14, .inl mcf)), (oi, .inl (cI, 3, .inl mif)), (ol, .inl (cI, 24, .inl mlf)), (ob, .inl (cI, mbn, .inl mbf)), (q3, .inl (cI, 0, .inl (fun _ => 0)))] H := hP
  have hD : va_D A [(o, .inr (6, [.int mth, .int mn, .int mch, .ref oc, .ref oi, .int mcl, .ref ol, .int (0 : Int32), .int (-1 : Int32), .ref ob])), (oc, .inl (cI, 14, .inl mcf)), (oi, .inl (cI, 3, .inl mif)), (ol, .inl (cI, 24, .inl mlf)), (ob, .inl (cI, mbn, .inl mbf)), (q3, .inl (cI, 0, .inl (fun _ => 0)))] := hD
  refine va_put (D := (dC, dI)) (ci := 6) (v := .ref q3) (ty := .array .int) (C := RX7) (T := TX7) (N := 10) hx hb hts uX7 tyX7 tyX7_ok nmX7 hown hK hP hD hS 0 rfl rfl 9 (by decide) w4 (fun _ h9 => h9) rfl (by decide +kernel) rfl rfl (Nat.le_of_ble_eq_true rfl) dX7_search_14 (fun H locs hP hD hS => ?_)
  have hP : va_P (dC, dI) vwCl [(o, .inr (6, [.int mth, .int mn, .int mch, .ref oc, .ref oi, .int mcl, .ref ol, .int (0 : Int32), .int (-1 : Int32), .ref q3])), (oc, .inl (cI, 14, .inl mcf)), (oi, .inl (cI, 3, .inl mif)), (ol, .inl (cI, 24, .inl mlf)), (ob, .inl (cI, mbn, .inl mbf)), (q3, .inl (cI, 0, .inl (fun _ => 0)))] H := hP
  have hD : va_D A [(o, .inr (6, [.int mth, .int mn, .int mch, .ref oc, .ref oi, .int mcl, .ref ol, .int (0 : Int32), .int (-1 : Int32), .ref q3])), (oc, .inl (cI, 14, .inl mcf)), (oi, .inl (cI, 3, .inl mif)), (ol, .inl (cI, 24, .inl mlf)), (ob, .inl (cI, mbn, .inl mbf)), (q3, .inl (cI, 0, .inl (fun _ => 0)))] := hD
  refine lv_iconst (v := (3 : Int32)) hx hb dX7_search_17 (by decide) ?_
  refine ct_newA hx hb hown w5 hE ht3 hK hP hD hS hA (N' := 3) (by decide) (by decide) (Nat.le_of_ble_eq_true rfl) (Nat.le_of_ble_eq_true rfl) (Nat.le_of_ble_eq_true rfl) dX7_search_18 (fun q4 H hP hD hS => ?_)
  have hP : va_P (dC, dI) vwCl [(o, .inr (6, [.int mth, .int mn, .int mch, .ref oc, .ref oi, .int mcl, .ref ol, .int (0 : Int32), .int (-1 : Int32), .ref q3])), (oc, .inl (cI, 14, .inl mcf)), (oi, .inl (cI, 3, .inl mif)), (ol, .inl (cI, 24, .inl mlf)), (ob, .inl (cI, mbn, .inl mbf)), (q3, .inl (cI, 0, .inl (fun _ => 0))), (q4, .inl (cR, 3, .inr (.inr (.inr (.inr (fun _ => none))))))] H := hP
  have hD : va_D A [(o, .inr (6, [.int mth, .int mn, .int mch, .ref oc, .ref oi, .int mcl, .ref ol, .int (0 : Int32), .int (-1 : Int32), .ref q3])), (oc, .inl (cI, 14, .inl mcf)), (oi, .inl (cI, 3, .inl mif)), (ol, .inl (cI, 24, .inl mlf)), (ob, .inl (cI, mbn, .inl mbf)), (q3, .inl (cI, 0, .inl (fun _ => 0))), (q4, .inl (cR, 3, .inr (.inr (.inr (.inr (fun _ => none))))))] := hD
  refine lv_dup hx hb dX7_search_21 rfl ?_
  refine lv_iconst (v := (0 : Int32)) hx hb dX7_search_22 (by decide) ?_
  refine lv_aload_n hx hb dX7_search_23 rfl (lv_at hl 0 rfl) ?_
  refine lv_iconst (v := (0 : Int32)) hx hb dX7_search_24 (by decide) ?_
  obtain ⟨r5, hC6, hF⟩ := gd_b hF
  refine ct_callV (C := RX7) (As := [.int (0 : Int32)]) (rest := [.int (0 : Int32), .ref q4, .ref q4]) ⟨hx, hb, hml, hown, hts⟩ (kX7_leadOrder l dC dI tys cI ht0 o oc oi ol q3 mth mn mch mcl (0 : Int32) (-1 : Int32) mcf mif mlf 0 (fun _ => 0) (0 : Int32) r5 hC6) (cwV 1 hts gX7_search_X7_leadOrder rfl rfl rfl (by decide +kernel) ⟨Nat.le_of_ble_eq_true rfl, Nat.le_of_ble_eq_true rfl⟩) hE hK hP hD hS hA [0, 1, 2, 3, 5] [4, 6] (by decide) rfl (by decide) (wr := [(ob, .inl (cI, mbn, .inl mbf)), (q4, .inl (cR, 3, .inr (.inr (.inr (.inr (fun _ => none))))))]) rfl (by decide) (ci := 6) (T := TX7) (N := 10) (q0 := 0) rfl rfl hl.1 rfl rfl (Nat.le_of_ble_eq_true rfl) dX7_search_25 ⟨(Nat.le_of_ble_eq_true rfl), (Nat.le_of_ble_eq_true rfl)⟩ (fun i7 H locs hP hD hS => ?_)
  have hP : va_P (dC, dI) vwCl [(ob, .inl (cI, mbn, .inl mbf)), (q4, .inl (cR, 3, .inr (.inr (.inr (.inr (fun _ => none)))))), (o, .inr (6, [.int mth, .int mn, .int mch, .ref oc, .ref oi, .int mcl, .ref ol, .int (0 : Int32), .int (-1 : Int32), .ref q3])), (oc, .inl (cI, 14, .inl mcf)), (oi, .inl (cI, 3, .inl mif)), (ol, .inl (cI, 24, .inl mlf)), (q3, .inl (cI, 0, .inl (fun _ => 0))), (i7, .inl (cI, r5.2, .inl r5.1))] H := hP
  have hD : va_D A [(ob, .inl (cI, mbn, .inl mbf)), (q4, .inl (cR, 3, .inr (.inr (.inr (.inr (fun _ => none)))))), (o, .inr (6, [.int mth, .int mn, .int mch, .ref oc, .ref oi, .int mcl, .ref ol, .int (0 : Int32), .int (-1 : Int32), .ref q3])), (oc, .inl (cI, 14, .inl mcf)), (oi, .inl (cI, 3, .inl mif)), (ol, .inl (cI, 24, .inl mlf)), (q3, .inl (cI, 0, .inl (fun _ => 0))), (i7, .inl (cI, r5.2, .inl r5.1))] := hD
  refine ct_astA (qk := 7) hx hb hE hK hP hD hS (q0 := 1) rfl ht3 rfl ht0 (by unfold vp_in; decide) dX7_search_28 (fun H locs hP hD hS => ?_)
  have hP : va_P (dC, dI) vwCl [(ob, .inl (cI, mbn, .inl mbf)), (q4, .inl (cR, 3, .inr (.inr (.inr (.inr (va_up (fun _ => none) (0 : Int32).toNatClampNeg (some i7))))))), (o, .inr (6, [.int mth, .int mn, .int mch, .ref oc, .ref oi, .int mcl, .ref ol, .int (0 : Int32), .int (-1 : Int32), .ref q3])), (oc, .inl (cI, 14, .inl mcf)), (oi, .inl (cI, 3, .inl mif)), (ol, .inl (cI, 24, .inl mlf)), (q3, .inl (cI, 0, .inl (fun _ => 0))), (i7, .inl (cI, r5.2, .inl r5.1))] H := hP
  have hD : va_D A [(ob, .inl (cI, mbn, .inl mbf)), (q4, .inl (cR, 3, .inr (.inr (.inr (.inr (va_up (fun _ => none) (0 : Int32).toNatClampNeg (some i7))))))), (o, .inr (6, [.int mth, .int mn, .int mch, .ref oc, .ref oi, .int mcl, .ref ol, .int (0 : Int32), .int (-1 : Int32), .ref q3])), (oc, .inl (cI, 14, .inl mcf)), (oi, .inl (cI, 3, .inl mif)), (ol, .inl (cI, 24, .inl mlf)), (q3, .inl (cI, 0, .inl (fun _ => 0))), (i7, .inl (cI, r5.2, .inl r5.1))] := hD
  refine lv_dup hx hb dX7_search_29 rfl ?_
  refine lv_iconst (v := (1 : Int32)) hx hb dX7_search_30 (by decide) ?_
  refine lv_aload_n hx hb dX7_search_31 rfl (lv_at hl 0 rfl) ?_
  refine lv_iconst (v := (1 : Int32)) hx hb dX7_search_32 (by decide) ?_
  obtain ⟨r8, hC9, hF⟩ := gd_b hF
  refine ct_callV (C := RX7) (As := [.int (1 : Int32)]) (rest := [.int (1 : Int32), .ref q4, .ref q4]) ⟨hx, hb, hml, hown, hts⟩ (kX7_leadOrder l dC dI tys cI ht0 o oc oi ol q3 mth mn mch mcl (0 : Int32) (-1 : Int32) mcf mif mlf 0 (fun _ => 0) (1 : Int32) r8 hC9) (cwV 1 hts gX7_search_X7_leadOrder rfl rfl rfl (by decide +kernel) ⟨Nat.le_of_ble_eq_true rfl, Nat.le_of_ble_eq_true rfl⟩) hE hK hP hD hS hA [2, 3, 4, 5, 6] [0, 1, 7] (by decide) rfl (by decide) (wr := [(ob, .inl (cI, mbn, .inl mbf)), (q4, .inl (cR, 3, .inr (.inr (.inr (.inr (va_up (fun _ => none) (0 : Int32).toNatClampNeg (some i7))))))), (i7, .inl (cI, r5.2, .inl r5.1))]) rfl (by decide) (ci := 6) (T := TX7) (N := 10) (q0 := 0) rfl rfl hl.1 rfl rfl (Nat.le_of_ble_eq_true rfl) dX7_search_33 ⟨(Nat.le_of_ble_eq_true rfl), (Nat.le_of_ble_eq_true rfl)⟩ (fun i10 H locs hP hD hS => ?_)
  have hP : va_P (dC, dI) vwCl [(ob, .inl (cI, mbn, .inl mbf)), (q4, .inl (cR, 3, .inr (.inr (.inr (.inr (va_up (fun _ => none) (0 : Int32).toNatClampNeg (some i7))))))), (i7, .inl (cI, r5.2, .inl r5.1)), (o, .inr (6, [.int mth, .int mn, .int mch, .ref oc, .ref oi, .int mcl, .ref ol, .int (0 : Int32), .int (-1 : Int32), .ref q3])), (oc, .inl (cI, 14, .inl mcf)), (oi, .inl (cI, 3, .inl mif)), (ol, .inl (cI, 24, .inl mlf)), (q3, .inl (cI, 0, .inl (fun _ => 0))), (i10, .inl (cI, r8.2, .inl r8.1))] H := hP
  have hD : va_D A [(ob, .inl (cI, mbn, .inl mbf)), (q4, .inl (cR, 3, .inr (.inr (.inr (.inr (va_up (fun _ => none) (0 : Int32).toNatClampNeg (some i7))))))), (i7, .inl (cI, r5.2, .inl r5.1)), (o, .inr (6, [.int mth, .int mn, .int mch, .ref oc, .ref oi, .int mcl, .ref ol, .int (0 : Int32), .int (-1 : Int32), .ref q3])), (oc, .inl (cI, 14, .inl mcf)), (oi, .inl (cI, 3, .inl mif)), (ol, .inl (cI, 24, .inl mlf)), (q3, .inl (cI, 0, .inl (fun _ => 0))), (i10, .inl (cI, r8.2, .inl r8.1))] := hD
  refine ct_astA (qk := 8) hx hb hE hK hP hD hS (q0 := 1) rfl ht3 rfl ht0 (by unfold vp_in; decide) dX7_search_36 (fun H locs hP hD hS => ?_)
  have hP : va_P (dC, dI) vwCl [(ob, .inl (cI, mbn, .inl mbf)), (q4, .inl (cR, 3, .inr (.inr (.inr (.inr (va_up (va_up (fun _ => none) (0 : Int32).toNatClampNeg (some i7)) (1 : Int32).toNatClampNeg (some i10))))))), (i7, .inl (cI, r5.2, .inl r5.1)), (o, .inr (6, [.int mth, .int mn, .int mch, .ref oc, .ref oi, .int mcl, .ref ol, .int (0 : Int32), .int (-1 : Int32), .ref q3])), (oc, .inl (cI, 14, .inl mcf)), (oi, .inl (cI, 3, .inl mif)), (ol, .inl (cI, 24, .inl mlf)), (q3, .inl (cI, 0, .inl (fun _ => 0))), (i10, .inl (cI, r8.2, .inl r8.1))] H := hP
  have hD : va_D A [(ob, .inl (cI, mbn, .inl mbf)), (q4, .inl (cR, 3, .inr (.inr (.inr (.inr (va_up (va_up (fun _ => none) (0 : Int32).toNatClampNeg (some i7)) (1 : Int32).toNatClampNeg (some i10))))))), (i7, .inl (cI, r5.2, .inl r5.1)), (o, .inr (6, [.int mth, .int mn, .int mch, .ref oc, .ref oi, .int mcl, .ref ol, .int (0 : Int32), .int (-1 : Int32), .ref q3])), (oc, .inl (cI, 14, .inl mcf)), (oi, .inl (cI, 3, .inl mif)), (ol, .inl (cI, 24, .inl mlf)), (q3, .inl (cI, 0, .inl (fun _ => 0))), (i10, .inl (cI, r8.2, .inl r8.1))] := hD
  refine lv_dup hx hb dX7_search_37 rfl ?_
  refine lv_iconst (v := (2 : Int32)) hx hb dX7_search_38 (by decide) ?_
  refine lv_aload_n hx hb dX7_search_39 rfl (lv_at hl 0 rfl) ?_
  refine lv_iconst (v := (2 : Int32)) hx hb dX7_search_40 (by decide) ?_
  obtain ⟨r11, hC12, hF⟩ := gd_b hF
  refine ct_callV (C := RX7) (As := [.int (2 : Int32)]) (rest := [.int (2 : Int32), .ref q4, .ref q4]) ⟨hx, hb, hml, hown, hts⟩ (kX7_leadOrder l dC dI tys cI ht0 o oc oi ol q3 mth mn mch mcl (0 : Int32) (-1 : Int32) mcf mif mlf 0 (fun _ => 0) (2 : Int32) r11 hC12) (cwV 1 hts gX7_search_X7_leadOrder rfl rfl rfl (by decide +kernel) ⟨Nat.le_of_ble_eq_true rfl, Nat.le_of_ble_eq_true rfl⟩) hE hK hP hD hS hA [3, 4, 5, 6, 7] [0, 1, 2, 8] (by decide) rfl (by decide) (wr := [(ob, .inl (cI, mbn, .inl mbf)), (q4, .inl (cR, 3, .inr (.inr (.inr (.inr (va_up (va_up (fun _ => none) (0 : Int32).toNatClampNeg (some i7)) (1 : Int32).toNatClampNeg (some i10))))))), (i7, .inl (cI, r5.2, .inl r5.1)), (i10, .inl (cI, r8.2, .inl r8.1))]) rfl (by decide) (ci := 6) (T := TX7) (N := 10) (q0 := 0) rfl rfl hl.1 rfl rfl (Nat.le_of_ble_eq_true rfl) dX7_search_41 ⟨(Nat.le_of_ble_eq_true rfl), (Nat.le_of_ble_eq_true rfl)⟩ (fun i13 H locs hP hD hS => ?_)
  have hP : va_P (dC, dI) vwCl [(ob, .inl (cI, mbn, .inl mbf)), (q4, .inl (cR, 3, .inr (.inr (.inr (.inr (va_up (va_up (fun _ => none) (0 : Int32).toNatClampNeg (some i7)) (1 : Int32).toNatClampNeg (some i10))))))), (i7, .inl (cI, r5.2, .inl r5.1)), (i10, .inl (cI, r8.2, .inl r8.1)), (o, .inr (6, [.int mth, .int mn, .int mch, .ref oc, .ref oi, .int mcl, .ref ol, .int (0 : Int32), .int (-1 : Int32), .ref q3])), (oc, .inl (cI, 14, .inl mcf)), (oi, .inl (cI, 3, .inl mif)), (ol, .inl (cI, 24, .inl mlf)), (q3, .inl (cI, 0, .inl (fun _ => 0))), (i13, .inl (cI, r11.2, .inl r11.1))] H := hP
  have hD : va_D A [(ob, .inl (cI, mbn, .inl mbf)), (q4, .inl (cR, 3, .inr (.inr (.inr (.inr (va_up (va_up (fun _ => none) (0 : Int32).toNatClampNeg (some i7)) (1 : Int32).toNatClampNeg (some i10))))))), (i7, .inl (cI, r5.2, .inl r5.1)), (i10, .inl (cI, r8.2, .inl r8.1)), (o, .inr (6, [.int mth, .int mn, .int mch, .ref oc, .ref oi, .int mcl, .ref ol, .int (0 : Int32), .int (-1 : Int32), .ref q3])), (oc, .inl (cI, 14, .inl mcf)), (oi, .inl (cI, 3, .inl mif)), (ol, .inl (cI, 24, .inl mlf)), (q3, .inl (cI, 0, .inl (fun _ => 0))), (i13, .inl (cI, r11.2, .inl r11.1))] := hD
  refine ct_astA (qk := 9) hx hb hE hK hP hD hS (q0 := 1) rfl ht3 rfl ht0 (by unfold vp_in; decide) dX7_search_44 (fun H locs hP hD hS => ?_)
  have hP : va_P (dC, dI) vwCl [(ob, .inl (cI, mbn, .inl mbf)), (q4, .inl (cR, 3, .inr (.inr (.inr (.inr (va_up (va_up (va_up (fun _ => none) (0 : Int32).toNatClampNeg (some i7)) (1 : Int32).toNatClampNeg (some i10)) (2 : Int32).toNatClampNeg (some i13))))))), (i7, .inl (cI, r5.2, .inl r5.1)), (i10, .inl (cI, r8.2, .inl r8.1)), (o, .inr (6, [.int mth, .int mn, .int mch, .ref oc, .ref oi, .int mcl, .ref ol, .int (0 : Int32), .int (-1 : Int32), .ref q3])), (oc, .inl (cI, 14, .inl mcf)), (oi, .inl (cI, 3, .inl mif)), (ol, .inl (cI, 24, .inl mlf)), (q3, .inl (cI, 0, .inl (fun _ => 0))), (i13, .inl (cI, r11.2, .inl r11.1))] H := hP
  have hD : va_D A [(ob, .inl (cI, mbn, .inl mbf)), (q4, .inl (cR, 3, .inr (.inr (.inr (.inr (va_up (va_up (va_up (fun _ => none) (0 : Int32).toNatClampNeg (some i7)) (1 : Int32).toNatClampNeg (some i10)) (2 : Int32).toNatClampNeg (some i13))))))), (i7, .inl (cI, r5.2, .inl r5.1)), (i10, .inl (cI, r8.2, .inl r8.1)), (o, .inr (6, [.int mth, .int mn, .int mch, .ref oc, .ref oi, .int mcl, .ref ol, .int (0 : Int32), .int (-1 : Int32), .ref q3])), (oc, .inl (cI, 14, .inl mcf)), (oi, .inl (cI, 3, .inl mif)), (ol, .inl (cI, 24, .inl mlf)), (q3, .inl (cI, 0, .inl (fun _ => 0))), (i13, .inl (cI, r11.2, .inl r11.1))] := hD
  refine lv_astore_n (lv' := [(2, .ref q4), (0, .ref o), (1, .int p0)]) hx hb dX7_search_45 rfl hl (by decide) rfl (fun ls hl => ?_)
  refine lv_iconst (v := (1 : Int32)) hx hb dX7_search_46 (by decide) ?_
  refine lv_istore_n (lv' := [(3, .int (1 : Int32)), (2, .ref q4), (0, .ref o), (1, .int p0)]) hx hb dX7_search_47 rfl hl (by decide) rfl (fun ls hl => ?_)
  have X48 : ∀  (H : Heap) (locs : List Loc) (ls : Array Slot), fX7_search_X48 = some r → va_P (dC, dI) vwCl [(ob, .inl (cI, mbn, .inl mbf)), (q4, .inl (cR, 3, .inr (.inr (.inr (.inr (va_up (va_up (va_up (fun _ => none) (0 : Int32).toNatClampNeg (some i7)) (1 : Int32).toNatClampNeg (some i10)) (2 : Int32).toNatClampNeg (some i13))))))), (i7, .inl (cI, r5.2, .inl r5.1)), (i10, .inl (cI, r8.2, .inl r8.1)), (o, .inr (6, [.int mth, .int mn, .int mch, .ref oc, .ref oi, .int mcl, .ref ol, .int (0 : Int32), .int (-1 : Int32), .ref q3])), (oc, .inl (cI, 14, .inl mcf)), (oi, .inl (cI, 3, .inl mif)), (ol, .inl (cI, 24, .inl mlf)), (q3, .inl (cI, 0, .inl (fun _ => 0))), (i13, .inl (cI, r11.2, .inl r11.1))] H → va_D A [(ob, .inl (cI, mbn, .inl mbf)), (q4, .inl (cR, 3, .inr (.inr (.inr (.inr (va_up (va_up (va_up (fun _ => none) (0 : Int32).toNatClampNeg (some i7)) (1 : Int32).toNatClampNeg (some i10)) (2 : Int32).toNatClampNeg (some i13))))))), (i7, .inl (cI, r5.2, .inl r5.1)), (i10, .inl (cI, r8.2, .inl r8.1)), (o, .inr (6, [.int mth, .int mn, .int mch, .ref oc, .ref oi, .int mcl, .ref ol, .int (0 : Int32), .int (-1 : Int32), .ref q3])), (oc, .inl (cI, 14, .inl mcf)), (oi, .inl (cI, 3, .inl mif)), (ol, .inl (cI, 24, .inl mlf)), (q3, .inl (cI, 0, .inl (fun _ => 0))), (i13, .inl (cI, r11.2, .inl r11.1))] → va_S A s.heap H locs → lv_has ls 4 [(3, .int (1 : Int32)), (2, .ref q4), (0, .ref o), (1, .int p0)] → W p l e rmX7_search s m ([.ref o, .int p0] : List Value).toArray below meth c H locs 95 654 (MQ below (ct_Q (dC, dI) tys (fun _ : Nat => none) (fun i : Nat => [(o, .inr (6, [.int mth, .int mn, .int mch, .ref oc, .ref oi, .int mcl, .ref ol, .int (0 : Int32), .int (-1 : Int32), .ref i])), (oc, .inl (cI, 14, .inl mcf)), (oi, .inl (cI, 3, .inl mif)), (ol, .inl (cI, 24, .inl mlf)), (i, .inl (cI, 0, .inl (fun _ => 0)))]) A) ([.ref o, .int p0] : List Value).toArray s rmX7_search.cells rmX7_search.slots A) (F0 m 80 ls []) := by
    intro  H locs ls hF hP hD hS hl
    unfold fX7_search_X48 at hF
    obtain rfl := Option.some.inj hF
    exact ct_v hx hb hr hlocks hK hP hD hS q3 rfl [4, 5, 6, 7, 8] (by decide) rfl (Nat.le_of_ble_eq_true rfl) (Nat.le_of_ble_eq_true rfl) dX7_search_80
  have L48 : ∀ (n48 : Nat)  (H : Heap) (locs : List Loc) (ls : Array Slot), fX7_search_L48 p0 mch mn fX7_search_X48 n48  = some r → va_P (dC, dI) vwCl [(ob, .inl (cI, mbn, .inl mbf)), (q4, .inl (cR, 3, .inr (.inr (.inr (.inr (va_up (va_up (va_up (fun _ => none) (0 : Int32).toNatClampNeg (some i7)) (1 : Int32).toNatClampNeg (some i10)) (2 : Int32).toNatClampNeg (some i13))))))), (i7, .inl (cI, r5.2, .inl r5.1)), (i10, .inl (cI, r8.2, .inl r8.1)), (o, .inr (6, [.int mth, .int mn, .int mch, .ref oc, .ref oi, .int mcl, .ref ol, .int (0 : Int32), .int (-1 : Int32), .ref q3])), (oc, .inl (cI, 14, .inl mcf)), (oi, .inl (cI, 3, .inl mif)), (ol, .inl (cI, 24, .inl mlf)), (q3, .inl (cI, 0, .inl (fun _ => 0))), (i13, .inl (cI, r11.2, .inl r11.1))] H → va_D A [(ob, .inl (cI, mbn, .inl mbf)), (q4, .inl (cR, 3, .inr (.inr (.inr (.inr (va_up (va_up (va_up (fun _ => none) (0 : Int32).toNatClampNeg (some i7)) (1 : Int32).toNatClampNeg (some i10)) (2 : Int32).toNatClampNeg (some i13))))))), (i7, .inl (cI, r5.2, .inl r5.1)), (i10, .inl (cI, r8.2, .inl r8.1)), (o, .inr (6, [.int mth, .int mn, .int mch, .ref oc, .ref oi, .int mcl, .ref ol, .int (0 : Int32), .int (-1 : Int32), .ref q3])), (oc, .inl (cI, 14, .inl mcf)), (oi, .inl (cI, 3, .inl mif)), (ol, .inl (cI, 24, .inl mlf)), (q3, .inl (cI, 0, .inl (fun _ => 0))), (i13, .inl (cI, r11.2, .inl r11.1))] → va_S A s.heap H locs → lv_has ls 4 [(3, .int (1 : Int32)), (2, .ref q4), (0, .ref o), (1, .int p0)] → W p l e rmX7_search s m ([.ref o, .int p0] : List Value).toArray below meth c H locs 95 654 (MQ below (ct_Q (dC, dI) tys (fun _ : Nat => none) (fun i : Nat => [(o, .inr (6, [.int mth, .int mn, .int mch, .ref oc, .ref oi, .int mcl, .ref ol, .int (0 : Int32), .int (-1 : Int32), .ref i])), (oc, .inl (cI, 14, .inl mcf)), (oi, .inl (cI, 3, .inl mif)), (ol, .inl (cI, 24, .inl mlf)), (i, .inl (cI, 0, .inl (fun _ => 0)))]) A) ([.ref o, .int p0] : List Value).toArray s rmX7_search.cells rmX7_search.slots A) (F0 m 48 ls []) := by
    intro n48
    induction n48 with
    | zero => intro  H locs ls hF; rw [fX7_search_L48] at hF; cases hF
    | succ n48 ih48 =>
      intro  H locs ls hF hP hD hS hl
      rw [fX7_search_L48] at hF
      refine lv_iload_n hx hb dX7_search_48 rfl (lv_at hl 0 rfl) ?_
      refine lv_iload_n hx hb dX7_search_49 rfl (lv_at hl 3 rfl) ?_
      refine lv_icmp_gt (tgt := 80) hx hb dX7_search_50 (by decide) (fun c14 => ?_) (fun c14 => ?_)
      · have hF := (if_pos c14).symm.trans hF
        exact X48  _ _ _ hF (hP.sub [0, 1, 2, 3, 4, 5, 6, 7, 8, 9] rfl) (hD.sub [0, 1, 2, 3, 4, 5, 6, 7, 8, 9] (by decide) rfl) hS (lv_sub hl [0, 1, 2, 3] rfl)
      · have hF := (if_neg c14).symm.trans hF
        refine lv_aload_n hx hb dX7_search_53 rfl (lv_at hl 2 rfl) ?_
        refine va_get (D := (dC, dI)) (ci := 6) (v := .int mch) (C := RX7) (T := TX7) (N := 10) hx hb hts uX7 hown hK hP 4 rfl rfl 2 (by decide) w6 (fun _ h9 => h9) rfl dX7_search_54 ?_
        refine lv_if_le (tgt := 80) hx hb dX7_search_57 (by decide) (fun c15 => ?_) (fun c15 => ?_)
        · have hF := (if_pos c15).symm.trans hF
          exact X48  _ _ _ hF (hP.sub [0, 1, 2, 3, 4, 5, 6, 7, 8, 9] rfl) (hD.sub [0, 1, 2, 3, 4, 5, 6, 7, 8, 9] (by decide) rfl) hS (lv_sub hl [0, 1, 2, 3] rfl)
        · have hF := (if_neg c15).symm.trans hF
          refine lv_aload_n hx hb dX7_search_60 rfl (lv_at hl 2 rfl) ?_
          refine lv_aload_n hx hb dX7_search_61 rfl (lv_at hl 1 rfl) ?_
          refine lv_aload_n hx hb dX7_search_62 rfl (lv_at hl 2 rfl) ?_
          obtain ⟨r16, hC17, hF⟩ := gd_b hF
          refine ct_callV (C := RX7) (As := []) (rest := [.ref q4, .ref o]) ⟨hx, hb, hml, hown, hts⟩ (kX7_same l dC dI tys cI ht0 o oc oi ol q3 mth mn mch mcl (0 : Int32) (-1 : Int32) mcf mif mlf 0 (fun _ => 0) r16 hC17) (cwV 0 hts gX7_search_X7_same rfl rfl rfl (by decide +kernel) ⟨Nat.le_of_ble_eq_true rfl, Nat.le_of_ble_eq_true rfl⟩) hE hK hP hD hS hA [4, 5, 6, 7, 8] [0, 1, 2, 3, 9] (by decide) rfl (by decide) (wr := [(ob, .inl (cI, mbn, .inl mbf)), (q4, .inl (cR, 3, .inr (.inr (.inr (.inr (va_up (va_up (va_up (fun _ => none) (0 : Int32).toNatClampNeg (some i7)) (1 : Int32).toNatClampNeg (some i10)) (2 : Int32).toNatClampNeg (some i13))))))), (i7, .inl (cI, r5.2, .inl r5.1)), (i10, .inl (cI, r8.2, .inl r8.1)), (i13, .inl (cI, r11.2, .inl r11.1))]) rfl (by decide) (ci := 6) (T := TX7) (N := 10) (q0 := 0) rfl rfl hl.1 rfl rfl (Nat.le_of_ble_eq_true rfl) dX7_search_63 ⟨(Nat.le_of_ble_eq_true rfl), (Nat.le_of_ble_eq_true rfl)⟩ (fun i18 H locs hP hD hS => ?_)
          have hP : va_P (dC, dI) vwCl [(ob, .inl (cI, mbn, .inl mbf)), (q4, .inl (cR, 3, .inr (.inr (.inr (.inr (va_up (va_up (va_up (fun _ => none) (0 : Int32).toNatClampNeg (some i7)) (1 : Int32).toNatClampNeg (some i10)) (2 : Int32).toNatClampNeg (some i13))))))), (i7, .inl (cI, r5.2, .inl r5.1)), (i10, .inl (cI, r8.2, .inl r8.1)), (i13, .inl (cI, r11.2, .inl r11.1)), (o, .inr (6, [.int mth, .int mn, .int mch, .ref oc, .ref oi, .int mcl, .ref ol, .int (0 : Int32), .int (-1 : Int32), .ref q3])), (oc, .inl (cI, 14, .inl mcf)), (oi, .inl (cI, 3, .inl mif)), (ol, .inl (cI, 24, .inl mlf)), (q3, .inl (cI, 0, .inl (fun _ => 0))), (i18, .inl (cI, r16.2, .inl r16.1))] H := hP
          have hD : va_D A [(ob, .inl (cI, mbn, .inl mbf)), (q4, .inl (cR, 3, .inr (.inr (.inr (.inr (va_up (va_up (va_up (fun _ => none) (0 : Int32).toNatClampNeg (some i7)) (1 : Int32).toNatClampNeg (some i10)) (2 : Int32).toNatClampNeg (some i13))))))), (i7, .inl (cI, r5.2, .inl r5.1)), (i10, .inl (cI, r8.2, .inl r8.1)), (i13, .inl (cI, r11.2, .inl r11.1)), (o, .inr (6, [.int mth, .int mn, .int mch, .ref oc, .ref oi, .int mcl, .ref ol, .int (0 : Int32), .int (-1 : Int32), .ref q3])), (oc, .inl (cI, 14, .inl mcf)), (oi, .inl (cI, 3, .inl mif)), (ol, .inl (cI, 24, .inl mlf)), (q3, .inl (cI, 0, .inl (fun _ => 0))), (i18, .inl (cI, r16.2, .inl r16.1))] := hD
          refine lv_iconst (v := (5 : Int32)) hx hb dX7_search_66 (by decide) ?_
          refine ct_newi hx hb w3 ht0 hK hP hD hS hA (N' := 5) (by decide) (by decide) (Nat.le_of_ble_eq_true rfl) (Nat.le_of_ble_eq_true rfl) (Nat.le_of_ble_eq_true rfl) dX7_search_67 (fun q21 H hP hD hS => ?_)
          have hP : va_P (dC, dI) vwCl [(ob, .inl (cI, mbn, .inl mbf)), (q4, .inl (cR, 3, .inr (.inr (.inr (.inr (va_up (va_up (va_up (fun _ => none) (0 : Int32).toNatClampNeg (some i7)) (1 : Int32).toNatClampNeg (some i10)) (2 : Int32).toNatClampNeg (some i13))))))), (i7, .inl (cI, r5.2, .inl r5.1)), (i10, .inl (cI, r8.2, .inl r8.1)), (i13, .inl (cI, r11.2, .inl r11.1)), (o, .inr (6, [.int mth, .int mn, .int mch, .ref oc, .ref oi, .int mcl, .ref ol, .int (0 : Int32), .int (-1 : Int32), .ref q3])), (oc, .inl (cI, 14, .inl mcf)), (oi, .inl (cI, 3, .inl mif)), (ol, .inl (cI, 24, .inl mlf)), (q3, .inl (cI, 0, .inl (fun _ => 0))), (i18, .inl (cI, r16.2, .inl r16.1)), (q21, .inl (cI, 5, .inl (fun _ => 0)))] H := hP
          have hD : va_D A [(ob, .inl (cI, mbn, .inl mbf)), (q4, .inl (cR, 3, .inr (.inr (.inr (.inr (va_up (va_up (va_up (fun _ => none) (0 : Int32).toNatClampNeg (some i7)) (1 : Int32).toNatClampNeg (some i10)) (2 : Int32).toNatClampNeg (some i13))))))), (i7, .inl (cI, r5.2, .inl r5.1)), (i10, .inl (cI, r8.2, .inl r8.1)), (i13, .inl (cI, r11.2, .inl r11.1)), (o, .inr (6, [.int mth, .int mn, .int mch, .ref oc, .ref oi, .int mcl, .ref ol, .int (0 : Int32), .int (-1 : Int32), .ref q3])), (oc, .inl (cI, 14, .inl mcf)), (oi, .inl (cI, 3, .inl mif)), (ol, .inl (cI, 24, .inl mlf)), (q3, .inl (cI, 0, .inl (fun _ => 0))), (i18, .inl (cI, r16.2, .inl r16.1)), (q21, .inl (cI, 5, .inl (fun _ => 0)))] := hD
          refine lv_iconst (v := (0 : Int32)) hx hb dX7_search_69 (by decide) ?_
          refine lv_iload_n hx hb dX7_search_70 rfl (lv_at hl 0 rfl) ?_
          cases hF
  exact L48 1000  _ _ _ hF (hP.sub [0, 1, 2, 3, 4, 5, 6, 7, 8, 9] rfl) (hD.sub [0, 1, 2, 3, 4, 5, 6, 7, 8, 9] (by decide) rfl) hS (lv_sub hl [0, 1, 2, 3] rfl)

def fX7_goodNow (mn : Int32) (mch : Int32) (mcf : (Nat → Int32)) (mif : (Nat → Int32)) (p0 : Int32) : Option Int32 := (fX7_search mn mch mcf mif p0).bind (fun r1 => some ((0 : Int32)))
abbrev rmX7_goodNow : Room := { frames := 5, cells := 97, slots := 666, locals := 113 }
set_option maxHeartbeats 4000000 in
set_option maxRecDepth 100000 in
theorem kX7_goodNow (l : Launch) (dC : Nat → ClassId) (dI : Nat → Nat → Nat) (tys : List (ClassId × FieldType)) (cI : ClassId) (ht0 : tys[0]? = some (cI, .int)) (cR : ClassId) (ht3 : tys[3]? = some (cR, .array .int)) (o oc oi ol ob : Nat) (mth : Int32) (mn : Int32) (mch : Int32) (mcl : Int32) (mgo : Int32) (mmo : Int32) (mcf : (Nat → Int32)) (mif : (Nat → Int32)) (mlf : (Nat → Int32)) (mbn : Nat) (mbf : (Nat → Int32)) (p0 : Int32) (r : Int32) (hF : fX7_goodNow mn mch mcf mif p0 = some r) : ct l (dC, dI) tys yX7_goodNow wsX7_goodNow rmX7_goodNow [.ref o, .int p0] [(o, .inr (6, [.int mth, .int mn, .int mch, .ref oc, .ref oi, .int mcl, .ref ol, .int mgo, .int mmo, .ref ob])), (oc, .inl (cI, 14, .inl mcf)), (oi, .inl (cI, 3, .inl mif)), (ol, .inl (cI, 24, .inl mlf)), (ob, .inl (cI, mbn, .inl mbf))] (fun _ : Nat => some (.int r)) (fun i : Nat => [(o, .inr (6, [.int mth, .int mn, .int mch, .ref oc, .ref oi, .int mcl, .ref ol, .int (0 : Int32), .int (-1 : Int32), .ref i])), (oc, .inl (cI, 14, .inl mcf)), (oi, .inl (cI, 3, .inl mif)), (ol, .inl (cI, 24, .inl mlf)), (i, .inl (cI, 0, .inl (fun _ => 0)))]) := by
  refine ct_of (cc := cX7_goodNow) (maxL := 2) (ret := (some .int)) (by decide) rfl (Nat.le_of_ble_eq_true rfl) ?_
  intro p e s m below meth c A ls hx hb hr hml hts hown hlocks hname hE hK hP hD hA hS hl
  have hown : s.vm.findClass RX7 = some m.cls := hown
  have hl : lv_has ls 2 [(0, .ref o), (1, .int p0)] := hl
  unfold fX7_goodNow at hF
  have uX7 : ∀ w ∈ wsX70, w ∈ wsX7_goodNow := (fun _ h => (List.mem_cons_of_mem _ (List.mem_append_right _ h)))
  have w1 := hts (.fieldLink RX7 154 "BellfounderTowerModel" "goods" "I") (List.mem_cons_of_mem _ (List.mem_append_left _ (List.mem_append_left _ (List.mem_of_getElem? (i := 0) rfl))))
  refine lv_aload_n hx hb dX7_goodNow_0 rfl (lv_at hl 0 rfl) ?_
  refine lv_iload_n hx hb dX7_goodNow_1 rfl (lv_at hl 1 rfl) ?_
  obtain ⟨r1, hC2, hF⟩ := gd_b hF
  refine ct_callV (C := RX7) (As := [.int p0]) (rest := []) ⟨hx, hb, hml, hown, hts⟩ (kX7_search l dC dI tys cI ht0 cR ht3 o oc oi ol ob mth mn mch mcl mgo mmo mcf mif mlf mbn mbf p0 r1 hC2) (cwV 1 hts gX7_goodNow_X7_search rfl rfl rfl (by decide +kernel) ⟨Nat.le_of_ble_eq_true rfl, Nat.le_of_ble_eq_true rfl⟩) hE hK hP hD hS hA [0, 1, 2, 3, 4] [] (by decide) rfl (by decide) (wr := []) rfl (by decide) (ci := 6) (T := TX7) (N := 10) (q0 := 0) rfl rfl hl.1 rfl rfl (Nat.le_of_ble_eq_true rfl) dX7_goodNow_2 ⟨(Nat.le_of_ble_eq_true rfl), (Nat.le_of_ble_eq_true rfl)⟩ (fun i3 H locs hP hD hS => ?_)
  have hP : va_P (dC, dI) vwCl [(o, .inr (6, [.int mth, .int mn, .int mch, .ref oc, .ref oi, .int mcl, .ref ol, .int (0 : Int32), .int (-1 : Int32), .ref i3])), (oc, .inl (cI, 14, .inl mcf)), (oi, .inl (cI, 3, .inl mif)), (ol, .inl (cI, 24, .inl mlf)), (i3, .inl (cI, 0, .inl (fun _ => 0)))] H := hP
  have hD : va_D A [(o, .inr (6, [.int mth, .int mn, .int mch, .ref oc, .ref oi, .int mcl, .ref ol, .int (0 : Int32), .int (-1 : Int32), .ref i3])), (oc, .inl (cI, 14, .inl mcf)), (oi, .inl (cI, 3, .inl mif)), (ol, .inl (cI, 24, .inl mlf)), (i3, .inl (cI, 0, .inl (fun _ => 0)))] := hD
  refine lv_aload_n hx hb dX7_goodNow_5 rfl (lv_at hl 0 rfl) ?_
  refine va_get (D := (dC, dI)) (ci := 6) (v := .int (0 : Int32)) (C := RX7) (T := TX7) (N := 10) hx hb hts uX7 hown hK hP 0 rfl rfl 7 (by decide) w1 (fun _ h9 => h9) rfl dX7_goodNow_6 ?_
  obtain rfl := Option.some.inj hF
  exact ct_i hx hb hr hlocks hK hP hD hS i3 rfl [0, 1, 2, 3, 4] (by decide) rfl (Nat.le_of_ble_eq_true rfl) (Nat.le_of_ble_eq_true rfl) dX7_goodNow_9

def fX7_bestNow (mn : Int32) (mch : Int32) (mcf : (Nat → Int32)) (mif : (Nat → Int32)) (p0 : Int32) : Option Int32 := (fX7_search mn mch mcf mif p0).bind (fun r1 => some ((-1 : Int32)))
abbrev rmX7_bestNow : Room := { frames := 5, cells := 97, slots := 666, locals := 113 }
set_option maxHeartbeats 4000000 in
set_option maxRecDepth 100000 in
theorem kX7_bestNow (l : Launch) (dC : Nat → ClassId) (dI : Nat → Nat → Nat) (tys : List (ClassId × FieldType)) (cI : ClassId) (ht0 : tys[0]? = some (cI, .int)) (cR : ClassId) (ht3 : tys[3]? = some (cR, .array .int)) (o oc oi ol ob : Nat) (mth : Int32) (mn : Int32) (mch : Int32) (mcl : Int32) (mgo : Int32) (mmo : Int32) (mcf : (Nat → Int32)) (mif : (Nat → Int32)) (mlf : (Nat → Int32)) (mbn : Nat) (mbf : (Nat → Int32)) (p0 : Int32) (r : Int32) (hF : fX7_bestNow mn mch mcf mif p0 = some r) : ct l (dC, dI) tys yX7_bestNow wsX7_bestNow rmX7_bestNow [.ref o, .int p0] [(o, .inr (6, [.int mth, .int mn, .int mch, .ref oc, .ref oi, .int mcl, .ref ol, .int mgo, .int mmo, .ref ob])), (oc, .inl (cI, 14, .inl mcf)), (oi, .inl (cI, 3, .inl mif)), (ol, .inl (cI, 24, .inl mlf)), (ob, .inl (cI, mbn, .inl mbf))] (fun _ : Nat => some (.int r)) (fun i : Nat => [(o, .inr (6, [.int mth, .int mn, .int mch, .ref oc, .ref oi, .int mcl, .ref ol, .int (0 : Int32), .int (-1 : Int32), .ref i])), (oc, .inl (cI, 14, .inl mcf)), (oi, .inl (cI, 3, .inl mif)), (ol, .inl (cI, 24, .inl mlf)), (i, .inl (cI, 0, .inl (fun _ => 0)))]) := by
  refine ct_of (cc := cX7_bestNow) (maxL := 2) (ret := (some .int)) (by decide) rfl (Nat.le_of_ble_eq_true rfl) ?_
  intro p e s m below meth c A ls hx hb hr hml hts hown hlocks hname hE hK hP hD hA hS hl
  have hown : s.vm.findClass RX7 = some m.cls := hown
  have hl : lv_has ls 2 [(0, .ref o), (1, .int p0)] := hl
  unfold fX7_bestNow at hF
  have uX7 : ∀ w ∈ wsX70, w ∈ wsX7_bestNow := (fun _ h => (List.mem_cons_of_mem _ (List.mem_append_right _ h)))
  have w1 := hts (.fieldLink RX7 157 "BellfounderTowerModel" "most" "I") (List.mem_cons_of_mem _ (List.mem_append_left _ (List.mem_append_left _ (List.mem_of_getElem? (i := 0) rfl))))
  refine lv_aload_n hx hb dX7_bestNow_0 rfl (lv_at hl 0 rfl) ?_
  refine lv_iload_n hx hb dX7_bestNow_1 rfl (lv_at hl 1 rfl) ?_
  obtain ⟨r1, hC2, hF⟩ := gd_b hF
  refine ct_callV (C := RX7) (As := [.int p0]) (rest := []) ⟨hx, hb, hml, hown, hts⟩ (kX7_search l dC dI tys cI ht0 cR ht3 o oc oi ol ob mth mn mch mcl mgo mmo mcf mif mlf mbn mbf p0 r1 hC2) (cwV 1 hts gX7_bestNow_X7_search rfl rfl rfl (by decide +kernel) ⟨Nat.le_of_ble_eq_true rfl, Nat.le_of_ble_eq_true rfl⟩) hE hK hP hD hS hA [0, 1, 2, 3, 4] [] (by decide) rfl (by decide) (wr := []) rfl (by decide) (ci := 6) (T := TX7) (N := 10) (q0 := 0) rfl rfl hl.1 rfl rfl (Nat.le_of_ble_eq_true rfl) dX7_bestNow_2 ⟨(Nat.le_of_ble_eq_true rfl), (Nat.le_of_ble_eq_true rfl)⟩ (fun i3 H locs hP hD hS => ?_)
  have hP : va_P (dC, dI) vwCl [(o, .inr (6, [.int mth, .int mn, .int mch, .ref oc, .ref oi, .int mcl, .ref ol, .int (0 : Int32), .int (-1 : Int32), .ref i3])), (oc, .inl (cI, 14, .inl mcf)), (oi, .inl (cI, 3, .inl mif)), (ol, .inl (cI, 24, .inl mlf)), (i3, .inl (cI, 0, .inl (fun _ => 0)))] H := hP
  have hD : va_D A [(o, .inr (6, [.int mth, .int mn, .int mch, .ref oc, .ref oi, .int mcl, .ref ol, .int (0 : Int32), .int (-1 : Int32), .ref i3])), (oc, .inl (cI, 14, .inl mcf)), (oi, .inl (cI, 3, .inl mif)), (ol, .inl (cI, 24, .inl mlf)), (i3, .inl (cI, 0, .inl (fun _ => 0)))] := hD
  refine lv_aload_n hx hb dX7_bestNow_5 rfl (lv_at hl 0 rfl) ?_
  refine va_get (D := (dC, dI)) (ci := 6) (v := .int (-1 : Int32)) (C := RX7) (T := TX7) (N := 10) hx hb hts uX7 hown hK hP 0 rfl rfl 8 (by decide) w1 (fun _ h9 => h9) rfl dX7_bestNow_6 ?_
  obtain rfl := Option.some.inj hF
  exact ct_i hx hb hr hlocks hK hP hD hS i3 rfl [0, 1, 2, 3, 4] (by decide) rfl (Nat.le_of_ble_eq_true rfl) (Nat.le_of_ble_eq_true rfl) dX7_bestNow_9

def fX7_good (mn : Int32) (mch : Int32) (mgo : Int32) (mmo : Int32) (mcf : (Nat → Int32)) (mif : (Nat → Int32)) (mbn : Nat) (mbf : (Nat → Int32)) (p0 : Int32) : Option (Int32 × Int32 × Int32 × Int32 × (Nat → Int32) × Nat) := (fX7_isIn p0 (0 : Int32) (5 : Int32)).bind (fun r1 => if r1 = 0 then ((fX7_no (1 : Int32)).bind (fun r5 => some (r5.1, r5.2, mgo, mmo, mbf, mbn))) else ((fX7_goodNow mn mch mcf mif p0).bind (fun r8 => some (r8, (0 : Int32), (0 : Int32), (-1 : Int32), (fun _ => 0), 0))))
abbrev rmX7_good : Room := { frames := 6, cells := 97, slots := 666, locals := 134 }
set_option maxHeartbeats 4000000 in
set_option maxRecDepth 100000 in
theorem kX7_good (l : Launch) (dC : Nat → ClassId) (dI : Nat → Nat → Nat) (tys : List (ClassId × FieldType)) (cI : ClassId) (ht0 : tys[0]? = some (cI, .int)) (cR : ClassId) (ht3 : tys[3]? = some (cR, .array .int)) (o oc oi ol ob : Nat) (mth : Int32) (mn : Int32) (mch : Int32) (mcl : Int32) (mgo : Int32) (mmo : Int32) (mcf : (Nat → Int32)) (mif : (Nat → Int32)) (mlf : (Nat → Int32)) (mbn : Nat) (mbf : (Nat → Int32)) (p0 : Int32) (r : (Int32 × Int32 × Int32 × Int32 × (Nat → Int32) × Nat)) (hF : fX7_good mn mch mgo mmo mcf mif mbn mbf p0 = some r) : ct l (dC, dI) tys yX7_good wsX7_good rmX7_good [.ref o, .int p0] [(o, .inr (6, [.int mth, .int mn, .int mch, .ref oc, .ref oi, .int mcl, .ref ol, .int mgo, .int mmo, .ref ob])), (oc, .inl (cI, 14, .inl mcf)), (oi, .inl (cI, 3, .inl mif)), (ol, .inl (cI, 24, .inl mlf)), (ob, .inl (cI, mbn, .inl mbf))] (fun _ : Nat => some (.int r.1)) (fun i : Nat => [(o, .inr (6, [.int r.2.1, .int mn, .int mch, .ref oc, .ref oi, .int mcl, .ref ol, .int r.2.2.1, .int r.2.2.2.1, .ref i])), (oc, .inl (cI, 14, .inl mcf)), (oi, .inl (cI, 3, .inl mif)), (ol, .inl (cI, 24, .inl mlf)), (i, .inl (cI, r.2.2.2.2.2, .inl r.2.2.2.2.1))]) := by
  refine ct_of (cc := cX7_good) (maxL := 2) (ret := (some .int)) (by decide) rfl (Nat.le_of_ble_eq_true rfl) ?_
  intro p e s m below meth c A ls hx hb hr hml hts hown hlocks hname hE hK hP hD hA hS hl
  have hown : s.vm.findClass RX7 = some m.cls := hown
  have hl : lv_has ls 2 [(0, .ref o), (1, .int p0)] := hl
  unfold fX7_good at hF
  have uX7 : ∀ w ∈ wsX70, w ∈ wsX7_good := (fun _ h => (List.mem_cons_of_mem _ (List.mem_append_right _ h)))
  have w1 := hts (.fieldLink RX7 36 "BellfounderTowerModel" "thrown" "I") (List.mem_cons_of_mem _ (List.mem_append_left _ (List.mem_append_left _ (List.mem_of_getElem? (i := 0) rfl))))
  refine lv_aload_n hx hb dX7_good_0 rfl (lv_at hl 0 rfl) ?_
  refine lv_iconst (v := (0 : Int32)) hx hb dX7_good_1 (by decide) ?_
  refine va_put (D := (dC, dI)) (ci := 6) (v := .int (0 : Int32)) (ty := .int) (C := RX7) (T := TX7) (N := 10) hx hb hts uX7 tyX7 tyX7_ok nmX7 hown hK hP hD hS 0 rfl rfl 0 (by decide) w1 (fun _ h9 => h9) rfl (by decide +kernel) rfl rfl (Nat.le_of_ble_eq_true rfl) dX7_good_2 (fun H locs hP hD hS => ?_)
  have hP : va_P (dC, dI) vwCl [(o, .inr (6, [.int (0 : Int32), .int mn, .int mch, .ref oc, .ref oi, .int mcl, .ref ol, .int mgo, .int mmo, .ref ob])), (oc, .inl (cI, 14, .inl mcf)), (oi, .inl (cI, 3, .inl mif)), (ol, .inl (cI, 24, .inl mlf)), (ob, .inl (cI, mbn, .inl mbf))] H := hP
  have hD : va_D A [(o, .inr (6, [.int (0 : Int32), .int mn, .int mch, .ref oc, .ref oi, .int mcl, .ref ol, .int mgo, .int mmo, .ref ob])), (oc, .inl (cI, 14, .inl mcf)), (oi, .inl (cI, 3, .inl mif)), (ol, .inl (cI, 24, .inl mlf)), (ob, .inl (cI, mbn, .inl mbf))] := hD
  refine lv_iload_n hx hb dX7_good_5 rfl (lv_at hl 1 rfl) ?_
  refine lv_iconst (v := (0 : Int32)) hx hb dX7_good_6 (by decide) ?_
  refine lv_iconst (v := (5 : Int32)) hx hb dX7_good_7 (by decide) ?_
  obtain ⟨r1, hC2, hF⟩ := gd_b hF
  refine ct_callS (As := [.int p0, .int (0 : Int32), .int (5 : Int32)]) (rest := []) ⟨hx, hb, hml, hown, hts⟩ (kX7_isIn l dC dI tys cI ht0 p0 (0 : Int32) (5 : Int32) r1 hC2) (va_cwS 3 hts gX7_good_X7_isIn rfl rfl rfl (by decide +kernel) ⟨Nat.le_of_ble_eq_true rfl, Nat.le_of_ble_eq_true rfl⟩) hE hK hP hD hS hA [] [0, 1, 2, 3, 4] (by decide) rfl (by decide) (wr := [(o, .inr (6, [.int (0 : Int32), .int mn, .int mch, .ref oc, .ref oi, .int mcl, .ref ol, .int mgo, .int mmo, .ref ob])), (oc, .inl (cI, 14, .inl mcf)), (oi, .inl (cI, 3, .inl mif)), (ol, .inl (cI, 24, .inl mlf)), (ob, .inl (cI, mbn, .inl mbf))]) rfl (by decide) hl.1 rfl rfl (Nat.le_of_ble_eq_true rfl) dX7_good_8 ⟨(Nat.le_of_ble_eq_true rfl), (Nat.le_of_ble_eq_true rfl)⟩ (fun i3 H locs hP hD hS => ?_)
  have hP : va_P (dC, dI) vwCl [(o, .inr (6, [.int (0 : Int32), .int mn, .int mch, .ref oc, .ref oi, .int mcl, .ref ol, .int mgo, .int mmo, .ref ob])), (oc, .inl (cI, 14, .inl mcf)), (oi, .inl (cI, 3, .inl mif)), (ol, .inl (cI, 24, .inl mlf)), (ob, .inl (cI, mbn, .inl mbf))] H := hP
  have hD : va_D A [(o, .inr (6, [.int (0 : Int32), .int mn, .int mch, .ref oc, .ref oi, .int mcl, .ref ol, .int mgo, .int mmo, .ref ob])), (oc, .inl (cI, 14, .inl mcf)), (oi, .inl (cI, 3, .inl mif)), (ol, .inl (cI, 24, .inl mlf)), (ob, .inl (cI, mbn, .inl mbf))] := hD
  refine lv_if_eq (tgt := 22) hx hb dX7_good_11 (by decide) (fun c4 => ?_) (fun c4 => ?_)
  · have hF := (if_pos c4).symm.trans hF
    refine lv_aload_n hx hb dX7_good_22 rfl (lv_at hl 0 rfl) ?_
    refine lv_iconst (v := (1 : Int32)) hx hb dX7_good_23 (by decide) ?_
    obtain ⟨r5, hC6, hF⟩ := gd_b hF
    refine ct_callV (C := RX7) (As := [.int (1 : Int32)]) (rest := []) ⟨hx, hb, hml, hown, hts⟩ (kX7_no l dC dI tys cI ht0 o oc oi ol ob (0 : Int32) mn mch mcl mgo mmo mcf mif mlf mbn mbf (1 : Int32) r5 hC6) (cwV 1 hts gX7_good_X7_no rfl rfl rfl (by decide +kernel) ⟨Nat.le_of_ble_eq_true rfl, Nat.le_of_ble_eq_true rfl⟩) hE hK hP hD hS hA [0, 1, 2, 3, 4] [] (by decide) rfl (by decide) (wr := []) rfl (by decide) (ci := 6) (T := TX7) (N := 10) (q0 := 0) rfl rfl hl.1 rfl rfl (Nat.le_of_ble_eq_true rfl) dX7_good_24 ⟨(Nat.le_of_ble_eq_true rfl), (Nat.le_of_ble_eq_true rfl)⟩ (fun i7 H locs hP hD hS => ?_)
    have hP : va_P (dC, dI) vwCl [(o, .inr (6, [.int r5.2, .int mn, .int mch, .ref oc, .ref oi, .int mcl, .ref ol, .int mgo, .int mmo, .ref ob])), (oc, .inl (cI, 14, .inl mcf)), (oi, .inl (cI, 3, .inl mif)), (ol, .inl (cI, 24, .inl mlf)), (ob, .inl (cI, mbn, .inl mbf))] H := hP
    have hD : va_D A [(o, .inr (6, [.int r5.2, .int mn, .int mch, .ref oc, .ref oi, .int mcl, .ref ol, .int mgo, .int mmo, .ref ob])), (oc, .inl (cI, 14, .inl mcf)), (oi, .inl (cI, 3, .inl mif)), (ol, .inl (cI, 24, .inl mlf)), (ob, .inl (cI, mbn, .inl mbf))] := hD
    obtain rfl := Option.some.inj hF
    exact ct_i hx hb hr hlocks hK hP hD hS ob rfl [0, 1, 2, 3, 4] (by decide) rfl (Nat.le_of_ble_eq_true rfl) (Nat.le_of_ble_eq_true rfl) dX7_good_27
  · have hF := (if_neg c4).symm.trans hF
    refine lv_aload_n hx hb dX7_good_14 rfl (lv_at hl 0 rfl) ?_
    refine lv_iload_n hx hb dX7_good_15 rfl (lv_at hl 1 rfl) ?_
    obtain ⟨r8, hC9, hF⟩ := gd_b hF
    refine ct_callV (C := RX7) (As := [.int p0]) (rest := []) ⟨hx, hb, hml, hown, hts⟩ (kX7_goodNow l dC dI tys cI ht0 cR ht3 o oc oi ol ob (0 : Int32) mn mch mcl mgo mmo mcf mif mlf mbn mbf p0 r8 hC9) (cwV 1 hts gX7_good_X7_goodNow rfl rfl rfl (by decide +kernel) ⟨Nat.le_of_ble_eq_true rfl, Nat.le_of_ble_eq_true rfl⟩) hE hK hP hD hS hA [0, 1, 2, 3, 4] [] (by decide) rfl (by decide) (wr := []) rfl (by decide) (ci := 6) (T := TX7) (N := 10) (q0 := 0) rfl rfl hl.1 rfl rfl (Nat.le_of_ble_eq_true rfl) dX7_good_16 ⟨(Nat.le_of_ble_eq_true rfl), (Nat.le_of_ble_eq_true rfl)⟩ (fun i10 H locs hP hD hS => ?_)
    have hP : va_P (dC, dI) vwCl [(o, .inr (6, [.int (0 : Int32), .int mn, .int mch, .ref oc, .ref oi, .int mcl, .ref ol, .int (0 : Int32), .int (-1 : Int32), .ref i10])), (oc, .inl (cI, 14, .inl mcf)), (oi, .inl (cI, 3, .inl mif)), (ol, .inl (cI, 24, .inl mlf)), (i10, .inl (cI, 0, .inl (fun _ => 0)))] H := hP
    have hD : va_D A [(o, .inr (6, [.int (0 : Int32), .int mn, .int mch, .ref oc, .ref oi, .int mcl, .ref ol, .int (0 : Int32), .int (-1 : Int32), .ref i10])), (oc, .inl (cI, 14, .inl mcf)), (oi, .inl (cI, 3, .inl mif)), (ol, .inl (cI, 24, .inl mlf)), (i10, .inl (cI, 0, .inl (fun _ => 0)))] := hD
    refine lv_goto (tgt := 27) hx hb dX7_good_19 (by decide) ?_
    obtain rfl := Option.some.inj hF
    exact ct_i hx hb hr hlocks hK hP hD hS i10 rfl [0, 1, 2, 3, 4] (by decide) rfl (Nat.le_of_ble_eq_true rfl) (Nat.le_of_ble_eq_true rfl) dX7_good_27

def fX7_best (mn : Int32) (mch : Int32) (mgo : Int32) (mmo : Int32) (mcf : (Nat → Int32)) (mif : (Nat → Int32)) (mbn : Nat) (mbf : (Nat → Int32)) (p0 : Int32) : Option (Int32 × Int32 × Int32 × Int32 × (Nat → Int32) × Nat) := (fX7_isIn p0 (0 : Int32) (5 : Int32)).bind (fun r1 => if r1 = 0 then ((fX7_no (1 : Int32)).bind (fun r5 => some (r5.1, r5.2, mgo, mmo, mbf, mbn))) else ((fX7_bestNow mn mch mcf mif p0).bind (fun r8 => some (r8, (0 : Int32), (0 : Int32), (-1 : Int32), (fun _ => 0), 0))))
abbrev rmX7_best : Room := { frames := 6, cells := 97, slots := 666, locals := 134 }
set_option maxHeartbeats 4000000 in
set_option maxRecDepth 100000 in
theorem kX7_best (l : Launch) (dC : Nat → ClassId) (dI : Nat → Nat → Nat) (tys : List (ClassId × FieldType)) (cI : ClassId) (ht0 : tys[0]? = some (cI, .int)) (cR : ClassId) (ht3 : tys[3]? = some (cR, .array .int)) (o oc oi ol ob : Nat) (mth : Int32) (mn : Int32) (mch : Int32) (mcl : Int32) (mgo : Int32) (mmo : Int32) (mcf : (Nat → Int32)) (mif : (Nat → Int32)) (mlf : (Nat → Int32)) (mbn : Nat) (mbf : (Nat → Int32)) (p0 : Int32) (r : (Int32 × Int32 × Int32 × Int32 × (Nat → Int32) × Nat)) (hF : fX7_best mn mch mgo mmo mcf mif mbn mbf p0 = some r) : ct l (dC, dI) tys yX7_best wsX7_best rmX7_best [.ref o, .int p0] [(o, .inr (6, [.int mth, .int mn, .int mch, .ref oc, .ref oi, .int mcl, .ref ol, .int mgo, .int mmo, .ref ob])), (oc, .inl (cI, 14, .inl mcf)), (oi, .inl (cI, 3, .inl mif)), (ol, .inl (cI, 24, .inl mlf)), (ob, .inl (cI, mbn, .inl mbf))] (fun _ : Nat => some (.int r.1)) (fun i : Nat => [(o, .inr (6, [.int r.2.1, .int mn, .int mch, .ref oc, .ref oi, .int mcl, .ref ol, .int r.2.2.1, .int r.2.2.2.1, .ref i])), (oc, .inl (cI, 14, .inl mcf)), (oi, .inl (cI, 3, .inl mif)), (ol, .inl (cI, 24, .inl mlf)), (i, .inl (cI, r.2.2.2.2.2, .inl r.2.2.2.2.1))]) := by
  refine ct_of (cc := cX7_best) (maxL := 2) (ret := (some .int)) (by decide) rfl (Nat.le_of_ble_eq_true rfl) ?_
  intro p e s m below meth c A ls hx hb hr hml hts hown hlocks hname hE hK hP hD hA hS hl
  have hown : s.vm.findClass RX7 = some m.cls := hown
  have hl : lv_has ls 2 [(0, .ref o), (1, .int p0)] := hl
  unfold fX7_best at hF
  have uX7 : ∀ w ∈ wsX70, w ∈ wsX7_best := (fun _ h => (List.mem_cons_of_mem _ (List.mem_append_right _ h)))
  have w1 := hts (.fieldLink RX7 36 "BellfounderTowerModel" "thrown" "I") (List.mem_cons_of_mem _ (List.mem_append_left _ (List.mem_append_left _ (List.mem_of_getElem? (i := 0) rfl))))
  refine lv_aload_n hx hb dX7_best_0 rfl (lv_at hl 0 rfl) ?_
  refine lv_iconst (v := (0 : Int32)) hx hb dX7_best_1 (by decide) ?_
  refine va_put (D := (dC, dI)) (ci := 6) (v := .int (0 : Int32)) (ty := .int) (C := RX7) (T := TX7) (N := 10) hx hb hts uX7 tyX7 tyX7_ok nmX7 hown hK hP hD hS 0 rfl rfl 0 (by decide) w1 (fun _ h9 => h9) rfl (by decide +kernel) rfl rfl (Nat.le_of_ble_eq_true rfl) dX7_best_2 (fun H locs hP hD hS => ?_)
  have hP : va_P (dC, dI) vwCl [(o, .inr (6, [.int (0 : Int32), .int mn, .int mch, .ref oc, .ref oi, .int mcl, .ref ol, .int mgo, .int mmo, .ref ob])), (oc, .inl (cI, 14, .inl mcf)), (oi, .inl (cI, 3, .inl mif)), (ol, .inl (cI, 24, .inl mlf)), (ob, .inl (cI, mbn, .inl mbf))] H := hP
  have hD : va_D A [(o, .inr (6, [.int (0 : Int32), .int mn, .int mch, .ref oc, .ref oi, .int mcl, .ref ol, .int mgo, .int mmo, .ref ob])), (oc, .inl (cI, 14, .inl mcf)), (oi, .inl (cI, 3, .inl mif)), (ol, .inl (cI, 24, .inl mlf)), (ob, .inl (cI, mbn, .inl mbf))] := hD
  refine lv_iload_n hx hb dX7_best_5 rfl (lv_at hl 1 rfl) ?_
  refine lv_iconst (v := (0 : Int32)) hx hb dX7_best_6 (by decide) ?_
  refine lv_iconst (v := (5 : Int32)) hx hb dX7_best_7 (by decide) ?_
  obtain ⟨r1, hC2, hF⟩ := gd_b hF
  refine ct_callS (As := [.int p0, .int (0 : Int32), .int (5 : Int32)]) (rest := []) ⟨hx, hb, hml, hown, hts⟩ (kX7_isIn l dC dI tys cI ht0 p0 (0 : Int32) (5 : Int32) r1 hC2) (va_cwS 3 hts gX7_best_X7_isIn rfl rfl rfl (by decide +kernel) ⟨Nat.le_of_ble_eq_true rfl, Nat.le_of_ble_eq_true rfl⟩) hE hK hP hD hS hA [] [0, 1, 2, 3, 4] (by decide) rfl (by decide) (wr := [(o, .inr (6, [.int (0 : Int32), .int mn, .int mch, .ref oc, .ref oi, .int mcl, .ref ol, .int mgo, .int mmo, .ref ob])), (oc, .inl (cI, 14, .inl mcf)), (oi, .inl (cI, 3, .inl mif)), (ol, .inl (cI, 24, .inl mlf)), (ob, .inl (cI, mbn, .inl mbf))]) rfl (by decide) hl.1 rfl rfl (Nat.le_of_ble_eq_true rfl) dX7_best_8 ⟨(Nat.le_of_ble_eq_true rfl), (Nat.le_of_ble_eq_true rfl)⟩ (fun i3 H locs hP hD hS => ?_)
  have hP : va_P (dC, dI) vwCl [(o, .inr (6, [.int (0 : Int32), .int mn, .int mch, .ref oc, .ref oi, .int mcl, .ref ol, .int mgo, .int mmo, .ref ob])), (oc, .inl (cI, 14, .inl mcf)), (oi, .inl (cI, 3, .inl mif)), (ol, .inl (cI, 24, .inl mlf)), (ob, .inl (cI, mbn, .inl mbf))] H := hP
  have hD : va_D A [(o, .inr (6, [.int (0 : Int32), .int mn, .int mch, .ref oc, .ref oi, .int mcl, .ref ol, .int mgo, .int mmo, .ref ob])), (oc, .inl (cI, 14, .inl mcf)), (oi, .inl (cI, 3, .inl mif)), (ol, .inl (cI, 24, .inl mlf)), (ob, .inl (cI, mbn, .inl mbf))] := hD
  refine lv_if_eq (tgt := 22) hx hb dX7_best_11 (by decide) (fun c4 => ?_) (fun c4 => ?_)
  · have hF := (if_pos c4).symm.trans hF
    refine lv_aload_n hx hb dX7_best_22 rfl (lv_at hl 0 rfl) ?_
    refine lv_iconst (v := (1 : Int32)) hx hb dX7_best_23 (by decide) ?_
    obtain ⟨r5, hC6, hF⟩ := gd_b hF
    refine ct_callV (C := RX7) (As := [.int (1 : Int32)]) (rest := []) ⟨hx, hb, hml, hown, hts⟩ (kX7_no l dC dI tys cI ht0 o oc oi ol ob (0 : Int32) mn mch mcl mgo mmo mcf mif mlf mbn mbf (1 : Int32) r5 hC6) (cwV 1 hts gX7_best_X7_no rfl rfl rfl (by decide +kernel) ⟨Nat.le_of_ble_eq_true rfl, Nat.le_of_ble_eq_true rfl⟩) hE hK hP hD hS hA [0, 1, 2, 3, 4] [] (by decide) rfl (by decide) (wr := []) rfl (by decide) (ci := 6) (T := TX7) (N := 10) (q0 := 0) rfl rfl hl.1 rfl rfl (Nat.le_of_ble_eq_true rfl) dX7_best_24 ⟨(Nat.le_of_ble_eq_true rfl), (Nat.le_of_ble_eq_true rfl)⟩ (fun i7 H locs hP hD hS => ?_)
    have hP : va_P (dC, dI) vwCl [(o, .inr (6, [.int r5.2, .int mn, .int mch, .ref oc, .ref oi, .int mcl, .ref ol, .int mgo, .int mmo, .ref ob])), (oc, .inl (cI, 14, .inl mcf)), (oi, .inl (cI, 3, .inl mif)), (ol, .inl (cI, 24, .inl mlf)), (ob, .inl (cI, mbn, .inl mbf))] H := hP
    have hD : va_D A [(o, .inr (6, [.int r5.2, .int mn, .int mch, .ref oc, .ref oi, .int mcl, .ref ol, .int mgo, .int mmo, .ref ob])), (oc, .inl (cI, 14, .inl mcf)), (oi, .inl (cI, 3, .inl mif)), (ol, .inl (cI, 24, .inl mlf)), (ob, .inl (cI, mbn, .inl mbf))] := hD
    obtain rfl := Option.some.inj hF
    exact ct_i hx hb hr hlocks hK hP hD hS ob rfl [0, 1, 2, 3, 4] (by decide) rfl (Nat.le_of_ble_eq_true rfl) (Nat.le_of_ble_eq_true rfl) dX7_best_27
  · have hF := (if_neg c4).symm.trans hF
    refine lv_aload_n hx hb dX7_best_14 rfl (lv_at hl 0 rfl) ?_
    refine lv_iload_n hx hb dX7_best_15 rfl (lv_at hl 1 rfl) ?_
    obtain ⟨r8, hC9, hF⟩ := gd_b hF
    refine ct_callV (C := RX7) (As := [.int p0]) (rest := []) ⟨hx, hb, hml, hown, hts⟩ (kX7_bestNow l dC dI tys cI ht0 cR ht3 o oc oi ol ob (0 : Int32) mn mch mcl mgo mmo mcf mif mlf mbn mbf p0 r8 hC9) (cwV 1 hts gX7_best_X7_bestNow rfl rfl rfl (by decide +kernel) ⟨Nat.le_of_ble_eq_true rfl, Nat.le_of_ble_eq_true rfl⟩) hE hK hP hD hS hA [0, 1, 2, 3, 4] [] (by decide) rfl (by decide) (wr := []) rfl (by decide) (ci := 6) (T := TX7) (N := 10) (q0 := 0) rfl rfl hl.1 rfl rfl (Nat.le_of_ble_eq_true rfl) dX7_best_16 ⟨(Nat.le_of_ble_eq_true rfl), (Nat.le_of_ble_eq_true rfl)⟩ (fun i10 H locs hP hD hS => ?_)
    have hP : va_P (dC, dI) vwCl [(o, .inr (6, [.int (0 : Int32), .int mn, .int mch, .ref oc, .ref oi, .int mcl, .ref ol, .int (0 : Int32), .int (-1 : Int32), .ref i10])), (oc, .inl (cI, 14, .inl mcf)), (oi, .inl (cI, 3, .inl mif)), (ol, .inl (cI, 24, .inl mlf)), (i10, .inl (cI, 0, .inl (fun _ => 0)))] H := hP
    have hD : va_D A [(o, .inr (6, [.int (0 : Int32), .int mn, .int mch, .ref oc, .ref oi, .int mcl, .ref ol, .int (0 : Int32), .int (-1 : Int32), .ref i10])), (oc, .inl (cI, 14, .inl mcf)), (oi, .inl (cI, 3, .inl mif)), (ol, .inl (cI, 24, .inl mlf)), (i10, .inl (cI, 0, .inl (fun _ => 0)))] := hD
    refine lv_goto (tgt := 27) hx hb dX7_best_19 (by decide) ?_
    obtain rfl := Option.some.inj hF
    exact ct_i hx hb hr hlocks hK hP hD hS i10 rfl [0, 1, 2, 3, 4] (by decide) rfl (Nat.le_of_ble_eq_true rfl) (Nat.le_of_ble_eq_true rfl) dX7_best_27

def fX7_bestCall (mn : Int32) (mch : Int32) (mgo : Int32) (mmo : Int32) (mcf : (Nat → Int32)) (mif : (Nat → Int32)) (mbn : Nat) (mbf : (Nat → Int32)) (p0 : Int32) (p1 : Int32) : Option (Int32 × Int32 × Int32 × Int32 × (Nat → Int32) × Nat) := (fX7_isIn p0 (0 : Int32) (5 : Int32)).bind (fun r1 => if r1 = 0 then ((fX7_no (1 : Int32)).bind (fun r16 => some (r16.1, r16.2, mgo, mmo, mbf, mbn))) else ((fX7_search mn mch mcf mif p0).bind (fun r5 => (fX7_isIn p1 (0 : Int32) ((Int32.ofNat 0) - (1 : Int32))).bind (fun r8 => if r8 = 0 then ((fX7_no (2 : Int32)).bind (fun r12 => some (r12.1, r12.2, (0 : Int32), (-1 : Int32), (fun _ => 0), 0))) else (if (p1 < 0 ∨ 0 ≤ p1.toNatClampNeg) then none else (some (((fun _ => 0) p1.toNatClampNeg), (0 : Int32), (0 : Int32), (-1 : Int32), (fun _ => 0), 0)))))))
abbrev rmX7_bestCall : Room := { frames := 5, cells := 97, slots := 666, locals := 113 }
set_option maxHeartbeats 4000000 in
set_option maxRecDepth 100000 in
theorem kX7_bestCall (l : Launch) (dC : Nat → ClassId) (dI : Nat → Nat → Nat) (tys : List (ClassId × FieldType)) (cI : ClassId) (ht0 : tys[0]? = some (cI, .int)) (cR : ClassId) (ht3 : tys[3]? = some (cR, .array .int)) (o oc oi ol ob : Nat) (mth : Int32) (mn : Int32) (mch : Int32) (mcl : Int32) (mgo : Int32) (mmo : Int32) (mcf : (Nat → Int32)) (mif : (Nat → Int32)) (mlf : (Nat → Int32)) (mbn : Nat) (mbf : (Nat → Int32)) (p0 : Int32) (p1 : Int32) (r : (Int32 × Int32 × Int32 × Int32 × (Nat → Int32) × Nat)) (hF : fX7_bestCall mn mch mgo mmo mcf mif mbn mbf p0 p1 = some r) : ct l (dC, dI) tys yX7_bestCall wsX7_bestCall rmX7_bestCall [.ref o, .int p0, .int p1] [(o, .inr (6, [.int mth, .int mn, .int mch, .ref oc, .ref oi, .int mcl, .ref ol, .int mgo, .int mmo, .ref ob])), (oc, .inl (cI, 14, .inl mcf)), (oi, .inl (cI, 3, .inl mif)), (ol, .inl (cI, 24, .inl mlf)), (ob, .inl (cI, mbn, .inl mbf))] (fun _ : Nat => some (.int r.1)) (fun i : Nat => [(o, .inr (6, [.int r.2.1, .int mn, .int mch, .ref oc, .ref oi, .int mcl, .ref ol, .int r.2.2.1, .int r.2.2.2.1, .ref i])), (oc, .inl (cI, 14, .inl mcf)), (oi, .inl (cI, 3, .inl mif)), (ol, .inl (cI, 24, .inl mlf)), (i, .inl (cI, r.2.2.2.2.2, .inl r.2.2.2.2.1))]) := by
  refine ct_of (cc := cX7_bestCall) (maxL := 3) (ret := (some .int)) (by decide) rfl (Nat.le_of_ble_eq_true rfl) ?_
  intro p e s m below meth c A ls hx hb hr hml hts hown hlocks hname hE hK hP hD hA hS hl
  have hown : s.vm.findClass RX7 = some m.cls := hown
  have hl : lv_has ls 3 [(0, .ref o), (1, .int p0), (2, .int p1)] := hl
  unfold fX7_bestCall at hF
  have uX7 : ∀ w ∈ wsX70, w ∈ wsX7_bestCall := (fun _ h => (List.mem_cons_of_mem _ (List.mem_append_right _ h)))
  have w1 := hts (.fieldLink RX7 36 "BellfounderTowerModel" "thrown" "I") (List.mem_cons_of_mem _ (List.mem_append_left _ (List.mem_append_left _ (List.mem_of_getElem? (i := 0) rfl))))
  have w2 := hts (.fieldLink RX7 19 "BellfounderTowerModel" "best" "[I") (List.mem_cons_of_mem _ (List.mem_append_left _ (List.mem_append_left _ (List.mem_of_getElem? (i := 1) rfl))))
  refine lv_aload_n hx hb dX7_bestCall_0 rfl (lv_at hl 0 rfl) ?_
  refine lv_iconst (v := (0 : Int32)) hx hb dX7_bestCall_1 (by decide) ?_
  refine va_put (D := (dC, dI)) (ci := 6) (v := .int (0 : Int32)) (ty := .int) (C := RX7) (T := TX7) (N := 10) hx hb hts uX7 tyX7 tyX7_ok nmX7 hown hK hP hD hS 0 rfl rfl 0 (by decide) w1 (fun _ h9 => h9) rfl (by decide +kernel) rfl rfl (Nat.le_of_ble_eq_true rfl) dX7_bestCall_2 (fun H locs hP hD hS => ?_)
  have hP : va_P (dC, dI) vwCl [(o, .inr (6, [.int (0 : Int32), .int mn, .int mch, .ref oc, .ref oi, .int mcl, .ref ol, .int mgo, .int mmo, .ref ob])), (oc, .inl (cI, 14, .inl mcf)), (oi, .inl (cI, 3, .inl mif)), (ol, .inl (cI, 24, .inl mlf)), (ob, .inl (cI, mbn, .inl mbf))] H := hP
  have hD : va_D A [(o, .inr (6, [.int (0 : Int32), .int mn, .int mch, .ref oc, .ref oi, .int mcl, .ref ol, .int mgo, .int mmo, .ref ob])), (oc, .inl (cI, 14, .inl mcf)), (oi, .inl (cI, 3, .inl mif)), (ol, .inl (cI, 24, .inl mlf)), (ob, .inl (cI, mbn, .inl mbf))] := hD
  refine lv_iload_n hx hb dX7_bestCall_5 rfl (lv_at hl 1 rfl) ?_
  refine lv_iconst (v := (0 : Int32)) hx hb dX7_bestCall_6 (by decide) ?_
  refine lv_iconst (v := (5 : Int32)) hx hb dX7_bestCall_7 (by decide) ?_
  obtain ⟨r1, hC2, hF⟩ := gd_b hF
  refine ct_callS (As := [.int p0, .int (0 : Int32), .int (5 : Int32)]) (rest := []) ⟨hx, hb, hml, hown, hts⟩ (kX7_isIn l dC dI tys cI ht0 p0 (0 : Int32) (5 : Int32) r1 hC2) (va_cwS 3 hts gX7_bestCall_X7_isIn rfl rfl rfl (by decide +kernel) ⟨Nat.le_of_ble_eq_true rfl, Nat.le_of_ble_eq_true rfl⟩) hE hK hP hD hS hA [] [0, 1, 2, 3, 4] (by decide) rfl (by decide) (wr := [(o, .inr (6, [.int (0 : Int32), .int mn, .int mch, .ref oc, .ref oi, .int mcl, .ref ol, .int mgo, .int mmo, .ref ob])), (oc, .inl (cI, 14, .inl mcf)), (oi, .inl (cI, 3, .inl mif)), (ol, .inl (cI, 24, .inl mlf)), (ob, .inl (cI, mbn, .inl mbf))]) rfl (by decide) hl.1 rfl rfl (Nat.le_of_ble_eq_true rfl) dX7_bestCall_8 ⟨(Nat.le_of_ble_eq_true rfl), (Nat.le_of_ble_eq_true rfl)⟩ (fun i3 H locs hP hD hS => ?_)
  have hP : va_P (dC, dI) vwCl [(o, .inr (6, [.int (0 : Int32), .int mn, .int mch, .ref oc, .ref oi, .int mcl, .ref ol, .int mgo, .int mmo, .ref ob])), (oc, .inl (cI, 14, .inl mcf)), (oi, .inl (cI, 3, .inl mif)), (ol, .inl (cI, 24, .inl mlf)), (ob, .inl (cI, mbn, .inl mbf))] H := hP
  have hD : va_D A [(o, .inr (6, [.int (0 : Int32), .int mn, .int mch, .ref oc, .ref oi, .int mcl, .ref ol, .int mgo, .int mmo, .ref ob])), (oc, .inl (cI, 14, .inl mcf)), (oi, .inl (cI, 3, .inl mif)), (ol, .inl (cI, 24, .inl mlf)), (ob, .inl (cI, mbn, .inl mbf))] := hD
  refine lv_if_ne (tgt := 20) hx hb dX7_bestCall_11 (by decide) (fun c4 => ?_) (fun c4 => ?_)
  · have hF := (if_neg c4).symm.trans hF
    refine lv_aload_n hx hb dX7_bestCall_20 rfl (lv_at hl 0 rfl) ?_
    refine lv_iload_n hx hb dX7_bestCall_21 rfl (lv_at hl 1 rfl) ?_
    obtain ⟨r5, hC6, hF⟩ := gd_b hF
    refine ct_callV (C := RX7) (As := [.int p0]) (rest := []) ⟨hx, hb, hml, hown, hts⟩ (kX7_search l dC dI tys cI ht0 cR ht3 o oc oi ol ob (0 : Int32) mn mch mcl mgo mmo mcf mif mlf mbn mbf p0 r5 hC6) (cwV 1 hts gX7_bestCall_X7_search rfl rfl rfl (by decide +kernel) ⟨Nat.le_of_ble_eq_true rfl, Nat.le_of_ble_eq_true rfl⟩) hE hK hP hD hS hA [0, 1, 2, 3, 4] [] (by decide) rfl (by decide) (wr := []) rfl (by decide) (ci := 6) (T := TX7) (N := 10) (q0 := 0) rfl rfl hl.1 rfl rfl (Nat.le_of_ble_eq_true rfl) dX7_bestCall_22 ⟨(Nat.le_of_ble_eq_true rfl), (Nat.le_of_ble_eq_true rfl)⟩ (fun i7 H locs hP hD hS => ?_)
    have hP : va_P (dC, dI) vwCl [(o, .inr (6, [.int (0 : Int32), .int mn, .int mch, .ref oc, .ref oi, .int mcl, .ref ol, .int (0 : Int32), .int (-1 : Int32), .ref i7])), (oc, .inl (cI, 14, .inl mcf)), (oi, .inl (cI, 3, .inl mif)), (ol, .inl (cI, 24, .inl mlf)), (i7, .inl (cI, 0, .inl (fun _ => 0)))] H := hP
    have hD : va_D A [(o, .inr (6, [.int (0 : Int32), .int mn, .int mch, .ref oc, .ref oi, .int mcl, .ref ol, .int (0 : Int32), .int (-1 : Int32), .ref i7])), (oc, .inl (cI, 14, .inl mcf)), (oi, .inl (cI, 3, .inl mif)), (ol, .inl (cI, 24, .inl mlf)), (i7, .inl (cI, 0, .inl (fun _ => 0)))] := hD
    refine lv_iload_n hx hb dX7_bestCall_25 rfl (lv_at hl 2 rfl) ?_
    refine lv_iconst (v := (0 : Int32)) hx hb dX7_bestCall_26 (by decide) ?_
    refine lv_aload_n hx hb dX7_bestCall_27 rfl (lv_at hl 0 rfl) ?_
    refine va_get (D := (dC, dI)) (ci := 6) (v := .ref i7) (C := RX7) (T := TX7) (N := 10) hx hb hts uX7 hown hK hP 0 rfl rfl 9 (by decide) w2 (fun _ h9 => h9) rfl dX7_bestCall_28 ?_
    refine va_alen hx hb hK hP 4 0 rfl ht0 (v := Int32.ofNat 0) rfl dX7_bestCall_31 ?_
    refine lv_iconst (v := (1 : Int32)) hx hb dX7_bestCall_32 (by decide) ?_
    refine lv_isub hx hb dX7_bestCall_33 ?_
    obtain ⟨r8, hC9, hF⟩ := gd_b hF
    refine ct_callS (As := [.int p1, .int (0 : Int32), .int ((Int32.ofNat 0) - (1 : Int32))]) (rest := []) ⟨hx, hb, hml, hown, hts⟩ (kX7_isIn l dC dI tys cI ht0 p1 (0 : Int32) ((Int32.ofNat 0) - (1 : Int32)) r8 hC9) (va_cwS 3 hts gX7_bestCall_X7_isIn rfl rfl rfl (by decide +kernel) ⟨Nat.le_of_ble_eq_true rfl, Nat.le_of_ble_eq_true rfl⟩) hE hK hP hD hS hA [] [0, 1, 2, 3, 4] (by decide) rfl (by decide) (wr := [(o, .inr (6, [.int (0 : Int32), .int mn, .int mch, .ref oc, .ref oi, .int mcl, .ref ol, .int (0 : Int32), .int (-1 : Int32), .ref i7])), (oc, .inl (cI, 14, .inl mcf)), (oi, .inl (cI, 3, .inl mif)), (ol, .inl (cI, 24, .inl mlf)), (i7, .inl (cI, 0, .inl (fun _ => 0)))]) rfl (by decide) hl.1 rfl rfl (Nat.le_of_ble_eq_true rfl) dX7_bestCall_34 ⟨(Nat.le_of_ble_eq_true rfl), (Nat.le_of_ble_eq_true rfl)⟩ (fun i10 H locs hP hD hS => ?_)
    have hP : va_P (dC, dI) vwCl [(o, .inr (6, [.int (0 : Int32), .int mn, .int mch, .ref oc, .ref oi, .int mcl, .ref ol, .int (0 : Int32), .int (-1 : Int32), .ref i7])), (oc, .inl (cI, 14, .inl mcf)), (oi, .inl (cI, 3, .inl mif)), (ol, .inl (cI, 24, .inl mlf)), (i7, .inl (cI, 0, .inl (fun _ => 0)))] H := hP
    have hD : va_D A [(o, .inr (6, [.int (0 : Int32), .int mn, .int mch, .ref oc, .ref oi, .int mcl, .ref ol, .int (0 : Int32), .int (-1 : Int32), .ref i7])), (oc, .inl (cI, 14, .inl mcf)), (oi, .inl (cI, 3, .inl mif)), (ol, .inl (cI, 24, .inl mlf)), (i7, .inl (cI, 0, .inl (fun _ => 0)))] := hD
    refine lv_if_eq (tgt := 49) hx hb dX7_bestCall_37 (by decide) (fun c11 => ?_) (fun c11 => ?_)
    · have hF := (if_pos c11).symm.trans hF
      refine lv_aload_n hx hb dX7_bestCall_49 rfl (lv_at hl 0 rfl) ?_
      refine lv_iconst (v := (2 : Int32)) hx hb dX7_bestCall_50 (by decide) ?_
      obtain ⟨r12, hC13, hF⟩ := gd_b hF
      refine ct_callV (C := RX7) (As := [.int (2 : Int32)]) (rest := []) ⟨hx, hb, hml, hown, hts⟩ (kX7_no l dC dI tys cI ht0 o oc oi ol i7 (0 : Int32) mn mch mcl (0 : Int32) (-1 : Int32) mcf mif mlf 0 (fun _ => 0) (2 : Int32) r12 hC13) (cwV 1 hts gX7_bestCall_X7_no rfl rfl rfl (by decide +kernel) ⟨Nat.le_of_ble_eq_true rfl, Nat.le_of_ble_eq_true rfl⟩) hE hK hP hD hS hA [0, 1, 2, 3, 4] [] (by decide) rfl (by decide) (wr := []) rfl (by decide) (ci := 6) (T := TX7) (N := 10) (q0 := 0) rfl rfl hl.1 rfl rfl (Nat.le_of_ble_eq_true rfl) dX7_bestCall_51 ⟨(Nat.le_of_ble_eq_true rfl), (Nat.le_of_ble_eq_true rfl)⟩ (fun i14 H locs hP hD hS => ?_)
      have hP : va_P (dC, dI) vwCl [(o, .inr (6, [.int r12.2, .int mn, .int mch, .ref oc, .ref oi, .int mcl, .ref ol, .int (0 : Int32), .int (-1 : Int32), .ref i7])), (oc, .inl (cI, 14, .inl mcf)), (oi, .inl (cI, 3, .inl mif)), (ol, .inl (cI, 24, .inl mlf)), (i7, .inl (cI, 0, .inl (fun _ => 0)))] H := hP
      have hD : va_D A [(o, .inr (6, [.int r12.2, .int mn, .int mch, .ref oc, .ref oi, .int mcl, .ref ol, .int (0 : Int32), .int (-1 : Int32), .ref i7])), (oc, .inl (cI, 14, .inl mcf)), (oi, .inl (cI, 3, .inl mif)), (ol, .inl (cI, 24, .inl mlf)), (i7, .inl (cI, 0, .inl (fun _ => 0)))] := hD
      obtain rfl := Option.some.inj hF
      exact ct_i hx hb hr hlocks hK hP hD hS i7 rfl [0, 1, 2, 3, 4] (by decide) rfl (Nat.le_of_ble_eq_true rfl) (Nat.le_of_ble_eq_true rfl) dX7_bestCall_54
    · have hF := (if_neg c11).symm.trans hF
      refine lv_aload_n hx hb dX7_bestCall_40 rfl (lv_at hl 0 rfl) ?_
      refine va_get (D := (dC, dI)) (ci := 6) (v := .ref i7) (C := RX7) (T := TX7) (N := 10) hx hb hts uX7 hown hK hP 0 rfl rfl 9 (by decide) w2 (fun _ h9 => h9) rfl dX7_bestCall_41 ?_
      refine lv_iload_n hx hb dX7_bestCall_44 rfl (lv_at hl 2 rfl) ?_
      obtain ⟨g15, hF⟩ := gd_n hF
      refine va_iald hx hb hK hP 4 0 rfl ht0 g15 dX7_bestCall_45 ?_
      refine lv_goto (tgt := 54) hx hb dX7_bestCall_46 (by decide) ?_
      obtain rfl := Option.some.inj hF
      exact ct_i hx hb hr hlocks hK hP hD hS i7 rfl [0, 1, 2, 3, 4] (by decide) rfl (Nat.le_of_ble_eq_true rfl) (Nat.le_of_ble_eq_true rfl) dX7_bestCall_54
  · have hF := (if_pos c4).symm.trans hF
    refine lv_aload_n hx hb dX7_bestCall_14 rfl (lv_at hl 0 rfl) ?_
    refine lv_iconst (v := (1 : Int32)) hx hb dX7_bestCall_15 (by decide) ?_
    obtain ⟨r16, hC17, hF⟩ := gd_b hF
    refine ct_callV (C := RX7) (As := [.int (1 : Int32)]) (rest := []) ⟨hx, hb, hml, hown, hts⟩ (kX7_no l dC dI tys cI ht0 o oc oi ol ob (0 : Int32) mn mch mcl mgo mmo mcf mif mlf mbn mbf (1 : Int32) r16 hC17) (cwV 1 hts gX7_bestCall_X7_no rfl rfl rfl (by decide +kernel) ⟨Nat.le_of_ble_eq_true rfl, Nat.le_of_ble_eq_true rfl⟩) hE hK hP hD hS hA [0, 1, 2, 3, 4] [] (by decide) rfl (by decide) (wr := []) rfl (by decide) (ci := 6) (T := TX7) (N := 10) (q0 := 0) rfl rfl hl.1 rfl rfl (Nat.le_of_ble_eq_true rfl) dX7_bestCall_16 ⟨(Nat.le_of_ble_eq_true rfl), (Nat.le_of_ble_eq_true rfl)⟩ (fun i18 H locs hP hD hS => ?_)
    have hP : va_P (dC, dI) vwCl [(o, .inr (6, [.int r16.2, .int mn, .int mch, .ref oc, .ref oi, .int mcl, .ref ol, .int mgo, .int mmo, .ref ob])), (oc, .inl (cI, 14, .inl mcf)), (oi, .inl (cI, 3, .inl mif)), (ol, .inl (cI, 24, .inl mlf)), (ob, .inl (cI, mbn, .inl mbf))] H := hP
    have hD : va_D A [(o, .inr (6, [.int r16.2, .int mn, .int mch, .ref oc, .ref oi, .int mcl, .ref ol, .int mgo, .int mmo, .ref ob])), (oc, .inl (cI, 14, .inl mcf)), (oi, .inl (cI, 3, .inl mif)), (ol, .inl (cI, 24, .inl mlf)), (ob, .inl (cI, mbn, .inl mbf))] := hD
    obtain rfl := Option.some.inj hF
    exact ct_i hx hb hr hlocks hK hP hD hS ob rfl [0, 1, 2, 3, 4] (by decide) rfl (Nat.le_of_ble_eq_true rfl) (Nat.le_of_ble_eq_true rfl) dX7_bestCall_19

def fX7_endWith (mn : Int32) (mch : Int32) (mcl : Int32) (mcf : (Nat → Int32)) (mif : (Nat → Int32)) (mlf : (Nat → Int32)) (p0 : Int32) (p1 : Int32) : Option (Int32 × Int32 × (Nat → Int32)) := (fX7_isIn p0 (0 : Int32) (mcl - (1 : Int32))).bind (fun r1 => if r1 = 0 then ((fX7_no (1 : Int32)).bind (fun r21 => some (r21.1, r21.2, mlf))) else ((fX7_isIn p1 (0 : Int32) (2 : Int32)).bind (fun r5 => if r5 = 0 then ((fX7_no (2 : Int32)).bind (fun r18 => some (r18.1, r18.2, mlf))) else (if (p0 < 0 ∨ 24 ≤ p0.toNatClampNeg) then none else (if (p0 < 0 ∨ 24 ≤ p0.toNatClampNeg) then none else ((fX7_order__ mn mch mcl mcf mif (upd mlf p0.toNatClampNeg p1)).bind (fun r11 => (fX7_number r11.2 r11.1).bind (fun r14 => if (p0 < 0 ∨ 24 ≤ p0.toNatClampNeg) then none else (some (r14, (0 : Int32), (upd (upd mlf p0.toNatClampNeg p1) p0.toNatClampNeg (mlf p0.toNatClampNeg))))))))))))
abbrev rmX7_endWith : Room := { frames := 6, cells := 801, slots := 5607, locals := 134 }
set_option maxHeartbeats 4000000 in
set_option maxRecDepth 100000 in
theorem kX7_endWith (l : Launch) (dC : Nat → ClassId) (dI : Nat → Nat → Nat) (tys : List (ClassId × FieldType)) (cI : ClassId) (ht0 : tys[0]? = some (cI, .int)) (o oc oi ol ob : Nat) (mth : Int32) (mn : Int32) (mch : Int32) (mcl : Int32) (mgo : Int32) (mmo : Int32) (mcf : (Nat → Int32)) (mif : (Nat → Int32)) (mlf : (Nat → Int32)) (mbn : Nat) (mbf : (Nat → Int32)) (p0 : Int32) (p1 : Int32) (r : (Int32 × Int32 × (Nat → Int32))) (hF : fX7_endWith mn mch mcl mcf mif mlf p0 p1 = some r) : ct l (dC, dI) tys yX7_endWith wsX7_endWith rmX7_endWith [.ref o, .int p0, .int p1] [(o, .inr (6, [.int mth, .int mn, .int mch, .ref oc, .ref oi, .int mcl, .ref ol, .int mgo, .int mmo, .ref ob])), (oc, .inl (cI, 14, .inl mcf)), (oi, .inl (cI, 3, .inl mif)), (ol, .inl (cI, 24, .inl mlf)), (ob, .inl (cI, mbn, .inl mbf))] (fun _ : Unit => some (.int r.1)) (fun _ : Unit => [(o, .inr (6, [.int r.2.1, .int mn, .int mch, .ref oc, .ref oi, .int mcl, .ref ol, .int mgo, .int mmo, .ref ob])), (oc, .inl (cI, 14, .inl mcf)), (oi, .inl (cI, 3, .inl mif)), (ol, .inl (cI, 24, .inl r.2.2)), (ob, .inl (cI, mbn, .inl mbf))]) := by
  refine ct_of (cc := cX7_endWith) (maxL := 5) (ret := (some .int)) (by decide) rfl (Nat.le_of_ble_eq_true rfl) ?_
  intro p e s m below meth c A ls hx hb hr hml hts hown hlocks hname hE hK hP hD hA hS hl
  have hown : s.vm.findClass RX7 = some m.cls := hown
  have hl : lv_has ls 5 [(0, .ref o), (1, .int p0), (2, .int p1)] := hl
  unfold fX7_endWith at hF
  have uX7 : ∀ w ∈ wsX70, w ∈ wsX7_endWith := (fun _ h => (List.mem_cons_of_mem _ (List.mem_append_right _ h)))
  have w1 := hts (.fieldLink RX7 36 "BellfounderTowerModel" "thrown" "I") (List.mem_cons_of_mem _ (List.mem_append_left _ (List.mem_append_left _ (List.mem_of_getElem? (i := 0) rfl))))
  have w2 := hts (.fieldLink RX7 33 "BellfounderTowerModel" "calls" "I") (List.mem_cons_of_mem _ (List.mem_append_left _ (List.mem_append_left _ (List.mem_of_getElem? (i := 1) rfl))))
  have w3 := hts (.fieldLink RX7 16 "BellfounderTowerModel" "call" "[I") (List.mem_cons_of_mem _ (List.mem_append_left _ (List.mem_append_left _ (List.mem_of_getElem? (i := 2) rfl))))
  refine lv_aload_n hx hb dX7_endWith_0 rfl (lv_at hl 0 rfl) ?_
  refine lv_iconst (v := (0 : Int32)) hx hb dX7_endWith_1 (by decide) ?_
  refine va_put (D := (dC, dI)) (ci := 6) (v := .int (0 : Int32)) (ty := .int) (C := RX7) (T := TX7) (N := 10) hx hb hts uX7 tyX7 tyX7_ok nmX7 hown hK hP hD hS 0 rfl rfl 0 (by decide) w1 (fun _ h9 => h9) rfl (by decide +kernel) rfl rfl (Nat.le_of_ble_eq_true rfl) dX7_endWith_2 (fun H locs hP hD hS => ?_)
  have hP : va_P (dC, dI) vwCl [(o, .inr (6, [.int (0 : Int32), .int mn, .int mch, .ref oc, .ref oi, .int mcl, .ref ol, .int mgo, .int mmo, .ref ob])), (oc, .inl (cI, 14, .inl mcf)), (oi, .inl (cI, 3, .inl mif)), (ol, .inl (cI, 24, .inl mlf)), (ob, .inl (cI, mbn, .inl mbf))] H := hP
  have hD : va_D A [(o, .inr (6, [.int (0 : Int32), .int mn, .int mch, .ref oc, .ref oi, .int mcl, .ref ol, .int mgo, .int mmo, .ref ob])), (oc, .inl (cI, 14, .inl mcf)), (oi, .inl (cI, 3, .inl mif)), (ol, .inl (cI, 24, .inl mlf)), (ob, .inl (cI, mbn, .inl mbf))] := hD
  refine lv_iload_n hx hb dX7_endWith_5 rfl (lv_at hl 1 rfl) ?_
  refine lv_iconst (v := (0 : Int32)) hx hb dX7_endWith_6 (by decide) ?_
  refine lv_aload_n hx hb dX7_endWith_7 rfl (lv_at hl 0 rfl) ?_
  refine va_get (D := (dC, dI)) (ci := 6) (v := .int mcl) (C := RX7) (T := TX7) (N := 10) hx hb hts uX7 hown hK hP 0 rfl rfl 5 (by decide) w2 (fun _ h9 => h9) rfl dX7_endWith_8 ?_
  refine lv_iconst (v := (1 : Int32)) hx hb dX7_endWith_11 (by decide) ?_
  refine lv_isub hx hb dX7_endWith_12 ?_
  obtain ⟨r1, hC2, hF⟩ := gd_b hF
  refine ct_callS (As := [.int p0, .int (0 : Int32), .int (mcl - (1 : Int32))]) (rest := []) ⟨hx, hb, hml, hown, hts⟩ (kX7_isIn l dC dI tys cI ht0 p0 (0 : Int32) (mcl - (1 : Int32)) r1 hC2) (va_cwS 3 hts gX7_endWith_X7_isIn rfl rfl rfl (by decide +kernel) ⟨Nat.le_of_ble_eq_true rfl, Nat.le_of_ble_eq_true rfl⟩) hE hK hP hD hS hA [] [0, 1, 2, 3, 4] (by decide) rfl (by decide) (wr := [(o, .inr (6, [.int (0 : Int32), .int mn, .int mch, .ref oc, .ref oi, .int mcl, .ref ol, .int mgo, .int mmo, .ref ob])), (oc, .inl (cI, 14, .inl mcf)), (oi, .inl (cI, 3, .inl mif)), (ol, .inl (cI, 24, .inl mlf)), (ob, .inl (cI, mbn, .inl mbf))]) rfl (by decide) hl.1 rfl rfl (Nat.le_of_ble_eq_true rfl) dX7_endWith_13 ⟨(Nat.le_of_ble_eq_true rfl), (Nat.le_of_ble_eq_true rfl)⟩ (fun i3 H locs hP hD hS => ?_)
  have hP : va_P (dC, dI) vwCl [(o, .inr (6, [.int (0 : Int32), .int mn, .int mch, .ref oc, .ref oi, .int mcl, .ref ol, .int mgo, .int mmo, .ref ob])), (oc, .inl (cI, 14, .inl mcf)), (oi, .inl (cI, 3, .inl mif)), (ol, .inl (cI, 24, .inl mlf)), (ob, .inl (cI, mbn, .inl mbf))] H := hP
  have hD : va_D A [(o, .inr (6, [.int (0 : Int32), .int mn, .int mch, .ref oc, .ref oi, .int mcl, .ref ol, .int mgo, .int mmo, .ref ob])), (oc, .inl (cI, 14, .inl mcf)), (oi, .inl (cI, 3, .inl mif)), (ol, .inl (cI, 24, .inl mlf)), (ob, .inl (cI, mbn, .inl mbf))] := hD
  refine lv_if_ne (tgt := 25) hx hb dX7_endWith_16 (by decide) (fun c4 => ?_) (fun c4 => ?_)
  · have hF := (if_neg c4).symm.trans hF
    refine lv_iload_n hx hb dX7_endWith_25 rfl (lv_at hl 2 rfl) ?_
    refine lv_iconst (v := (0 : Int32)) hx hb dX7_endWith_26 (by decide) ?_
    refine lv_iconst (v := (2 : Int32)) hx hb dX7_endWith_27 (by decide) ?_
    obtain ⟨r5, hC6, hF⟩ := gd_b hF
    refine ct_callS (As := [.int p1, .int (0 : Int32), .int (2 : Int32)]) (rest := []) ⟨hx, hb, hml, hown, hts⟩ (kX7_isIn l dC dI tys cI ht0 p1 (0 : Int32) (2 : Int32) r5 hC6) (va_cwS 3 hts gX7_endWith_X7_isIn rfl rfl rfl (by decide +kernel) ⟨Nat.le_of_ble_eq_true rfl, Nat.le_of_ble_eq_true rfl⟩) hE hK hP hD hS hA [] [0, 1, 2, 3, 4] (by decide) rfl (by decide) (wr := [(o, .inr (6, [.int (0 : Int32), .int mn, .int mch, .ref oc, .ref oi, .int mcl, .ref ol, .int mgo, .int mmo, .ref ob])), (oc, .inl (cI, 14, .inl mcf)), (oi, .inl (cI, 3, .inl mif)), (ol, .inl (cI, 24, .inl mlf)), (ob, .inl (cI, mbn, .inl mbf))]) rfl (by decide) hl.1 rfl rfl (Nat.le_of_ble_eq_true rfl) dX7_endWith_28 ⟨(Nat.le_of_ble_eq_true rfl), (Nat.le_of_ble_eq_true rfl)⟩ (fun i7 H locs hP hD hS => ?_)
    have hP : va_P (dC, dI) vwCl [(o, .inr (6, [.int (0 : Int32), .int mn, .int mch, .ref oc, .ref oi, .int mcl, .ref ol, .int mgo, .int mmo, .ref ob])), (oc, .inl (cI, 14, .inl mcf)), (oi, .inl (cI, 3, .inl mif)), (ol, .inl (cI, 24, .inl mlf)), (ob, .inl (cI, mbn, .inl mbf))] H := hP
    have hD : va_D A [(o, .inr (6, [.int (0 : Int32), .int mn, .int mch, .ref oc, .ref oi, .int mcl, .ref ol, .int mgo, .int mmo, .ref ob])), (oc, .inl (cI, 14, .inl mcf)), (oi, .inl (cI, 3, .inl mif)), (ol, .inl (cI, 24, .inl mlf)), (ob, .inl (cI, mbn, .inl mbf))] := hD
    refine lv_if_ne (tgt := 40) hx hb dX7_endWith_31 (by decide) (fun c8 => ?_) (fun c8 => ?_)
    · have hF := (if_neg c8).symm.trans hF
      refine lv_aload_n hx hb dX7_endWith_40 rfl (lv_at hl 0 rfl) ?_
      refine va_get (D := (dC, dI)) (ci := 6) (v := .ref ol) (C := RX7) (T := TX7) (N := 10) hx hb hts uX7 hown hK hP 0 rfl rfl 6 (by decide) w3 (fun _ h9 => h9) rfl dX7_endWith_41 ?_
      refine lv_iload_n hx hb dX7_endWith_44 rfl (lv_at hl 1 rfl) ?_
      obtain ⟨g9, hF⟩ := gd_n hF
      refine va_iald hx hb hK hP 3 0 rfl ht0 g9 dX7_endWith_45 ?_
      refine lv_istore_n (lv' := [(3, .int (mlf p0.toNatClampNeg)), (0, .ref o), (1, .int p0), (2, .int p1)]) hx hb dX7_endWith_46 rfl hl (by decide) rfl (fun ls hl => ?_)
      refine lv_aload_n hx hb dX7_endWith_47 rfl (lv_at hl 1 rfl) ?_
      refine va_get (D := (dC, dI)) (ci := 6) (v := .ref ol) (C := RX7) (T := TX7) (N := 10) hx hb hts uX7 hown hK hP 0 rfl rfl 6 (by decide) w3 (fun _ h9 => h9) rfl dX7_endWith_48 ?_
      refine lv_iload_n hx hb dX7_endWith_51 rfl (lv_at hl 2 rfl) ?_
      refine lv_iload_n hx hb dX7_endWith_52 rfl (lv_at hl 3 rfl) ?_
      obtain ⟨g10, hF⟩ := gd_n hF
      refine va_iast hx hb hK hP hD hS 3 0 rfl ht0 g10 dX7_endWith_53 (fun H locs hP hD hS => ?_)
      have hP : va_P (dC, dI) vwCl [(o, .inr (6, [.int (0 : Int32), .int mn, .int mch, .ref oc, .ref oi, .int mcl, .ref ol, .int mgo, .int mmo, .ref ob])), (oc, .inl (cI, 14, .inl mcf)), (oi, .inl (cI, 3, .inl mif)), (ol, .inl (cI, 24, .inl (upd mlf p0.toNatClampNeg p1))), (ob, .inl (cI, mbn, .inl mbf))] H := hP
      have hD : va_D A [(o, .inr (6, [.int (0 : Int32), .int mn, .int mch, .ref oc, .ref oi, .int mcl, .ref ol, .int mgo, .int mmo, .ref ob])), (oc, .inl (cI, 14, .inl mcf)), (oi, .inl (cI, 3, .inl mif)), (ol, .inl (cI, 24, .inl (upd mlf p0.toNatClampNeg p1))), (ob, .inl (cI, mbn, .inl mbf))] := hD
      refine lv_aload_n hx hb dX7_endWith_54 rfl (lv_at hl 1 rfl) ?_
      obtain ⟨r11, hC12, hF⟩ := gd_b hF
      refine ct_callV (C := RX7) (As := []) (rest := []) ⟨hx, hb, hml, hown, hts⟩ (kX7_order__ l dC dI tys cI ht0 o oc oi ol ob (0 : Int32) mn mch mcl mgo mmo mcf mif (upd mlf p0.toNatClampNeg p1) mbn mbf r11 hC12) (cwV 0 hts gX7_endWith_X7_order__ rfl rfl rfl (by decide +kernel) ⟨Nat.le_of_ble_eq_true rfl, Nat.le_of_ble_eq_true rfl⟩) hE hK hP hD hS hA [0, 1, 2, 3, 4] [] (by decide) rfl (by decide) (wr := []) rfl (by decide) (ci := 6) (T := TX7) (N := 10) (q0 := 0) rfl rfl hl.1 rfl rfl (Nat.le_of_ble_eq_true rfl) dX7_endWith_55 ⟨(Nat.le_of_ble_eq_true rfl), (Nat.le_of_ble_eq_true rfl)⟩ (fun i13 H locs hP hD hS => ?_)
      have hP : va_P (dC, dI) vwCl [(o, .inr (6, [.int (0 : Int32), .int mn, .int mch, .ref oc, .ref oi, .int mcl, .ref ol, .int mgo, .int mmo, .ref ob])), (oc, .inl (cI, 14, .inl mcf)), (oi, .inl (cI, 3, .inl mif)), (ol, .inl (cI, 24, .inl (upd mlf p0.toNatClampNeg p1))), (ob, .inl (cI, mbn, .inl mbf)), (i13, .inl (cI, r11.2, .inl r11.1))] H := hP
      have hD : va_D A [(o, .inr (6, [.int (0 : Int32), .int mn, .int mch, .ref oc, .ref oi, .int mcl, .ref ol, .int mgo, .int mmo, .ref ob])), (oc, .inl (cI, 14, .inl mcf)), (oi, .inl (cI, 3, .inl mif)), (ol, .inl (cI, 24, .inl (upd mlf p0.toNatClampNeg p1))), (ob, .inl (cI, mbn, .inl mbf)), (i13, .inl (cI, r11.2, .inl r11.1))] := hD
      obtain ⟨r14, hC15, hF⟩ := gd_b hF
      refine ct_callS (As := [.ref i13]) (rest := []) ⟨hx, hb, hml, hown, hts⟩ (kX7_number l dC dI tys cI ht0 i13 r11.2 r11.1 r14 hC15) (va_cwS 1 hts gX7_endWith_X7_number rfl rfl rfl (by decide +kernel) ⟨Nat.le_of_ble_eq_true rfl, Nat.le_of_ble_eq_true rfl⟩) hE hK hP hD hS hA [5] [0, 1, 2, 3, 4] (by decide) rfl (by decide) (wr := [(o, .inr (6, [.int (0 : Int32), .int mn, .int mch, .ref oc, .ref oi, .int mcl, .ref ol, .int mgo, .int mmo, .ref ob])), (oc, .inl (cI, 14, .inl mcf)), (oi, .inl (cI, 3, .inl mif)), (ol, .inl (cI, 24, .inl (upd mlf p0.toNatClampNeg p1))), (ob, .inl (cI, mbn, .inl mbf))]) rfl (by decide) hl.1 rfl rfl (Nat.le_of_ble_eq_true rfl) dX7_endWith_58 ⟨(Nat.le_of_ble_eq_true rfl), (Nat.le_of_ble_eq_true rfl)⟩ (fun i16 H locs hP hD hS => ?_)
      have hP : va_P (dC, dI) vwCl [(o, .inr (6, [.int (0 : Int32), .int mn, .int mch, .ref oc, .ref oi, .int mcl, .ref ol, .int mgo, .int mmo, .ref ob])), (oc, .inl (cI, 14, .inl mcf)), (oi, .inl (cI, 3, .inl mif)), (ol, .inl (cI, 24, .inl (upd mlf p0.toNatClampNeg p1))), (ob, .inl (cI, mbn, .inl mbf)), (i13, .inl (cI, r11.2, .inl r11.1))] H := hP
      have hD : va_D A [(o, .inr (6, [.int (0 : Int32), .int mn, .int mch, .ref oc, .ref oi, .int mcl, .ref ol, .int mgo, .int mmo, .ref ob])), (oc, .inl (cI, 14, .inl mcf)), (oi, .inl (cI, 3, .inl mif)), (ol, .inl (cI, 24, .inl (upd mlf p0.toNatClampNeg p1))), (ob, .inl (cI, mbn, .inl mbf)), (i13, .inl (cI, r11.2, .inl r11.1))] := hD
      refine lv_istore (lv' := [(4, .int r14), (3, .int (mlf p0.toNatClampNeg)), (0, .ref o), (1, .int p0), (2, .int p1)]) hx hb dX7_endWith_61 hl (by decide) rfl (fun ls hl => ?_)
      refine lv_aload_n hx hb dX7_endWith_63 rfl (lv_at hl 2 rfl) ?_
      refine va_get (D := (dC, dI)) (ci := 6) (v := .ref ol) (C := RX7) (T := TX7) (N := 10) hx hb hts uX7 hown hK hP 0 rfl rfl 6 (by decide) w3 (fun _ h9 => h9) rfl dX7_endWith_64 ?_
      refine lv_iload_n hx hb dX7_endWith_67 rfl (lv_at hl 3 rfl) ?_
      refine lv_iload_n hx hb dX7_endWith_68 rfl (lv_at hl 1 rfl) ?_
      obtain ⟨g17, hF⟩ := gd_n hF
      refine va_iast hx hb hK hP hD hS 3 0 rfl ht0 g17 dX7_endWith_69 (fun H locs hP hD hS => ?_)
      have hP : va_P (dC, dI) vwCl [(o, .inr (6, [.int (0 : Int32), .int mn, .int mch, .ref oc, .ref oi, .int mcl, .ref ol, .int mgo, .int mmo, .ref ob])), (oc, .inl (cI, 14, .inl mcf)), (oi, .inl (cI, 3, .inl mif)), (ol, .inl (cI, 24, .inl (upd (upd mlf p0.toNatClampNeg p1) p0.toNatClampNeg (mlf p0.toNatClampNeg)))), (ob, .inl (cI, mbn, .inl mbf)), (i13, .inl (cI, r11.2, .inl r11.1))] H := hP
      have hD : va_D A [(o, .inr (6, [.int (0 : Int32), .int mn, .int mch, .ref oc, .ref oi, .int mcl, .ref ol, .int mgo, .int mmo, .ref ob])), (oc, .inl (cI, 14, .inl mcf)), (oi, .inl (cI, 3, .inl mif)), (ol, .inl (cI, 24, .inl (upd (upd mlf p0.toNatClampNeg p1) p0.toNatClampNeg (mlf p0.toNatClampNeg)))), (ob, .inl (cI, mbn, .inl mbf)), (i13, .inl (cI, r11.2, .inl r11.1))] := hD
      refine lv_iload hx hb dX7_endWith_70 (lv_at hl 0 rfl) ?_
      obtain rfl := Option.some.inj hF
      exact ct_i hx hb hr hlocks hK hP hD hS () rfl [0, 1, 2, 3, 4] (by decide) rfl (Nat.le_of_ble_eq_true rfl) (Nat.le_of_ble_eq_true rfl) dX7_endWith_72
    · have hF := (if_pos c8).symm.trans hF
      refine lv_aload_n hx hb dX7_endWith_34 rfl (lv_at hl 0 rfl) ?_
      refine lv_iconst (v := (2 : Int32)) hx hb dX7_endWith_35 (by decide) ?_
      obtain ⟨r18, hC19, hF⟩ := gd_b hF
      refine ct_callV (C := RX7) (As := [.int (2 : Int32)]) (rest := []) ⟨hx, hb, hml, hown, hts⟩ (kX7_no l dC dI tys cI ht0 o oc oi ol ob (0 : Int32) mn mch mcl mgo mmo mcf mif mlf mbn mbf (2 : Int32) r18 hC19) (cwV 1 hts gX7_endWith_X7_no rfl rfl rfl (by decide +kernel) ⟨Nat.le_of_ble_eq_true rfl, Nat.le_of_ble_eq_true rfl⟩) hE hK hP hD hS hA [0, 1, 2, 3, 4] [] (by decide) rfl (by decide) (wr := []) rfl (by decide) (ci := 6) (T := TX7) (N := 10) (q0 := 0) rfl rfl hl.1 rfl rfl (Nat.le_of_ble_eq_true rfl) dX7_endWith_36 ⟨(Nat.le_of_ble_eq_true rfl), (Nat.le_of_ble_eq_true rfl)⟩ (fun i20 H locs hP hD hS => ?_)
      have hP : va_P (dC, dI) vwCl [(o, .inr (6, [.int r18.2, .int mn, .int mch, .ref oc, .ref oi, .int mcl, .ref ol, .int mgo, .int mmo, .ref ob])), (oc, .inl (cI, 14, .inl mcf)), (oi, .inl (cI, 3, .inl mif)), (ol, .inl (cI, 24, .inl mlf)), (ob, .inl (cI, mbn, .inl mbf))] H := hP
      have hD : va_D A [(o, .inr (6, [.int r18.2, .int mn, .int mch, .ref oc, .ref oi, .int mcl, .ref ol, .int mgo, .int mmo, .ref ob])), (oc, .inl (cI, 14, .inl mcf)), (oi, .inl (cI, 3, .inl mif)), (ol, .inl (cI, 24, .inl mlf)), (ob, .inl (cI, mbn, .inl mbf))] := hD
      obtain rfl := Option.some.inj hF
      exact ct_i hx hb hr hlocks hK hP hD hS () rfl [0, 1, 2, 3, 4] (by decide) rfl (Nat.le_of_ble_eq_true rfl) (Nat.le_of_ble_eq_true rfl) dX7_endWith_39
  · have hF := (if_pos c4).symm.trans hF
    refine lv_aload_n hx hb dX7_endWith_19 rfl (lv_at hl 0 rfl) ?_
    refine lv_iconst (v := (1 : Int32)) hx hb dX7_endWith_20 (by decide) ?_
    obtain ⟨r21, hC22, hF⟩ := gd_b hF
    refine ct_callV (C := RX7) (As := [.int (1 : Int32)]) (rest := []) ⟨hx, hb, hml, hown, hts⟩ (kX7_no l dC dI tys cI ht0 o oc oi ol ob (0 : Int32) mn mch mcl mgo mmo mcf mif mlf mbn mbf (1 : Int32) r21 hC22) (cwV 1 hts gX7_endWith_X7_no rfl rfl rfl (by decide +kernel) ⟨Nat.le_of_ble_eq_true rfl, Nat.le_of_ble_eq_true rfl⟩) hE hK hP hD hS hA [0, 1, 2, 3, 4] [] (by decide) rfl (by decide) (wr := []) rfl (by decide) (ci := 6) (T := TX7) (N := 10) (q0 := 0) rfl rfl hl.1 rfl rfl (Nat.le_of_ble_eq_true rfl) dX7_endWith_21 ⟨(Nat.le_of_ble_eq_true rfl), (Nat.le_of_ble_eq_true rfl)⟩ (fun i23 H locs hP hD hS => ?_)
    have hP : va_P (dC, dI) vwCl [(o, .inr (6, [.int r21.2, .int mn, .int mch, .ref oc, .ref oi, .int mcl, .ref ol, .int mgo, .int mmo, .ref ob])), (oc, .inl (cI, 14, .inl mcf)), (oi, .inl (cI, 3, .inl mif)), (ol, .inl (cI, 24, .inl mlf)), (ob, .inl (cI, mbn, .inl mbf))] H := hP
    have hD : va_D A [(o, .inr (6, [.int r21.2, .int mn, .int mch, .ref oc, .ref oi, .int mcl, .ref ol, .int mgo, .int mmo, .ref ob])), (oc, .inl (cI, 14, .inl mcf)), (oi, .inl (cI, 3, .inl mif)), (ol, .inl (cI, 24, .inl mlf)), (ob, .inl (cI, mbn, .inl mbf))] := hD
    obtain rfl := Option.some.inj hF
    exact ct_i hx hb hr hlocks hK hP hD hS () rfl [0, 1, 2, 3, 4] (by decide) rfl (Nat.le_of_ble_eq_true rfl) (Nat.le_of_ble_eq_true rfl) dX7_endWith_24

def fX7_clashesNow_X36  (x7_36 : Int32) (x4_36 : Int32) : Option Int32 := some (x4_36)
def fX7_clashesNow_L36 (r10 : ((Nat → Int32) × Nat)) (r1 : ((Nat → Int32) × Nat)) (K36 : Int32 → Int32 → Option Int32) : Nat → Int32 → Int32 → Option Int32
  | 0, _, _ => none
  | n + 1, x7_36, x4_36 => if (Int32.ofNat r10.2) ≤ x7_36 then (K36 x7_36 x4_36) else (if (x7_36 < 0 ∨ r10.2 ≤ x7_36.toNatClampNeg) then none else ((fX7_first r1.2 r1.1 (r10.1 x7_36.toNatClampNeg)).bind (fun r15 => if (Int32.ofNat r1.2) ≤ r15 then ((fX7_clashesNow_L36 r10 r1 K36 n) (x7_36 + (1 : Int32)) (x4_36 + (0 : Int32))) else ((fX7_clashesNow_L36 r10 r1 K36 n) (x7_36 + (1 : Int32)) (x4_36 + (1 : Int32))))))
def fX7_clashesNow (mn : Int32) (mch : Int32) (mcl : Int32) (mcf : (Nat → Int32)) (mif : (Nat → Int32)) (mlf : (Nat → Int32)) (p0 : Int32) : Option Int32 := (fX7_rows_ mn mch mcl mcf mif mlf).bind (fun r1 => (fX7_order__ mn mch mcl mcf mif mlf).bind (fun r7 => (fX7_rowsb mn mch mcf mif r7.2 r7.1 1 (upd (fun _ => 0) (0 : Int32).toNatClampNeg p0) (1 : Int32)).bind (fun r10 => fX7_clashesNow_L36 r10 r1 fX7_clashesNow_X36 1000 (0 : Int32) (0 : Int32))))
abbrev rmX7_clashesNow : Room := { frames := 6, cells := 809, slots := 6315, locals := 134 }
set_option maxHeartbeats 4000000 in
set_option maxRecDepth 100000 in
theorem kX7_clashesNow (l : Launch) (dC : Nat → ClassId) (dI : Nat → Nat → Nat) (tys : List (ClassId × FieldType)) (cI : ClassId) (ht0 : tys[0]? = some (cI, .int)) (o oc oi ol ob : Nat) (mth : Int32) (mn : Int32) (mch : Int32) (mcl : Int32) (mgo : Int32) (mmo : Int32) (mcf : (Nat → Int32)) (mif : (Nat → Int32)) (mlf : (Nat → Int32)) (mbn : Nat) (mbf : (Nat → Int32)) (p0 : Int32) (r : Int32) (hF : fX7_clashesNow mn mch mcl mcf mif mlf p0 = some r) : ct l (dC, dI) tys yX7_clashesNow wsX7_clashesNow rmX7_clashesNow [.ref o, .int p0] [(o, .inr (6, [.int mth, .int mn, .int mch, .ref oc, .ref oi, .int mcl, .ref ol, .int mgo, .int mmo, .ref ob])), (oc, .inl (cI, 14, .inl mcf)), (oi, .inl (cI, 3, .inl mif)), (ol, .inl (cI, 24, .inl mlf)), (ob, .inl (cI, mbn, .inl mbf))] (fun _ : Unit => some (.int r)) (fun _ : Unit => [(o, .inr (6, [.int mth, .int mn, .int mch, .ref oc, .ref oi, .int mcl, .ref ol, .int mgo, .int mmo, .ref ob])), (oc, .inl (cI, 14, .inl mcf)), (oi, .inl (cI, 3, .inl mif)), (ol, .inl (cI, 24, .inl mlf)), (ob, .inl (cI, mbn, .inl mbf))]) := by
  refine ct_of (cc := cX7_clashesNow) (maxL := 9) (ret := (some .int)) (by decide) rfl (Nat.le_of_ble_eq_true rfl) ?_
  intro p e s m below meth c A ls hx hb hr hml hts hown hlocks hname hE hK hP hD hA hS hl
  have hown : s.vm.findClass RX7 = some m.cls := hown
  have hl : lv_has ls 9 [(0, .ref o), (1, .int p0)] := hl
  unfold fX7_clashesNow at hF
  have w0 := hts (.arrayClass .int) (List.mem_cons_of_mem _ (List.mem_append_left _ (List.mem_append_left _ (List.mem_of_getElem? (i := 0) rfl))))
  refine lv_aload_n hx hb dX7_clashesNow_0 rfl (lv_at hl 0 rfl) ?_
  obtain ⟨r1, hC2, hF⟩ := gd_b hF
  refine ct_callV (C := RX7) (As := []) (rest := []) ⟨hx, hb, hml, hown, hts⟩ (kX7_rows_ l dC dI tys cI ht0 o oc oi ol ob mth mn mch mcl mgo mmo mcf mif mlf mbn mbf r1 hC2) (cwV 0 hts gX7_clashesNow_X7_rows_ rfl rfl rfl (by decide +kernel) ⟨Nat.le_of_ble_eq_true rfl, Nat.le_of_ble_eq_true rfl⟩) hE hK hP hD hS hA [0, 1, 2, 3, 4] [] (by decide) rfl (by decide) (wr := []) rfl (by decide) (ci := 6) (T := TX7) (N := 10) (q0 := 0) rfl rfl hl.1 rfl rfl (Nat.le_of_ble_eq_true rfl) dX7_clashesNow_1 ⟨(Nat.le_of_ble_eq_true rfl), (Nat.le_of_ble_eq_true rfl)⟩ (fun i3 H locs hP hD hS => ?_)
  have hP : va_P (dC, dI) vwCl [(o, .inr (6, [.int mth, .int mn, .int mch, .ref oc, .ref oi, .int mcl, .ref ol, .int mgo, .int mmo, .ref ob])), (oc, .inl (cI, 14, .inl mcf)), (oi, .inl (cI, 3, .inl mif)), (ol, .inl (cI, 24, .inl mlf)), (ob, .inl (cI, mbn, .inl mbf)), (i3, .inl (cI, r1.2, .inl r1.1))] H := hP
  have hD : va_D A [(o, .inr (6, [.int mth, .int mn, .int mch, .ref oc, .ref oi, .int mcl, .ref ol, .int mgo, .int mmo, .ref ob])), (oc, .inl (cI, 14, .inl mcf)), (oi, .inl (cI, 3, .inl mif)), (ol, .inl (cI, 24, .inl mlf)), (ob, .inl (cI, mbn, .inl mbf)), (i3, .inl (cI, r1.2, .inl r1.1))] := hD
  refine lv_astore_n (lv' := [(2, .ref i3), (0, .ref o), (1, .int p0)]) hx hb dX7_clashesNow_4 rfl hl (by decide) rfl (fun ls hl => ?_)
  refine lv_iconst (v := (1 : Int32)) hx hb dX7_clashesNow_5 (by decide) ?_
  refine ct_newi hx hb w0 ht0 hK hP hD hS hA (N' := 1) (by decide) (by decide) (Nat.le_of_ble_eq_true rfl) (Nat.le_of_ble_eq_true rfl) (Nat.le_of_ble_eq_true rfl) dX7_clashesNow_6 (fun q6 H hP hD hS => ?_)
  have hP : va_P (dC, dI) vwCl [(o, .inr (6, [.int mth, .int mn, .int mch, .ref oc, .ref oi, .int mcl, .ref ol, .int mgo, .int mmo, .ref ob])), (oc, .inl (cI, 14, .inl mcf)), (oi, .inl (cI, 3, .inl mif)), (ol, .inl (cI, 24, .inl mlf)), (ob, .inl (cI, mbn, .inl mbf)), (i3, .inl (cI, r1.2, .inl r1.1)), (q6, .inl (cI, 1, .inl (fun _ => 0)))] H := hP
  have hD : va_D A [(o, .inr (6, [.int mth, .int mn, .int mch, .ref oc, .ref oi, .int mcl, .ref ol, .int mgo, .int mmo, .ref ob])), (oc, .inl (cI, 14, .inl mcf)), (oi, .inl (cI, 3, .inl mif)), (ol, .inl (cI, 24, .inl mlf)), (ob, .inl (cI, mbn, .inl mbf)), (i3, .inl (cI, r1.2, .inl r1.1)), (q6, .inl (cI, 1, .inl (fun _ => 0)))] := hD
  refine lv_dup hx hb dX7_clashesNow_8 rfl ?_
  refine lv_iconst (v := (0 : Int32)) hx hb dX7_clashesNow_9 (by decide) ?_
  refine lv_iload_n hx hb dX7_clashesNow_10 rfl (lv_at hl 2 rfl) ?_
  refine va_iast hx hb hK hP hD hS 6 0 rfl ht0 (by unfold vp_in; decide) dX7_clashesNow_11 (fun H locs hP hD hS => ?_)
  have hP : va_P (dC, dI) vwCl [(o, .inr (6, [.int mth, .int mn, .int mch, .ref oc, .ref oi, .int mcl, .ref ol, .int mgo, .int mmo, .ref ob])), (oc, .inl (cI, 14, .inl mcf)), (oi, .inl (cI, 3, .inl mif)), (ol, .inl (cI, 24, .inl mlf)), (ob, .inl (cI, mbn, .inl mbf)), (i3, .inl (cI, r1.2, .inl r1.1)), (q6, .inl (cI, 1, .inl (upd (fun _ => 0) (0 : Int32).toNatClampNeg p0)))] H := hP
  have hD : va_D A [(o, .inr (6, [.int mth, .int mn, .int mch, .ref oc, .ref oi, .int mcl, .ref ol, .int mgo, .int mmo, .ref ob])), (oc, .inl (cI, 14, .inl mcf)), (oi, .inl (cI, 3, .inl mif)), (ol, .inl (cI, 24, .inl mlf)), (ob, .inl (cI, mbn, .inl mbf)), (i3, .inl (cI, r1.2, .inl r1.1)), (q6, .inl (cI, 1, .inl (upd (fun _ => 0) (0 : Int32).toNatClampNeg p0)))] := hD
  refine lv_astore_n (lv' := [(3, .ref q6), (2, .ref i3), (0, .ref o), (1, .int p0)]) hx hb dX7_clashesNow_12 rfl hl (by decide) rfl (fun ls hl => ?_)
  refine lv_iconst (v := (0 : Int32)) hx hb dX7_clashesNow_13 (by decide) ?_
  refine lv_istore (lv' := [(4, .int (0 : Int32)), (3, .ref q6), (2, .ref i3), (0, .ref o), (1, .int p0)]) hx hb dX7_clashesNow_14 hl (by decide) rfl (fun ls hl => ?_)
  refine lv_aload_n hx hb dX7_clashesNow_16 rfl (lv_at hl 3 rfl) ?_
  refine lv_aload_n hx hb dX7_clashesNow_17 rfl (lv_at hl 3 rfl) ?_
  obtain ⟨r7, hC8, hF⟩ := gd_b hF
  refine ct_callV (C := RX7) (As := []) (rest := [.ref o]) ⟨hx, hb, hml, hown, hts⟩ (kX7_order__ l dC dI tys cI ht0 o oc oi ol ob mth mn mch mcl mgo mmo mcf mif mlf mbn mbf r7 hC8) (cwV 0 hts gX7_clashesNow_X7_order__ rfl rfl rfl (by decide +kernel) ⟨Nat.le_of_ble_eq_true rfl, Nat.le_of_ble_eq_true rfl⟩) hE hK hP hD hS hA [0, 1, 2, 3, 4] [5, 6] (by decide) rfl (by decide) (wr := [(i3, .inl (cI, r1.2, .inl r1.1)), (q6, .inl (cI, 1, .inl (upd (fun _ => 0) (0 : Int32).toNatClampNeg p0)))]) rfl (by decide) (ci := 6) (T := TX7) (N := 10) (q0 := 0) rfl rfl hl.1 rfl rfl (Nat.le_of_ble_eq_true rfl) dX7_clashesNow_18 ⟨(Nat.le_of_ble_eq_true rfl), (Nat.le_of_ble_eq_true rfl)⟩ (fun i9 H locs hP hD hS => ?_)
  have hP : va_P (dC, dI) vwCl [(i3, .inl (cI, r1.2, .inl r1.1)), (q6, .inl (cI, 1, .inl (upd (fun _ => 0) (0 : Int32).toNatClampNeg p0))), (o, .inr (6, [.int mth, .int mn, .int mch, .ref oc, .ref oi, .int mcl, .ref ol, .int mgo, .int mmo, .ref ob])), (oc, .inl (cI, 14, .inl mcf)), (oi, .inl (cI, 3, .inl mif)), (ol, .inl (cI, 24, .inl mlf)), (ob, .inl (cI, mbn, .inl mbf)), (i9, .inl (cI, r7.2, .inl r7.1))] H := hP
  have hD : va_D A [(i3, .inl (cI, r1.2, .inl r1.1)), (q6, .inl (cI, 1, .inl (upd (fun _ => 0) (0 : Int32).toNatClampNeg p0))), (o, .inr (6, [.int mth, .int mn, .int mch, .ref oc, .ref oi, .int mcl, .ref ol, .int mgo, .int mmo, .ref ob])), (oc, .inl (cI, 14, .inl mcf)), (oi, .inl (cI, 3, .inl mif)), (ol, .inl (cI, 24, .inl mlf)), (ob, .inl (cI, mbn, .inl mbf)), (i9, .inl (cI, r7.2, .inl r7.1))] := hD
  refine lv_aload_n hx hb dX7_clashesNow_21 rfl (lv_at hl 1 rfl) ?_
  refine lv_iconst (v := (1 : Int32)) hx hb dX7_clashesNow_22 (by decide) ?_
  obtain ⟨r10, hC11, hF⟩ := gd_b hF
  refine ct_callV (C := RX7) (As := [.ref i9, .ref q6, .int (1 : Int32)]) (rest := []) ⟨hx, hb, hml, hown, hts⟩ (kX7_rowsb l dC dI tys cI ht0 o oc oi ol ob i9 q6 mth mn mch mcl mgo mmo mcf mif mlf mbn mbf r7.2 r7.1 1 (upd (fun _ => 0) (0 : Int32).toNatClampNeg p0) (1 : Int32) r10 hC11) (cwV 3 hts gX7_clashesNow_X7_rows rfl rfl rfl (by decide +kernel) ⟨Nat.le_of_ble_eq_true rfl, Nat.le_of_ble_eq_true rfl⟩) hE hK hP hD hS hA [2, 3, 4, 5, 6, 7, 1] [0] (by decide) rfl (by decide) (wr := [(i3, .inl (cI, r1.2, .inl r1.1))]) rfl (by decide) (ci := 6) (T := TX7) (N := 10) (q0 := 0) rfl rfl hl.1 rfl rfl (Nat.le_of_ble_eq_true rfl) dX7_clashesNow_23 ⟨(Nat.le_of_ble_eq_true rfl), (Nat.le_of_ble_eq_true rfl)⟩ (fun i12 H locs hP hD hS => ?_)
  have hP : va_P (dC, dI) vwCl [(i3, .inl (cI, r1.2, .inl r1.1)), (o, .inr (6, [.int mth, .int mn, .int mch, .ref oc, .ref oi, .int mcl, .ref ol, .int mgo, .int mmo, .ref ob])), (oc, .inl (cI, 14, .inl mcf)), (oi, .inl (cI, 3, .inl mif)), (ol, .inl (cI, 24, .inl mlf)), (ob, .inl (cI, mbn, .inl mbf)), (i9, .inl (cI, r7.2, .inl r7.1)), (q6, .inl (cI, 1, .inl (upd (fun _ => 0) (0 : Int32).toNatClampNeg p0))), (i12, .inl (cI, r10.2, .inl r10.1))] H := hP
  have hD : va_D A [(i3, .inl (cI, r1.2, .inl r1.1)), (o, .inr (6, [.int mth, .int mn, .int mch, .ref oc, .ref oi, .int mcl, .ref ol, .int mgo, .int mmo, .ref ob])), (oc, .inl (cI, 14, .inl mcf)), (oi, .inl (cI, 3, .inl mif)), (ol, .inl (cI, 24, .inl mlf)), (ob, .inl (cI, mbn, .inl mbf)), (i9, .inl (cI, r7.2, .inl r7.1)), (q6, .inl (cI, 1, .inl (upd (fun _ => 0) (0 : Int32).toNatClampNeg p0))), (i12, .inl (cI, r10.2, .inl r10.1))] := hD
  refine lv_astore (lv' := [(5, .ref i12), (4, .int (0 : Int32)), (3, .ref q6), (2, .ref i3), (0, .ref o), (1, .int p0)]) hx hb dX7_clashesNow_26 hl (by decide) rfl (fun ls hl => ?_)
  refine lv_aload hx hb dX7_clashesNow_28 (lv_at hl 0 rfl) ?_
  refine va_alen hx hb hK hP 8 0 rfl ht0 (v := Int32.ofNat r10.2) rfl dX7_clashesNow_30 ?_
  refine lv_istore (lv' := [(6, .int (Int32.ofNat r10.2)), (5, .ref i12), (4, .int (0 : Int32)), (3, .ref q6), (2, .ref i3), (0, .ref o), (1, .int p0)]) hx hb dX7_clashesNow_31 hl (by decide) rfl (fun ls hl => ?_)
  refine lv_iconst (v := (0 : Int32)) hx hb dX7_clashesNow_33 (by decide) ?_
  refine lv_istore (lv' := [(7, .int (0 : Int32)), (6, .int (Int32.ofNat r10.2)), (5, .ref i12), (4, .int (0 : Int32)), (3, .ref q6), (2, .ref i3), (0, .ref o), (1, .int p0)]) hx hb dX7_clashesNow_34 hl (by decide) rfl (fun ls hl => ?_)
  have X36 : ∀ (x7_36 : Int32) (x4_36 : Int32) (H : Heap) (locs : List Loc) (ls : Array Slot), fX7_clashesNow_X36 x7_36 x4_36 = some r → va_P (dC, dI) vwCl [(i3, .inl (cI, r1.2, .inl r1.1)), (o, .inr (6, [.int mth, .int mn, .int mch, .ref oc, .ref oi, .int mcl, .ref ol, .int mgo, .int mmo, .ref ob])), (oc, .inl (cI, 14, .inl mcf)), (oi, .inl (cI, 3, .inl mif)), (ol, .inl (cI, 24, .inl mlf)), (ob, .inl (cI, mbn, .inl mbf)), (i9, .inl (cI, r7.2, .inl r7.1)), (q6, .inl (cI, 1, .inl (upd (fun _ => 0) (0 : Int32).toNatClampNeg p0))), (i12, .inl (cI, r10.2, .inl r10.1))] H → va_D A [(i3, .inl (cI, r1.2, .inl r1.1)), (o, .inr (6, [.int mth, .int mn, .int mch, .ref oc, .ref oi, .int mcl, .ref ol, .int mgo, .int mmo, .ref ob])), (oc, .inl (cI, 14, .inl mcf)), (oi, .inl (cI, 3, .inl mif)), (ol, .inl (cI, 24, .inl mlf)), (ob, .inl (cI, mbn, .inl mbf)), (i9, .inl (cI, r7.2, .inl r7.1)), (q6, .inl (cI, 1, .inl (upd (fun _ => 0) (0 : Int32).toNatClampNeg p0))), (i12, .inl (cI, r10.2, .inl r10.1))] → va_S A s.heap H locs → lv_has ls 9 [(7, .int x7_36), (6, .int (Int32.ofNat r10.2)), (5, .ref i12), (4, .int x4_36), (3, .ref q6), (2, .ref i3), (0, .ref o), (1, .int p0)] → W p l e rmX7_clashesNow s m ([.ref o, .int p0] : List Value).toArray below meth c H locs 809 6315 (MQ below (ct_Q (dC, dI) tys (fun _ : Unit => some (.int r)) (fun _ : Unit => [(o, .inr (6, [.int mth, .int mn, .int mch, .ref oc, .ref oi, .int mcl, .ref ol, .int mgo, .int mmo, .ref ob])), (oc, .inl (cI, 14, .inl mcf)), (oi, .inl (cI, 3, .inl mif)), (ol, .inl (cI, 24, .inl mlf)), (ob, .inl (cI, mbn, .inl mbf))]) A) ([.ref o, .int p0] : List Value).toArray s rmX7_clashesNow.cells rmX7_clashesNow.slots A) (F0 m 77 ls []) := by
    intro x7_36 x4_36 H locs ls hF hP hD hS hl
    unfold fX7_clashesNow_X36 at hF
    refine lv_iload hx hb dX7_clashesNow_77 (lv_at hl 3 rfl) ?_
    obtain rfl := Option.some.inj hF
    exact ct_i hx hb hr hlocks hK hP hD hS () rfl [1, 2, 3, 4, 5] (by decide) rfl (Nat.le_of_ble_eq_true rfl) (Nat.le_of_ble_eq_true rfl) dX7_clashesNow_79
  have L36 : ∀ (n36 : Nat) (x7_36 : Int32) (x4_36 : Int32) (H : Heap) (locs : List Loc) (ls : Array Slot), fX7_clashesNow_L36 r10 r1 fX7_clashesNow_X36 n36 x7_36 x4_36 = some r → va_P (dC, dI) vwCl [(i3, .inl (cI, r1.2, .inl r1.1)), (o, .inr (6, [.int mth, .int mn, .int mch, .ref oc, .ref oi, .int mcl, .ref ol, .int mgo, .int mmo, .ref ob])), (oc, .inl (cI, 14, .inl mcf)), (oi, .inl (cI, 3, .inl mif)), (ol, .inl (cI, 24, .inl mlf)), (ob, .inl (cI, mbn, .inl mbf)), (i9, .inl (cI, r7.2, .inl r7.1)), (q6, .inl (cI, 1, .inl (upd (fun _ => 0) (0 : Int32).toNatClampNeg p0))), (i12, .inl (cI, r10.2, .inl r10.1))] H → va_D A [(i3, .inl (cI, r1.2, .inl r1.1)), (o, .inr (6, [.int mth, .int mn, .int mch, .ref oc, .ref oi, .int mcl, .ref ol, .int mgo, .int mmo, .ref ob])), (oc, .inl (cI, 14, .inl mcf)), (oi, .inl (cI, 3, .inl mif)), (ol, .inl (cI, 24, .inl mlf)), (ob, .inl (cI, mbn, .inl mbf)), (i9, .inl (cI, r7.2, .inl r7.1)), (q6, .inl (cI, 1, .inl (upd (fun _ => 0) (0 : Int32).toNatClampNeg p0))), (i12, .inl (cI, r10.2, .inl r10.1))] → va_S A s.heap H locs → lv_has ls 9 [(7, .int x7_36), (6, .int (Int32.ofNat r10.2)), (5, .ref i12), (4, .int x4_36), (3, .ref q6), (2, .ref i3), (0, .ref o), (1, .int p0)] → W p l e rmX7_clashesNow s m ([.ref o, .int p0] : List Value).toArray below meth c H locs 809 6315 (MQ below (ct_Q (dC, dI) tys (fun _ : Unit => some (.int r)) (fun _ : Unit => [(o, .inr (6, [.int mth, .int mn, .int mch, .ref oc, .ref oi, .int mcl, .ref ol, .int mgo, .int mmo, .ref ob])), (oc, .inl (cI, 14, .inl mcf)), (oi, .inl (cI, 3, .inl mif)), (ol, .inl (cI, 24, .inl mlf)), (ob, .inl (cI, mbn, .inl mbf))]) A) ([.ref o, .int p0] : List Value).toArray s rmX7_clashesNow.cells rmX7_clashesNow.slots A) (F0 m 36 ls []) := by
    intro n36
    induction n36 with
    | zero => intro x7_36 x4_36 H locs ls hF; rw [fX7_clashesNow_L36] at hF; cases hF
    | succ n36 ih36 =>
      intro x7_36 x4_36 H locs ls hF hP hD hS hl
      rw [fX7_clashesNow_L36] at hF
      refine lv_iload hx hb dX7_clashesNow_36 (lv_at hl 0 rfl) ?_
      refine lv_iload hx hb dX7_clashesNow_38 (lv_at hl 1 rfl) ?_
      refine lv_icmp_ge (tgt := 77) hx hb dX7_clashesNow_40 (by decide) (fun c13 => ?_) (fun c13 => ?_)
      · have hF := (if_pos c13).symm.trans hF
        exact X36 x7_36 x4_36 _ _ _ hF (hP.sub [0, 1, 2, 3, 4, 5, 6, 7, 8] rfl) (hD.sub [0, 1, 2, 3, 4, 5, 6, 7, 8] (by decide) rfl) hS (lv_sub hl [0, 1, 2, 3, 4, 5, 6, 7] rfl)
      · have hF := (if_neg c13).symm.trans hF
        refine lv_aload hx hb dX7_clashesNow_43 (lv_at hl 2 rfl) ?_
        refine lv_iload hx hb dX7_clashesNow_45 (lv_at hl 0 rfl) ?_
        obtain ⟨g14, hF⟩ := gd_n hF
        refine va_iald hx hb hK hP 8 0 rfl ht0 g14 dX7_clashesNow_47 ?_
        refine lv_istore (lv' := [(8, .int (r10.1 x7_36.toNatClampNeg)), (7, .int x7_36), (6, .int (Int32.ofNat r10.2)), (5, .ref i12), (4, .int x4_36), (3, .ref q6), (2, .ref i3), (0, .ref o), (1, .int p0)]) hx hb dX7_clashesNow_48 hl (by decide) rfl (fun ls hl => ?_)
        refine lv_iload hx hb dX7_clashesNow_50 (lv_at hl 4 rfl) ?_
        refine lv_aload_n hx hb dX7_clashesNow_52 rfl (lv_at hl 6 rfl) ?_
        refine lv_iload hx hb dX7_clashesNow_53 (lv_at hl 0 rfl) ?_
        obtain ⟨r15, hC16, hF⟩ := gd_b hF
        refine ct_callS (As := [.ref i3, .int (r10.1 x7_36.toNatClampNeg)]) (rest := [.int x4_36]) ⟨hx, hb, hml, hown, hts⟩ (kX7_first l dC dI tys cI ht0 i3 r1.2 r1.1 (r10.1 x7_36.toNatClampNeg) r15 hC16) (va_cwS 2 hts gX7_clashesNow_X7_first rfl rfl rfl (by decide +kernel) ⟨Nat.le_of_ble_eq_true rfl, Nat.le_of_ble_eq_true rfl⟩) hE hK hP hD hS hA [0] [1, 2, 3, 4, 5, 6, 7, 8] (by decide) rfl (by decide) (wr := [(o, .inr (6, [.int mth, .int mn, .int mch, .ref oc, .ref oi, .int mcl, .ref ol, .int mgo, .int mmo, .ref ob])), (oc, .inl (cI, 14, .inl mcf)), (oi, .inl (cI, 3, .inl mif)), (ol, .inl (cI, 24, .inl mlf)), (ob, .inl (cI, mbn, .inl mbf)), (i9, .inl (cI, r7.2, .inl r7.1)), (q6, .inl (cI, 1, .inl (upd (fun _ => 0) (0 : Int32).toNatClampNeg p0))), (i12, .inl (cI, r10.2, .inl r10.1))]) rfl (by decide) hl.1 rfl rfl (Nat.le_of_ble_eq_true rfl) dX7_clashesNow_55 ⟨(Nat.le_of_ble_eq_true rfl), (Nat.le_of_ble_eq_true rfl)⟩ (fun i17 H locs hP hD hS => ?_)
        have hP : va_P (dC, dI) vwCl [(o, .inr (6, [.int mth, .int mn, .int mch, .ref oc, .ref oi, .int mcl, .ref ol, .int mgo, .int mmo, .ref ob])), (oc, .inl (cI, 14, .inl mcf)), (oi, .inl (cI, 3, .inl mif)), (ol, .inl (cI, 24, .inl mlf)), (ob, .inl (cI, mbn, .inl mbf)), (i9, .inl (cI, r7.2, .inl r7.1)), (q6, .inl (cI, 1, .inl (upd (fun _ => 0) (0 : Int32).toNatClampNeg p0))), (i12, .inl (cI, r10.2, .inl r10.1)), (i3, .inl (cI, r1.2, .inl r1.1))] H := hP
        have hD : va_D A [(o, .inr (6, [.int mth, .int mn, .int mch, .ref oc, .ref oi, .int mcl, .ref ol, .int mgo, .int mmo, .ref ob])), (oc, .inl (cI, 14, .inl mcf)), (oi, .inl (cI, 3, .inl mif)), (ol, .inl (cI, 24, .inl mlf)), (ob, .inl (cI, mbn, .inl mbf)), (i9, .inl (cI, r7.2, .inl r7.1)), (q6, .inl (cI, 1, .inl (upd (fun _ => 0) (0 : Int32).toNatClampNeg p0))), (i12, .inl (cI, r10.2, .inl r10.1)), (i3, .inl (cI, r1.2, .inl r1.1))] := hD
        refine lv_aload_n hx hb dX7_clashesNow_58 rfl (lv_at hl 6 rfl) ?_
        refine va_alen hx hb hK hP 8 0 rfl ht0 (v := Int32.ofNat r1.2) rfl dX7_clashesNow_59 ?_
        refine lv_icmp_ge (tgt := 67) hx hb dX7_clashesNow_60 (by decide) (fun c18 => ?_) (fun c18 => ?_)
        · have hF := (if_pos c18).symm.trans hF
          refine lv_iconst (v := (0 : Int32)) hx hb dX7_clashesNow_67 (by decide) ?_
          refine lv_iadd hx hb dX7_clashesNow_68 ?_
          refine lv_istore (lv' := [(4, .int (x4_36 + (0 : Int32))), (8, .int (r10.1 x7_36.toNatClampNeg)), (7, .int x7_36), (6, .int (Int32.ofNat r10.2)), (5, .ref i12), (3, .ref q6), (2, .ref i3), (0, .ref o), (1, .int p0)]) hx hb dX7_clashesNow_69 hl (by decide) rfl (fun ls hl => ?_)
          refine lv_iinc (v := x7_36 + (1 : Int32)) (lv' := [(7, .int (x7_36 + (1 : Int32))), (4, .int (x4_36 + (0 : Int32))), (8, .int (r10.1 x7_36.toNatClampNeg)), (6, .int (Int32.ofNat r10.2)), (5, .ref i12), (3, .ref q6), (2, .ref i3), (0, .ref o), (1, .int p0)]) hx hb dX7_clashesNow_71 hl (k := 2) rfl rfl (by decide) rfl (fun ls hl => ?_)
          refine lv_goto (tgt := 36) hx hb dX7_clashesNow_74 (by decide) ?_
          exact ih36 (x7_36 + (1 : Int32)) (x4_36 + (0 : Int32)) _ _ _ hF (hP.sub [8, 0, 1, 2, 3, 4, 5, 6, 7] rfl) (hD.sub [8, 0, 1, 2, 3, 4, 5, 6, 7] (by decide) rfl) hS (lv_sub hl [0, 3, 4, 1, 5, 6, 7, 8] rfl)
        · have hF := (if_neg c18).symm.trans hF
          refine lv_iconst (v := (1 : Int32)) hx hb dX7_clashesNow_63 (by decide) ?_
          refine lv_goto (tgt := 68) hx hb dX7_clashesNow_64 (by decide) ?_
          refine lv_iadd hx hb dX7_clashesNow_68 ?_
          refine lv_istore (lv' := [(4, .int (x4_36 + (1 : Int32))), (8, .int (r10.1 x7_36.toNatClampNeg)), (7, .int x7_36), (6, .int (Int32.ofNat r10.2)), (5, .ref i12), (3, .ref q6), (2, .ref i3), (0, .ref o), (1, .int p0)]) hx hb dX7_clashesNow_69 hl (by decide) rfl (fun ls hl => ?_)
          refine lv_iinc (v := x7_36 + (1 : Int32)) (lv' := [(7, .int (x7_36 + (1 : Int32))), (4, .int (x4_36 + (1 : Int32))), (8, .int (r10.1 x7_36.toNatClampNeg)), (6, .int (Int32.ofNat r10.2)), (5, .ref i12), (3, .ref q6), (2, .ref i3), (0, .ref o), (1, .int p0)]) hx hb dX7_clashesNow_71 hl (k := 2) rfl rfl (by decide) rfl (fun ls hl => ?_)
          refine lv_goto (tgt := 36) hx hb dX7_clashesNow_74 (by decide) ?_
          exact ih36 (x7_36 + (1 : Int32)) (x4_36 + (1 : Int32)) _ _ _ hF (hP.sub [8, 0, 1, 2, 3, 4, 5, 6, 7] rfl) (hD.sub [8, 0, 1, 2, 3, 4, 5, 6, 7] (by decide) rfl) hS (lv_sub hl [0, 3, 4, 1, 5, 6, 7, 8] rfl)
  exact L36 1000 (0 : Int32) (0 : Int32) _ _ _ hF (hP.sub [0, 1, 2, 3, 4, 5, 6, 7, 8] rfl) (hD.sub [0, 1, 2, 3, 4, 5, 6, 7, 8] (by decide) rfl) hS (lv_sub hl [0, 1, 2, 3, 4, 5, 6, 7] rfl)

def fX7_clashes (mn : Int32) (mch : Int32) (mcl : Int32) (mcf : (Nat → Int32)) (mif : (Nat → Int32)) (mlf : (Nat → Int32)) (p0 : Int32) : Option (Int32 × Int32) := (fX7_isIn p0 (0 : Int32) (2 : Int32)).bind (fun r1 => if r1 = 0 then ((fX7_no (1 : Int32)).bind (fun r5 => some (r5.1, r5.2))) else ((fX7_clashesNow mn mch mcl mcf mif mlf p0).bind (fun r8 => some (r8, (0 : Int32)))))
abbrev rmX7_clashes : Room := { frames := 7, cells := 809, slots := 6315, locals := 162 }
set_option maxHeartbeats 4000000 in
set_option maxRecDepth 100000 in
theorem kX7_clashes (l : Launch) (dC : Nat → ClassId) (dI : Nat → Nat → Nat) (tys : List (ClassId × FieldType)) (cI : ClassId) (ht0 : tys[0]? = some (cI, .int)) (o oc oi ol ob : Nat) (mth : Int32) (mn : Int32) (mch : Int32) (mcl : Int32) (mgo : Int32) (mmo : Int32) (mcf : (Nat → Int32)) (mif : (Nat → Int32)) (mlf : (Nat → Int32)) (mbn : Nat) (mbf : (Nat → Int32)) (p0 : Int32) (r : (Int32 × Int32)) (hF : fX7_clashes mn mch mcl mcf mif mlf p0 = some r) : ct l (dC, dI) tys yX7_clashes wsX7_clashes rmX7_clashes [.ref o, .int p0] [(o, .inr (6, [.int mth, .int mn, .int mch, .ref oc, .ref oi, .int mcl, .ref ol, .int mgo, .int mmo, .ref ob])), (oc, .inl (cI, 14, .inl mcf)), (oi, .inl (cI, 3, .inl mif)), (ol, .inl (cI, 24, .inl mlf)), (ob, .inl (cI, mbn, .inl mbf))] (fun _ : Unit => some (.int r.1)) (fun _ : Unit => [(o, .inr (6, [.int r.2, .int mn, .int mch, .ref oc, .ref oi, .int mcl, .ref ol, .int mgo, .int mmo, .ref ob])), (oc, .inl (cI, 14, .inl mcf)), (oi, .inl (cI, 3, .inl mif)), (ol, .inl (cI, 24, .inl mlf)), (ob, .inl (cI, mbn, .inl mbf))]) := by
  refine ct_of (cc := cX7_clashes) (maxL := 2) (ret := (some .int)) (by decide) rfl (Nat.le_of_ble_eq_true rfl) ?_
  intro p e s m below meth c A ls hx hb hr hml hts hown hlocks hname hE hK hP hD hA hS hl
  have hown : s.vm.findClass RX7 = some m.cls := hown
  have hl : lv_has ls 2 [(0, .ref o), (1, .int p0)] := hl
  unfold fX7_clashes at hF
  have uX7 : ∀ w ∈ wsX70, w ∈ wsX7_clashes := (fun _ h => (List.mem_cons_of_mem _ (List.mem_append_right _ h)))
  have w1 := hts (.fieldLink RX7 36 "BellfounderTowerModel" "thrown" "I") (List.mem_cons_of_mem _ (List.mem_append_left _ (List.mem_append_left _ (List.mem_of_getElem? (i := 0) rfl))))
  refine lv_aload_n hx hb dX7_clashes_0 rfl (lv_at hl 0 rfl) ?_
  refine lv_iconst (v := (0 : Int32)) hx hb dX7_clashes_1 (by decide) ?_
  refine va_put (D := (dC, dI)) (ci := 6) (v := .int (0 : Int32)) (ty := .int) (C := RX7) (T := TX7) (N := 10) hx hb hts uX7 tyX7 tyX7_ok nmX7 hown hK hP hD hS 0 rfl rfl 0 (by decide) w1 (fun _ h9 => h9) rfl (by decide +kernel) rfl rfl (Nat.le_of_ble_eq_true rfl) dX7_clashes_2 (fun H locs hP hD hS => ?_)
  have hP : va_P (dC, dI) vwCl [(o, .inr (6, [.int (0 : Int32), .int mn, .int mch, .ref oc, .ref oi, .int mcl, .ref ol, .int mgo, .int mmo, .ref ob])), (oc, .inl (cI, 14, .inl mcf)), (oi, .inl (cI, 3, .inl mif)), (ol, .inl (cI, 24, .inl mlf)), (ob, .inl (cI, mbn, .inl mbf))] H := hP
  have hD : va_D A [(o, .inr (6, [.int (0 : Int32), .int mn, .int mch, .ref oc, .ref oi, .int mcl, .ref ol, .int mgo, .int mmo, .ref ob])), (oc, .inl (cI, 14, .inl mcf)), (oi, .inl (cI, 3, .inl mif)), (ol, .inl (cI, 24, .inl mlf)), (ob, .inl (cI, mbn, .inl mbf))] := hD
  refine lv_iload_n hx hb dX7_clashes_5 rfl (lv_at hl 1 rfl) ?_
  refine lv_iconst (v := (0 : Int32)) hx hb dX7_clashes_6 (by decide) ?_
  refine lv_iconst (v := (2 : Int32)) hx hb dX7_clashes_7 (by decide) ?_
  obtain ⟨r1, hC2, hF⟩ := gd_b hF
  refine ct_callS (As := [.int p0, .int (0 : Int32), .int (2 : Int32)]) (rest := []) ⟨hx, hb, hml, hown, hts⟩ (kX7_isIn l dC dI tys cI ht0 p0 (0 : Int32) (2 : Int32) r1 hC2) (va_cwS 3 hts gX7_clashes_X7_isIn rfl rfl rfl (by decide +kernel) ⟨Nat.le_of_ble_eq_true rfl, Nat.le_of_ble_eq_true rfl⟩) hE hK hP hD hS hA [] [0, 1, 2, 3, 4] (by decide) rfl (by decide) (wr := [(o, .inr (6, [.int (0 : Int32), .int mn, .int mch, .ref oc, .ref oi, .int mcl, .ref ol, .int mgo, .int mmo, .ref ob])), (oc, .inl (cI, 14, .inl mcf)), (oi, .inl (cI, 3, .inl mif)), (ol, .inl (cI, 24, .inl mlf)), (ob, .inl (cI, mbn, .inl mbf))]) rfl (by decide) hl.1 rfl rfl (Nat.le_of_ble_eq_true rfl) dX7_clashes_8 ⟨(Nat.le_of_ble_eq_true rfl), (Nat.le_of_ble_eq_true rfl)⟩ (fun i3 H locs hP hD hS => ?_)
  have hP : va_P (dC, dI) vwCl [(o, .inr (6, [.int (0 : Int32), .int mn, .int mch, .ref oc, .ref oi, .int mcl, .ref ol, .int mgo, .int mmo, .ref ob])), (oc, .inl (cI, 14, .inl mcf)), (oi, .inl (cI, 3, .inl mif)), (ol, .inl (cI, 24, .inl mlf)), (ob, .inl (cI, mbn, .inl mbf))] H := hP
  have hD : va_D A [(o, .inr (6, [.int (0 : Int32), .int mn, .int mch, .ref oc, .ref oi, .int mcl, .ref ol, .int mgo, .int mmo, .ref ob])), (oc, .inl (cI, 14, .inl mcf)), (oi, .inl (cI, 3, .inl mif)), (ol, .inl (cI, 24, .inl mlf)), (ob, .inl (cI, mbn, .inl mbf))] := hD
  refine lv_if_eq (tgt := 22) hx hb dX7_clashes_11 (by decide) (fun c4 => ?_) (fun c4 => ?_)
  · have hF := (if_pos c4).symm.trans hF
    refine lv_aload_n hx hb dX7_clashes_22 rfl (lv_at hl 0 rfl) ?_
    refine lv_iconst (v := (1 : Int32)) hx hb dX7_clashes_23 (by decide) ?_
    obtain ⟨r5, hC6, hF⟩ := gd_b hF
    refine ct_callV (C := RX7) (As := [.int (1 : Int32)]) (rest := []) ⟨hx, hb, hml, hown, hts⟩ (kX7_no l dC dI tys cI ht0 o oc oi ol ob (0 : Int32) mn mch mcl mgo mmo mcf mif mlf mbn mbf (1 : Int32) r5 hC6) (cwV 1 hts gX7_clashes_X7_no rfl rfl rfl (by decide +kernel) ⟨Nat.le_of_ble_eq_true rfl, Nat.le_of_ble_eq_true rfl⟩) hE hK hP hD hS hA [0, 1, 2, 3, 4] [] (by decide) rfl (by decide) (wr := []) rfl (by decide) (ci := 6) (T := TX7) (N := 10) (q0 := 0) rfl rfl hl.1 rfl rfl (Nat.le_of_ble_eq_true rfl) dX7_clashes_24 ⟨(Nat.le_of_ble_eq_true rfl), (Nat.le_of_ble_eq_true rfl)⟩ (fun i7 H locs hP hD hS => ?_)
    have hP : va_P (dC, dI) vwCl [(o, .inr (6, [.int r5.2, .int mn, .int mch, .ref oc, .ref oi, .int mcl, .ref ol, .int mgo, .int mmo, .ref ob])), (oc, .inl (cI, 14, .inl mcf)), (oi, .inl (cI, 3, .inl mif)), (ol, .inl (cI, 24, .inl mlf)), (ob, .inl (cI, mbn, .inl mbf))] H := hP
    have hD : va_D A [(o, .inr (6, [.int r5.2, .int mn, .int mch, .ref oc, .ref oi, .int mcl, .ref ol, .int mgo, .int mmo, .ref ob])), (oc, .inl (cI, 14, .inl mcf)), (oi, .inl (cI, 3, .inl mif)), (ol, .inl (cI, 24, .inl mlf)), (ob, .inl (cI, mbn, .inl mbf))] := hD
    obtain rfl := Option.some.inj hF
    exact ct_i hx hb hr hlocks hK hP hD hS () rfl [0, 1, 2, 3, 4] (by decide) rfl (Nat.le_of_ble_eq_true rfl) (Nat.le_of_ble_eq_true rfl) dX7_clashes_27
  · have hF := (if_neg c4).symm.trans hF
    refine lv_aload_n hx hb dX7_clashes_14 rfl (lv_at hl 0 rfl) ?_
    refine lv_iload_n hx hb dX7_clashes_15 rfl (lv_at hl 1 rfl) ?_
    obtain ⟨r8, hC9, hF⟩ := gd_b hF
    refine ct_callV (C := RX7) (As := [.int p0]) (rest := []) ⟨hx, hb, hml, hown, hts⟩ (kX7_clashesNow l dC dI tys cI ht0 o oc oi ol ob (0 : Int32) mn mch mcl mgo mmo mcf mif mlf mbn mbf p0 r8 hC9) (cwV 1 hts gX7_clashes_X7_clashesNow rfl rfl rfl (by decide +kernel) ⟨Nat.le_of_ble_eq_true rfl, Nat.le_of_ble_eq_true rfl⟩) hE hK hP hD hS hA [0, 1, 2, 3, 4] [] (by decide) rfl (by decide) (wr := []) rfl (by decide) (ci := 6) (T := TX7) (N := 10) (q0 := 0) rfl rfl hl.1 rfl rfl (Nat.le_of_ble_eq_true rfl) dX7_clashes_16 ⟨(Nat.le_of_ble_eq_true rfl), (Nat.le_of_ble_eq_true rfl)⟩ (fun i10 H locs hP hD hS => ?_)
    have hP : va_P (dC, dI) vwCl [(o, .inr (6, [.int (0 : Int32), .int mn, .int mch, .ref oc, .ref oi, .int mcl, .ref ol, .int mgo, .int mmo, .ref ob])), (oc, .inl (cI, 14, .inl mcf)), (oi, .inl (cI, 3, .inl mif)), (ol, .inl (cI, 24, .inl mlf)), (ob, .inl (cI, mbn, .inl mbf))] H := hP
    have hD : va_D A [(o, .inr (6, [.int (0 : Int32), .int mn, .int mch, .ref oc, .ref oi, .int mcl, .ref ol, .int mgo, .int mmo, .ref ob])), (oc, .inl (cI, 14, .inl mcf)), (oi, .inl (cI, 3, .inl mif)), (ol, .inl (cI, 24, .inl mlf)), (ob, .inl (cI, mbn, .inl mbf))] := hD
    refine lv_goto (tgt := 27) hx hb dX7_clashes_19 (by decide) ?_
    obtain rfl := Option.some.inj hF
    exact ct_i hx hb hr hlocks hK hP hD hS () rfl [0, 1, 2, 3, 4] (by decide) rfl (Nat.le_of_ble_eq_true rfl) (Nat.le_of_ble_eq_true rfl) dX7_clashes_27
