def fX7_begin (mn : Int32) (mch : Int32) (mcl : Int32) (mif : (Nat → Int32)) (p0 : Int32) : Option (Int32 × Int32 × Int32 × Int32 × Int32 × (Nat → Int32)) := (fX7_isIn p0 (4 : Int32) (7 : Int32)).bind (fun r1 => if r1 = 0 then ((fX7_no (1 : Int32)).bind (fun r11 => some (r11.1, r11.2, mn, mch, mcl, mif))) else ((fX7_reset mif p0).bind (fun r5 => (fX7_rounds r5.1).bind (fun r8 => some (r8, (0 : Int32), r5.1, (0 : Int32), (0 : Int32), r5.2)))))
abbrev rmX7_begin : Room := { frames := 2, cells := 1, slots := 7, locals := 45 }
set_option maxHeartbeats 4000000 in
set_option maxRecDepth 100000 in
theorem kX7_begin (l : Launch) (dC : Nat → ClassId) (dI : Nat → Nat → Nat) (tys : List (ClassId × FieldType)) (cI : ClassId) (ht0 : tys[0]? = some (cI, .int)) (o oc oi ol ob : Nat) (mth : Int32) (mn : Int32) (mch : Int32) (mcl : Int32) (mgo : Int32) (mmo : Int32) (mcf : (Nat → Int32)) (mif : (Nat → Int32)) (mlf : (Nat → Int32)) (mbn : Nat) (mbf : (Nat → Int32)) (p0 : Int32) (r : (Int32 × Int32 × Int32 × Int32 × Int32 × (Nat → Int32))) (hF : fX7_begin mn mch mcl mif p0 = some r) : ct l (dC, dI) tys yX7_begin wsX7_begin rmX7_begin [.ref o, .int p0] [(o, .inr (6, [.int mth, .int mn, .int mch, .ref oc, .ref oi, .int mcl, .ref ol, .int mgo, .int mmo, .ref ob])), (oc, .inl (cI, 14, .inl mcf)), (oi, .inl (cI, 3, .inl mif)), (ol, .inl (cI, 24, .inl mlf)), (ob, .inl (cI, mbn, .inl mbf))] (fun _ : Unit => some (.int r.1)) (fun _ : Unit => [(o, .inr (6, [.int r.2.1, .int r.2.2.1, .int r.2.2.2.1, .ref oc, .ref oi, .int r.2.2.2.2.1, .ref ol, .int mgo, .int mmo, .ref ob])), (oc, .inl (cI, 14, .inl mcf)), (oi, .inl (cI, 3, .inl r.2.2.2.2.2)), (ol, .inl (cI, 24, .inl mlf)), (ob, .inl (cI, mbn, .inl mbf))]) := by
  refine ct_of (cc := cX7_begin) (maxL := 2) (ret := (some .int)) (by decide) rfl (Nat.le_of_ble_eq_true rfl) ?_
  intro p e s m below meth c A ls hx hb hr hml hts hown hlocks hname hE hK hP hD hA hS hl
  have hown : s.vm.findClass RX7 = some m.cls := hown
  have hl : lv_has ls 2 [(0, .ref o), (1, .int p0)] := hl
  unfold fX7_begin at hF
  have uX7 : ∀ w ∈ wsX70, w ∈ wsX7_begin := (fun _ h => (List.mem_cons_of_mem _ (List.mem_append_right _ h)))
  have w1 := hts (.fieldLink RX7 36 "BellfounderTowerModel" "thrown" "I") (List.mem_cons_of_mem _ (List.mem_append_left _ (List.mem_append_left _ (List.mem_of_getElem? (i := 0) rfl))))
  refine lv_aload_n hx hb dX7_begin_0 rfl (lv_at hl 0 rfl) ?_
  refine lv_iconst (v := (0 : Int32)) hx hb dX7_begin_1 (by decide) ?_
  refine va_put (D := (dC, dI)) (ci := 6) (v := .int (0 : Int32)) (ty := .int) (C := RX7) (T := TX7) (N := 10) hx hb hts uX7 tyX7 tyX7_ok nmX7 hown hK hP hD hS 0 rfl rfl 0 (by decide) w1 (fun _ h9 => h9) rfl (by decide +kernel) rfl rfl (Nat.le_of_ble_eq_true rfl) dX7_begin_2 (fun H locs hP hD hS => ?_)
  have hP : va_P (dC, dI) vwCl [(o, .inr (6, [.int (0 : Int32), .int mn, .int mch, .ref oc, .ref oi, .int mcl, .ref ol, .int mgo, .int mmo, .ref ob])), (oc, .inl (cI, 14, .inl mcf)), (oi, .inl (cI, 3, .inl mif)), (ol, .inl (cI, 24, .inl mlf)), (ob, .inl (cI, mbn, .inl mbf))] H := hP
  have hD : va_D A [(o, .inr (6, [.int (0 : Int32), .int mn, .int mch, .ref oc, .ref oi, .int mcl, .ref ol, .int mgo, .int mmo, .ref ob])), (oc, .inl (cI, 14, .inl mcf)), (oi, .inl (cI, 3, .inl mif)), (ol, .inl (cI, 24, .inl mlf)), (ob, .inl (cI, mbn, .inl mbf))] := hD
  refine lv_iload_n hx hb dX7_begin_5 rfl (lv_at hl 1 rfl) ?_
  refine lv_iconst (v := (4 : Int32)) hx hb dX7_begin_6 (by decide) ?_
  refine lv_bipush (v := (7 : Int32)) hx hb dX7_begin_7 (by decide) ?_
  obtain ⟨r1, hC2, hF⟩ := gd_b hF
  refine ct_callS (As := [.int p0, .int (4 : Int32), .int (7 : Int32)]) (rest := []) ⟨hx, hb, hml, hown, hts⟩ (kX7_isIn l dC dI tys cI ht0 p0 (4 : Int32) (7 : Int32) r1 hC2) (va_cwS 3 hts gX7_begin_X7_isIn rfl rfl rfl (by decide +kernel) ⟨Nat.le_of_ble_eq_true rfl, Nat.le_of_ble_eq_true rfl⟩) hE hK hP hD hS hA [] [0, 1, 2, 3, 4] (by decide) rfl (by decide) (wr := [(o, .inr (6, [.int (0 : Int32), .int mn, .int mch, .ref oc, .ref oi, .int mcl, .ref ol, .int mgo, .int mmo, .ref ob])), (oc, .inl (cI, 14, .inl mcf)), (oi, .inl (cI, 3, .inl mif)), (ol, .inl (cI, 24, .inl mlf)), (ob, .inl (cI, mbn, .inl mbf))]) rfl (by decide) hl.1 rfl rfl (Nat.le_of_ble_eq_true rfl) dX7_begin_9 ⟨(Nat.le_of_ble_eq_true rfl), (Nat.le_of_ble_eq_true rfl)⟩ (fun i3 H locs hP hD hS => ?_)
  have hP : va_P (dC, dI) vwCl [(o, .inr (6, [.int (0 : Int32), .int mn, .int mch, .ref oc, .ref oi, .int mcl, .ref ol, .int mgo, .int mmo, .ref ob])), (oc, .inl (cI, 14, .inl mcf)), (oi, .inl (cI, 3, .inl mif)), (ol, .inl (cI, 24, .inl mlf)), (ob, .inl (cI, mbn, .inl mbf))] H := hP
  have hD : va_D A [(o, .inr (6, [.int (0 : Int32), .int mn, .int mch, .ref oc, .ref oi, .int mcl, .ref ol, .int mgo, .int mmo, .ref ob])), (oc, .inl (cI, 14, .inl mcf)), (oi, .inl (cI, 3, .inl mif)), (ol, .inl (cI, 24, .inl mlf)), (ob, .inl (cI, mbn, .inl mbf))] := hD
  refine lv_if_ne (tgt := 21) hx hb dX7_begin_12 (by decide) (fun c4 => ?_) (fun c4 => ?_)
  · have hF := (if_neg c4).symm.trans hF
    refine lv_aload_n hx hb dX7_begin_21 rfl (lv_at hl 0 rfl) ?_
    refine lv_iload_n hx hb dX7_begin_22 rfl (lv_at hl 1 rfl) ?_
    obtain ⟨r5, hC6, hF⟩ := gd_b hF
    refine ct_callV (C := RX7) (As := [.int p0]) (rest := []) ⟨hx, hb, hml, hown, hts⟩ (kX7_reset l dC dI tys cI ht0 o oc oi ol ob (0 : Int32) mn mch mcl mgo mmo mcf mif mlf mbn mbf p0 r5 hC6) (cwV 1 hts gX7_begin_X7_reset rfl rfl rfl (by decide +kernel) ⟨Nat.le_of_ble_eq_true rfl, Nat.le_of_ble_eq_true rfl⟩) hE hK hP hD hS hA [0, 1, 2, 3, 4] [] (by decide) rfl (by decide) (wr := []) rfl (by decide) (ci := 6) (T := TX7) (N := 10) (q0 := 0) rfl rfl hl.1 rfl rfl (Nat.le_of_ble_eq_true rfl) dX7_begin_23 ⟨(Nat.le_of_ble_eq_true rfl), (Nat.le_of_ble_eq_true rfl)⟩ (fun i7 H locs hP hD hS => ?_)
    have hP : va_P (dC, dI) vwCl [(o, .inr (6, [.int (0 : Int32), .int r5.1, .int (0 : Int32), .ref oc, .ref oi, .int (0 : Int32), .ref ol, .int mgo, .int mmo, .ref ob])), (oc, .inl (cI, 14, .inl mcf)), (oi, .inl (cI, 3, .inl r5.2)), (ol, .inl (cI, 24, .inl mlf)), (ob, .inl (cI, mbn, .inl mbf))] H := hP
    have hD : va_D A [(o, .inr (6, [.int (0 : Int32), .int r5.1, .int (0 : Int32), .ref oc, .ref oi, .int (0 : Int32), .ref ol, .int mgo, .int mmo, .ref ob])), (oc, .inl (cI, 14, .inl mcf)), (oi, .inl (cI, 3, .inl r5.2)), (ol, .inl (cI, 24, .inl mlf)), (ob, .inl (cI, mbn, .inl mbf))] := hD
    refine lv_aload_n hx hb dX7_begin_26 rfl (lv_at hl 0 rfl) ?_
    obtain ⟨r8, hC9, hF⟩ := gd_b hF
    refine ct_callV (C := RX7) (As := []) (rest := []) ⟨hx, hb, hml, hown, hts⟩ (kX7_rounds l dC dI tys cI ht0 o oc oi ol ob (0 : Int32) r5.1 (0 : Int32) (0 : Int32) mgo mmo mcf r5.2 mlf mbn mbf r8 hC9) (cwV 0 hts gX7_begin_X7_rounds rfl rfl rfl (by decide +kernel) ⟨Nat.le_of_ble_eq_true rfl, Nat.le_of_ble_eq_true rfl⟩) hE hK hP hD hS hA [0, 1, 2, 3, 4] [] (by decide) rfl (by decide) (wr := []) rfl (by decide) (ci := 6) (T := TX7) (N := 10) (q0 := 0) rfl rfl hl.1 rfl rfl (Nat.le_of_ble_eq_true rfl) dX7_begin_27 ⟨(Nat.le_of_ble_eq_true rfl), (Nat.le_of_ble_eq_true rfl)⟩ (fun i10 H locs hP hD hS => ?_)
    have hP : va_P (dC, dI) vwCl [(o, .inr (6, [.int (0 : Int32), .int r5.1, .int (0 : Int32), .ref oc, .ref oi, .int (0 : Int32), .ref ol, .int mgo, .int mmo, .ref ob])), (oc, .inl (cI, 14, .inl mcf)), (oi, .inl (cI, 3, .inl r5.2)), (ol, .inl (cI, 24, .inl mlf)), (ob, .inl (cI, mbn, .inl mbf))] H := hP
    have hD : va_D A [(o, .inr (6, [.int (0 : Int32), .int r5.1, .int (0 : Int32), .ref oc, .ref oi, .int (0 : Int32), .ref ol, .int mgo, .int mmo, .ref ob])), (oc, .inl (cI, 14, .inl mcf)), (oi, .inl (cI, 3, .inl r5.2)), (ol, .inl (cI, 24, .inl mlf)), (ob, .inl (cI, mbn, .inl mbf))] := hD
    obtain rfl := Option.some.inj hF
    exact ct_i hx hb hr hlocks hK hP hD hS () rfl [0, 1, 2, 3, 4] (by decide) rfl (Nat.le_of_ble_eq_true rfl) (Nat.le_of_ble_eq_true rfl) dX7_begin_30
  · have hF := (if_pos c4).symm.trans hF
    refine lv_aload_n hx hb dX7_begin_15 rfl (lv_at hl 0 rfl) ?_
    refine lv_iconst (v := (1 : Int32)) hx hb dX7_begin_16 (by decide) ?_
    obtain ⟨r11, hC12, hF⟩ := gd_b hF
    refine ct_callV (C := RX7) (As := [.int (1 : Int32)]) (rest := []) ⟨hx, hb, hml, hown, hts⟩ (kX7_no l dC dI tys cI ht0 o oc oi ol ob (0 : Int32) mn mch mcl mgo mmo mcf mif mlf mbn mbf (1 : Int32) r11 hC12) (cwV 1 hts gX7_begin_X7_no rfl rfl rfl (by decide +kernel) ⟨Nat.le_of_ble_eq_true rfl, Nat.le_of_ble_eq_true rfl⟩) hE hK hP hD hS hA [0, 1, 2, 3, 4] [] (by decide) rfl (by decide) (wr := []) rfl (by decide) (ci := 6) (T := TX7) (N := 10) (q0 := 0) rfl rfl hl.1 rfl rfl (Nat.le_of_ble_eq_true rfl) dX7_begin_17 ⟨(Nat.le_of_ble_eq_true rfl), (Nat.le_of_ble_eq_true rfl)⟩ (fun i13 H locs hP hD hS => ?_)
    have hP : va_P (dC, dI) vwCl [(o, .inr (6, [.int r11.2, .int mn, .int mch, .ref oc, .ref oi, .int mcl, .ref ol, .int mgo, .int mmo, .ref ob])), (oc, .inl (cI, 14, .inl mcf)), (oi, .inl (cI, 3, .inl mif)), (ol, .inl (cI, 24, .inl mlf)), (ob, .inl (cI, mbn, .inl mbf))] H := hP
    have hD : va_D A [(o, .inr (6, [.int r11.2, .int mn, .int mch, .ref oc, .ref oi, .int mcl, .ref ol, .int mgo, .int mmo, .ref ob])), (oc, .inl (cI, 14, .inl mcf)), (oi, .inl (cI, 3, .inl mif)), (ol, .inl (cI, 24, .inl mlf)), (ob, .inl (cI, mbn, .inl mbf))] := hD
    obtain rfl := Option.some.inj hF
    exact ct_i hx hb hr hlocks hK hP hD hS () rfl [0, 1, 2, 3, 4] (by decide) rfl (Nat.le_of_ble_eq_true rfl) (Nat.le_of_ble_eq_true rfl) dX7_begin_20

def fX7_change (mn : Int32) (mch : Int32) (mcf : (Nat → Int32)) (p0 : Int32) : Option (Int32 × Int32 × Int32 × (Nat → Int32)) := (fX7_isChangeNow mn p0).bind (fun r1 => if r1 = 0 then ((fX7_no (1 : Int32)).bind (fun r10 => some (r10.1, r10.2, mch, mcf))) else (if mch = (14 : Int32) then ((fX7_no (2 : Int32)).bind (fun r7 => some (r7.1, r7.2, mch, mcf))) else (if (mch < 0 ∨ 14 ≤ mch.toNatClampNeg) then none else (some ((mch + (1 : Int32)), (0 : Int32), (mch + (1 : Int32)), (upd mcf mch.toNatClampNeg p0))))))
abbrev rmX7_change : Room := { frames := 2, cells := 0, slots := 0, locals := 45 }
set_option maxHeartbeats 4000000 in
set_option maxRecDepth 100000 in
theorem kX7_change (l : Launch) (dC : Nat → ClassId) (dI : Nat → Nat → Nat) (tys : List (ClassId × FieldType)) (cI : ClassId) (ht0 : tys[0]? = some (cI, .int)) (o oc oi ol ob : Nat) (mth : Int32) (mn : Int32) (mch : Int32) (mcl : Int32) (mgo : Int32) (mmo : Int32) (mcf : (Nat → Int32)) (mif : (Nat → Int32)) (mlf : (Nat → Int32)) (mbn : Nat) (mbf : (Nat → Int32)) (p0 : Int32) (r : (Int32 × Int32 × Int32 × (Nat → Int32))) (hF : fX7_change mn mch mcf p0 = some r) : ct l (dC, dI) tys yX7_change wsX7_change rmX7_change [.ref o, .int p0] [(o, .inr (6, [.int mth, .int mn, .int mch, .ref oc, .ref oi, .int mcl, .ref ol, .int mgo, .int mmo, .ref ob])), (oc, .inl (cI, 14, .inl mcf)), (oi, .inl (cI, 3, .inl mif)), (ol, .inl (cI, 24, .inl mlf)), (ob, .inl (cI, mbn, .inl mbf))] (fun _ : Unit => some (.int r.1)) (fun _ : Unit => [(o, .inr (6, [.int r.2.1, .int mn, .int r.2.2.1, .ref oc, .ref oi, .int mcl, .ref ol, .int mgo, .int mmo, .ref ob])), (oc, .inl (cI, 14, .inl r.2.2.2)), (oi, .inl (cI, 3, .inl mif)), (ol, .inl (cI, 24, .inl mlf)), (ob, .inl (cI, mbn, .inl mbf))]) := by
  refine ct_of (cc := cX7_change) (maxL := 2) (ret := (some .int)) (by decide) rfl (Nat.le_of_ble_eq_true rfl) ?_
  intro p e s m below meth c A ls hx hb hr hml hts hown hlocks hname hE hK hP hD hA hS hl
  have hown : s.vm.findClass RX7 = some m.cls := hown
  have hl : lv_has ls 2 [(0, .ref o), (1, .int p0)] := hl
  unfold fX7_change at hF
  have uX7 : ∀ w ∈ wsX70, w ∈ wsX7_change := (fun _ h => (List.mem_cons_of_mem _ (List.mem_append_right _ h)))
  have w1 := hts (.fieldLink RX7 36 "BellfounderTowerModel" "thrown" "I") (List.mem_cons_of_mem _ (List.mem_append_left _ (List.mem_of_getElem? (i := 0) rfl)))
  have w2 := hts (.fieldLink RX7 30 "BellfounderTowerModel" "changes" "I") (List.mem_cons_of_mem _ (List.mem_append_left _ (List.mem_of_getElem? (i := 1) rfl)))
  have w3 := hts (.fieldLink RX7 9 "BellfounderTowerModel" "change" "[I") (List.mem_cons_of_mem _ (List.mem_append_left _ (List.mem_of_getElem? (i := 2) rfl)))
  refine lv_aload_n hx hb dX7_change_0 rfl (lv_at hl 0 rfl) ?_
  refine lv_iconst (v := (0 : Int32)) hx hb dX7_change_1 (by decide) ?_
  refine va_put (D := (dC, dI)) (ci := 6) (v := .int (0 : Int32)) (ty := .int) (C := RX7) (T := TX7) (N := 10) hx hb hts uX7 tyX7 tyX7_ok nmX7 hown hK hP hD hS 0 rfl rfl 0 (by decide) w1 (fun _ h9 => h9) rfl (by decide +kernel) rfl rfl (Nat.le_of_ble_eq_true rfl) dX7_change_2 (fun H locs hP hD hS => ?_)
  have hP : va_P (dC, dI) vwCl [(o, .inr (6, [.int (0 : Int32), .int mn, .int mch, .ref oc, .ref oi, .int mcl, .ref ol, .int mgo, .int mmo, .ref ob])), (oc, .inl (cI, 14, .inl mcf)), (oi, .inl (cI, 3, .inl mif)), (ol, .inl (cI, 24, .inl mlf)), (ob, .inl (cI, mbn, .inl mbf))] H := hP
  have hD : va_D A [(o, .inr (6, [.int (0 : Int32), .int mn, .int mch, .ref oc, .ref oi, .int mcl, .ref ol, .int mgo, .int mmo, .ref ob])), (oc, .inl (cI, 14, .inl mcf)), (oi, .inl (cI, 3, .inl mif)), (ol, .inl (cI, 24, .inl mlf)), (ob, .inl (cI, mbn, .inl mbf))] := hD
  refine lv_aload_n hx hb dX7_change_5 rfl (lv_at hl 0 rfl) ?_
  refine lv_iload_n hx hb dX7_change_6 rfl (lv_at hl 1 rfl) ?_
  obtain ⟨r1, hC2, hF⟩ := gd_b hF
  refine ct_callV (C := RX7) (As := [.int p0]) (rest := []) ⟨hx, hb, hml, hown, hts⟩ (kX7_isChangeNow l dC dI tys cI ht0 o oc oi ol ob (0 : Int32) mn mch mcl mgo mmo mcf mif mlf mbn mbf p0 r1 hC2) (cwV 1 hts gX7_change_X7_isChangeNow rfl rfl rfl (by decide +kernel) ⟨Nat.le_of_ble_eq_true rfl, Nat.le_of_ble_eq_true rfl⟩) hE hK hP hD hS hA [0, 1, 2, 3, 4] [] (by decide) rfl (by decide) (wr := []) rfl (by decide) (ci := 6) (T := TX7) (N := 10) (q0 := 0) rfl rfl hl.1 rfl rfl (Nat.le_of_ble_eq_true rfl) dX7_change_7 ⟨(Nat.le_of_ble_eq_true rfl), (Nat.le_of_ble_eq_true rfl)⟩ (fun i3 H locs hP hD hS => ?_)
  have hP : va_P (dC, dI) vwCl [(o, .inr (6, [.int (0 : Int32), .int mn, .int mch, .ref oc, .ref oi, .int mcl, .ref ol, .int mgo, .int mmo, .ref ob])), (oc, .inl (cI, 14, .inl mcf)), (oi, .inl (cI, 3, .inl mif)), (ol, .inl (cI, 24, .inl mlf)), (ob, .inl (cI, mbn, .inl mbf))] H := hP
  have hD : va_D A [(o, .inr (6, [.int (0 : Int32), .int mn, .int mch, .ref oc, .ref oi, .int mcl, .ref ol, .int mgo, .int mmo, .ref ob])), (oc, .inl (cI, 14, .inl mcf)), (oi, .inl (cI, 3, .inl mif)), (ol, .inl (cI, 24, .inl mlf)), (ob, .inl (cI, mbn, .inl mbf))] := hD
  refine lv_if_ne (tgt := 19) hx hb dX7_change_10 (by decide) (fun c4 => ?_) (fun c4 => ?_)
  · have hF := (if_neg c4).symm.trans hF
    refine lv_aload_n hx hb dX7_change_19 rfl (lv_at hl 0 rfl) ?_
    refine va_get (D := (dC, dI)) (ci := 6) (v := .int mch) (C := RX7) (T := TX7) (N := 10) hx hb hts uX7 hown hK hP 0 rfl rfl 2 (by decide) w2 (fun _ h9 => h9) rfl dX7_change_20 ?_
    refine lv_bipush (v := (14 : Int32)) hx hb dX7_change_23 (by decide) ?_
    refine lv_icmp_ne (tgt := 34) hx hb dX7_change_25 (by decide) (fun c5 => ?_) (fun c5 => ?_)
    · have hF := (if_neg c5).symm.trans hF
      refine lv_aload_n hx hb dX7_change_34 rfl (lv_at hl 0 rfl) ?_
      refine va_get (D := (dC, dI)) (ci := 6) (v := .ref oc) (C := RX7) (T := TX7) (N := 10) hx hb hts uX7 hown hK hP 0 rfl rfl 3 (by decide) w3 (fun _ h9 => h9) rfl dX7_change_35 ?_
      refine lv_aload_n hx hb dX7_change_38 rfl (lv_at hl 0 rfl) ?_
      refine lv_dup hx hb dX7_change_39 rfl ?_
      refine va_get (D := (dC, dI)) (ci := 6) (v := .int mch) (C := RX7) (T := TX7) (N := 10) hx hb hts uX7 hown hK hP 0 rfl rfl 2 (by decide) w2 (fun _ h9 => h9) rfl dX7_change_40 ?_
      refine lv_dup_x1 hx hb dX7_change_43 rfl rfl ?_
      refine lv_iconst (v := (1 : Int32)) hx hb dX7_change_44 (by decide) ?_
      refine lv_iadd hx hb dX7_change_45 ?_
      refine va_put (D := (dC, dI)) (ci := 6) (v := .int (mch + (1 : Int32))) (ty := .int) (C := RX7) (T := TX7) (N := 10) hx hb hts uX7 tyX7 tyX7_ok nmX7 hown hK hP hD hS 0 rfl rfl 2 (by decide) w2 (fun _ h9 => h9) rfl (by decide +kernel) rfl rfl (Nat.le_of_ble_eq_true rfl) dX7_change_46 (fun H locs hP hD hS => ?_)
      have hP : va_P (dC, dI) vwCl [(o, .inr (6, [.int (0 : Int32), .int mn, .int (mch + (1 : Int32)), .ref oc, .ref oi, .int mcl, .ref ol, .int mgo, .int mmo, .ref ob])), (oc, .inl (cI, 14, .inl mcf)), (oi, .inl (cI, 3, .inl mif)), (ol, .inl (cI, 24, .inl mlf)), (ob, .inl (cI, mbn, .inl mbf))] H := hP
      have hD : va_D A [(o, .inr (6, [.int (0 : Int32), .int mn, .int (mch + (1 : Int32)), .ref oc, .ref oi, .int mcl, .ref ol, .int mgo, .int mmo, .ref ob])), (oc, .inl (cI, 14, .inl mcf)), (oi, .inl (cI, 3, .inl mif)), (ol, .inl (cI, 24, .inl mlf)), (ob, .inl (cI, mbn, .inl mbf))] := hD
      refine lv_iload_n hx hb dX7_change_49 rfl (lv_at hl 1 rfl) ?_
      obtain ⟨g6, hF⟩ := gd_n hF
      refine va_iast hx hb hK hP hD hS 1 0 rfl ht0 g6 dX7_change_50 (fun H locs hP hD hS => ?_)
      have hP : va_P (dC, dI) vwCl [(o, .inr (6, [.int (0 : Int32), .int mn, .int (mch + (1 : Int32)), .ref oc, .ref oi, .int mcl, .ref ol, .int mgo, .int mmo, .ref ob])), (oc, .inl (cI, 14, .inl (upd mcf mch.toNatClampNeg p0))), (oi, .inl (cI, 3, .inl mif)), (ol, .inl (cI, 24, .inl mlf)), (ob, .inl (cI, mbn, .inl mbf))] H := hP
      have hD : va_D A [(o, .inr (6, [.int (0 : Int32), .int mn, .int (mch + (1 : Int32)), .ref oc, .ref oi, .int mcl, .ref ol, .int mgo, .int mmo, .ref ob])), (oc, .inl (cI, 14, .inl (upd mcf mch.toNatClampNeg p0))), (oi, .inl (cI, 3, .inl mif)), (ol, .inl (cI, 24, .inl mlf)), (ob, .inl (cI, mbn, .inl mbf))] := hD
      refine lv_aload_n hx hb dX7_change_51 rfl (lv_at hl 0 rfl) ?_
      refine va_get (D := (dC, dI)) (ci := 6) (v := .int (mch + (1 : Int32))) (C := RX7) (T := TX7) (N := 10) hx hb hts uX7 hown hK hP 0 rfl rfl 2 (by decide) w2 (fun _ h9 => h9) rfl dX7_change_52 ?_
      obtain rfl := Option.some.inj hF
      exact ct_i hx hb hr hlocks hK hP hD hS () rfl [0, 1, 2, 3, 4] (by decide) rfl (Nat.le_of_ble_eq_true rfl) (Nat.le_of_ble_eq_true rfl) dX7_change_55
    · have hF := (if_pos c5).symm.trans hF
      refine lv_aload_n hx hb dX7_change_28 rfl (lv_at hl 0 rfl) ?_
      refine lv_iconst (v := (2 : Int32)) hx hb dX7_change_29 (by decide) ?_
      obtain ⟨r7, hC8, hF⟩ := gd_b hF
      refine ct_callV (C := RX7) (As := [.int (2 : Int32)]) (rest := []) ⟨hx, hb, hml, hown, hts⟩ (kX7_no l dC dI tys cI ht0 o oc oi ol ob (0 : Int32) mn mch mcl mgo mmo mcf mif mlf mbn mbf (2 : Int32) r7 hC8) (cwV 1 hts gX7_change_X7_no rfl rfl rfl (by decide +kernel) ⟨Nat.le_of_ble_eq_true rfl, Nat.le_of_ble_eq_true rfl⟩) hE hK hP hD hS hA [0, 1, 2, 3, 4] [] (by decide) rfl (by decide) (wr := []) rfl (by decide) (ci := 6) (T := TX7) (N := 10) (q0 := 0) rfl rfl hl.1 rfl rfl (Nat.le_of_ble_eq_true rfl) dX7_change_30 ⟨(Nat.le_of_ble_eq_true rfl), (Nat.le_of_ble_eq_true rfl)⟩ (fun i9 H locs hP hD hS => ?_)
      have hP : va_P (dC, dI) vwCl [(o, .inr (6, [.int r7.2, .int mn, .int mch, .ref oc, .ref oi, .int mcl, .ref ol, .int mgo, .int mmo, .ref ob])), (oc, .inl (cI, 14, .inl mcf)), (oi, .inl (cI, 3, .inl mif)), (ol, .inl (cI, 24, .inl mlf)), (ob, .inl (cI, mbn, .inl mbf))] H := hP
      have hD : va_D A [(o, .inr (6, [.int r7.2, .int mn, .int mch, .ref oc, .ref oi, .int mcl, .ref ol, .int mgo, .int mmo, .ref ob])), (oc, .inl (cI, 14, .inl mcf)), (oi, .inl (cI, 3, .inl mif)), (ol, .inl (cI, 24, .inl mlf)), (ob, .inl (cI, mbn, .inl mbf))] := hD
      obtain rfl := Option.some.inj hF
      exact ct_i hx hb hr hlocks hK hP hD hS () rfl [0, 1, 2, 3, 4] (by decide) rfl (Nat.le_of_ble_eq_true rfl) (Nat.le_of_ble_eq_true rfl) dX7_change_33
  · have hF := (if_pos c4).symm.trans hF
    refine lv_aload_n hx hb dX7_change_13 rfl (lv_at hl 0 rfl) ?_
    refine lv_iconst (v := (1 : Int32)) hx hb dX7_change_14 (by decide) ?_
    obtain ⟨r10, hC11, hF⟩ := gd_b hF
    refine ct_callV (C := RX7) (As := [.int (1 : Int32)]) (rest := []) ⟨hx, hb, hml, hown, hts⟩ (kX7_no l dC dI tys cI ht0 o oc oi ol ob (0 : Int32) mn mch mcl mgo mmo mcf mif mlf mbn mbf (1 : Int32) r10 hC11) (cwV 1 hts gX7_change_X7_no rfl rfl rfl (by decide +kernel) ⟨Nat.le_of_ble_eq_true rfl, Nat.le_of_ble_eq_true rfl⟩) hE hK hP hD hS hA [0, 1, 2, 3, 4] [] (by decide) rfl (by decide) (wr := []) rfl (by decide) (ci := 6) (T := TX7) (N := 10) (q0 := 0) rfl rfl hl.1 rfl rfl (Nat.le_of_ble_eq_true rfl) dX7_change_15 ⟨(Nat.le_of_ble_eq_true rfl), (Nat.le_of_ble_eq_true rfl)⟩ (fun i12 H locs hP hD hS => ?_)
    have hP : va_P (dC, dI) vwCl [(o, .inr (6, [.int r10.2, .int mn, .int mch, .ref oc, .ref oi, .int mcl, .ref ol, .int mgo, .int mmo, .ref ob])), (oc, .inl (cI, 14, .inl mcf)), (oi, .inl (cI, 3, .inl mif)), (ol, .inl (cI, 24, .inl mlf)), (ob, .inl (cI, mbn, .inl mbf))] H := hP
    have hD : va_D A [(o, .inr (6, [.int r10.2, .int mn, .int mch, .ref oc, .ref oi, .int mcl, .ref ol, .int mgo, .int mmo, .ref ob])), (oc, .inl (cI, 14, .inl mcf)), (oi, .inl (cI, 3, .inl mif)), (ol, .inl (cI, 24, .inl mlf)), (ob, .inl (cI, mbn, .inl mbf))] := hD
    obtain rfl := Option.some.inj hF
    exact ct_i hx hb hr hlocks hK hP hD hS () rfl [0, 1, 2, 3, 4] (by decide) rfl (Nat.le_of_ble_eq_true rfl) (Nat.le_of_ble_eq_true rfl) dX7_change_18

def fX7_mirror_X38  (x1_38 : Int32) (y0_2_38 : Int32) (f1_38 : (Nat → Int32)) : Option (Int32 × Int32 × Int32 × (Nat → Int32)) := some (y0_2_38, (0 : Int32), y0_2_38, f1_38)
def fX7_mirror_L38  (K38 : Int32 → Int32 → (Nat → Int32) → Option (Int32 × Int32 × Int32 × (Nat → Int32))) : Nat → Int32 → Int32 → (Nat → Int32) → Option (Int32 × Int32 × Int32 × (Nat → Int32))
  | 0, _, _, _ => none
  | n + 1, x1_38, y0_2_38, f1_38 => if x1_38 < 0 then (K38 x1_38 y0_2_38 f1_38) else (if (x1_38 < 0 ∨ 14 ≤ x1_38.toNatClampNeg) then none else (if (y0_2_38 < 0 ∨ 14 ≤ y0_2_38.toNatClampNeg) then none else ((fX7_mirror_L38 K38 n) (x1_38 + (-1 : Int32)) (y0_2_38 + (1 : Int32)) (upd f1_38 y0_2_38.toNatClampNeg (f1_38 x1_38.toNatClampNeg)))))
def fX7_mirror (mch : Int32) (mcf : (Nat → Int32)) : Option (Int32 × Int32 × Int32 × (Nat → Int32)) := if mch = 0 then ((fX7_no (1 : Int32)).bind (fun r2 => some (r2.1, r2.2, mch, mcf))) else (if (((2 : Int32) * mch) - (1 : Int32)) ≤ (14 : Int32) then (fX7_mirror_L38 fX7_mirror_X38 1000 (mch - (2 : Int32)) mch mcf) else ((fX7_no (1 : Int32)).bind (fun r9 => some (r9.1, r9.2, mch, mcf))))
abbrev rmX7_mirror : Room := { frames := 1, cells := 0, slots := 0, locals := 21 }
set_option maxHeartbeats 4000000 in
set_option maxRecDepth 100000 in
theorem kX7_mirror (l : Launch) (dC : Nat → ClassId) (dI : Nat → Nat → Nat) (tys : List (ClassId × FieldType)) (cI : ClassId) (ht0 : tys[0]? = some (cI, .int)) (o oc oi ol ob : Nat) (mth : Int32) (mn : Int32) (mch : Int32) (mcl : Int32) (mgo : Int32) (mmo : Int32) (mcf : (Nat → Int32)) (mif : (Nat → Int32)) (mlf : (Nat → Int32)) (mbn : Nat) (mbf : (Nat → Int32)) (r : (Int32 × Int32 × Int32 × (Nat → Int32))) (hF : fX7_mirror mch mcf = some r) : ct l (dC, dI) tys yX7_mirror wsX7_mirror rmX7_mirror [.ref o] [(o, .inr (6, [.int mth, .int mn, .int mch, .ref oc, .ref oi, .int mcl, .ref ol, .int mgo, .int mmo, .ref ob])), (oc, .inl (cI, 14, .inl mcf)), (oi, .inl (cI, 3, .inl mif)), (ol, .inl (cI, 24, .inl mlf)), (ob, .inl (cI, mbn, .inl mbf))] (fun _ : Unit => some (.int r.1)) (fun _ : Unit => [(o, .inr (6, [.int r.2.1, .int mn, .int r.2.2.1, .ref oc, .ref oi, .int mcl, .ref ol, .int mgo, .int mmo, .ref ob])), (oc, .inl (cI, 14, .inl r.2.2.2)), (oi, .inl (cI, 3, .inl mif)), (ol, .inl (cI, 24, .inl mlf)), (ob, .inl (cI, mbn, .inl mbf))]) := by
  refine ct_of (cc := cX7_mirror) (maxL := 2) (ret := (some .int)) (by decide) rfl (Nat.le_of_ble_eq_true rfl) ?_
  intro p e s m below meth c A ls hx hb hr hml hts hown hlocks hname hE hK hP hD hA hS hl
  have hown : s.vm.findClass RX7 = some m.cls := hown
  have hl : lv_has ls 2 [(0, .ref o)] := hl
  unfold fX7_mirror at hF
  have uX7 : ∀ w ∈ wsX70, w ∈ wsX7_mirror := (fun _ h => (List.mem_cons_of_mem _ (List.mem_append_right _ h)))
  have w1 := hts (.fieldLink RX7 36 "BellfounderTowerModel" "thrown" "I") (List.mem_cons_of_mem _ (List.mem_append_left _ (List.mem_of_getElem? (i := 0) rfl)))
  have w2 := hts (.fieldLink RX7 30 "BellfounderTowerModel" "changes" "I") (List.mem_cons_of_mem _ (List.mem_append_left _ (List.mem_of_getElem? (i := 1) rfl)))
  have w3 := hts (.fieldLink RX7 9 "BellfounderTowerModel" "change" "[I") (List.mem_cons_of_mem _ (List.mem_append_left _ (List.mem_of_getElem? (i := 2) rfl)))
  refine lv_aload_n hx hb dX7_mirror_0 rfl (lv_at hl 0 rfl) ?_
  refine lv_iconst (v := (0 : Int32)) hx hb dX7_mirror_1 (by decide) ?_
  refine va_put (D := (dC, dI)) (ci := 6) (v := .int (0 : Int32)) (ty := .int) (C := RX7) (T := TX7) (N := 10) hx hb hts uX7 tyX7 tyX7_ok nmX7 hown hK hP hD hS 0 rfl rfl 0 (by decide) w1 (fun _ h9 => h9) rfl (by decide +kernel) rfl rfl (Nat.le_of_ble_eq_true rfl) dX7_mirror_2 (fun H locs hP hD hS => ?_)
  have hP : va_P (dC, dI) vwCl [(o, .inr (6, [.int (0 : Int32), .int mn, .int mch, .ref oc, .ref oi, .int mcl, .ref ol, .int mgo, .int mmo, .ref ob])), (oc, .inl (cI, 14, .inl mcf)), (oi, .inl (cI, 3, .inl mif)), (ol, .inl (cI, 24, .inl mlf)), (ob, .inl (cI, mbn, .inl mbf))] H := hP
  have hD : va_D A [(o, .inr (6, [.int (0 : Int32), .int mn, .int mch, .ref oc, .ref oi, .int mcl, .ref ol, .int mgo, .int mmo, .ref ob])), (oc, .inl (cI, 14, .inl mcf)), (oi, .inl (cI, 3, .inl mif)), (ol, .inl (cI, 24, .inl mlf)), (ob, .inl (cI, mbn, .inl mbf))] := hD
  refine lv_aload_n hx hb dX7_mirror_5 rfl (lv_at hl 0 rfl) ?_
  refine va_get (D := (dC, dI)) (ci := 6) (v := .int mch) (C := RX7) (T := TX7) (N := 10) hx hb hts uX7 hown hK hP 0 rfl rfl 2 (by decide) w2 (fun _ h9 => h9) rfl dX7_mirror_6 ?_
  refine lv_if_eq (tgt := 25) hx hb dX7_mirror_9 (by decide) (fun c1 => ?_) (fun c1 => ?_)
  · have hF := (if_pos c1).symm.trans hF
    refine lv_aload_n hx hb dX7_mirror_25 rfl (lv_at hl 0 rfl) ?_
    refine lv_iconst (v := (1 : Int32)) hx hb dX7_mirror_26 (by decide) ?_
    obtain ⟨r2, hC3, hF⟩ := gd_b hF
    refine ct_callV (C := RX7) (As := [.int (1 : Int32)]) (rest := []) ⟨hx, hb, hml, hown, hts⟩ (kX7_no l dC dI tys cI ht0 o oc oi ol ob (0 : Int32) mn mch mcl mgo mmo mcf mif mlf mbn mbf (1 : Int32) r2 hC3) (cwV 1 hts gX7_mirror_X7_no rfl rfl rfl (by decide +kernel) ⟨Nat.le_of_ble_eq_true rfl, Nat.le_of_ble_eq_true rfl⟩) hE hK hP hD hS hA [0, 1, 2, 3, 4] [] (by decide) rfl (by decide) (wr := []) rfl (by decide) (ci := 6) (T := TX7) (N := 10) (q0 := 0) rfl rfl hl.1 rfl rfl (Nat.le_of_ble_eq_true rfl) dX7_mirror_27 ⟨(Nat.le_of_ble_eq_true rfl), (Nat.le_of_ble_eq_true rfl)⟩ (fun i4 H locs hP hD hS => ?_)
    have hP : va_P (dC, dI) vwCl [(o, .inr (6, [.int r2.2, .int mn, .int mch, .ref oc, .ref oi, .int mcl, .ref ol, .int mgo, .int mmo, .ref ob])), (oc, .inl (cI, 14, .inl mcf)), (oi, .inl (cI, 3, .inl mif)), (ol, .inl (cI, 24, .inl mlf)), (ob, .inl (cI, mbn, .inl mbf))] H := hP
    have hD : va_D A [(o, .inr (6, [.int r2.2, .int mn, .int mch, .ref oc, .ref oi, .int mcl, .ref ol, .int mgo, .int mmo, .ref ob])), (oc, .inl (cI, 14, .inl mcf)), (oi, .inl (cI, 3, .inl mif)), (ol, .inl (cI, 24, .inl mlf)), (ob, .inl (cI, mbn, .inl mbf))] := hD
    obtain rfl := Option.some.inj hF
    exact ct_i hx hb hr hlocks hK hP hD hS () rfl [0, 1, 2, 3, 4] (by decide) rfl (Nat.le_of_ble_eq_true rfl) (Nat.le_of_ble_eq_true rfl) dX7_mirror_30
  · have hF := (if_neg c1).symm.trans hF
    refine lv_iconst (v := (2 : Int32)) hx hb dX7_mirror_12 (by decide) ?_
    refine lv_aload_n hx hb dX7_mirror_13 rfl (lv_at hl 0 rfl) ?_
    refine va_get (D := (dC, dI)) (ci := 6) (v := .int mch) (C := RX7) (T := TX7) (N := 10) hx hb hts uX7 hown hK hP 0 rfl rfl 2 (by decide) w2 (fun _ h9 => h9) rfl dX7_mirror_14 ?_
    refine lv_imul hx hb dX7_mirror_17 ?_
    refine lv_iconst (v := (1 : Int32)) hx hb dX7_mirror_18 (by decide) ?_
    refine lv_isub hx hb dX7_mirror_19 ?_
    refine lv_bipush (v := (14 : Int32)) hx hb dX7_mirror_20 (by decide) ?_
    refine lv_icmp_le (tgt := 31) hx hb dX7_mirror_22 (by decide) (fun c5 => ?_) (fun c5 => ?_)
    · have hF := (if_pos c5).symm.trans hF
      refine lv_aload_n hx hb dX7_mirror_31 rfl (lv_at hl 0 rfl) ?_
      refine va_get (D := (dC, dI)) (ci := 6) (v := .int mch) (C := RX7) (T := TX7) (N := 10) hx hb hts uX7 hown hK hP 0 rfl rfl 2 (by decide) w2 (fun _ h9 => h9) rfl dX7_mirror_32 ?_
      refine lv_iconst (v := (2 : Int32)) hx hb dX7_mirror_35 (by decide) ?_
      refine lv_isub hx hb dX7_mirror_36 ?_
      refine lv_istore_n (lv' := [(1, .int (mch - (2 : Int32))), (0, .ref o)]) hx hb dX7_mirror_37 rfl hl (by decide) rfl (fun ls hl => ?_)
      have X38 : ∀ (x1_38 : Int32) (y0_2_38 : Int32) (f1_38 : (Nat → Int32)) (H : Heap) (locs : List Loc) (ls : Array Slot), fX7_mirror_X38 x1_38 y0_2_38 f1_38 = some r → va_P (dC, dI) vwCl [(o, .inr (6, [.int (0 : Int32), .int mn, .int y0_2_38, .ref oc, .ref oi, .int mcl, .ref ol, .int mgo, .int mmo, .ref ob])), (oc, .inl (cI, 14, .inl f1_38)), (oi, .inl (cI, 3, .inl mif)), (ol, .inl (cI, 24, .inl mlf)), (ob, .inl (cI, mbn, .inl mbf))] H → va_D A [(o, .inr (6, [.int (0 : Int32), .int mn, .int y0_2_38, .ref oc, .ref oi, .int mcl, .ref ol, .int mgo, .int mmo, .ref ob])), (oc, .inl (cI, 14, .inl f1_38)), (oi, .inl (cI, 3, .inl mif)), (ol, .inl (cI, 24, .inl mlf)), (ob, .inl (cI, mbn, .inl mbf))] → va_S A s.heap H locs → lv_has ls 2 [(1, .int x1_38), (0, .ref o)] → W p l e rmX7_mirror s m ([.ref o] : List Value).toArray below meth c H locs 0 0 (MQ below (ct_Q (dC, dI) tys (fun _ : Unit => some (.int r.1)) (fun _ : Unit => [(o, .inr (6, [.int r.2.1, .int mn, .int r.2.2.1, .ref oc, .ref oi, .int mcl, .ref ol, .int mgo, .int mmo, .ref ob])), (oc, .inl (cI, 14, .inl r.2.2.2)), (oi, .inl (cI, 3, .inl mif)), (ol, .inl (cI, 24, .inl mlf)), (ob, .inl (cI, mbn, .inl mbf))]) A) ([.ref o] : List Value).toArray s rmX7_mirror.cells rmX7_mirror.slots A) (F0 m 70 ls []) := by
        intro x1_38 y0_2_38 f1_38 H locs ls hF hP hD hS hl
        unfold fX7_mirror_X38 at hF
        refine lv_aload_n hx hb dX7_mirror_70 rfl (lv_at hl 1 rfl) ?_
        refine va_get (D := (dC, dI)) (ci := 6) (v := .int y0_2_38) (C := RX7) (T := TX7) (N := 10) hx hb hts uX7 hown hK hP 0 rfl rfl 2 (by decide) w2 (fun _ h9 => h9) rfl dX7_mirror_71 ?_
        obtain rfl := Option.some.inj hF
        exact ct_i hx hb hr hlocks hK hP hD hS () rfl [0, 1, 2, 3, 4] (by decide) rfl (Nat.le_of_ble_eq_true rfl) (Nat.le_of_ble_eq_true rfl) dX7_mirror_74
      have L38 : ∀ (n38 : Nat) (x1_38 : Int32) (y0_2_38 : Int32) (f1_38 : (Nat → Int32)) (H : Heap) (locs : List Loc) (ls : Array Slot), fX7_mirror_L38 fX7_mirror_X38 n38 x1_38 y0_2_38 f1_38 = some r → va_P (dC, dI) vwCl [(o, .inr (6, [.int (0 : Int32), .int mn, .int y0_2_38, .ref oc, .ref oi, .int mcl, .ref ol, .int mgo, .int mmo, .ref ob])), (oc, .inl (cI, 14, .inl f1_38)), (oi, .inl (cI, 3, .inl mif)), (ol, .inl (cI, 24, .inl mlf)), (ob, .inl (cI, mbn, .inl mbf))] H → va_D A [(o, .inr (6, [.int (0 : Int32), .int mn, .int y0_2_38, .ref oc, .ref oi, .int mcl, .ref ol, .int mgo, .int mmo, .ref ob])), (oc, .inl (cI, 14, .inl f1_38)), (oi, .inl (cI, 3, .inl mif)), (ol, .inl (cI, 24, .inl mlf)), (ob, .inl (cI, mbn, .inl mbf))] → va_S A s.heap H locs → lv_has ls 2 [(1, .int x1_38), (0, .ref o)] → W p l e rmX7_mirror s m ([.ref o] : List Value).toArray below meth c H locs 0 0 (MQ below (ct_Q (dC, dI) tys (fun _ : Unit => some (.int r.1)) (fun _ : Unit => [(o, .inr (6, [.int r.2.1, .int mn, .int r.2.2.1, .ref oc, .ref oi, .int mcl, .ref ol, .int mgo, .int mmo, .ref ob])), (oc, .inl (cI, 14, .inl r.2.2.2)), (oi, .inl (cI, 3, .inl mif)), (ol, .inl (cI, 24, .inl mlf)), (ob, .inl (cI, mbn, .inl mbf))]) A) ([.ref o] : List Value).toArray s rmX7_mirror.cells rmX7_mirror.slots A) (F0 m 38 ls []) := by
        intro n38
        induction n38 with
        | zero => intro x1_38 y0_2_38 f1_38 H locs ls hF; rw [fX7_mirror_L38] at hF; cases hF
        | succ n38 ih38 =>
          intro x1_38 y0_2_38 f1_38 H locs ls hF hP hD hS hl
          rw [fX7_mirror_L38] at hF
          refine lv_iload_n hx hb dX7_mirror_38 rfl (lv_at hl 0 rfl) ?_
          refine lv_if_lt (tgt := 70) hx hb dX7_mirror_39 (by decide) (fun c6 => ?_) (fun c6 => ?_)
          · have hF := (if_pos c6).symm.trans hF
            exact X38 x1_38 y0_2_38 f1_38 _ _ _ hF (hP.sub [0, 1, 2, 3, 4] rfl) (hD.sub [0, 1, 2, 3, 4] (by decide) rfl) hS (lv_sub hl [0, 1] rfl)
          · have hF := (if_neg c6).symm.trans hF
            refine lv_aload_n hx hb dX7_mirror_42 rfl (lv_at hl 1 rfl) ?_
            refine va_get (D := (dC, dI)) (ci := 6) (v := .ref oc) (C := RX7) (T := TX7) (N := 10) hx hb hts uX7 hown hK hP 0 rfl rfl 3 (by decide) w3 (fun _ h9 => h9) rfl dX7_mirror_43 ?_
            refine lv_aload_n hx hb dX7_mirror_46 rfl (lv_at hl 1 rfl) ?_
            refine lv_dup hx hb dX7_mirror_47 rfl ?_
            refine va_get (D := (dC, dI)) (ci := 6) (v := .int y0_2_38) (C := RX7) (T := TX7) (N := 10) hx hb hts uX7 hown hK hP 0 rfl rfl 2 (by decide) w2 (fun _ h9 => h9) rfl dX7_mirror_48 ?_
            refine lv_dup_x1 hx hb dX7_mirror_51 rfl rfl ?_
            refine lv_iconst (v := (1 : Int32)) hx hb dX7_mirror_52 (by decide) ?_
            refine lv_iadd hx hb dX7_mirror_53 ?_
            refine va_put (D := (dC, dI)) (ci := 6) (v := .int (y0_2_38 + (1 : Int32))) (ty := .int) (C := RX7) (T := TX7) (N := 10) hx hb hts uX7 tyX7 tyX7_ok nmX7 hown hK hP hD hS 0 rfl rfl 2 (by decide) w2 (fun _ h9 => h9) rfl (by decide +kernel) rfl rfl (Nat.le_of_ble_eq_true rfl) dX7_mirror_54 (fun H locs hP hD hS => ?_)
            have hP : va_P (dC, dI) vwCl [(o, .inr (6, [.int (0 : Int32), .int mn, .int (y0_2_38 + (1 : Int32)), .ref oc, .ref oi, .int mcl, .ref ol, .int mgo, .int mmo, .ref ob])), (oc, .inl (cI, 14, .inl f1_38)), (oi, .inl (cI, 3, .inl mif)), (ol, .inl (cI, 24, .inl mlf)), (ob, .inl (cI, mbn, .inl mbf))] H := hP
            have hD : va_D A [(o, .inr (6, [.int (0 : Int32), .int mn, .int (y0_2_38 + (1 : Int32)), .ref oc, .ref oi, .int mcl, .ref ol, .int mgo, .int mmo, .ref ob])), (oc, .inl (cI, 14, .inl f1_38)), (oi, .inl (cI, 3, .inl mif)), (ol, .inl (cI, 24, .inl mlf)), (ob, .inl (cI, mbn, .inl mbf))] := hD
            refine lv_aload_n hx hb dX7_mirror_57 rfl (lv_at hl 1 rfl) ?_
            refine va_get (D := (dC, dI)) (ci := 6) (v := .ref oc) (C := RX7) (T := TX7) (N := 10) hx hb hts uX7 hown hK hP 0 rfl rfl 3 (by decide) w3 (fun _ h9 => h9) rfl dX7_mirror_58 ?_
            refine lv_iload_n hx hb dX7_mirror_61 rfl (lv_at hl 0 rfl) ?_
            obtain ⟨g7, hF⟩ := gd_n hF
            refine va_iald hx hb hK hP 1 0 rfl ht0 g7 dX7_mirror_62 ?_
            obtain ⟨g8, hF⟩ := gd_n hF
            refine va_iast hx hb hK hP hD hS 1 0 rfl ht0 g8 dX7_mirror_63 (fun H locs hP hD hS => ?_)
            have hP : va_P (dC, dI) vwCl [(o, .inr (6, [.int (0 : Int32), .int mn, .int (y0_2_38 + (1 : Int32)), .ref oc, .ref oi, .int mcl, .ref ol, .int mgo, .int mmo, .ref ob])), (oc, .inl (cI, 14, .inl (upd f1_38 y0_2_38.toNatClampNeg (f1_38 x1_38.toNatClampNeg)))), (oi, .inl (cI, 3, .inl mif)), (ol, .inl (cI, 24, .inl mlf)), (ob, .inl (cI, mbn, .inl mbf))] H := hP
            have hD : va_D A [(o, .inr (6, [.int (0 : Int32), .int mn, .int (y0_2_38 + (1 : Int32)), .ref oc, .ref oi, .int mcl, .ref ol, .int mgo, .int mmo, .ref ob])), (oc, .inl (cI, 14, .inl (upd f1_38 y0_2_38.toNatClampNeg (f1_38 x1_38.toNatClampNeg)))), (oi, .inl (cI, 3, .inl mif)), (ol, .inl (cI, 24, .inl mlf)), (ob, .inl (cI, mbn, .inl mbf))] := hD
            refine lv_iinc (v := x1_38 + (-1 : Int32)) (lv' := [(1, .int (x1_38 + (-1 : Int32))), (0, .ref o)]) hx hb dX7_mirror_64 hl (k := 0) rfl rfl (by decide) rfl (fun ls hl => ?_)
            refine lv_goto (tgt := 38) hx hb dX7_mirror_67 (by decide) ?_
            exact ih38 (x1_38 + (-1 : Int32)) (y0_2_38 + (1 : Int32)) (upd f1_38 y0_2_38.toNatClampNeg (f1_38 x1_38.toNatClampNeg)) _ _ _ hF (hP.sub [0, 1, 2, 3, 4] rfl) (hD.sub [0, 1, 2, 3, 4] (by decide) rfl) hS (lv_sub hl [0, 1] rfl)
      exact L38 1000 (mch - (2 : Int32)) mch mcf _ _ _ hF (hP.sub [0, 1, 2, 3, 4] rfl) (hD.sub [0, 1, 2, 3, 4] (by decide) rfl) hS (lv_sub hl [0, 1] rfl)
    · have hF := (if_neg c5).symm.trans hF
      refine lv_aload_n hx hb dX7_mirror_25 rfl (lv_at hl 0 rfl) ?_
      refine lv_iconst (v := (1 : Int32)) hx hb dX7_mirror_26 (by decide) ?_
      obtain ⟨r9, hC10, hF⟩ := gd_b hF
      refine ct_callV (C := RX7) (As := [.int (1 : Int32)]) (rest := []) ⟨hx, hb, hml, hown, hts⟩ (kX7_no l dC dI tys cI ht0 o oc oi ol ob (0 : Int32) mn mch mcl mgo mmo mcf mif mlf mbn mbf (1 : Int32) r9 hC10) (cwV 1 hts gX7_mirror_X7_no rfl rfl rfl (by decide +kernel) ⟨Nat.le_of_ble_eq_true rfl, Nat.le_of_ble_eq_true rfl⟩) hE hK hP hD hS hA [0, 1, 2, 3, 4] [] (by decide) rfl (by decide) (wr := []) rfl (by decide) (ci := 6) (T := TX7) (N := 10) (q0 := 0) rfl rfl hl.1 rfl rfl (Nat.le_of_ble_eq_true rfl) dX7_mirror_27 ⟨(Nat.le_of_ble_eq_true rfl), (Nat.le_of_ble_eq_true rfl)⟩ (fun i11 H locs hP hD hS => ?_)
      have hP : va_P (dC, dI) vwCl [(o, .inr (6, [.int r9.2, .int mn, .int mch, .ref oc, .ref oi, .int mcl, .ref ol, .int mgo, .int mmo, .ref ob])), (oc, .inl (cI, 14, .inl mcf)), (oi, .inl (cI, 3, .inl mif)), (ol, .inl (cI, 24, .inl mlf)), (ob, .inl (cI, mbn, .inl mbf))] H := hP
      have hD : va_D A [(o, .inr (6, [.int r9.2, .int mn, .int mch, .ref oc, .ref oi, .int mcl, .ref ol, .int mgo, .int mmo, .ref ob])), (oc, .inl (cI, 14, .inl mcf)), (oi, .inl (cI, 3, .inl mif)), (ol, .inl (cI, 24, .inl mlf)), (ob, .inl (cI, mbn, .inl mbf))] := hD
      obtain rfl := Option.some.inj hF
      exact ct_i hx hb hr hlocks hK hP hD hS () rfl [0, 1, 2, 3, 4] (by decide) rfl (Nat.le_of_ble_eq_true rfl) (Nat.le_of_ble_eq_true rfl) dX7_mirror_30

def fX7_unchange (mch : Int32) (mcf : (Nat → Int32)) : Option (Int32 × Int32 × Int32) := if mch = 0 then ((fX7_no (1 : Int32)).bind (fun r3 => some (r3.1, r3.2, mch))) else (if ((mch - (1 : Int32)) < 0 ∨ 14 ≤ (mch - (1 : Int32)).toNatClampNeg) then none else (some ((mcf (mch - (1 : Int32)).toNatClampNeg), (0 : Int32), (mch - (1 : Int32)))))
abbrev rmX7_unchange : Room := { frames := 1, cells := 0, slots := 0, locals := 21 }
set_option maxHeartbeats 4000000 in
set_option maxRecDepth 100000 in
theorem kX7_unchange (l : Launch) (dC : Nat → ClassId) (dI : Nat → Nat → Nat) (tys : List (ClassId × FieldType)) (cI : ClassId) (ht0 : tys[0]? = some (cI, .int)) (o oc oi ol ob : Nat) (mth : Int32) (mn : Int32) (mch : Int32) (mcl : Int32) (mgo : Int32) (mmo : Int32) (mcf : (Nat → Int32)) (mif : (Nat → Int32)) (mlf : (Nat → Int32)) (mbn : Nat) (mbf : (Nat → Int32)) (r : (Int32 × Int32 × Int32)) (hF : fX7_unchange mch mcf = some r) : ct l (dC, dI) tys yX7_unchange wsX7_unchange rmX7_unchange [.ref o] [(o, .inr (6, [.int mth, .int mn, .int mch, .ref oc, .ref oi, .int mcl, .ref ol, .int mgo, .int mmo, .ref ob])), (oc, .inl (cI, 14, .inl mcf)), (oi, .inl (cI, 3, .inl mif)), (ol, .inl (cI, 24, .inl mlf)), (ob, .inl (cI, mbn, .inl mbf))] (fun _ : Unit => some (.int r.1)) (fun _ : Unit => [(o, .inr (6, [.int r.2.1, .int mn, .int r.2.2, .ref oc, .ref oi, .int mcl, .ref ol, .int mgo, .int mmo, .ref ob])), (oc, .inl (cI, 14, .inl mcf)), (oi, .inl (cI, 3, .inl mif)), (ol, .inl (cI, 24, .inl mlf)), (ob, .inl (cI, mbn, .inl mbf))]) := by
  refine ct_of (cc := cX7_unchange) (maxL := 1) (ret := (some .int)) (by decide) rfl (Nat.le_of_ble_eq_true rfl) ?_
  intro p e s m below meth c A ls hx hb hr hml hts hown hlocks hname hE hK hP hD hA hS hl
  have hown : s.vm.findClass RX7 = some m.cls := hown
  have hl : lv_has ls 1 [(0, .ref o)] := hl
  unfold fX7_unchange at hF
  have uX7 : ∀ w ∈ wsX70, w ∈ wsX7_unchange := (fun _ h => (List.mem_cons_of_mem _ (List.mem_append_right _ h)))
  have w1 := hts (.fieldLink RX7 36 "BellfounderTowerModel" "thrown" "I") (List.mem_cons_of_mem _ (List.mem_append_left _ (List.mem_of_getElem? (i := 0) rfl)))
  have w2 := hts (.fieldLink RX7 30 "BellfounderTowerModel" "changes" "I") (List.mem_cons_of_mem _ (List.mem_append_left _ (List.mem_of_getElem? (i := 1) rfl)))
  have w3 := hts (.fieldLink RX7 9 "BellfounderTowerModel" "change" "[I") (List.mem_cons_of_mem _ (List.mem_append_left _ (List.mem_of_getElem? (i := 2) rfl)))
  refine lv_aload_n hx hb dX7_unchange_0 rfl (lv_at hl 0 rfl) ?_
  refine lv_iconst (v := (0 : Int32)) hx hb dX7_unchange_1 (by decide) ?_
  refine va_put (D := (dC, dI)) (ci := 6) (v := .int (0 : Int32)) (ty := .int) (C := RX7) (T := TX7) (N := 10) hx hb hts uX7 tyX7 tyX7_ok nmX7 hown hK hP hD hS 0 rfl rfl 0 (by decide) w1 (fun _ h9 => h9) rfl (by decide +kernel) rfl rfl (Nat.le_of_ble_eq_true rfl) dX7_unchange_2 (fun H locs hP hD hS => ?_)
  have hP : va_P (dC, dI) vwCl [(o, .inr (6, [.int (0 : Int32), .int mn, .int mch, .ref oc, .ref oi, .int mcl, .ref ol, .int mgo, .int mmo, .ref ob])), (oc, .inl (cI, 14, .inl mcf)), (oi, .inl (cI, 3, .inl mif)), (ol, .inl (cI, 24, .inl mlf)), (ob, .inl (cI, mbn, .inl mbf))] H := hP
  have hD : va_D A [(o, .inr (6, [.int (0 : Int32), .int mn, .int mch, .ref oc, .ref oi, .int mcl, .ref ol, .int mgo, .int mmo, .ref ob])), (oc, .inl (cI, 14, .inl mcf)), (oi, .inl (cI, 3, .inl mif)), (ol, .inl (cI, 24, .inl mlf)), (ob, .inl (cI, mbn, .inl mbf))] := hD
  refine lv_aload_n hx hb dX7_unchange_5 rfl (lv_at hl 0 rfl) ?_
  refine va_get (D := (dC, dI)) (ci := 6) (v := .int mch) (C := RX7) (T := TX7) (N := 10) hx hb hts uX7 hown hK hP 0 rfl rfl 2 (by decide) w2 (fun _ h9 => h9) rfl dX7_unchange_6 ?_
  refine lv_if_ne (tgt := 20) hx hb dX7_unchange_9 (by decide) (fun c1 => ?_) (fun c1 => ?_)
  · have hF := (if_neg c1).symm.trans hF
    refine lv_aload_n hx hb dX7_unchange_20 rfl (lv_at hl 0 rfl) ?_
    refine va_get (D := (dC, dI)) (ci := 6) (v := .ref oc) (C := RX7) (T := TX7) (N := 10) hx hb hts uX7 hown hK hP 0 rfl rfl 3 (by decide) w3 (fun _ h9 => h9) rfl dX7_unchange_21 ?_
    refine lv_aload_n hx hb dX7_unchange_24 rfl (lv_at hl 0 rfl) ?_
    refine lv_dup hx hb dX7_unchange_25 rfl ?_
    refine va_get (D := (dC, dI)) (ci := 6) (v := .int mch) (C := RX7) (T := TX7) (N := 10) hx hb hts uX7 hown hK hP 0 rfl rfl 2 (by decide) w2 (fun _ h9 => h9) rfl dX7_unchange_26 ?_
    refine lv_iconst (v := (1 : Int32)) hx hb dX7_unchange_29 (by decide) ?_
    refine lv_isub hx hb dX7_unchange_30 ?_
    refine lv_dup_x1 hx hb dX7_unchange_31 rfl rfl ?_
    refine va_put (D := (dC, dI)) (ci := 6) (v := .int (mch - (1 : Int32))) (ty := .int) (C := RX7) (T := TX7) (N := 10) hx hb hts uX7 tyX7 tyX7_ok nmX7 hown hK hP hD hS 0 rfl rfl 2 (by decide) w2 (fun _ h9 => h9) rfl (by decide +kernel) rfl rfl (Nat.le_of_ble_eq_true rfl) dX7_unchange_32 (fun H locs hP hD hS => ?_)
    have hP : va_P (dC, dI) vwCl [(o, .inr (6, [.int (0 : Int32), .int mn, .int (mch - (1 : Int32)), .ref oc, .ref oi, .int mcl, .ref ol, .int mgo, .int mmo, .ref ob])), (oc, .inl (cI, 14, .inl mcf)), (oi, .inl (cI, 3, .inl mif)), (ol, .inl (cI, 24, .inl mlf)), (ob, .inl (cI, mbn, .inl mbf))] H := hP
    have hD : va_D A [(o, .inr (6, [.int (0 : Int32), .int mn, .int (mch - (1 : Int32)), .ref oc, .ref oi, .int mcl, .ref ol, .int mgo, .int mmo, .ref ob])), (oc, .inl (cI, 14, .inl mcf)), (oi, .inl (cI, 3, .inl mif)), (ol, .inl (cI, 24, .inl mlf)), (ob, .inl (cI, mbn, .inl mbf))] := hD
    obtain ⟨g2, hF⟩ := gd_n hF
    refine va_iald hx hb hK hP 1 0 rfl ht0 g2 dX7_unchange_35 ?_
    obtain rfl := Option.some.inj hF
    exact ct_i hx hb hr hlocks hK hP hD hS () rfl [0, 1, 2, 3, 4] (by decide) rfl (Nat.le_of_ble_eq_true rfl) (Nat.le_of_ble_eq_true rfl) dX7_unchange_36
  · have hF := (if_pos c1).symm.trans hF
    refine lv_aload_n hx hb dX7_unchange_12 rfl (lv_at hl 0 rfl) ?_
    refine lv_iconst (v := (1 : Int32)) hx hb dX7_unchange_13 (by decide) ?_
    obtain ⟨r3, hC4, hF⟩ := gd_b hF
    refine ct_callV (C := RX7) (As := [.int (1 : Int32)]) (rest := []) ⟨hx, hb, hml, hown, hts⟩ (kX7_no l dC dI tys cI ht0 o oc oi ol ob (0 : Int32) mn mch mcl mgo mmo mcf mif mlf mbn mbf (1 : Int32) r3 hC4) (cwV 1 hts gX7_unchange_X7_no rfl rfl rfl (by decide +kernel) ⟨Nat.le_of_ble_eq_true rfl, Nat.le_of_ble_eq_true rfl⟩) hE hK hP hD hS hA [0, 1, 2, 3, 4] [] (by decide) rfl (by decide) (wr := []) rfl (by decide) (ci := 6) (T := TX7) (N := 10) (q0 := 0) rfl rfl hl.1 rfl rfl (Nat.le_of_ble_eq_true rfl) dX7_unchange_14 ⟨(Nat.le_of_ble_eq_true rfl), (Nat.le_of_ble_eq_true rfl)⟩ (fun i5 H locs hP hD hS => ?_)
    have hP : va_P (dC, dI) vwCl [(o, .inr (6, [.int r3.2, .int mn, .int mch, .ref oc, .ref oi, .int mcl, .ref ol, .int mgo, .int mmo, .ref ob])), (oc, .inl (cI, 14, .inl mcf)), (oi, .inl (cI, 3, .inl mif)), (ol, .inl (cI, 24, .inl mlf)), (ob, .inl (cI, mbn, .inl mbf))] H := hP
    have hD : va_D A [(o, .inr (6, [.int r3.2, .int mn, .int mch, .ref oc, .ref oi, .int mcl, .ref ol, .int mgo, .int mmo, .ref ob])), (oc, .inl (cI, 14, .inl mcf)), (oi, .inl (cI, 3, .inl mif)), (ol, .inl (cI, 24, .inl mlf)), (ob, .inl (cI, mbn, .inl mbf))] := hD
    refine lv_goto (tgt := 36) hx hb dX7_unchange_17 (by decide) ?_
    obtain rfl := Option.some.inj hF
    exact ct_i hx hb hr hlocks hK hP hD hS () rfl [0, 1, 2, 3, 4] (by decide) rfl (Nat.le_of_ble_eq_true rfl) (Nat.le_of_ble_eq_true rfl) dX7_unchange_36

def fX7_at (mn : Int32) (mif : (Nat → Int32)) (p0 : Int32) (p1 : Int32) : Option (Int32 × Int32 × (Nat → Int32)) := (fX7_isIn p0 (1 : Int32) (2 : Int32)).bind (fun r1 => if r1 = 0 then ((fX7_no (1 : Int32)).bind (fun r5 => some (r5.1, r5.2, mif))) else ((fX7_isChangeNow mn p1).bind (fun r8 => if r8 = 0 then ((fX7_no (1 : Int32)).bind (fun r14 => some (r14.1, r14.2, mif))) else (if (p0 < 0 ∨ 3 ≤ p0.toNatClampNeg) then none else (if (p0 < 0 ∨ 3 ≤ p0.toNatClampNeg) then none else (some ((mif p0.toNatClampNeg), (0 : Int32), (upd mif p0.toNatClampNeg p1))))))))
abbrev rmX7_at : Room := { frames := 2, cells := 0, slots := 0, locals := 45 }
set_option maxHeartbeats 4000000 in
set_option maxRecDepth 100000 in
theorem kX7_at (l : Launch) (dC : Nat → ClassId) (dI : Nat → Nat → Nat) (tys : List (ClassId × FieldType)) (cI : ClassId) (ht0 : tys[0]? = some (cI, .int)) (o oc oi ol ob : Nat) (mth : Int32) (mn : Int32) (mch : Int32) (mcl : Int32) (mgo : Int32) (mmo : Int32) (mcf : (Nat → Int32)) (mif : (Nat → Int32)) (mlf : (Nat → Int32)) (mbn : Nat) (mbf : (Nat → Int32)) (p0 : Int32) (p1 : Int32) (r : (Int32 × Int32 × (Nat → Int32))) (hF : fX7_at mn mif p0 p1 = some r) : ct l (dC, dI) tys yX7_at wsX7_at rmX7_at [.ref o, .int p0, .int p1] [(o, .inr (6, [.int mth, .int mn, .int mch, .ref oc, .ref oi, .int mcl, .ref ol, .int mgo, .int mmo, .ref ob])), (oc, .inl (cI, 14, .inl mcf)), (oi, .inl (cI, 3, .inl mif)), (ol, .inl (cI, 24, .inl mlf)), (ob, .inl (cI, mbn, .inl mbf))] (fun _ : Unit => some (.int r.1)) (fun _ : Unit => [(o, .inr (6, [.int r.2.1, .int mn, .int mch, .ref oc, .ref oi, .int mcl, .ref ol, .int mgo, .int mmo, .ref ob])), (oc, .inl (cI, 14, .inl mcf)), (oi, .inl (cI, 3, .inl r.2.2)), (ol, .inl (cI, 24, .inl mlf)), (ob, .inl (cI, mbn, .inl mbf))]) := by
  refine ct_of (cc := cX7_at) (maxL := 4) (ret := (some .int)) (by decide) rfl (Nat.le_of_ble_eq_true rfl) ?_
  intro p e s m below meth c A ls hx hb hr hml hts hown hlocks hname hE hK hP hD hA hS hl
  have hown : s.vm.findClass RX7 = some m.cls := hown
  have hl : lv_has ls 4 [(0, .ref o), (1, .int p0), (2, .int p1)] := hl
  unfold fX7_at at hF
  have uX7 : ∀ w ∈ wsX70, w ∈ wsX7_at := (fun _ h => (List.mem_cons_of_mem _ (List.mem_append_right _ h)))
  have w1 := hts (.fieldLink RX7 36 "BellfounderTowerModel" "thrown" "I") (List.mem_cons_of_mem _ (List.mem_append_left _ (List.mem_of_getElem? (i := 0) rfl)))
  have w2 := hts (.fieldLink RX7 13 "BellfounderTowerModel" "instead" "[I") (List.mem_cons_of_mem _ (List.mem_append_left _ (List.mem_of_getElem? (i := 1) rfl)))
  refine lv_aload_n hx hb dX7_at_0 rfl (lv_at hl 0 rfl) ?_
  refine lv_iconst (v := (0 : Int32)) hx hb dX7_at_1 (by decide) ?_
  refine va_put (D := (dC, dI)) (ci := 6) (v := .int (0 : Int32)) (ty := .int) (C := RX7) (T := TX7) (N := 10) hx hb hts uX7 tyX7 tyX7_ok nmX7 hown hK hP hD hS 0 rfl rfl 0 (by decide) w1 (fun _ h9 => h9) rfl (by decide +kernel) rfl rfl (Nat.le_of_ble_eq_true rfl) dX7_at_2 (fun H locs hP hD hS => ?_)
  have hP : va_P (dC, dI) vwCl [(o, .inr (6, [.int (0 : Int32), .int mn, .int mch, .ref oc, .ref oi, .int mcl, .ref ol, .int mgo, .int mmo, .ref ob])), (oc, .inl (cI, 14, .inl mcf)), (oi, .inl (cI, 3, .inl mif)), (ol, .inl (cI, 24, .inl mlf)), (ob, .inl (cI, mbn, .inl mbf))] H := hP
  have hD : va_D A [(o, .inr (6, [.int (0 : Int32), .int mn, .int mch, .ref oc, .ref oi, .int mcl, .ref ol, .int mgo, .int mmo, .ref ob])), (oc, .inl (cI, 14, .inl mcf)), (oi, .inl (cI, 3, .inl mif)), (ol, .inl (cI, 24, .inl mlf)), (ob, .inl (cI, mbn, .inl mbf))] := hD
  refine lv_iload_n hx hb dX7_at_5 rfl (lv_at hl 1 rfl) ?_
  refine lv_iconst (v := (1 : Int32)) hx hb dX7_at_6 (by decide) ?_
  refine lv_iconst (v := (2 : Int32)) hx hb dX7_at_7 (by decide) ?_
  obtain ⟨r1, hC2, hF⟩ := gd_b hF
  refine ct_callS (As := [.int p0, .int (1 : Int32), .int (2 : Int32)]) (rest := []) ⟨hx, hb, hml, hown, hts⟩ (kX7_isIn l dC dI tys cI ht0 p0 (1 : Int32) (2 : Int32) r1 hC2) (va_cwS 3 hts gX7_at_X7_isIn rfl rfl rfl (by decide +kernel) ⟨Nat.le_of_ble_eq_true rfl, Nat.le_of_ble_eq_true rfl⟩) hE hK hP hD hS hA [] [0, 1, 2, 3, 4] (by decide) rfl (by decide) (wr := [(o, .inr (6, [.int (0 : Int32), .int mn, .int mch, .ref oc, .ref oi, .int mcl, .ref ol, .int mgo, .int mmo, .ref ob])), (oc, .inl (cI, 14, .inl mcf)), (oi, .inl (cI, 3, .inl mif)), (ol, .inl (cI, 24, .inl mlf)), (ob, .inl (cI, mbn, .inl mbf))]) rfl (by decide) hl.1 rfl rfl (Nat.le_of_ble_eq_true rfl) dX7_at_8 ⟨(Nat.le_of_ble_eq_true rfl), (Nat.le_of_ble_eq_true rfl)⟩ (fun i3 H locs hP hD hS => ?_)
  have hP : va_P (dC, dI) vwCl [(o, .inr (6, [.int (0 : Int32), .int mn, .int mch, .ref oc, .ref oi, .int mcl, .ref ol, .int mgo, .int mmo, .ref ob])), (oc, .inl (cI, 14, .inl mcf)), (oi, .inl (cI, 3, .inl mif)), (ol, .inl (cI, 24, .inl mlf)), (ob, .inl (cI, mbn, .inl mbf))] H := hP
  have hD : va_D A [(o, .inr (6, [.int (0 : Int32), .int mn, .int mch, .ref oc, .ref oi, .int mcl, .ref ol, .int mgo, .int mmo, .ref ob])), (oc, .inl (cI, 14, .inl mcf)), (oi, .inl (cI, 3, .inl mif)), (ol, .inl (cI, 24, .inl mlf)), (ob, .inl (cI, mbn, .inl mbf))] := hD
  refine lv_if_eq (tgt := 22) hx hb dX7_at_11 (by decide) (fun c4 => ?_) (fun c4 => ?_)
  · have hF := (if_pos c4).symm.trans hF
    refine lv_aload_n hx hb dX7_at_22 rfl (lv_at hl 0 rfl) ?_
    refine lv_iconst (v := (1 : Int32)) hx hb dX7_at_23 (by decide) ?_
    obtain ⟨r5, hC6, hF⟩ := gd_b hF
    refine ct_callV (C := RX7) (As := [.int (1 : Int32)]) (rest := []) ⟨hx, hb, hml, hown, hts⟩ (kX7_no l dC dI tys cI ht0 o oc oi ol ob (0 : Int32) mn mch mcl mgo mmo mcf mif mlf mbn mbf (1 : Int32) r5 hC6) (cwV 1 hts gX7_at_X7_no rfl rfl rfl (by decide +kernel) ⟨Nat.le_of_ble_eq_true rfl, Nat.le_of_ble_eq_true rfl⟩) hE hK hP hD hS hA [0, 1, 2, 3, 4] [] (by decide) rfl (by decide) (wr := []) rfl (by decide) (ci := 6) (T := TX7) (N := 10) (q0 := 0) rfl rfl hl.1 rfl rfl (Nat.le_of_ble_eq_true rfl) dX7_at_24 ⟨(Nat.le_of_ble_eq_true rfl), (Nat.le_of_ble_eq_true rfl)⟩ (fun i7 H locs hP hD hS => ?_)
    have hP : va_P (dC, dI) vwCl [(o, .inr (6, [.int r5.2, .int mn, .int mch, .ref oc, .ref oi, .int mcl, .ref ol, .int mgo, .int mmo, .ref ob])), (oc, .inl (cI, 14, .inl mcf)), (oi, .inl (cI, 3, .inl mif)), (ol, .inl (cI, 24, .inl mlf)), (ob, .inl (cI, mbn, .inl mbf))] H := hP
    have hD : va_D A [(o, .inr (6, [.int r5.2, .int mn, .int mch, .ref oc, .ref oi, .int mcl, .ref ol, .int mgo, .int mmo, .ref ob])), (oc, .inl (cI, 14, .inl mcf)), (oi, .inl (cI, 3, .inl mif)), (ol, .inl (cI, 24, .inl mlf)), (ob, .inl (cI, mbn, .inl mbf))] := hD
    obtain rfl := Option.some.inj hF
    exact ct_i hx hb hr hlocks hK hP hD hS () rfl [0, 1, 2, 3, 4] (by decide) rfl (Nat.le_of_ble_eq_true rfl) (Nat.le_of_ble_eq_true rfl) dX7_at_27
  · have hF := (if_neg c4).symm.trans hF
    refine lv_aload_n hx hb dX7_at_14 rfl (lv_at hl 0 rfl) ?_
    refine lv_iload_n hx hb dX7_at_15 rfl (lv_at hl 2 rfl) ?_
    obtain ⟨r8, hC9, hF⟩ := gd_b hF
    refine ct_callV (C := RX7) (As := [.int p1]) (rest := []) ⟨hx, hb, hml, hown, hts⟩ (kX7_isChangeNow l dC dI tys cI ht0 o oc oi ol ob (0 : Int32) mn mch mcl mgo mmo mcf mif mlf mbn mbf p1 r8 hC9) (cwV 1 hts gX7_at_X7_isChangeNow rfl rfl rfl (by decide +kernel) ⟨Nat.le_of_ble_eq_true rfl, Nat.le_of_ble_eq_true rfl⟩) hE hK hP hD hS hA [0, 1, 2, 3, 4] [] (by decide) rfl (by decide) (wr := []) rfl (by decide) (ci := 6) (T := TX7) (N := 10) (q0 := 0) rfl rfl hl.1 rfl rfl (Nat.le_of_ble_eq_true rfl) dX7_at_16 ⟨(Nat.le_of_ble_eq_true rfl), (Nat.le_of_ble_eq_true rfl)⟩ (fun i10 H locs hP hD hS => ?_)
    have hP : va_P (dC, dI) vwCl [(o, .inr (6, [.int (0 : Int32), .int mn, .int mch, .ref oc, .ref oi, .int mcl, .ref ol, .int mgo, .int mmo, .ref ob])), (oc, .inl (cI, 14, .inl mcf)), (oi, .inl (cI, 3, .inl mif)), (ol, .inl (cI, 24, .inl mlf)), (ob, .inl (cI, mbn, .inl mbf))] H := hP
    have hD : va_D A [(o, .inr (6, [.int (0 : Int32), .int mn, .int mch, .ref oc, .ref oi, .int mcl, .ref ol, .int mgo, .int mmo, .ref ob])), (oc, .inl (cI, 14, .inl mcf)), (oi, .inl (cI, 3, .inl mif)), (ol, .inl (cI, 24, .inl mlf)), (ob, .inl (cI, mbn, .inl mbf))] := hD
    refine lv_if_ne (tgt := 28) hx hb dX7_at_19 (by decide) (fun c11 => ?_) (fun c11 => ?_)
    · have hF := (if_neg c11).symm.trans hF
      refine lv_aload_n hx hb dX7_at_28 rfl (lv_at hl 0 rfl) ?_
      refine va_get (D := (dC, dI)) (ci := 6) (v := .ref oi) (C := RX7) (T := TX7) (N := 10) hx hb hts uX7 hown hK hP 0 rfl rfl 4 (by decide) w2 (fun _ h9 => h9) rfl dX7_at_29 ?_
      refine lv_iload_n hx hb dX7_at_32 rfl (lv_at hl 1 rfl) ?_
      obtain ⟨g12, hF⟩ := gd_n hF
      refine va_iald hx hb hK hP 2 0 rfl ht0 g12 dX7_at_33 ?_
      refine lv_istore_n (lv' := [(3, .int (mif p0.toNatClampNeg)), (0, .ref o), (1, .int p0), (2, .int p1)]) hx hb dX7_at_34 rfl hl (by decide) rfl (fun ls hl => ?_)
      refine lv_aload_n hx hb dX7_at_35 rfl (lv_at hl 1 rfl) ?_
      refine va_get (D := (dC, dI)) (ci := 6) (v := .ref oi) (C := RX7) (T := TX7) (N := 10) hx hb hts uX7 hown hK hP 0 rfl rfl 4 (by decide) w2 (fun _ h9 => h9) rfl dX7_at_36 ?_
      refine lv_iload_n hx hb dX7_at_39 rfl (lv_at hl 2 rfl) ?_
      refine lv_iload_n hx hb dX7_at_40 rfl (lv_at hl 3 rfl) ?_
      obtain ⟨g13, hF⟩ := gd_n hF
      refine va_iast hx hb hK hP hD hS 2 0 rfl ht0 g13 dX7_at_41 (fun H locs hP hD hS => ?_)
      have hP : va_P (dC, dI) vwCl [(o, .inr (6, [.int (0 : Int32), .int mn, .int mch, .ref oc, .ref oi, .int mcl, .ref ol, .int mgo, .int mmo, .ref ob])), (oc, .inl (cI, 14, .inl mcf)), (oi, .inl (cI, 3, .inl (upd mif p0.toNatClampNeg p1))), (ol, .inl (cI, 24, .inl mlf)), (ob, .inl (cI, mbn, .inl mbf))] H := hP
      have hD : va_D A [(o, .inr (6, [.int (0 : Int32), .int mn, .int mch, .ref oc, .ref oi, .int mcl, .ref ol, .int mgo, .int mmo, .ref ob])), (oc, .inl (cI, 14, .inl mcf)), (oi, .inl (cI, 3, .inl (upd mif p0.toNatClampNeg p1))), (ol, .inl (cI, 24, .inl mlf)), (ob, .inl (cI, mbn, .inl mbf))] := hD
      refine lv_iload_n hx hb dX7_at_42 rfl (lv_at hl 0 rfl) ?_
      obtain rfl := Option.some.inj hF
      exact ct_i hx hb hr hlocks hK hP hD hS () rfl [0, 1, 2, 3, 4] (by decide) rfl (Nat.le_of_ble_eq_true rfl) (Nat.le_of_ble_eq_true rfl) dX7_at_43
    · have hF := (if_pos c11).symm.trans hF
      refine lv_aload_n hx hb dX7_at_22 rfl (lv_at hl 0 rfl) ?_
      refine lv_iconst (v := (1 : Int32)) hx hb dX7_at_23 (by decide) ?_
      obtain ⟨r14, hC15, hF⟩ := gd_b hF
      refine ct_callV (C := RX7) (As := [.int (1 : Int32)]) (rest := []) ⟨hx, hb, hml, hown, hts⟩ (kX7_no l dC dI tys cI ht0 o oc oi ol ob (0 : Int32) mn mch mcl mgo mmo mcf mif mlf mbn mbf (1 : Int32) r14 hC15) (cwV 1 hts gX7_at_X7_no rfl rfl rfl (by decide +kernel) ⟨Nat.le_of_ble_eq_true rfl, Nat.le_of_ble_eq_true rfl⟩) hE hK hP hD hS hA [0, 1, 2, 3, 4] [] (by decide) rfl (by decide) (wr := []) rfl (by decide) (ci := 6) (T := TX7) (N := 10) (q0 := 0) rfl rfl hl.1 rfl rfl (Nat.le_of_ble_eq_true rfl) dX7_at_24 ⟨(Nat.le_of_ble_eq_true rfl), (Nat.le_of_ble_eq_true rfl)⟩ (fun i16 H locs hP hD hS => ?_)
      have hP : va_P (dC, dI) vwCl [(o, .inr (6, [.int r14.2, .int mn, .int mch, .ref oc, .ref oi, .int mcl, .ref ol, .int mgo, .int mmo, .ref ob])), (oc, .inl (cI, 14, .inl mcf)), (oi, .inl (cI, 3, .inl mif)), (ol, .inl (cI, 24, .inl mlf)), (ob, .inl (cI, mbn, .inl mbf))] H := hP
      have hD : va_D A [(o, .inr (6, [.int r14.2, .int mn, .int mch, .ref oc, .ref oi, .int mcl, .ref ol, .int mgo, .int mmo, .ref ob])), (oc, .inl (cI, 14, .inl mcf)), (oi, .inl (cI, 3, .inl mif)), (ol, .inl (cI, 24, .inl mlf)), (ob, .inl (cI, mbn, .inl mbf))] := hD
      obtain rfl := Option.some.inj hF
      exact ct_i hx hb hr hlocks hK hP hD hS () rfl [0, 1, 2, 3, 4] (by decide) rfl (Nat.le_of_ble_eq_true rfl) (Nat.le_of_ble_eq_true rfl) dX7_at_27

def fX7_isChange (mn : Int32) (p0 : Int32) : Option Int32 := (fX7_isChangeNow mn p0).bind (fun r1 => if (r1 = 0 ∨ r1 = 1) then (some (r1)) else none)
abbrev rmX7_isChange : Room := { frames := 2, cells := 0, slots := 0, locals := 45 }
set_option maxHeartbeats 4000000 in
set_option maxRecDepth 100000 in
theorem kX7_isChange (l : Launch) (dC : Nat → ClassId) (dI : Nat → Nat → Nat) (tys : List (ClassId × FieldType)) (cI : ClassId) (ht0 : tys[0]? = some (cI, .int)) (o oc oi ol ob : Nat) (mth : Int32) (mn : Int32) (mch : Int32) (mcl : Int32) (mgo : Int32) (mmo : Int32) (mcf : (Nat → Int32)) (mif : (Nat → Int32)) (mlf : (Nat → Int32)) (mbn : Nat) (mbf : (Nat → Int32)) (p0 : Int32) (r : Int32) (hF : fX7_isChange mn p0 = some r) : ct l (dC, dI) tys yX7_isChange wsX7_isChange rmX7_isChange [.ref o, .int p0] [(o, .inr (6, [.int mth, .int mn, .int mch, .ref oc, .ref oi, .int mcl, .ref ol, .int mgo, .int mmo, .ref ob])), (oc, .inl (cI, 14, .inl mcf)), (oi, .inl (cI, 3, .inl mif)), (ol, .inl (cI, 24, .inl mlf)), (ob, .inl (cI, mbn, .inl mbf))] (fun _ : Unit => some (.int r)) (fun _ : Unit => [(o, .inr (6, [.int (0 : Int32), .int mn, .int mch, .ref oc, .ref oi, .int mcl, .ref ol, .int mgo, .int mmo, .ref ob])), (oc, .inl (cI, 14, .inl mcf)), (oi, .inl (cI, 3, .inl mif)), (ol, .inl (cI, 24, .inl mlf)), (ob, .inl (cI, mbn, .inl mbf))]) := by
  refine ct_of (cc := cX7_isChange) (maxL := 2) (ret := (some .boolean)) (by decide) rfl (Nat.le_of_ble_eq_true rfl) ?_
  intro p e s m below meth c A ls hx hb hr hml hts hown hlocks hname hE hK hP hD hA hS hl
  have hown : s.vm.findClass RX7 = some m.cls := hown
  have hl : lv_has ls 2 [(0, .ref o), (1, .int p0)] := hl
  unfold fX7_isChange at hF
  have uX7 : ∀ w ∈ wsX70, w ∈ wsX7_isChange := (fun _ h => (List.mem_cons_of_mem _ (List.mem_append_right _ h)))
  have w1 := hts (.fieldLink RX7 36 "BellfounderTowerModel" "thrown" "I") (List.mem_cons_of_mem _ (List.mem_append_left _ (List.mem_of_getElem? (i := 0) rfl)))
  refine lv_aload_n hx hb dX7_isChange_0 rfl (lv_at hl 0 rfl) ?_
  refine lv_iconst (v := (0 : Int32)) hx hb dX7_isChange_1 (by decide) ?_
  refine va_put (D := (dC, dI)) (ci := 6) (v := .int (0 : Int32)) (ty := .int) (C := RX7) (T := TX7) (N := 10) hx hb hts uX7 tyX7 tyX7_ok nmX7 hown hK hP hD hS 0 rfl rfl 0 (by decide) w1 (fun _ h9 => h9) rfl (by decide +kernel) rfl rfl (Nat.le_of_ble_eq_true rfl) dX7_isChange_2 (fun H locs hP hD hS => ?_)
  have hP : va_P (dC, dI) vwCl [(o, .inr (6, [.int (0 : Int32), .int mn, .int mch, .ref oc, .ref oi, .int mcl, .ref ol, .int mgo, .int mmo, .ref ob])), (oc, .inl (cI, 14, .inl mcf)), (oi, .inl (cI, 3, .inl mif)), (ol, .inl (cI, 24, .inl mlf)), (ob, .inl (cI, mbn, .inl mbf))] H := hP
  have hD : va_D A [(o, .inr (6, [.int (0 : Int32), .int mn, .int mch, .ref oc, .ref oi, .int mcl, .ref ol, .int mgo, .int mmo, .ref ob])), (oc, .inl (cI, 14, .inl mcf)), (oi, .inl (cI, 3, .inl mif)), (ol, .inl (cI, 24, .inl mlf)), (ob, .inl (cI, mbn, .inl mbf))] := hD
  refine lv_aload_n hx hb dX7_isChange_5 rfl (lv_at hl 0 rfl) ?_
  refine lv_iload_n hx hb dX7_isChange_6 rfl (lv_at hl 1 rfl) ?_
  obtain ⟨r1, hC2, hF⟩ := gd_b hF
  refine ct_callV (C := RX7) (As := [.int p0]) (rest := []) ⟨hx, hb, hml, hown, hts⟩ (kX7_isChangeNow l dC dI tys cI ht0 o oc oi ol ob (0 : Int32) mn mch mcl mgo mmo mcf mif mlf mbn mbf p0 r1 hC2) (cwV 1 hts gX7_isChange_X7_isChangeNow rfl rfl rfl (by decide +kernel) ⟨Nat.le_of_ble_eq_true rfl, Nat.le_of_ble_eq_true rfl⟩) hE hK hP hD hS hA [0, 1, 2, 3, 4] [] (by decide) rfl (by decide) (wr := []) rfl (by decide) (ci := 6) (T := TX7) (N := 10) (q0 := 0) rfl rfl hl.1 rfl rfl (Nat.le_of_ble_eq_true rfl) dX7_isChange_7 ⟨(Nat.le_of_ble_eq_true rfl), (Nat.le_of_ble_eq_true rfl)⟩ (fun i3 H locs hP hD hS => ?_)
  have hP : va_P (dC, dI) vwCl [(o, .inr (6, [.int (0 : Int32), .int mn, .int mch, .ref oc, .ref oi, .int mcl, .ref ol, .int mgo, .int mmo, .ref ob])), (oc, .inl (cI, 14, .inl mcf)), (oi, .inl (cI, 3, .inl mif)), (ol, .inl (cI, 24, .inl mlf)), (ob, .inl (cI, mbn, .inl mbf))] H := hP
  have hD : va_D A [(o, .inr (6, [.int (0 : Int32), .int mn, .int mch, .ref oc, .ref oi, .int mcl, .ref ol, .int mgo, .int mmo, .ref ob])), (oc, .inl (cI, 14, .inl mcf)), (oi, .inl (cI, 3, .inl mif)), (ol, .inl (cI, 24, .inl mlf)), (ob, .inl (cI, mbn, .inl mbf))] := hD
  obtain ⟨g4, hF⟩ := gd_p hF
  obtain rfl := Option.some.inj hF
  exact ct_z hx hb hr hlocks hK hP hD hS () (gd_z g4) rfl [0, 1, 2, 3, 4] (by decide) rfl (Nat.le_of_ble_eq_true rfl) (Nat.le_of_ble_eq_true rfl) dX7_isChange_10

def fX7_hunts_X4  (x2_4 : Int32) (x1_4 : Int32) : Option Int32 := some (x1_4)
def fX7_hunts_X17 (rec4 : Int32 → Int32 → Option Int32) (x2_4 : Int32) (x1_4 : Int32) (x4_17 : Int32) (x3_17 : Int32) : Option Int32 := if x3_17 = 0 then (rec4 (x2_4 + (1 : Int32)) (x1_4 + (0 : Int32))) else (rec4 (x2_4 + (1 : Int32)) (x1_4 + (1 : Int32)))
def fX7_hunts_L17 (mn : Int32) (mch : Int32) (mcf : (Nat → Int32)) (mif : (Nat → Int32)) (x2_4 : Int32) (K17 : Int32 → Int32 → Option Int32) : Nat → Int32 → Int32 → Option Int32
  | 0, _, _ => none
  | n + 1, x4_17, x3_17 => if (3 : Int32) ≤ x4_17 then (K17 x4_17 x3_17) else ((fX7_leadOrder mn mch mcf mif x4_17).bind (fun r4 => if (x2_4 < 0 ∨ r4.2 ≤ x2_4.toNatClampNeg) then none else (if (r4.1 x2_4.toNatClampNeg) = x2_4 then ((fX7_hunts_L17 mn mch mcf mif x2_4 K17 n) (x4_17 + (1 : Int32)) (x3_17 &&& (1 : Int32))) else ((fX7_hunts_L17 mn mch mcf mif x2_4 K17 n) (x4_17 + (1 : Int32)) (x3_17 &&& (0 : Int32))))))
def fX7_hunts_L4 (mn : Int32) (mch : Int32) (mcf : (Nat → Int32)) (mif : (Nat → Int32)) (K4 : Int32 → Int32 → Option Int32) : Nat → Int32 → Int32 → Option Int32
  | 0, _, _ => none
  | n + 1, x2_4, x1_4 => if mn ≤ x2_4 then (K4 x2_4 x1_4) else (fX7_hunts_L17 mn mch mcf mif x2_4 (fX7_hunts_X17 (fX7_hunts_L4 mn mch mcf mif K4 n) x2_4 x1_4) 8 (0 : Int32) (1 : Int32))
def fX7_hunts (mn : Int32) (mch : Int32) (mcf : (Nat → Int32)) (mif : (Nat → Int32)) : Option Int32 := fX7_hunts_L4 mn mch mcf mif fX7_hunts_X4 8 (0 : Int32) (0 : Int32)
abbrev rmX7_hunts : Room := { frames := 4, cells := 1984, slots := 13888, locals := 90 }
set_option maxHeartbeats 4000000 in
set_option maxRecDepth 100000 in
theorem kX7_hunts (l : Launch) (dC : Nat → ClassId) (dI : Nat → Nat → Nat) (tys : List (ClassId × FieldType)) (cI : ClassId) (ht0 : tys[0]? = some (cI, .int)) (o oc oi ol ob : Nat) (mth : Int32) (mn : Int32) (mch : Int32) (mcl : Int32) (mgo : Int32) (mmo : Int32) (mcf : (Nat → Int32)) (mif : (Nat → Int32)) (mlf : (Nat → Int32)) (mbn : Nat) (mbf : (Nat → Int32)) (r : Int32) (hF : fX7_hunts mn mch mcf mif = some r) : ct l (dC, dI) tys yX7_hunts wsX7_hunts rmX7_hunts [.ref o] [(o, .inr (6, [.int mth, .int mn, .int mch, .ref oc, .ref oi, .int mcl, .ref ol, .int mgo, .int mmo, .ref ob])), (oc, .inl (cI, 14, .inl mcf)), (oi, .inl (cI, 3, .inl mif)), (ol, .inl (cI, 24, .inl mlf)), (ob, .inl (cI, mbn, .inl mbf))] (fun _ : Unit => some (.int r)) (fun _ : Unit => [(o, .inr (6, [.int mth, .int mn, .int mch, .ref oc, .ref oi, .int mcl, .ref ol, .int mgo, .int mmo, .ref ob])), (oc, .inl (cI, 14, .inl mcf)), (oi, .inl (cI, 3, .inl mif)), (ol, .inl (cI, 24, .inl mlf)), (ob, .inl (cI, mbn, .inl mbf))]) := by
  refine ct_of (cc := cX7_hunts) (maxL := 5) (ret := (some .int)) (by decide) rfl (Nat.le_of_ble_eq_true rfl) ?_
  intro p e s m below meth c A ls hx hb hr hml hts hown hlocks hname hE hK hP hD hA hS hl
  have hown : s.vm.findClass RX7 = some m.cls := hown
  have hl : lv_has ls 5 [(0, .ref o)] := hl
  unfold fX7_hunts at hF
  have uX7 : ∀ w ∈ wsX70, w ∈ wsX7_hunts := (fun _ h => (List.mem_cons_of_mem _ (List.mem_append_right _ h)))
  have w1 := hts (.fieldLink RX7 26 "BellfounderTowerModel" "n" "I") (List.mem_cons_of_mem _ (List.mem_append_left _ (List.mem_append_left _ (List.mem_of_getElem? (i := 0) rfl))))
  refine lv_iconst (v := (0 : Int32)) hx hb dX7_hunts_0 (by decide) ?_
  refine lv_istore_n (lv' := [(1, .int (0 : Int32)), (0, .ref o)]) hx hb dX7_hunts_1 rfl hl (by decide) rfl (fun ls hl => ?_)
  refine lv_iconst (v := (0 : Int32)) hx hb dX7_hunts_2 (by decide) ?_
  refine lv_istore_n (lv' := [(2, .int (0 : Int32)), (1, .int (0 : Int32)), (0, .ref o)]) hx hb dX7_hunts_3 rfl hl (by decide) rfl (fun ls hl => ?_)
  have X4 : ∀ (x2_4 : Int32) (x1_4 : Int32) (H : Heap) (locs : List Loc) (ls : Array Slot), fX7_hunts_X4 x2_4 x1_4 = some r → va_P (dC, dI) vwCl [(o, .inr (6, [.int mth, .int mn, .int mch, .ref oc, .ref oi, .int mcl, .ref ol, .int mgo, .int mmo, .ref ob])), (oc, .inl (cI, 14, .inl mcf)), (oi, .inl (cI, 3, .inl mif)), (ol, .inl (cI, 24, .inl mlf)), (ob, .inl (cI, mbn, .inl mbf))] H → va_D A [(o, .inr (6, [.int mth, .int mn, .int mch, .ref oc, .ref oi, .int mcl, .ref ol, .int mgo, .int mmo, .ref ob])), (oc, .inl (cI, 14, .inl mcf)), (oi, .inl (cI, 3, .inl mif)), (ol, .inl (cI, 24, .inl mlf)), (ob, .inl (cI, mbn, .inl mbf))] → va_S A s.heap H locs → lv_has ls 5 [(2, .int x2_4), (1, .int x1_4), (0, .ref o)] → W p l e rmX7_hunts s m ([.ref o] : List Value).toArray below meth c H locs 1984 13888 (MQ below (ct_Q (dC, dI) tys (fun _ : Unit => some (.int r)) (fun _ : Unit => [(o, .inr (6, [.int mth, .int mn, .int mch, .ref oc, .ref oi, .int mcl, .ref ol, .int mgo, .int mmo, .ref ob])), (oc, .inl (cI, 14, .inl mcf)), (oi, .inl (cI, 3, .inl mif)), (ol, .inl (cI, 24, .inl mlf)), (ob, .inl (cI, mbn, .inl mbf))]) A) ([.ref o] : List Value).toArray s rmX7_hunts.cells rmX7_hunts.slots A) (F0 m 67 ls []) := by
    intro x2_4 x1_4 H locs ls hF hP hD hS hl
    unfold fX7_hunts_X4 at hF
    refine lv_iload_n hx hb dX7_hunts_67 rfl (lv_at hl 1 rfl) ?_
    obtain rfl := Option.some.inj hF
    exact ct_i hx hb hr hlocks hK hP hD hS () rfl [0, 1, 2, 3, 4] (by decide) rfl (Nat.le_of_ble_eq_true rfl) (Nat.le_of_ble_eq_true rfl) dX7_hunts_68
  have L4 : ∀ (n4 : Nat) (x2_4 : Int32) (x1_4 : Int32) (H : Heap) (locs : List Loc) (ls : Array Slot) (cc4 ss4 : Nat), cc4 + n4 * 248 ≤ 1984 → ss4 + n4 * 1736 ≤ 13888 → fX7_hunts_L4 mn mch mcf mif fX7_hunts_X4 n4 x2_4 x1_4 = some r → va_P (dC, dI) vwCl [(o, .inr (6, [.int mth, .int mn, .int mch, .ref oc, .ref oi, .int mcl, .ref ol, .int mgo, .int mmo, .ref ob])), (oc, .inl (cI, 14, .inl mcf)), (oi, .inl (cI, 3, .inl mif)), (ol, .inl (cI, 24, .inl mlf)), (ob, .inl (cI, mbn, .inl mbf))] H → va_D A [(o, .inr (6, [.int mth, .int mn, .int mch, .ref oc, .ref oi, .int mcl, .ref ol, .int mgo, .int mmo, .ref ob])), (oc, .inl (cI, 14, .inl mcf)), (oi, .inl (cI, 3, .inl mif)), (ol, .inl (cI, 24, .inl mlf)), (ob, .inl (cI, mbn, .inl mbf))] → va_S A s.heap H locs → lv_has ls 5 [(2, .int x2_4), (1, .int x1_4), (0, .ref o)] → W p l e rmX7_hunts s m ([.ref o] : List Value).toArray below meth c H locs cc4 ss4 (MQ below (ct_Q (dC, dI) tys (fun _ : Unit => some (.int r)) (fun _ : Unit => [(o, .inr (6, [.int mth, .int mn, .int mch, .ref oc, .ref oi, .int mcl, .ref ol, .int mgo, .int mmo, .ref ob])), (oc, .inl (cI, 14, .inl mcf)), (oi, .inl (cI, 3, .inl mif)), (ol, .inl (cI, 24, .inl mlf)), (ob, .inl (cI, mbn, .inl mbf))]) A) ([.ref o] : List Value).toArray s rmX7_hunts.cells rmX7_hunts.slots A) (F0 m 4 ls []) := by
    intro n4
    induction n4 with
    | zero => intro x2_4 x1_4 H locs ls cc4 ss4 hcc4 hss4 hF; rw [fX7_hunts_L4] at hF; cases hF
    | succ n4 ih4 =>
      intro x2_4 x1_4 H locs ls cc4 ss4 hcc4 hss4 hF hP hD hS hl
      rw [fX7_hunts_L4] at hF
      refine lv_iload_n hx hb dX7_hunts_4 rfl (lv_at hl 0 rfl) ?_
      refine lv_aload_n hx hb dX7_hunts_5 rfl (lv_at hl 2 rfl) ?_
      refine va_get (D := (dC, dI)) (ci := 6) (v := .int mn) (C := RX7) (T := TX7) (N := 10) hx hb hts uX7 hown hK hP 0 rfl rfl 1 (by decide) w1 (fun _ h9 => h9) rfl dX7_hunts_6 ?_
      refine lv_icmp_ge (tgt := 67) hx hb dX7_hunts_9 (by decide) (fun c1 => ?_) (fun c1 => ?_)
      · have hF := (if_pos c1).symm.trans hF
        refine W.widen (k := 1984) (n := 13888) (al_le (k := 0) (c1 := 248) hcc4 (Nat.le_refl _) (Nat.le_of_ble_eq_true rfl)) (al_le (k := 0) (c1 := 1736) hss4 (Nat.le_refl _) (Nat.le_of_ble_eq_true rfl)) ?_
        exact X4 x2_4 x1_4 _ _ _ hF (hP.sub [0, 1, 2, 3, 4] rfl) (hD.sub [0, 1, 2, 3, 4] (by decide) rfl) hS (lv_sub hl [0, 1, 2] rfl)
      · have hF := (if_neg c1).symm.trans hF
        refine lv_iconst (v := (1 : Int32)) hx hb dX7_hunts_12 (by decide) ?_
        refine lv_istore_n (lv' := [(3, .int (1 : Int32)), (2, .int x2_4), (1, .int x1_4), (0, .ref o)]) hx hb dX7_hunts_13 rfl hl (by decide) rfl (fun ls hl => ?_)
        refine lv_iconst (v := (0 : Int32)) hx hb dX7_hunts_14 (by decide) ?_
        refine lv_istore (lv' := [(4, .int (0 : Int32)), (3, .int (1 : Int32)), (2, .int x2_4), (1, .int x1_4), (0, .ref o)]) hx hb dX7_hunts_15 hl (by decide) rfl (fun ls hl => ?_)
        have X17 : ∀ (x4_17 : Int32) (x3_17 : Int32) (H : Heap) (locs : List Loc) (ls : Array Slot), fX7_hunts_X17 (fX7_hunts_L4 mn mch mcf mif fX7_hunts_X4 n4) x2_4 x1_4 x4_17 x3_17 = some r → va_P (dC, dI) vwCl [(o, .inr (6, [.int mth, .int mn, .int mch, .ref oc, .ref oi, .int mcl, .ref ol, .int mgo, .int mmo, .ref ob])), (oc, .inl (cI, 14, .inl mcf)), (oi, .inl (cI, 3, .inl mif)), (ol, .inl (cI, 24, .inl mlf)), (ob, .inl (cI, mbn, .inl mbf))] H → va_D A [(o, .inr (6, [.int mth, .int mn, .int mch, .ref oc, .ref oi, .int mcl, .ref ol, .int mgo, .int mmo, .ref ob])), (oc, .inl (cI, 14, .inl mcf)), (oi, .inl (cI, 3, .inl mif)), (ol, .inl (cI, 24, .inl mlf)), (ob, .inl (cI, mbn, .inl mbf))] → va_S A s.heap H locs → lv_has ls 5 [(4, .int x4_17), (3, .int x3_17), (2, .int x2_4), (1, .int x1_4), (0, .ref o)] → W p l e rmX7_hunts s m ([.ref o] : List Value).toArray below meth c H locs (cc4 + 248) (ss4 + 1736) (MQ below (ct_Q (dC, dI) tys (fun _ : Unit => some (.int r)) (fun _ : Unit => [(o, .inr (6, [.int mth, .int mn, .int mch, .ref oc, .ref oi, .int mcl, .ref ol, .int mgo, .int mmo, .ref ob])), (oc, .inl (cI, 14, .inl mcf)), (oi, .inl (cI, 3, .inl mif)), (ol, .inl (cI, 24, .inl mlf)), (ob, .inl (cI, mbn, .inl mbf))]) A) ([.ref o] : List Value).toArray s rmX7_hunts.cells rmX7_hunts.slots A) (F0 m 49 ls []) := by
          intro x4_17 x3_17 H locs ls hF hP hD hS hl
          unfold fX7_hunts_X17 at hF
          refine lv_iload_n hx hb dX7_hunts_49 rfl (lv_at hl 3 rfl) ?_
          refine lv_iload_n hx hb dX7_hunts_50 rfl (lv_at hl 1 rfl) ?_
          refine lv_if_eq (tgt := 58) hx hb dX7_hunts_51 (by decide) (fun c2 => ?_) (fun c2 => ?_)
          · have hF := (if_pos c2).symm.trans hF
            refine lv_iconst (v := (0 : Int32)) hx hb dX7_hunts_58 (by decide) ?_
            refine lv_iadd hx hb dX7_hunts_59 ?_
            refine lv_istore_n (lv' := [(1, .int (x1_4 + (0 : Int32))), (4, .int x4_17), (3, .int x3_17), (2, .int x2_4), (0, .ref o)]) hx hb dX7_hunts_60 rfl hl (by decide) rfl (fun ls hl => ?_)
            refine lv_iinc (v := x2_4 + (1 : Int32)) (lv' := [(2, .int (x2_4 + (1 : Int32))), (1, .int (x1_4 + (0 : Int32))), (4, .int x4_17), (3, .int x3_17), (0, .ref o)]) hx hb dX7_hunts_61 hl (k := 3) rfl rfl (by decide) rfl (fun ls hl => ?_)
            refine lv_goto (tgt := 4) hx hb dX7_hunts_64 (by decide) ?_
            exact ih4 (x2_4 + (1 : Int32)) (x1_4 + (0 : Int32)) _ _ _ (cc4 + 248) (ss4 + 1736) (al_back (k := 248) hcc4 (Nat.le_of_ble_eq_true rfl)) (al_back (k := 1736) hss4 (Nat.le_of_ble_eq_true rfl)) hF (hP.sub [0, 1, 2, 3, 4] rfl) (hD.sub [0, 1, 2, 3, 4] (by decide) rfl) hS (lv_sub hl [0, 1, 4] rfl)
          · have hF := (if_neg c2).symm.trans hF
            refine lv_iconst (v := (1 : Int32)) hx hb dX7_hunts_54 (by decide) ?_
            refine lv_goto (tgt := 59) hx hb dX7_hunts_55 (by decide) ?_
            refine lv_iadd hx hb dX7_hunts_59 ?_
            refine lv_istore_n (lv' := [(1, .int (x1_4 + (1 : Int32))), (4, .int x4_17), (3, .int x3_17), (2, .int x2_4), (0, .ref o)]) hx hb dX7_hunts_60 rfl hl (by decide) rfl (fun ls hl => ?_)
            refine lv_iinc (v := x2_4 + (1 : Int32)) (lv' := [(2, .int (x2_4 + (1 : Int32))), (1, .int (x1_4 + (1 : Int32))), (4, .int x4_17), (3, .int x3_17), (0, .ref o)]) hx hb dX7_hunts_61 hl (k := 3) rfl rfl (by decide) rfl (fun ls hl => ?_)
            refine lv_goto (tgt := 4) hx hb dX7_hunts_64 (by decide) ?_
            exact ih4 (x2_4 + (1 : Int32)) (x1_4 + (1 : Int32)) _ _ _ (cc4 + 248) (ss4 + 1736) (al_back (k := 248) hcc4 (Nat.le_of_ble_eq_true rfl)) (al_back (k := 1736) hss4 (Nat.le_of_ble_eq_true rfl)) hF (hP.sub [0, 1, 2, 3, 4] rfl) (hD.sub [0, 1, 2, 3, 4] (by decide) rfl) hS (lv_sub hl [0, 1, 4] rfl)
        have L17 : ∀ (n17 : Nat) (x4_17 : Int32) (x3_17 : Int32) (H : Heap) (locs : List Loc) (ls : Array Slot) (cc17 ss17 : Nat), cc17 + n17 * 31 ≤ cc4 + 248 → ss17 + n17 * 217 ≤ ss4 + 1736 → fX7_hunts_L17 mn mch mcf mif x2_4 (fX7_hunts_X17 (fX7_hunts_L4 mn mch mcf mif fX7_hunts_X4 n4) x2_4 x1_4) n17 x4_17 x3_17 = some r → va_P (dC, dI) vwCl [(o, .inr (6, [.int mth, .int mn, .int mch, .ref oc, .ref oi, .int mcl, .ref ol, .int mgo, .int mmo, .ref ob])), (oc, .inl (cI, 14, .inl mcf)), (oi, .inl (cI, 3, .inl mif)), (ol, .inl (cI, 24, .inl mlf)), (ob, .inl (cI, mbn, .inl mbf))] H → va_D A [(o, .inr (6, [.int mth, .int mn, .int mch, .ref oc, .ref oi, .int mcl, .ref ol, .int mgo, .int mmo, .ref ob])), (oc, .inl (cI, 14, .inl mcf)), (oi, .inl (cI, 3, .inl mif)), (ol, .inl (cI, 24, .inl mlf)), (ob, .inl (cI, mbn, .inl mbf))] → va_S A s.heap H locs → lv_has ls 5 [(4, .int x4_17), (3, .int x3_17), (2, .int x2_4), (1, .int x1_4), (0, .ref o)] → W p l e rmX7_hunts s m ([.ref o] : List Value).toArray below meth c H locs cc17 ss17 (MQ below (ct_Q (dC, dI) tys (fun _ : Unit => some (.int r)) (fun _ : Unit => [(o, .inr (6, [.int mth, .int mn, .int mch, .ref oc, .ref oi, .int mcl, .ref ol, .int mgo, .int mmo, .ref ob])), (oc, .inl (cI, 14, .inl mcf)), (oi, .inl (cI, 3, .inl mif)), (ol, .inl (cI, 24, .inl mlf)), (ob, .inl (cI, mbn, .inl mbf))]) A) ([.ref o] : List Value).toArray s rmX7_hunts.cells rmX7_hunts.slots A) (F0 m 17 ls []) := by
          intro n17
          induction n17 with
          | zero => intro x4_17 x3_17 H locs ls cc17 ss17 hcc17 hss17 hF; rw [fX7_hunts_L17] at hF; cases hF
          | succ n17 ih17 =>
            intro x4_17 x3_17 H locs ls cc17 ss17 hcc17 hss17 hF hP hD hS hl
            rw [fX7_hunts_L17] at hF
            refine lv_iload hx hb dX7_hunts_17 (lv_at hl 0 rfl) ?_
            refine lv_iconst (v := (3 : Int32)) hx hb dX7_hunts_19 (by decide) ?_
            refine lv_icmp_ge (tgt := 49) hx hb dX7_hunts_20 (by decide) (fun c3 => ?_) (fun c3 => ?_)
            · have hF := (if_pos c3).symm.trans hF
              refine W.widen (k := cc4 + 248) (n := ss4 + 1736) (al_le (k := 0) (c1 := 31) hcc17 (Nat.le_refl _) (Nat.le_of_ble_eq_true rfl)) (al_le (k := 0) (c1 := 217) hss17 (Nat.le_refl _) (Nat.le_of_ble_eq_true rfl)) ?_
              exact X17 x4_17 x3_17 _ _ _ hF (hP.sub [0, 1, 2, 3, 4] rfl) (hD.sub [0, 1, 2, 3, 4] (by decide) rfl) hS (lv_sub hl [0, 1, 2, 3, 4] rfl)
            · have hF := (if_neg c3).symm.trans hF
              refine lv_iload_n hx hb dX7_hunts_23 rfl (lv_at hl 1 rfl) ?_
              refine lv_aload_n hx hb dX7_hunts_24 rfl (lv_at hl 4 rfl) ?_
              refine lv_iload hx hb dX7_hunts_25 (lv_at hl 0 rfl) ?_
              obtain ⟨r4, hC5, hF⟩ := gd_b hF
              refine ct_callV (C := RX7) (As := [.int x4_17]) (rest := [.int x3_17]) ⟨hx, hb, hml, hown, hts⟩ (kX7_leadOrder l dC dI tys cI ht0 o oc oi ol ob mth mn mch mcl mgo mmo mcf mif mlf mbn mbf x4_17 r4 hC5) (cwV 1 hts gX7_hunts_X7_leadOrder rfl rfl rfl (by decide +kernel) ⟨Nat.le_of_ble_eq_true rfl, Nat.le_of_ble_eq_true rfl⟩) hE hK hP hD hS hA [0, 1, 2, 3, 4] [] (by decide) rfl (by decide) (wr := []) rfl (by decide) (ci := 6) (T := TX7) (N := 10) (q0 := 0) rfl rfl hl.1 rfl rfl (Nat.le_of_ble_eq_true rfl) dX7_hunts_27 ⟨(show cc17 + 31 ≤ 1984 from (al_le (k := 31) (c1 := 31) hcc17 (al_le (k := 248) (c1 := 248) hcc4 (Nat.le_of_ble_eq_true rfl) (Nat.le_of_ble_eq_true rfl)) (Nat.le_of_ble_eq_true rfl))), (show ss17 + 217 ≤ 13888 from (al_le (k := 217) (c1 := 217) hss17 (al_le (k := 1736) (c1 := 1736) hss4 (Nat.le_of_ble_eq_true rfl) (Nat.le_of_ble_eq_true rfl)) (Nat.le_of_ble_eq_true rfl)))⟩ (fun i6 H locs hP hD hS => ?_)
              refine W.widen (k := cc17 + 31) (n := ss17 + 217) (show cc17 + 31 ≤ cc17 + 31 from Nat.le_refl _) (show ss17 + 217 ≤ ss17 + 217 from Nat.le_refl _) ?_
              have hP : va_P (dC, dI) vwCl [(o, .inr (6, [.int mth, .int mn, .int mch, .ref oc, .ref oi, .int mcl, .ref ol, .int mgo, .int mmo, .ref ob])), (oc, .inl (cI, 14, .inl mcf)), (oi, .inl (cI, 3, .inl mif)), (ol, .inl (cI, 24, .inl mlf)), (ob, .inl (cI, mbn, .inl mbf)), (i6, .inl (cI, r4.2, .inl r4.1))] H := hP
              have hD : va_D A [(o, .inr (6, [.int mth, .int mn, .int mch, .ref oc, .ref oi, .int mcl, .ref ol, .int mgo, .int mmo, .ref ob])), (oc, .inl (cI, 14, .inl mcf)), (oi, .inl (cI, 3, .inl mif)), (ol, .inl (cI, 24, .inl mlf)), (ob, .inl (cI, mbn, .inl mbf)), (i6, .inl (cI, r4.2, .inl r4.1))] := hD
              refine lv_iload_n hx hb dX7_hunts_30 rfl (lv_at hl 2 rfl) ?_
              obtain ⟨g7, hF⟩ := gd_n hF
              refine va_iald hx hb hK hP 5 0 rfl ht0 g7 dX7_hunts_31 ?_
              refine lv_iload_n hx hb dX7_hunts_32 rfl (lv_at hl 2 rfl) ?_
              refine lv_icmp_ne (tgt := 40) hx hb dX7_hunts_33 (by decide) (fun c8 => ?_) (fun c8 => ?_)
              · have hF := (if_neg c8).symm.trans hF
                refine lv_iconst (v := (0 : Int32)) hx hb dX7_hunts_40 (by decide) ?_
                refine lv_iand hx hb dX7_hunts_41 ?_
                refine lv_istore_n (lv' := [(3, .int (x3_17 &&& (0 : Int32))), (4, .int x4_17), (2, .int x2_4), (1, .int x1_4), (0, .ref o)]) hx hb dX7_hunts_42 rfl hl (by decide) rfl (fun ls hl => ?_)
                refine lv_iinc (v := x4_17 + (1 : Int32)) (lv' := [(4, .int (x4_17 + (1 : Int32))), (3, .int (x3_17 &&& (0 : Int32))), (2, .int x2_4), (1, .int x1_4), (0, .ref o)]) hx hb dX7_hunts_43 hl (k := 1) rfl rfl (by decide) rfl (fun ls hl => ?_)
                refine lv_goto (tgt := 17) hx hb dX7_hunts_46 (by decide) ?_
                exact ih17 (x4_17 + (1 : Int32)) (x3_17 &&& (0 : Int32)) _ _ _ (cc17 + 31) (ss17 + 217) (al_back (k := 31) hcc17 (Nat.le_of_ble_eq_true rfl)) (al_back (k := 217) hss17 (Nat.le_of_ble_eq_true rfl)) hF (hP.sub [0, 1, 2, 3, 4] rfl) (hD.sub [0, 1, 2, 3, 4] (by decide) rfl) hS (lv_sub hl [0, 1, 2, 3, 4] rfl)
              · have hF := (if_pos c8).symm.trans hF
                refine lv_iconst (v := (1 : Int32)) hx hb dX7_hunts_36 (by decide) ?_
                refine lv_goto (tgt := 41) hx hb dX7_hunts_37 (by decide) ?_
                refine lv_iand hx hb dX7_hunts_41 ?_
                refine lv_istore_n (lv' := [(3, .int (x3_17 &&& (1 : Int32))), (4, .int x4_17), (2, .int x2_4), (1, .int x1_4), (0, .ref o)]) hx hb dX7_hunts_42 rfl hl (by decide) rfl (fun ls hl => ?_)
                refine lv_iinc (v := x4_17 + (1 : Int32)) (lv' := [(4, .int (x4_17 + (1 : Int32))), (3, .int (x3_17 &&& (1 : Int32))), (2, .int x2_4), (1, .int x1_4), (0, .ref o)]) hx hb dX7_hunts_43 hl (k := 1) rfl rfl (by decide) rfl (fun ls hl => ?_)
                refine lv_goto (tgt := 17) hx hb dX7_hunts_46 (by decide) ?_
                exact ih17 (x4_17 + (1 : Int32)) (x3_17 &&& (1 : Int32)) _ _ _ (cc17 + 31) (ss17 + 217) (al_back (k := 31) hcc17 (Nat.le_of_ble_eq_true rfl)) (al_back (k := 217) hss17 (Nat.le_of_ble_eq_true rfl)) hF (hP.sub [0, 1, 2, 3, 4] rfl) (hD.sub [0, 1, 2, 3, 4] (by decide) rfl) hS (lv_sub hl [0, 1, 2, 3, 4] rfl)
        exact L17 8 (0 : Int32) (1 : Int32) _ _ _ (cc4) (ss4) (Nat.le_refl _) (Nat.le_refl _) hF (hP.sub [0, 1, 2, 3, 4] rfl) (hD.sub [0, 1, 2, 3, 4] (by decide) rfl) hS (lv_sub hl [0, 1, 2, 3, 4] rfl)
  exact L4 8 (0 : Int32) (0 : Int32) _ _ _ (0) (0) (Nat.le_refl _) (Nat.le_refl _) hF (hP.sub [0, 1, 2, 3, 4] rfl) (hD.sub [0, 1, 2, 3, 4] (by decide) rfl) hS (lv_sub hl [0, 1, 2] rfl)

def fX7_toldNow (mn : Int32) (mch : Int32) (mcl : Int32) (mcf : (Nat → Int32)) (mif : (Nat → Int32)) (p0 : Int32) : Option Int32 := if p0 < (0 : Int32) then ((fX7_hunts mn mch mcf mif).bind (fun r3 => some (r3))) else if (4 : Int32) < p0 then ((fX7_hunts mn mch mcf mif).bind (fun r6 => some (r6))) else if p0 = (0 : Int32) then (some (mn)) else if p0 = (1 : Int32) then (some (mch)) else if p0 = (2 : Int32) then (if ((p0 - (1 : Int32)) < 0 ∨ 3 ≤ (p0 - (1 : Int32)).toNatClampNeg) then none else (some (mif (p0 - (1 : Int32)).toNatClampNeg))) else if p0 = (3 : Int32) then (if ((p0 - (1 : Int32)) < 0 ∨ 3 ≤ (p0 - (1 : Int32)).toNatClampNeg) then none else (some (mif (p0 - (1 : Int32)).toNatClampNeg))) else if p0 = (4 : Int32) then (some (mcl)) else none
abbrev rmX7_toldNow : Room := { frames := 5, cells := 1984, slots := 13888, locals := 114 }
set_option maxHeartbeats 4000000 in
set_option maxRecDepth 100000 in
theorem kX7_toldNow (l : Launch) (dC : Nat → ClassId) (dI : Nat → Nat → Nat) (tys : List (ClassId × FieldType)) (cI : ClassId) (ht0 : tys[0]? = some (cI, .int)) (o oc oi ol ob : Nat) (mth : Int32) (mn : Int32) (mch : Int32) (mcl : Int32) (mgo : Int32) (mmo : Int32) (mcf : (Nat → Int32)) (mif : (Nat → Int32)) (mlf : (Nat → Int32)) (mbn : Nat) (mbf : (Nat → Int32)) (p0 : Int32) (r : Int32) (hF : fX7_toldNow mn mch mcl mcf mif p0 = some r) : ct l (dC, dI) tys yX7_toldNow wsX7_toldNow rmX7_toldNow [.ref o, .int p0] [(o, .inr (6, [.int mth, .int mn, .int mch, .ref oc, .ref oi, .int mcl, .ref ol, .int mgo, .int mmo, .ref ob])), (oc, .inl (cI, 14, .inl mcf)), (oi, .inl (cI, 3, .inl mif)), (ol, .inl (cI, 24, .inl mlf)), (ob, .inl (cI, mbn, .inl mbf))] (fun _ : Unit => some (.int r)) (fun _ : Unit => [(o, .inr (6, [.int mth, .int mn, .int mch, .ref oc, .ref oi, .int mcl, .ref ol, .int mgo, .int mmo, .ref ob])), (oc, .inl (cI, 14, .inl mcf)), (oi, .inl (cI, 3, .inl mif)), (ol, .inl (cI, 24, .inl mlf)), (ob, .inl (cI, mbn, .inl mbf))]) := by
  refine ct_of (cc := cX7_toldNow) (maxL := 2) (ret := (some .int)) (by decide) rfl (Nat.le_of_ble_eq_true rfl) ?_
  intro p e s m below meth c A ls hx hb hr hml hts hown hlocks hname hE hK hP hD hA hS hl
  have hown : s.vm.findClass RX7 = some m.cls := hown
  have hl : lv_has ls 2 [(0, .ref o), (1, .int p0)] := hl
  unfold fX7_toldNow at hF
  have uX7 : ∀ w ∈ wsX70, w ∈ wsX7_toldNow := (fun _ h => (List.mem_cons_of_mem _ (List.mem_append_right _ h)))
  have w1 := hts (.fieldLink RX7 26 "BellfounderTowerModel" "n" "I") (List.mem_cons_of_mem _ (List.mem_append_left _ (List.mem_append_left _ (List.mem_of_getElem? (i := 0) rfl))))
  have w2 := hts (.fieldLink RX7 30 "BellfounderTowerModel" "changes" "I") (List.mem_cons_of_mem _ (List.mem_append_left _ (List.mem_append_left _ (List.mem_of_getElem? (i := 1) rfl))))
  have w3 := hts (.fieldLink RX7 13 "BellfounderTowerModel" "instead" "[I") (List.mem_cons_of_mem _ (List.mem_append_left _ (List.mem_append_left _ (List.mem_of_getElem? (i := 2) rfl))))
  have w4 := hts (.fieldLink RX7 33 "BellfounderTowerModel" "calls" "I") (List.mem_cons_of_mem _ (List.mem_append_left _ (List.mem_append_left _ (List.mem_of_getElem? (i := 3) rfl))))
  refine lv_iload_n hx hb dX7_toldNow_0 rfl (lv_at hl 1 rfl) ?_
  by_cases c1 : p0 < (0 : Int32)
  · have hF := (if_pos c1).symm.trans hF
    refine lv_tableOut (tgt := 60) hx hb dX7_toldNow_1 (Or.inl (gd_lt c1 rfl)) (by decide) ?_
    refine lv_aload_n hx hb dX7_toldNow_60 rfl (lv_at hl 0 rfl) ?_
    obtain ⟨r3, hC4, hF⟩ := gd_b hF
    refine ct_callV (C := RX7) (As := []) (rest := []) ⟨hx, hb, hml, hown, hts⟩ (kX7_hunts l dC dI tys cI ht0 o oc oi ol ob mth mn mch mcl mgo mmo mcf mif mlf mbn mbf r3 hC4) (cwV 0 hts gX7_toldNow_X7_hunts rfl rfl rfl (by decide +kernel) ⟨Nat.le_of_ble_eq_true rfl, Nat.le_of_ble_eq_true rfl⟩) hE hK hP hD hS hA [0, 1, 2, 3, 4] [] (by decide) rfl (by decide) (wr := []) rfl (by decide) (ci := 6) (T := TX7) (N := 10) (q0 := 0) rfl rfl hl.1 rfl rfl (Nat.le_of_ble_eq_true rfl) dX7_toldNow_61 ⟨(Nat.le_of_ble_eq_true rfl), (Nat.le_of_ble_eq_true rfl)⟩ (fun i5 H locs hP hD hS => ?_)
    have hP : va_P (dC, dI) vwCl [(o, .inr (6, [.int mth, .int mn, .int mch, .ref oc, .ref oi, .int mcl, .ref ol, .int mgo, .int mmo, .ref ob])), (oc, .inl (cI, 14, .inl mcf)), (oi, .inl (cI, 3, .inl mif)), (ol, .inl (cI, 24, .inl mlf)), (ob, .inl (cI, mbn, .inl mbf))] H := hP
    have hD : va_D A [(o, .inr (6, [.int mth, .int mn, .int mch, .ref oc, .ref oi, .int mcl, .ref ol, .int mgo, .int mmo, .ref ob])), (oc, .inl (cI, 14, .inl mcf)), (oi, .inl (cI, 3, .inl mif)), (ol, .inl (cI, 24, .inl mlf)), (ob, .inl (cI, mbn, .inl mbf))] := hD
    obtain rfl := Option.some.inj hF
    exact ct_i hx hb hr hlocks hK hP hD hS () rfl [0, 1, 2, 3, 4] (by decide) rfl (Nat.le_of_ble_eq_true rfl) (Nat.le_of_ble_eq_true rfl) dX7_toldNow_64
  have hF := (if_neg c1).symm.trans hF
  by_cases c2 : (4 : Int32) < p0
  · have hF := (if_pos c2).symm.trans hF
    refine lv_tableOut (tgt := 60) hx hb dX7_toldNow_1 (Or.inr (gd_gt c2 rfl)) (by decide) ?_
    refine lv_aload_n hx hb dX7_toldNow_60 rfl (lv_at hl 0 rfl) ?_
    obtain ⟨r6, hC7, hF⟩ := gd_b hF
    refine ct_callV (C := RX7) (As := []) (rest := []) ⟨hx, hb, hml, hown, hts⟩ (kX7_hunts l dC dI tys cI ht0 o oc oi ol ob mth mn mch mcl mgo mmo mcf mif mlf mbn mbf r6 hC7) (cwV 0 hts gX7_toldNow_X7_hunts rfl rfl rfl (by decide +kernel) ⟨Nat.le_of_ble_eq_true rfl, Nat.le_of_ble_eq_true rfl⟩) hE hK hP hD hS hA [0, 1, 2, 3, 4] [] (by decide) rfl (by decide) (wr := []) rfl (by decide) (ci := 6) (T := TX7) (N := 10) (q0 := 0) rfl rfl hl.1 rfl rfl (Nat.le_of_ble_eq_true rfl) dX7_toldNow_61 ⟨(Nat.le_of_ble_eq_true rfl), (Nat.le_of_ble_eq_true rfl)⟩ (fun i8 H locs hP hD hS => ?_)
    have hP : va_P (dC, dI) vwCl [(o, .inr (6, [.int mth, .int mn, .int mch, .ref oc, .ref oi, .int mcl, .ref ol, .int mgo, .int mmo, .ref ob])), (oc, .inl (cI, 14, .inl mcf)), (oi, .inl (cI, 3, .inl mif)), (ol, .inl (cI, 24, .inl mlf)), (ob, .inl (cI, mbn, .inl mbf))] H := hP
    have hD : va_D A [(o, .inr (6, [.int mth, .int mn, .int mch, .ref oc, .ref oi, .int mcl, .ref ol, .int mgo, .int mmo, .ref ob])), (oc, .inl (cI, 14, .inl mcf)), (oi, .inl (cI, 3, .inl mif)), (ol, .inl (cI, 24, .inl mlf)), (ob, .inl (cI, mbn, .inl mbf))] := hD
    obtain rfl := Option.some.inj hF
    exact ct_i hx hb hr hlocks hK hP hD hS () rfl [0, 1, 2, 3, 4] (by decide) rfl (Nat.le_of_ble_eq_true rfl) (Nat.le_of_ble_eq_true rfl) dX7_toldNow_64
  have hF := (if_neg c2).symm.trans hF
  by_cases c9 : p0 = (0 : Int32)
  · have hF := (if_pos c9).symm.trans hF
    refine lv_tableIn (off := 35) (tgt := 36) hx hb dX7_toldNow_1 (gd_nlt c1 rfl) (gd_ngt c2 rfl) (by rw [c9]; rfl) (by decide) ?_
    refine lv_aload_n hx hb dX7_toldNow_36 rfl (lv_at hl 0 rfl) ?_
    refine va_get (D := (dC, dI)) (ci := 6) (v := .int mn) (C := RX7) (T := TX7) (N := 10) hx hb hts uX7 hown hK hP 0 rfl rfl 1 (by decide) w1 (fun _ h9 => h9) rfl dX7_toldNow_37 ?_
    obtain rfl := Option.some.inj hF
    exact ct_i hx hb hr hlocks hK hP hD hS () rfl [0, 1, 2, 3, 4] (by decide) rfl (Nat.le_of_ble_eq_true rfl) (Nat.le_of_ble_eq_true rfl) dX7_toldNow_40
  have hF := (if_neg c9).symm.trans hF
  by_cases c10 : p0 = (1 : Int32)
  · have hF := (if_pos c10).symm.trans hF
    refine lv_tableIn (off := 40) (tgt := 41) hx hb dX7_toldNow_1 (gd_nlt c1 rfl) (gd_ngt c2 rfl) (by rw [c10]; rfl) (by decide) ?_
    refine lv_aload_n hx hb dX7_toldNow_41 rfl (lv_at hl 0 rfl) ?_
    refine va_get (D := (dC, dI)) (ci := 6) (v := .int mch) (C := RX7) (T := TX7) (N := 10) hx hb hts uX7 hown hK hP 0 rfl rfl 2 (by decide) w2 (fun _ h9 => h9) rfl dX7_toldNow_42 ?_
    obtain rfl := Option.some.inj hF
    exact ct_i hx hb hr hlocks hK hP hD hS () rfl [0, 1, 2, 3, 4] (by decide) rfl (Nat.le_of_ble_eq_true rfl) (Nat.le_of_ble_eq_true rfl) dX7_toldNow_45
  have hF := (if_neg c10).symm.trans hF
  by_cases c11 : p0 = (2 : Int32)
  · have hF := (if_pos c11).symm.trans hF
    refine lv_tableIn (off := 45) (tgt := 46) hx hb dX7_toldNow_1 (gd_nlt c1 rfl) (gd_ngt c2 rfl) (by rw [c11]; rfl) (by decide) ?_
    refine lv_aload_n hx hb dX7_toldNow_46 rfl (lv_at hl 0 rfl) ?_
    refine va_get (D := (dC, dI)) (ci := 6) (v := .ref oi) (C := RX7) (T := TX7) (N := 10) hx hb hts uX7 hown hK hP 0 rfl rfl 4 (by decide) w3 (fun _ h9 => h9) rfl dX7_toldNow_47 ?_
    refine lv_iload_n hx hb dX7_toldNow_50 rfl (lv_at hl 1 rfl) ?_
    refine lv_iconst (v := (1 : Int32)) hx hb dX7_toldNow_51 (by decide) ?_
    refine lv_isub hx hb dX7_toldNow_52 ?_
    obtain ⟨g12, hF⟩ := gd_n hF
    refine va_iald hx hb hK hP 2 0 rfl ht0 g12 dX7_toldNow_53 ?_
    obtain rfl := Option.some.inj hF
    exact ct_i hx hb hr hlocks hK hP hD hS () rfl [0, 1, 2, 3, 4] (by decide) rfl (Nat.le_of_ble_eq_true rfl) (Nat.le_of_ble_eq_true rfl) dX7_toldNow_54
  have hF := (if_neg c11).symm.trans hF
  by_cases c13 : p0 = (3 : Int32)
  · have hF := (if_pos c13).symm.trans hF
    refine lv_tableIn (off := 45) (tgt := 46) hx hb dX7_toldNow_1 (gd_nlt c1 rfl) (gd_ngt c2 rfl) (by rw [c13]; rfl) (by decide) ?_
    refine lv_aload_n hx hb dX7_toldNow_46 rfl (lv_at hl 0 rfl) ?_
    refine va_get (D := (dC, dI)) (ci := 6) (v := .ref oi) (C := RX7) (T := TX7) (N := 10) hx hb hts uX7 hown hK hP 0 rfl rfl 4 (by decide) w3 (fun _ h9 => h9) rfl dX7_toldNow_47 ?_
    refine lv_iload_n hx hb dX7_toldNow_50 rfl (lv_at hl 1 rfl) ?_
    refine lv_iconst (v := (1 : Int32)) hx hb dX7_toldNow_51 (by decide) ?_
    refine lv_isub hx hb dX7_toldNow_52 ?_
    obtain ⟨g14, hF⟩ := gd_n hF
    refine va_iald hx hb hK hP 2 0 rfl ht0 g14 dX7_toldNow_53 ?_
    obtain rfl := Option.some.inj hF
    exact ct_i hx hb hr hlocks hK hP hD hS () rfl [0, 1, 2, 3, 4] (by decide) rfl (Nat.le_of_ble_eq_true rfl) (Nat.le_of_ble_eq_true rfl) dX7_toldNow_54
  have hF := (if_neg c13).symm.trans hF
  by_cases c15 : p0 = (4 : Int32)
  · have hF := (if_pos c15).symm.trans hF
    refine lv_tableIn (off := 54) (tgt := 55) hx hb dX7_toldNow_1 (gd_nlt c1 rfl) (gd_ngt c2 rfl) (by rw [c15]; rfl) (by decide) ?_
    refine lv_aload_n hx hb dX7_toldNow_55 rfl (lv_at hl 0 rfl) ?_
    refine va_get (D := (dC, dI)) (ci := 6) (v := .int mcl) (C := RX7) (T := TX7) (N := 10) hx hb hts uX7 hown hK hP 0 rfl rfl 5 (by decide) w4 (fun _ h9 => h9) rfl dX7_toldNow_56 ?_
    obtain rfl := Option.some.inj hF
    exact ct_i hx hb hr hlocks hK hP hD hS () rfl [0, 1, 2, 3, 4] (by decide) rfl (Nat.le_of_ble_eq_true rfl) (Nat.le_of_ble_eq_true rfl) dX7_toldNow_59
  have hF := (if_neg c15).symm.trans hF
  cases hF

def fX7_told (mn : Int32) (mch : Int32) (mcl : Int32) (mcf : (Nat → Int32)) (mif : (Nat → Int32)) (p0 : Int32) : Option (Int32 × Int32) := (fX7_isIn p0 (0 : Int32) (5 : Int32)).bind (fun r1 => if r1 = 0 then ((fX7_no (1 : Int32)).bind (fun r5 => some (r5.1, r5.2))) else ((fX7_toldNow mn mch mcl mcf mif p0).bind (fun r8 => some (r8, (0 : Int32)))))
abbrev rmX7_told : Room := { frames := 6, cells := 1984, slots := 13888, locals := 135 }
set_option maxHeartbeats 4000000 in
set_option maxRecDepth 100000 in
theorem kX7_told (l : Launch) (dC : Nat → ClassId) (dI : Nat → Nat → Nat) (tys : List (ClassId × FieldType)) (cI : ClassId) (ht0 : tys[0]? = some (cI, .int)) (o oc oi ol ob : Nat) (mth : Int32) (mn : Int32) (mch : Int32) (mcl : Int32) (mgo : Int32) (mmo : Int32) (mcf : (Nat → Int32)) (mif : (Nat → Int32)) (mlf : (Nat → Int32)) (mbn : Nat) (mbf : (Nat → Int32)) (p0 : Int32) (r : (Int32 × Int32)) (hF : fX7_told mn mch mcl mcf mif p0 = some r) : ct l (dC, dI) tys yX7_told wsX7_told rmX7_told [.ref o, .int p0] [(o, .inr (6, [.int mth, .int mn, .int mch, .ref oc, .ref oi, .int mcl, .ref ol, .int mgo, .int mmo, .ref ob])), (oc, .inl (cI, 14, .inl mcf)), (oi, .inl (cI, 3, .inl mif)), (ol, .inl (cI, 24, .inl mlf)), (ob, .inl (cI, mbn, .inl mbf))] (fun _ : Unit => some (.int r.1)) (fun _ : Unit => [(o, .inr (6, [.int r.2, .int mn, .int mch, .ref oc, .ref oi, .int mcl, .ref ol, .int mgo, .int mmo, .ref ob])), (oc, .inl (cI, 14, .inl mcf)), (oi, .inl (cI, 3, .inl mif)), (ol, .inl (cI, 24, .inl mlf)), (ob, .inl (cI, mbn, .inl mbf))]) := by
  refine ct_of (cc := cX7_told) (maxL := 2) (ret := (some .int)) (by decide) rfl (Nat.le_of_ble_eq_true rfl) ?_
  intro p e s m below meth c A ls hx hb hr hml hts hown hlocks hname hE hK hP hD hA hS hl
  have hown : s.vm.findClass RX7 = some m.cls := hown
  have hl : lv_has ls 2 [(0, .ref o), (1, .int p0)] := hl
  unfold fX7_told at hF
  have uX7 : ∀ w ∈ wsX70, w ∈ wsX7_told := (fun _ h => (List.mem_cons_of_mem _ (List.mem_append_right _ h)))
  have w1 := hts (.fieldLink RX7 36 "BellfounderTowerModel" "thrown" "I") (List.mem_cons_of_mem _ (List.mem_append_left _ (List.mem_append_left _ (List.mem_of_getElem? (i := 0) rfl))))
  refine lv_aload_n hx hb dX7_told_0 rfl (lv_at hl 0 rfl) ?_
  refine lv_iconst (v := (0 : Int32)) hx hb dX7_told_1 (by decide) ?_
  refine va_put (D := (dC, dI)) (ci := 6) (v := .int (0 : Int32)) (ty := .int) (C := RX7) (T := TX7) (N := 10) hx hb hts uX7 tyX7 tyX7_ok nmX7 hown hK hP hD hS 0 rfl rfl 0 (by decide) w1 (fun _ h9 => h9) rfl (by decide +kernel) rfl rfl (Nat.le_of_ble_eq_true rfl) dX7_told_2 (fun H locs hP hD hS => ?_)
  have hP : va_P (dC, dI) vwCl [(o, .inr (6, [.int (0 : Int32), .int mn, .int mch, .ref oc, .ref oi, .int mcl, .ref ol, .int mgo, .int mmo, .ref ob])), (oc, .inl (cI, 14, .inl mcf)), (oi, .inl (cI, 3, .inl mif)), (ol, .inl (cI, 24, .inl mlf)), (ob, .inl (cI, mbn, .inl mbf))] H := hP
  have hD : va_D A [(o, .inr (6, [.int (0 : Int32), .int mn, .int mch, .ref oc, .ref oi, .int mcl, .ref ol, .int mgo, .int mmo, .ref ob])), (oc, .inl (cI, 14, .inl mcf)), (oi, .inl (cI, 3, .inl mif)), (ol, .inl (cI, 24, .inl mlf)), (ob, .inl (cI, mbn, .inl mbf))] := hD
  refine lv_iload_n hx hb dX7_told_5 rfl (lv_at hl 1 rfl) ?_
  refine lv_iconst (v := (0 : Int32)) hx hb dX7_told_6 (by decide) ?_
  refine lv_iconst (v := (5 : Int32)) hx hb dX7_told_7 (by decide) ?_
  obtain ⟨r1, hC2, hF⟩ := gd_b hF
  refine ct_callS (As := [.int p0, .int (0 : Int32), .int (5 : Int32)]) (rest := []) ⟨hx, hb, hml, hown, hts⟩ (kX7_isIn l dC dI tys cI ht0 p0 (0 : Int32) (5 : Int32) r1 hC2) (va_cwS 3 hts gX7_told_X7_isIn rfl rfl rfl (by decide +kernel) ⟨Nat.le_of_ble_eq_true rfl, Nat.le_of_ble_eq_true rfl⟩) hE hK hP hD hS hA [] [0, 1, 2, 3, 4] (by decide) rfl (by decide) (wr := [(o, .inr (6, [.int (0 : Int32), .int mn, .int mch, .ref oc, .ref oi, .int mcl, .ref ol, .int mgo, .int mmo, .ref ob])), (oc, .inl (cI, 14, .inl mcf)), (oi, .inl (cI, 3, .inl mif)), (ol, .inl (cI, 24, .inl mlf)), (ob, .inl (cI, mbn, .inl mbf))]) rfl (by decide) hl.1 rfl rfl (Nat.le_of_ble_eq_true rfl) dX7_told_8 ⟨(Nat.le_of_ble_eq_true rfl), (Nat.le_of_ble_eq_true rfl)⟩ (fun i3 H locs hP hD hS => ?_)
  have hP : va_P (dC, dI) vwCl [(o, .inr (6, [.int (0 : Int32), .int mn, .int mch, .ref oc, .ref oi, .int mcl, .ref ol, .int mgo, .int mmo, .ref ob])), (oc, .inl (cI, 14, .inl mcf)), (oi, .inl (cI, 3, .inl mif)), (ol, .inl (cI, 24, .inl mlf)), (ob, .inl (cI, mbn, .inl mbf))] H := hP
  have hD : va_D A [(o, .inr (6, [.int (0 : Int32), .int mn, .int mch, .ref oc, .ref oi, .int mcl, .ref ol, .int mgo, .int mmo, .ref ob])), (oc, .inl (cI, 14, .inl mcf)), (oi, .inl (cI, 3, .inl mif)), (ol, .inl (cI, 24, .inl mlf)), (ob, .inl (cI, mbn, .inl mbf))] := hD
  refine lv_if_eq (tgt := 22) hx hb dX7_told_11 (by decide) (fun c4 => ?_) (fun c4 => ?_)
  · have hF := (if_pos c4).symm.trans hF
    refine lv_aload_n hx hb dX7_told_22 rfl (lv_at hl 0 rfl) ?_
    refine lv_iconst (v := (1 : Int32)) hx hb dX7_told_23 (by decide) ?_
    obtain ⟨r5, hC6, hF⟩ := gd_b hF
    refine ct_callV (C := RX7) (As := [.int (1 : Int32)]) (rest := []) ⟨hx, hb, hml, hown, hts⟩ (kX7_no l dC dI tys cI ht0 o oc oi ol ob (0 : Int32) mn mch mcl mgo mmo mcf mif mlf mbn mbf (1 : Int32) r5 hC6) (cwV 1 hts gX7_told_X7_no rfl rfl rfl (by decide +kernel) ⟨Nat.le_of_ble_eq_true rfl, Nat.le_of_ble_eq_true rfl⟩) hE hK hP hD hS hA [0, 1, 2, 3, 4] [] (by decide) rfl (by decide) (wr := []) rfl (by decide) (ci := 6) (T := TX7) (N := 10) (q0 := 0) rfl rfl hl.1 rfl rfl (Nat.le_of_ble_eq_true rfl) dX7_told_24 ⟨(Nat.le_of_ble_eq_true rfl), (Nat.le_of_ble_eq_true rfl)⟩ (fun i7 H locs hP hD hS => ?_)
    have hP : va_P (dC, dI) vwCl [(o, .inr (6, [.int r5.2, .int mn, .int mch, .ref oc, .ref oi, .int mcl, .ref ol, .int mgo, .int mmo, .ref ob])), (oc, .inl (cI, 14, .inl mcf)), (oi, .inl (cI, 3, .inl mif)), (ol, .inl (cI, 24, .inl mlf)), (ob, .inl (cI, mbn, .inl mbf))] H := hP
    have hD : va_D A [(o, .inr (6, [.int r5.2, .int mn, .int mch, .ref oc, .ref oi, .int mcl, .ref ol, .int mgo, .int mmo, .ref ob])), (oc, .inl (cI, 14, .inl mcf)), (oi, .inl (cI, 3, .inl mif)), (ol, .inl (cI, 24, .inl mlf)), (ob, .inl (cI, mbn, .inl mbf))] := hD
    obtain rfl := Option.some.inj hF
    exact ct_i hx hb hr hlocks hK hP hD hS () rfl [0, 1, 2, 3, 4] (by decide) rfl (Nat.le_of_ble_eq_true rfl) (Nat.le_of_ble_eq_true rfl) dX7_told_27
  · have hF := (if_neg c4).symm.trans hF
    refine lv_aload_n hx hb dX7_told_14 rfl (lv_at hl 0 rfl) ?_
    refine lv_iload_n hx hb dX7_told_15 rfl (lv_at hl 1 rfl) ?_
    obtain ⟨r8, hC9, hF⟩ := gd_b hF
    refine ct_callV (C := RX7) (As := [.int p0]) (rest := []) ⟨hx, hb, hml, hown, hts⟩ (kX7_toldNow l dC dI tys cI ht0 o oc oi ol ob (0 : Int32) mn mch mcl mgo mmo mcf mif mlf mbn mbf p0 r8 hC9) (cwV 1 hts gX7_told_X7_toldNow rfl rfl rfl (by decide +kernel) ⟨Nat.le_of_ble_eq_true rfl, Nat.le_of_ble_eq_true rfl⟩) hE hK hP hD hS hA [0, 1, 2, 3, 4] [] (by decide) rfl (by decide) (wr := []) rfl (by decide) (ci := 6) (T := TX7) (N := 10) (q0 := 0) rfl rfl hl.1 rfl rfl (Nat.le_of_ble_eq_true rfl) dX7_told_16 ⟨(Nat.le_of_ble_eq_true rfl), (Nat.le_of_ble_eq_true rfl)⟩ (fun i10 H locs hP hD hS => ?_)
    have hP : va_P (dC, dI) vwCl [(o, .inr (6, [.int (0 : Int32), .int mn, .int mch, .ref oc, .ref oi, .int mcl, .ref ol, .int mgo, .int mmo, .ref ob])), (oc, .inl (cI, 14, .inl mcf)), (oi, .inl (cI, 3, .inl mif)), (ol, .inl (cI, 24, .inl mlf)), (ob, .inl (cI, mbn, .inl mbf))] H := hP
    have hD : va_D A [(o, .inr (6, [.int (0 : Int32), .int mn, .int mch, .ref oc, .ref oi, .int mcl, .ref ol, .int mgo, .int mmo, .ref ob])), (oc, .inl (cI, 14, .inl mcf)), (oi, .inl (cI, 3, .inl mif)), (ol, .inl (cI, 24, .inl mlf)), (ob, .inl (cI, mbn, .inl mbf))] := hD
    refine lv_goto (tgt := 27) hx hb dX7_told_19 (by decide) ?_
    obtain rfl := Option.some.inj hF
    exact ct_i hx hb hr hlocks hK hP hD hS () rfl [0, 1, 2, 3, 4] (by decide) rfl (Nat.le_of_ble_eq_true rfl) (Nat.le_of_ble_eq_true rfl) dX7_told_27

def fX7_changeAt (mch : Int32) (mcf : (Nat → Int32)) (p0 : Int32) : Option (Int32 × Int32) := (fX7_isIn p0 (0 : Int32) (mch - (1 : Int32))).bind (fun r1 => if r1 = 0 then ((fX7_no (1 : Int32)).bind (fun r5 => some (r5.1, r5.2))) else (if (p0 < 0 ∨ 14 ≤ p0.toNatClampNeg) then none else (some ((mcf p0.toNatClampNeg), (0 : Int32)))))
abbrev rmX7_changeAt : Room := { frames := 1, cells := 0, slots := 0, locals := 22 }
set_option maxHeartbeats 4000000 in
set_option maxRecDepth 100000 in
theorem kX7_changeAt (l : Launch) (dC : Nat → ClassId) (dI : Nat → Nat → Nat) (tys : List (ClassId × FieldType)) (cI : ClassId) (ht0 : tys[0]? = some (cI, .int)) (o oc oi ol ob : Nat) (mth : Int32) (mn : Int32) (mch : Int32) (mcl : Int32) (mgo : Int32) (mmo : Int32) (mcf : (Nat → Int32)) (mif : (Nat → Int32)) (mlf : (Nat → Int32)) (mbn : Nat) (mbf : (Nat → Int32)) (p0 : Int32) (r : (Int32 × Int32)) (hF : fX7_changeAt mch mcf p0 = some r) : ct l (dC, dI) tys yX7_changeAt wsX7_changeAt rmX7_changeAt [.ref o, .int p0] [(o, .inr (6, [.int mth, .int mn, .int mch, .ref oc, .ref oi, .int mcl, .ref ol, .int mgo, .int mmo, .ref ob])), (oc, .inl (cI, 14, .inl mcf)), (oi, .inl (cI, 3, .inl mif)), (ol, .inl (cI, 24, .inl mlf)), (ob, .inl (cI, mbn, .inl mbf))] (fun _ : Unit => some (.int r.1)) (fun _ : Unit => [(o, .inr (6, [.int r.2, .int mn, .int mch, .ref oc, .ref oi, .int mcl, .ref ol, .int mgo, .int mmo, .ref ob])), (oc, .inl (cI, 14, .inl mcf)), (oi, .inl (cI, 3, .inl mif)), (ol, .inl (cI, 24, .inl mlf)), (ob, .inl (cI, mbn, .inl mbf))]) := by
  refine ct_of (cc := cX7_changeAt) (maxL := 2) (ret := (some .int)) (by decide) rfl (Nat.le_of_ble_eq_true rfl) ?_
  intro p e s m below meth c A ls hx hb hr hml hts hown hlocks hname hE hK hP hD hA hS hl
  have hown : s.vm.findClass RX7 = some m.cls := hown
  have hl : lv_has ls 2 [(0, .ref o), (1, .int p0)] := hl
  unfold fX7_changeAt at hF
  have uX7 : ∀ w ∈ wsX70, w ∈ wsX7_changeAt := (fun _ h => (List.mem_cons_of_mem _ (List.mem_append_right _ h)))
  have w1 := hts (.fieldLink RX7 36 "BellfounderTowerModel" "thrown" "I") (List.mem_cons_of_mem _ (List.mem_append_left _ (List.mem_of_getElem? (i := 0) rfl)))
  have w2 := hts (.fieldLink RX7 30 "BellfounderTowerModel" "changes" "I") (List.mem_cons_of_mem _ (List.mem_append_left _ (List.mem_of_getElem? (i := 1) rfl)))
  have w3 := hts (.fieldLink RX7 9 "BellfounderTowerModel" "change" "[I") (List.mem_cons_of_mem _ (List.mem_append_left _ (List.mem_of_getElem? (i := 2) rfl)))
  refine lv_aload_n hx hb dX7_changeAt_0 rfl (lv_at hl 0 rfl) ?_
  refine lv_iconst (v := (0 : Int32)) hx hb dX7_changeAt_1 (by decide) ?_
  refine va_put (D := (dC, dI)) (ci := 6) (v := .int (0 : Int32)) (ty := .int) (C := RX7) (T := TX7) (N := 10) hx hb hts uX7 tyX7 tyX7_ok nmX7 hown hK hP hD hS 0 rfl rfl 0 (by decide) w1 (fun _ h9 => h9) rfl (by decide +kernel) rfl rfl (Nat.le_of_ble_eq_true rfl) dX7_changeAt_2 (fun H locs hP hD hS => ?_)
  have hP : va_P (dC, dI) vwCl [(o, .inr (6, [.int (0 : Int32), .int mn, .int mch, .ref oc, .ref oi, .int mcl, .ref ol, .int mgo, .int mmo, .ref ob])), (oc, .inl (cI, 14, .inl mcf)), (oi, .inl (cI, 3, .inl mif)), (ol, .inl (cI, 24, .inl mlf)), (ob, .inl (cI, mbn, .inl mbf))] H := hP
  have hD : va_D A [(o, .inr (6, [.int (0 : Int32), .int mn, .int mch, .ref oc, .ref oi, .int mcl, .ref ol, .int mgo, .int mmo, .ref ob])), (oc, .inl (cI, 14, .inl mcf)), (oi, .inl (cI, 3, .inl mif)), (ol, .inl (cI, 24, .inl mlf)), (ob, .inl (cI, mbn, .inl mbf))] := hD
  refine lv_iload_n hx hb dX7_changeAt_5 rfl (lv_at hl 1 rfl) ?_
  refine lv_iconst (v := (0 : Int32)) hx hb dX7_changeAt_6 (by decide) ?_
  refine lv_aload_n hx hb dX7_changeAt_7 rfl (lv_at hl 0 rfl) ?_
  refine va_get (D := (dC, dI)) (ci := 6) (v := .int mch) (C := RX7) (T := TX7) (N := 10) hx hb hts uX7 hown hK hP 0 rfl rfl 2 (by decide) w2 (fun _ h9 => h9) rfl dX7_changeAt_8 ?_
  refine lv_iconst (v := (1 : Int32)) hx hb dX7_changeAt_11 (by decide) ?_
  refine lv_isub hx hb dX7_changeAt_12 ?_
  obtain ⟨r1, hC2, hF⟩ := gd_b hF
  refine ct_callS (As := [.int p0, .int (0 : Int32), .int (mch - (1 : Int32))]) (rest := []) ⟨hx, hb, hml, hown, hts⟩ (kX7_isIn l dC dI tys cI ht0 p0 (0 : Int32) (mch - (1 : Int32)) r1 hC2) (va_cwS 3 hts gX7_changeAt_X7_isIn rfl rfl rfl (by decide +kernel) ⟨Nat.le_of_ble_eq_true rfl, Nat.le_of_ble_eq_true rfl⟩) hE hK hP hD hS hA [] [0, 1, 2, 3, 4] (by decide) rfl (by decide) (wr := [(o, .inr (6, [.int (0 : Int32), .int mn, .int mch, .ref oc, .ref oi, .int mcl, .ref ol, .int mgo, .int mmo, .ref ob])), (oc, .inl (cI, 14, .inl mcf)), (oi, .inl (cI, 3, .inl mif)), (ol, .inl (cI, 24, .inl mlf)), (ob, .inl (cI, mbn, .inl mbf))]) rfl (by decide) hl.1 rfl rfl (Nat.le_of_ble_eq_true rfl) dX7_changeAt_13 ⟨(Nat.le_of_ble_eq_true rfl), (Nat.le_of_ble_eq_true rfl)⟩ (fun i3 H locs hP hD hS => ?_)
  have hP : va_P (dC, dI) vwCl [(o, .inr (6, [.int (0 : Int32), .int mn, .int mch, .ref oc, .ref oi, .int mcl, .ref ol, .int mgo, .int mmo, .ref ob])), (oc, .inl (cI, 14, .inl mcf)), (oi, .inl (cI, 3, .inl mif)), (ol, .inl (cI, 24, .inl mlf)), (ob, .inl (cI, mbn, .inl mbf))] H := hP
  have hD : va_D A [(o, .inr (6, [.int (0 : Int32), .int mn, .int mch, .ref oc, .ref oi, .int mcl, .ref ol, .int mgo, .int mmo, .ref ob])), (oc, .inl (cI, 14, .inl mcf)), (oi, .inl (cI, 3, .inl mif)), (ol, .inl (cI, 24, .inl mlf)), (ob, .inl (cI, mbn, .inl mbf))] := hD
  refine lv_if_eq (tgt := 28) hx hb dX7_changeAt_16 (by decide) (fun c4 => ?_) (fun c4 => ?_)
  · have hF := (if_pos c4).symm.trans hF
    refine lv_aload_n hx hb dX7_changeAt_28 rfl (lv_at hl 0 rfl) ?_
    refine lv_iconst (v := (1 : Int32)) hx hb dX7_changeAt_29 (by decide) ?_
    obtain ⟨r5, hC6, hF⟩ := gd_b hF
    refine ct_callV (C := RX7) (As := [.int (1 : Int32)]) (rest := []) ⟨hx, hb, hml, hown, hts⟩ (kX7_no l dC dI tys cI ht0 o oc oi ol ob (0 : Int32) mn mch mcl mgo mmo mcf mif mlf mbn mbf (1 : Int32) r5 hC6) (cwV 1 hts gX7_changeAt_X7_no rfl rfl rfl (by decide +kernel) ⟨Nat.le_of_ble_eq_true rfl, Nat.le_of_ble_eq_true rfl⟩) hE hK hP hD hS hA [0, 1, 2, 3, 4] [] (by decide) rfl (by decide) (wr := []) rfl (by decide) (ci := 6) (T := TX7) (N := 10) (q0 := 0) rfl rfl hl.1 rfl rfl (Nat.le_of_ble_eq_true rfl) dX7_changeAt_30 ⟨(Nat.le_of_ble_eq_true rfl), (Nat.le_of_ble_eq_true rfl)⟩ (fun i7 H locs hP hD hS => ?_)
    have hP : va_P (dC, dI) vwCl [(o, .inr (6, [.int r5.2, .int mn, .int mch, .ref oc, .ref oi, .int mcl, .ref ol, .int mgo, .int mmo, .ref ob])), (oc, .inl (cI, 14, .inl mcf)), (oi, .inl (cI, 3, .inl mif)), (ol, .inl (cI, 24, .inl mlf)), (ob, .inl (cI, mbn, .inl mbf))] H := hP
    have hD : va_D A [(o, .inr (6, [.int r5.2, .int mn, .int mch, .ref oc, .ref oi, .int mcl, .ref ol, .int mgo, .int mmo, .ref ob])), (oc, .inl (cI, 14, .inl mcf)), (oi, .inl (cI, 3, .inl mif)), (ol, .inl (cI, 24, .inl mlf)), (ob, .inl (cI, mbn, .inl mbf))] := hD
    obtain rfl := Option.some.inj hF
    exact ct_i hx hb hr hlocks hK hP hD hS () rfl [0, 1, 2, 3, 4] (by decide) rfl (Nat.le_of_ble_eq_true rfl) (Nat.le_of_ble_eq_true rfl) dX7_changeAt_33
  · have hF := (if_neg c4).symm.trans hF
    refine lv_aload_n hx hb dX7_changeAt_19 rfl (lv_at hl 0 rfl) ?_
    refine va_get (D := (dC, dI)) (ci := 6) (v := .ref oc) (C := RX7) (T := TX7) (N := 10) hx hb hts uX7 hown hK hP 0 rfl rfl 3 (by decide) w3 (fun _ h9 => h9) rfl dX7_changeAt_20 ?_
    refine lv_iload_n hx hb dX7_changeAt_23 rfl (lv_at hl 1 rfl) ?_
    obtain ⟨g8, hF⟩ := gd_n hF
    refine va_iald hx hb hK hP 1 0 rfl ht0 g8 dX7_changeAt_24 ?_
    refine lv_goto (tgt := 33) hx hb dX7_changeAt_25 (by decide) ?_
    obtain rfl := Option.some.inj hF
    exact ct_i hx hb hr hlocks hK hP hD hS () rfl [0, 1, 2, 3, 4] (by decide) rfl (Nat.le_of_ble_eq_true rfl) (Nat.le_of_ble_eq_true rfl) dX7_changeAt_33

def fX7_next (mn : Int32) (p0 : Int32) (p1 : Int32) : Option (Int32 × Int32) := (fX7_isRow mn p0).bind (fun r1 => if r1 = 0 then ((fX7_no (1 : Int32)).bind (fun r5 => some (r5.1, r5.2))) else ((fX7_isChangeNow mn p1).bind (fun r8 => if r8 = 0 then ((fX7_no (1 : Int32)).bind (fun r12 => some (r12.1, r12.2))) else ((fX7_read mn p0).bind (fun r15 => (fX7_order mn p1).bind (fun r18 => (fX7_join r15.2 r15.1 r18.2 r18.1).bind (fun r21 => (fX7_number r21.2 r21.1).bind (fun r24 => some (r24, (0 : Int32))))))))))
abbrev rmX7_next : Room := { frames := 3, cells := 8, slots := 48, locals := 69 }
set_option maxHeartbeats 4000000 in
set_option maxRecDepth 100000 in
theorem kX7_next (l : Launch) (dC : Nat → ClassId) (dI : Nat → Nat → Nat) (tys : List (ClassId × FieldType)) (cI : ClassId) (ht0 : tys[0]? = some (cI, .int)) (cZ : ClassId) (ht1 : tys[1]? = some (cZ, .boolean)) (o oc oi ol ob : Nat) (mth : Int32) (mn : Int32) (mch : Int32) (mcl : Int32) (mgo : Int32) (mmo : Int32) (mcf : (Nat → Int32)) (mif : (Nat → Int32)) (mlf : (Nat → Int32)) (mbn : Nat) (mbf : (Nat → Int32)) (p0 : Int32) (p1 : Int32) (r : (Int32 × Int32)) (hF : fX7_next mn p0 p1 = some r) : ct l (dC, dI) tys yX7_next wsX7_next rmX7_next [.ref o, .int p0, .int p1] [(o, .inr (6, [.int mth, .int mn, .int mch, .ref oc, .ref oi, .int mcl, .ref ol, .int mgo, .int mmo, .ref ob])), (oc, .inl (cI, 14, .inl mcf)), (oi, .inl (cI, 3, .inl mif)), (ol, .inl (cI, 24, .inl mlf)), (ob, .inl (cI, mbn, .inl mbf))] (fun _ : Unit => some (.int r.1)) (fun _ : Unit => [(o, .inr (6, [.int r.2, .int mn, .int mch, .ref oc, .ref oi, .int mcl, .ref ol, .int mgo, .int mmo, .ref ob])), (oc, .inl (cI, 14, .inl mcf)), (oi, .inl (cI, 3, .inl mif)), (ol, .inl (cI, 24, .inl mlf)), (ob, .inl (cI, mbn, .inl mbf))]) := by
  refine ct_of (cc := cX7_next) (maxL := 3) (ret := (some .int)) (by decide) rfl (Nat.le_of_ble_eq_true rfl) ?_
  intro p e s m below meth c A ls hx hb hr hml hts hown hlocks hname hE hK hP hD hA hS hl
  have hown : s.vm.findClass RX7 = some m.cls := hown
  have hl : lv_has ls 3 [(0, .ref o), (1, .int p0), (2, .int p1)] := hl
  unfold fX7_next at hF
  have uX7 : ∀ w ∈ wsX70, w ∈ wsX7_next := (fun _ h => (List.mem_cons_of_mem _ (List.mem_append_right _ h)))
  have w1 := hts (.fieldLink RX7 36 "BellfounderTowerModel" "thrown" "I") (List.mem_cons_of_mem _ (List.mem_append_left _ (List.mem_append_left _ (List.mem_of_getElem? (i := 0) rfl))))
  refine lv_aload_n hx hb dX7_next_0 rfl (lv_at hl 0 rfl) ?_
  refine lv_iconst (v := (0 : Int32)) hx hb dX7_next_1 (by decide) ?_
  refine va_put (D := (dC, dI)) (ci := 6) (v := .int (0 : Int32)) (ty := .int) (C := RX7) (T := TX7) (N := 10) hx hb hts uX7 tyX7 tyX7_ok nmX7 hown hK hP hD hS 0 rfl rfl 0 (by decide) w1 (fun _ h9 => h9) rfl (by decide +kernel) rfl rfl (Nat.le_of_ble_eq_true rfl) dX7_next_2 (fun H locs hP hD hS => ?_)
  have hP : va_P (dC, dI) vwCl [(o, .inr (6, [.int (0 : Int32), .int mn, .int mch, .ref oc, .ref oi, .int mcl, .ref ol, .int mgo, .int mmo, .ref ob])), (oc, .inl (cI, 14, .inl mcf)), (oi, .inl (cI, 3, .inl mif)), (ol, .inl (cI, 24, .inl mlf)), (ob, .inl (cI, mbn, .inl mbf))] H := hP
  have hD : va_D A [(o, .inr (6, [.int (0 : Int32), .int mn, .int mch, .ref oc, .ref oi, .int mcl, .ref ol, .int mgo, .int mmo, .ref ob])), (oc, .inl (cI, 14, .inl mcf)), (oi, .inl (cI, 3, .inl mif)), (ol, .inl (cI, 24, .inl mlf)), (ob, .inl (cI, mbn, .inl mbf))] := hD
  refine lv_aload_n hx hb dX7_next_5 rfl (lv_at hl 0 rfl) ?_
  refine lv_iload_n hx hb dX7_next_6 rfl (lv_at hl 1 rfl) ?_
  obtain ⟨r1, hC2, hF⟩ := gd_b hF
  refine ct_callV (C := RX7) (As := [.int p0]) (rest := []) ⟨hx, hb, hml, hown, hts⟩ (kX7_isRow l dC dI tys cI ht0 cZ ht1 o oc oi ol ob (0 : Int32) mn mch mcl mgo mmo mcf mif mlf mbn mbf p0 r1 hC2) (cwV 1 hts gX7_next_X7_isRow rfl rfl rfl (by decide +kernel) ⟨Nat.le_of_ble_eq_true rfl, Nat.le_of_ble_eq_true rfl⟩) hE hK hP hD hS hA [0, 1, 2, 3, 4] [] (by decide) rfl (by decide) (wr := []) rfl (by decide) (ci := 6) (T := TX7) (N := 10) (q0 := 0) rfl rfl hl.1 rfl rfl (Nat.le_of_ble_eq_true rfl) dX7_next_7 ⟨(Nat.le_of_ble_eq_true rfl), (Nat.le_of_ble_eq_true rfl)⟩ (fun i3 H locs hP hD hS => ?_)
  have hP : va_P (dC, dI) vwCl [(o, .inr (6, [.int (0 : Int32), .int mn, .int mch, .ref oc, .ref oi, .int mcl, .ref ol, .int mgo, .int mmo, .ref ob])), (oc, .inl (cI, 14, .inl mcf)), (oi, .inl (cI, 3, .inl mif)), (ol, .inl (cI, 24, .inl mlf)), (ob, .inl (cI, mbn, .inl mbf))] H := hP
  have hD : va_D A [(o, .inr (6, [.int (0 : Int32), .int mn, .int mch, .ref oc, .ref oi, .int mcl, .ref ol, .int mgo, .int mmo, .ref ob])), (oc, .inl (cI, 14, .inl mcf)), (oi, .inl (cI, 3, .inl mif)), (ol, .inl (cI, 24, .inl mlf)), (ob, .inl (cI, mbn, .inl mbf))] := hD
  refine lv_if_eq (tgt := 40) hx hb dX7_next_10 (by decide) (fun c4 => ?_) (fun c4 => ?_)
  · have hF := (if_pos c4).symm.trans hF
    refine lv_aload_n hx hb dX7_next_40 rfl (lv_at hl 0 rfl) ?_
    refine lv_iconst (v := (1 : Int32)) hx hb dX7_next_41 (by decide) ?_
    obtain ⟨r5, hC6, hF⟩ := gd_b hF
    refine ct_callV (C := RX7) (As := [.int (1 : Int32)]) (rest := []) ⟨hx, hb, hml, hown, hts⟩ (kX7_no l dC dI tys cI ht0 o oc oi ol ob (0 : Int32) mn mch mcl mgo mmo mcf mif mlf mbn mbf (1 : Int32) r5 hC6) (cwV 1 hts gX7_next_X7_no rfl rfl rfl (by decide +kernel) ⟨Nat.le_of_ble_eq_true rfl, Nat.le_of_ble_eq_true rfl⟩) hE hK hP hD hS hA [0, 1, 2, 3, 4] [] (by decide) rfl (by decide) (wr := []) rfl (by decide) (ci := 6) (T := TX7) (N := 10) (q0 := 0) rfl rfl hl.1 rfl rfl (Nat.le_of_ble_eq_true rfl) dX7_next_42 ⟨(Nat.le_of_ble_eq_true rfl), (Nat.le_of_ble_eq_true rfl)⟩ (fun i7 H locs hP hD hS => ?_)
    have hP : va_P (dC, dI) vwCl [(o, .inr (6, [.int r5.2, .int mn, .int mch, .ref oc, .ref oi, .int mcl, .ref ol, .int mgo, .int mmo, .ref ob])), (oc, .inl (cI, 14, .inl mcf)), (oi, .inl (cI, 3, .inl mif)), (ol, .inl (cI, 24, .inl mlf)), (ob, .inl (cI, mbn, .inl mbf))] H := hP
    have hD : va_D A [(o, .inr (6, [.int r5.2, .int mn, .int mch, .ref oc, .ref oi, .int mcl, .ref ol, .int mgo, .int mmo, .ref ob])), (oc, .inl (cI, 14, .inl mcf)), (oi, .inl (cI, 3, .inl mif)), (ol, .inl (cI, 24, .inl mlf)), (ob, .inl (cI, mbn, .inl mbf))] := hD
    obtain rfl := Option.some.inj hF
    exact ct_i hx hb hr hlocks hK hP hD hS () rfl [0, 1, 2, 3, 4] (by decide) rfl (Nat.le_of_ble_eq_true rfl) (Nat.le_of_ble_eq_true rfl) dX7_next_45
  · have hF := (if_neg c4).symm.trans hF
    refine lv_aload_n hx hb dX7_next_13 rfl (lv_at hl 0 rfl) ?_
    refine lv_iload_n hx hb dX7_next_14 rfl (lv_at hl 2 rfl) ?_
    obtain ⟨r8, hC9, hF⟩ := gd_b hF
    refine ct_callV (C := RX7) (As := [.int p1]) (rest := []) ⟨hx, hb, hml, hown, hts⟩ (kX7_isChangeNow l dC dI tys cI ht0 o oc oi ol ob (0 : Int32) mn mch mcl mgo mmo mcf mif mlf mbn mbf p1 r8 hC9) (cwV 1 hts gX7_next_X7_isChangeNow rfl rfl rfl (by decide +kernel) ⟨Nat.le_of_ble_eq_true rfl, Nat.le_of_ble_eq_true rfl⟩) hE hK hP hD hS hA [0, 1, 2, 3, 4] [] (by decide) rfl (by decide) (wr := []) rfl (by decide) (ci := 6) (T := TX7) (N := 10) (q0 := 0) rfl rfl hl.1 rfl rfl (Nat.le_of_ble_eq_true rfl) dX7_next_15 ⟨(Nat.le_of_ble_eq_true rfl), (Nat.le_of_ble_eq_true rfl)⟩ (fun i10 H locs hP hD hS => ?_)
    have hP : va_P (dC, dI) vwCl [(o, .inr (6, [.int (0 : Int32), .int mn, .int mch, .ref oc, .ref oi, .int mcl, .ref ol, .int mgo, .int mmo, .ref ob])), (oc, .inl (cI, 14, .inl mcf)), (oi, .inl (cI, 3, .inl mif)), (ol, .inl (cI, 24, .inl mlf)), (ob, .inl (cI, mbn, .inl mbf))] H := hP
    have hD : va_D A [(o, .inr (6, [.int (0 : Int32), .int mn, .int mch, .ref oc, .ref oi, .int mcl, .ref ol, .int mgo, .int mmo, .ref ob])), (oc, .inl (cI, 14, .inl mcf)), (oi, .inl (cI, 3, .inl mif)), (ol, .inl (cI, 24, .inl mlf)), (ob, .inl (cI, mbn, .inl mbf))] := hD
    refine lv_if_eq (tgt := 40) hx hb dX7_next_18 (by decide) (fun c11 => ?_) (fun c11 => ?_)
    · have hF := (if_pos c11).symm.trans hF
      refine lv_aload_n hx hb dX7_next_40 rfl (lv_at hl 0 rfl) ?_
      refine lv_iconst (v := (1 : Int32)) hx hb dX7_next_41 (by decide) ?_
      obtain ⟨r12, hC13, hF⟩ := gd_b hF
      refine ct_callV (C := RX7) (As := [.int (1 : Int32)]) (rest := []) ⟨hx, hb, hml, hown, hts⟩ (kX7_no l dC dI tys cI ht0 o oc oi ol ob (0 : Int32) mn mch mcl mgo mmo mcf mif mlf mbn mbf (1 : Int32) r12 hC13) (cwV 1 hts gX7_next_X7_no rfl rfl rfl (by decide +kernel) ⟨Nat.le_of_ble_eq_true rfl, Nat.le_of_ble_eq_true rfl⟩) hE hK hP hD hS hA [0, 1, 2, 3, 4] [] (by decide) rfl (by decide) (wr := []) rfl (by decide) (ci := 6) (T := TX7) (N := 10) (q0 := 0) rfl rfl hl.1 rfl rfl (Nat.le_of_ble_eq_true rfl) dX7_next_42 ⟨(Nat.le_of_ble_eq_true rfl), (Nat.le_of_ble_eq_true rfl)⟩ (fun i14 H locs hP hD hS => ?_)
      have hP : va_P (dC, dI) vwCl [(o, .inr (6, [.int r12.2, .int mn, .int mch, .ref oc, .ref oi, .int mcl, .ref ol, .int mgo, .int mmo, .ref ob])), (oc, .inl (cI, 14, .inl mcf)), (oi, .inl (cI, 3, .inl mif)), (ol, .inl (cI, 24, .inl mlf)), (ob, .inl (cI, mbn, .inl mbf))] H := hP
      have hD : va_D A [(o, .inr (6, [.int r12.2, .int mn, .int mch, .ref oc, .ref oi, .int mcl, .ref ol, .int mgo, .int mmo, .ref ob])), (oc, .inl (cI, 14, .inl mcf)), (oi, .inl (cI, 3, .inl mif)), (ol, .inl (cI, 24, .inl mlf)), (ob, .inl (cI, mbn, .inl mbf))] := hD
      obtain rfl := Option.some.inj hF
      exact ct_i hx hb hr hlocks hK hP hD hS () rfl [0, 1, 2, 3, 4] (by decide) rfl (Nat.le_of_ble_eq_true rfl) (Nat.le_of_ble_eq_true rfl) dX7_next_45
    · have hF := (if_neg c11).symm.trans hF
      refine lv_aload_n hx hb dX7_next_21 rfl (lv_at hl 0 rfl) ?_
      refine lv_iload_n hx hb dX7_next_22 rfl (lv_at hl 1 rfl) ?_
      obtain ⟨r15, hC16, hF⟩ := gd_b hF
      refine ct_callV (C := RX7) (As := [.int p0]) (rest := []) ⟨hx, hb, hml, hown, hts⟩ (kX7_read l dC dI tys cI ht0 cZ ht1 o oc oi ol ob (0 : Int32) mn mch mcl mgo mmo mcf mif mlf mbn mbf p0 r15 hC16) (cwV 1 hts gX7_next_X7_read rfl rfl rfl (by decide +kernel) ⟨Nat.le_of_ble_eq_true rfl, Nat.le_of_ble_eq_true rfl⟩) hE hK hP hD hS hA [0, 1, 2, 3, 4] [] (by decide) rfl (by decide) (wr := []) rfl (by decide) (ci := 6) (T := TX7) (N := 10) (q0 := 0) rfl rfl hl.1 rfl rfl (Nat.le_of_ble_eq_true rfl) dX7_next_23 ⟨(Nat.le_of_ble_eq_true rfl), (Nat.le_of_ble_eq_true rfl)⟩ (fun i17 H locs hP hD hS => ?_)
      have hP : va_P (dC, dI) vwCl [(o, .inr (6, [.int (0 : Int32), .int mn, .int mch, .ref oc, .ref oi, .int mcl, .ref ol, .int mgo, .int mmo, .ref ob])), (oc, .inl (cI, 14, .inl mcf)), (oi, .inl (cI, 3, .inl mif)), (ol, .inl (cI, 24, .inl mlf)), (ob, .inl (cI, mbn, .inl mbf)), (i17, .inl (cI, r15.2, .inl r15.1))] H := hP
      have hD : va_D A [(o, .inr (6, [.int (0 : Int32), .int mn, .int mch, .ref oc, .ref oi, .int mcl, .ref ol, .int mgo, .int mmo, .ref ob])), (oc, .inl (cI, 14, .inl mcf)), (oi, .inl (cI, 3, .inl mif)), (ol, .inl (cI, 24, .inl mlf)), (ob, .inl (cI, mbn, .inl mbf)), (i17, .inl (cI, r15.2, .inl r15.1))] := hD
      refine lv_aload_n hx hb dX7_next_26 rfl (lv_at hl 0 rfl) ?_
      refine lv_iload_n hx hb dX7_next_27 rfl (lv_at hl 2 rfl) ?_
      obtain ⟨r18, hC19, hF⟩ := gd_b hF
      refine ct_callV (C := RX7) (As := [.int p1]) (rest := [.ref i17]) ⟨hx, hb, hml, hown, hts⟩ (kX7_order l dC dI tys cI ht0 o oc oi ol ob (0 : Int32) mn mch mcl mgo mmo mcf mif mlf mbn mbf p1 r18 hC19) (cwV 1 hts gX7_next_X7_order rfl rfl rfl (by decide +kernel) ⟨Nat.le_of_ble_eq_true rfl, Nat.le_of_ble_eq_true rfl⟩) hE hK hP hD hS hA [0, 1, 2, 3, 4] [5] (by decide) rfl (by decide) (wr := [(i17, .inl (cI, r15.2, .inl r15.1))]) rfl (by decide) (ci := 6) (T := TX7) (N := 10) (q0 := 0) rfl rfl hl.1 rfl rfl (Nat.le_of_ble_eq_true rfl) dX7_next_28 ⟨(Nat.le_of_ble_eq_true rfl), (Nat.le_of_ble_eq_true rfl)⟩ (fun i20 H locs hP hD hS => ?_)
      have hP : va_P (dC, dI) vwCl [(i17, .inl (cI, r15.2, .inl r15.1)), (o, .inr (6, [.int (0 : Int32), .int mn, .int mch, .ref oc, .ref oi, .int mcl, .ref ol, .int mgo, .int mmo, .ref ob])), (oc, .inl (cI, 14, .inl mcf)), (oi, .inl (cI, 3, .inl mif)), (ol, .inl (cI, 24, .inl mlf)), (ob, .inl (cI, mbn, .inl mbf)), (i20, .inl (cI, r18.2, .inl r18.1))] H := hP
      have hD : va_D A [(i17, .inl (cI, r15.2, .inl r15.1)), (o, .inr (6, [.int (0 : Int32), .int mn, .int mch, .ref oc, .ref oi, .int mcl, .ref ol, .int mgo, .int mmo, .ref ob])), (oc, .inl (cI, 14, .inl mcf)), (oi, .inl (cI, 3, .inl mif)), (ol, .inl (cI, 24, .inl mlf)), (ob, .inl (cI, mbn, .inl mbf)), (i20, .inl (cI, r18.2, .inl r18.1))] := hD
      obtain ⟨r21, hC22, hF⟩ := gd_b hF
      refine ct_callS (As := [.ref i17, .ref i20]) (rest := []) ⟨hx, hb, hml, hown, hts⟩ (kX7_join l dC dI tys cI ht0 i17 i20 r15.2 r15.1 r18.2 r18.1 r21 hC22) (va_cwS 2 hts gX7_next_X7_join rfl rfl rfl (by decide +kernel) ⟨Nat.le_of_ble_eq_true rfl, Nat.le_of_ble_eq_true rfl⟩) hE hK hP hD hS hA [0, 6] [1, 2, 3, 4, 5] (by decide) rfl (by decide) (wr := [(o, .inr (6, [.int (0 : Int32), .int mn, .int mch, .ref oc, .ref oi, .int mcl, .ref ol, .int mgo, .int mmo, .ref ob])), (oc, .inl (cI, 14, .inl mcf)), (oi, .inl (cI, 3, .inl mif)), (ol, .inl (cI, 24, .inl mlf)), (ob, .inl (cI, mbn, .inl mbf))]) rfl (by decide) hl.1 rfl rfl (Nat.le_of_ble_eq_true rfl) dX7_next_31 ⟨(Nat.le_of_ble_eq_true rfl), (Nat.le_of_ble_eq_true rfl)⟩ (fun i23 H locs hP hD hS => ?_)
      have hP : va_P (dC, dI) vwCl [(o, .inr (6, [.int (0 : Int32), .int mn, .int mch, .ref oc, .ref oi, .int mcl, .ref ol, .int mgo, .int mmo, .ref ob])), (oc, .inl (cI, 14, .inl mcf)), (oi, .inl (cI, 3, .inl mif)), (ol, .inl (cI, 24, .inl mlf)), (ob, .inl (cI, mbn, .inl mbf)), (i17, .inl (cI, r15.2, .inl r15.1)), (i20, .inl (cI, r18.2, .inl r18.1)), (i23, .inl (cI, r21.2, .inl r21.1))] H := hP
      have hD : va_D A [(o, .inr (6, [.int (0 : Int32), .int mn, .int mch, .ref oc, .ref oi, .int mcl, .ref ol, .int mgo, .int mmo, .ref ob])), (oc, .inl (cI, 14, .inl mcf)), (oi, .inl (cI, 3, .inl mif)), (ol, .inl (cI, 24, .inl mlf)), (ob, .inl (cI, mbn, .inl mbf)), (i17, .inl (cI, r15.2, .inl r15.1)), (i20, .inl (cI, r18.2, .inl r18.1)), (i23, .inl (cI, r21.2, .inl r21.1))] := hD
      obtain ⟨r24, hC25, hF⟩ := gd_b hF
      refine ct_callS (As := [.ref i23]) (rest := []) ⟨hx, hb, hml, hown, hts⟩ (kX7_number l dC dI tys cI ht0 i23 r21.2 r21.1 r24 hC25) (va_cwS 1 hts gX7_next_X7_number rfl rfl rfl (by decide +kernel) ⟨Nat.le_of_ble_eq_true rfl, Nat.le_of_ble_eq_true rfl⟩) hE hK hP hD hS hA [7] [0, 1, 2, 3, 4, 5, 6] (by decide) rfl (by decide) (wr := [(o, .inr (6, [.int (0 : Int32), .int mn, .int mch, .ref oc, .ref oi, .int mcl, .ref ol, .int mgo, .int mmo, .ref ob])), (oc, .inl (cI, 14, .inl mcf)), (oi, .inl (cI, 3, .inl mif)), (ol, .inl (cI, 24, .inl mlf)), (ob, .inl (cI, mbn, .inl mbf)), (i17, .inl (cI, r15.2, .inl r15.1)), (i20, .inl (cI, r18.2, .inl r18.1))]) rfl (by decide) hl.1 rfl rfl (Nat.le_of_ble_eq_true rfl) dX7_next_34 ⟨(Nat.le_of_ble_eq_true rfl), (Nat.le_of_ble_eq_true rfl)⟩ (fun i26 H locs hP hD hS => ?_)
      have hP : va_P (dC, dI) vwCl [(o, .inr (6, [.int (0 : Int32), .int mn, .int mch, .ref oc, .ref oi, .int mcl, .ref ol, .int mgo, .int mmo, .ref ob])), (oc, .inl (cI, 14, .inl mcf)), (oi, .inl (cI, 3, .inl mif)), (ol, .inl (cI, 24, .inl mlf)), (ob, .inl (cI, mbn, .inl mbf)), (i17, .inl (cI, r15.2, .inl r15.1)), (i20, .inl (cI, r18.2, .inl r18.1)), (i23, .inl (cI, r21.2, .inl r21.1))] H := hP
      have hD : va_D A [(o, .inr (6, [.int (0 : Int32), .int mn, .int mch, .ref oc, .ref oi, .int mcl, .ref ol, .int mgo, .int mmo, .ref ob])), (oc, .inl (cI, 14, .inl mcf)), (oi, .inl (cI, 3, .inl mif)), (ol, .inl (cI, 24, .inl mlf)), (ob, .inl (cI, mbn, .inl mbf)), (i17, .inl (cI, r15.2, .inl r15.1)), (i20, .inl (cI, r18.2, .inl r18.1)), (i23, .inl (cI, r21.2, .inl r21.1))] := hD
      refine lv_goto (tgt := 45) hx hb dX7_next_37 (by decide) ?_
      obtain rfl := Option.some.inj hF
      exact ct_i hx hb hr hlocks hK hP hD hS () rfl [0, 1, 2, 3, 4] (by decide) rfl (Nat.le_of_ble_eq_true rfl) (Nat.le_of_ble_eq_true rfl) dX7_next_45

def fX7_lead (mn : Int32) (mch : Int32) (mcf : (Nat → Int32)) (mif : (Nat → Int32)) (p0 : Int32) (p1 : Int32) : Option (Int32 × Int32) := (fX7_isRow mn p0).bind (fun r1 => if r1 = 0 then ((fX7_no (1 : Int32)).bind (fun r5 => some (r5.1, r5.2))) else ((fX7_isIn p1 (0 : Int32) (2 : Int32)).bind (fun r8 => if r8 = 0 then ((fX7_no (1 : Int32)).bind (fun r12 => some (r12.1, r12.2))) else ((fX7_read mn p0).bind (fun r15 => (fX7_leadOrder mn mch mcf mif p1).bind (fun r18 => (fX7_join r15.2 r15.1 r18.2 r18.1).bind (fun r21 => (fX7_number r21.2 r21.1).bind (fun r24 => some (r24, (0 : Int32))))))))))
abbrev rmX7_lead : Room := { frames := 4, cells := 38, slots := 258, locals := 90 }
set_option maxHeartbeats 4000000 in
set_option maxRecDepth 100000 in
theorem kX7_lead (l : Launch) (dC : Nat → ClassId) (dI : Nat → Nat → Nat) (tys : List (ClassId × FieldType)) (cI : ClassId) (ht0 : tys[0]? = some (cI, .int)) (cZ : ClassId) (ht1 : tys[1]? = some (cZ, .boolean)) (o oc oi ol ob : Nat) (mth : Int32) (mn : Int32) (mch : Int32) (mcl : Int32) (mgo : Int32) (mmo : Int32) (mcf : (Nat → Int32)) (mif : (Nat → Int32)) (mlf : (Nat → Int32)) (mbn : Nat) (mbf : (Nat → Int32)) (p0 : Int32) (p1 : Int32) (r : (Int32 × Int32)) (hF : fX7_lead mn mch mcf mif p0 p1 = some r) : ct l (dC, dI) tys yX7_lead wsX7_lead rmX7_lead [.ref o, .int p0, .int p1] [(o, .inr (6, [.int mth, .int mn, .int mch, .ref oc, .ref oi, .int mcl, .ref ol, .int mgo, .int mmo, .ref ob])), (oc, .inl (cI, 14, .inl mcf)), (oi, .inl (cI, 3, .inl mif)), (ol, .inl (cI, 24, .inl mlf)), (ob, .inl (cI, mbn, .inl mbf))] (fun _ : Unit => some (.int r.1)) (fun _ : Unit => [(o, .inr (6, [.int r.2, .int mn, .int mch, .ref oc, .ref oi, .int mcl, .ref ol, .int mgo, .int mmo, .ref ob])), (oc, .inl (cI, 14, .inl mcf)), (oi, .inl (cI, 3, .inl mif)), (ol, .inl (cI, 24, .inl mlf)), (ob, .inl (cI, mbn, .inl mbf))]) := by
  refine ct_of (cc := cX7_lead) (maxL := 3) (ret := (some .int)) (by decide) rfl (Nat.le_of_ble_eq_true rfl) ?_
  intro p e s m below meth c A ls hx hb hr hml hts hown hlocks hname hE hK hP hD hA hS hl
  have hown : s.vm.findClass RX7 = some m.cls := hown
  have hl : lv_has ls 3 [(0, .ref o), (1, .int p0), (2, .int p1)] := hl
  unfold fX7_lead at hF
  have uX7 : ∀ w ∈ wsX70, w ∈ wsX7_lead := (fun _ h => (List.mem_cons_of_mem _ (List.mem_append_right _ h)))
  have w1 := hts (.fieldLink RX7 36 "BellfounderTowerModel" "thrown" "I") (List.mem_cons_of_mem _ (List.mem_append_left _ (List.mem_append_left _ (List.mem_of_getElem? (i := 0) rfl))))
  refine lv_aload_n hx hb dX7_lead_0 rfl (lv_at hl 0 rfl) ?_
  refine lv_iconst (v := (0 : Int32)) hx hb dX7_lead_1 (by decide) ?_
  refine va_put (D := (dC, dI)) (ci := 6) (v := .int (0 : Int32)) (ty := .int) (C := RX7) (T := TX7) (N := 10) hx hb hts uX7 tyX7 tyX7_ok nmX7 hown hK hP hD hS 0 rfl rfl 0 (by decide) w1 (fun _ h9 => h9) rfl (by decide +kernel) rfl rfl (Nat.le_of_ble_eq_true rfl) dX7_lead_2 (fun H locs hP hD hS => ?_)
  have hP : va_P (dC, dI) vwCl [(o, .inr (6, [.int (0 : Int32), .int mn, .int mch, .ref oc, .ref oi, .int mcl, .ref ol, .int mgo, .int mmo, .ref ob])), (oc, .inl (cI, 14, .inl mcf)), (oi, .inl (cI, 3, .inl mif)), (ol, .inl (cI, 24, .inl mlf)), (ob, .inl (cI, mbn, .inl mbf))] H := hP
  have hD : va_D A [(o, .inr (6, [.int (0 : Int32), .int mn, .int mch, .ref oc, .ref oi, .int mcl, .ref ol, .int mgo, .int mmo, .ref ob])), (oc, .inl (cI, 14, .inl mcf)), (oi, .inl (cI, 3, .inl mif)), (ol, .inl (cI, 24, .inl mlf)), (ob, .inl (cI, mbn, .inl mbf))] := hD
  refine lv_aload_n hx hb dX7_lead_5 rfl (lv_at hl 0 rfl) ?_
  refine lv_iload_n hx hb dX7_lead_6 rfl (lv_at hl 1 rfl) ?_
  obtain ⟨r1, hC2, hF⟩ := gd_b hF
  refine ct_callV (C := RX7) (As := [.int p0]) (rest := []) ⟨hx, hb, hml, hown, hts⟩ (kX7_isRow l dC dI tys cI ht0 cZ ht1 o oc oi ol ob (0 : Int32) mn mch mcl mgo mmo mcf mif mlf mbn mbf p0 r1 hC2) (cwV 1 hts gX7_lead_X7_isRow rfl rfl rfl (by decide +kernel) ⟨Nat.le_of_ble_eq_true rfl, Nat.le_of_ble_eq_true rfl⟩) hE hK hP hD hS hA [0, 1, 2, 3, 4] [] (by decide) rfl (by decide) (wr := []) rfl (by decide) (ci := 6) (T := TX7) (N := 10) (q0 := 0) rfl rfl hl.1 rfl rfl (Nat.le_of_ble_eq_true rfl) dX7_lead_7 ⟨(Nat.le_of_ble_eq_true rfl), (Nat.le_of_ble_eq_true rfl)⟩ (fun i3 H locs hP hD hS => ?_)
  have hP : va_P (dC, dI) vwCl [(o, .inr (6, [.int (0 : Int32), .int mn, .int mch, .ref oc, .ref oi, .int mcl, .ref ol, .int mgo, .int mmo, .ref ob])), (oc, .inl (cI, 14, .inl mcf)), (oi, .inl (cI, 3, .inl mif)), (ol, .inl (cI, 24, .inl mlf)), (ob, .inl (cI, mbn, .inl mbf))] H := hP
  have hD : va_D A [(o, .inr (6, [.int (0 : Int32), .int mn, .int mch, .ref oc, .ref oi, .int mcl, .ref ol, .int mgo, .int mmo, .ref ob])), (oc, .inl (cI, 14, .inl mcf)), (oi, .inl (cI, 3, .inl mif)), (ol, .inl (cI, 24, .inl mlf)), (ob, .inl (cI, mbn, .inl mbf))] := hD
  refine lv_if_eq (tgt := 41) hx hb dX7_lead_10 (by decide) (fun c4 => ?_) (fun c4 => ?_)
  · have hF := (if_pos c4).symm.trans hF
    refine lv_aload_n hx hb dX7_lead_41 rfl (lv_at hl 0 rfl) ?_
    refine lv_iconst (v := (1 : Int32)) hx hb dX7_lead_42 (by decide) ?_
    obtain ⟨r5, hC6, hF⟩ := gd_b hF
    refine ct_callV (C := RX7) (As := [.int (1 : Int32)]) (rest := []) ⟨hx, hb, hml, hown, hts⟩ (kX7_no l dC dI tys cI ht0 o oc oi ol ob (0 : Int32) mn mch mcl mgo mmo mcf mif mlf mbn mbf (1 : Int32) r5 hC6) (cwV 1 hts gX7_lead_X7_no rfl rfl rfl (by decide +kernel) ⟨Nat.le_of_ble_eq_true rfl, Nat.le_of_ble_eq_true rfl⟩) hE hK hP hD hS hA [0, 1, 2, 3, 4] [] (by decide) rfl (by decide) (wr := []) rfl (by decide) (ci := 6) (T := TX7) (N := 10) (q0 := 0) rfl rfl hl.1 rfl rfl (Nat.le_of_ble_eq_true rfl) dX7_lead_43 ⟨(Nat.le_of_ble_eq_true rfl), (Nat.le_of_ble_eq_true rfl)⟩ (fun i7 H locs hP hD hS => ?_)
    have hP : va_P (dC, dI) vwCl [(o, .inr (6, [.int r5.2, .int mn, .int mch, .ref oc, .ref oi, .int mcl, .ref ol, .int mgo, .int mmo, .ref ob])), (oc, .inl (cI, 14, .inl mcf)), (oi, .inl (cI, 3, .inl mif)), (ol, .inl (cI, 24, .inl mlf)), (ob, .inl (cI, mbn, .inl mbf))] H := hP
    have hD : va_D A [(o, .inr (6, [.int r5.2, .int mn, .int mch, .ref oc, .ref oi, .int mcl, .ref ol, .int mgo, .int mmo, .ref ob])), (oc, .inl (cI, 14, .inl mcf)), (oi, .inl (cI, 3, .inl mif)), (ol, .inl (cI, 24, .inl mlf)), (ob, .inl (cI, mbn, .inl mbf))] := hD
    obtain rfl := Option.some.inj hF
    exact ct_i hx hb hr hlocks hK hP hD hS () rfl [0, 1, 2, 3, 4] (by decide) rfl (Nat.le_of_ble_eq_true rfl) (Nat.le_of_ble_eq_true rfl) dX7_lead_46
  · have hF := (if_neg c4).symm.trans hF
    refine lv_iload_n hx hb dX7_lead_13 rfl (lv_at hl 2 rfl) ?_
    refine lv_iconst (v := (0 : Int32)) hx hb dX7_lead_14 (by decide) ?_
    refine lv_iconst (v := (2 : Int32)) hx hb dX7_lead_15 (by decide) ?_
    obtain ⟨r8, hC9, hF⟩ := gd_b hF
    refine ct_callS (As := [.int p1, .int (0 : Int32), .int (2 : Int32)]) (rest := []) ⟨hx, hb, hml, hown, hts⟩ (kX7_isIn l dC dI tys cI ht0 p1 (0 : Int32) (2 : Int32) r8 hC9) (va_cwS 3 hts gX7_lead_X7_isIn rfl rfl rfl (by decide +kernel) ⟨Nat.le_of_ble_eq_true rfl, Nat.le_of_ble_eq_true rfl⟩) hE hK hP hD hS hA [] [0, 1, 2, 3, 4] (by decide) rfl (by decide) (wr := [(o, .inr (6, [.int (0 : Int32), .int mn, .int mch, .ref oc, .ref oi, .int mcl, .ref ol, .int mgo, .int mmo, .ref ob])), (oc, .inl (cI, 14, .inl mcf)), (oi, .inl (cI, 3, .inl mif)), (ol, .inl (cI, 24, .inl mlf)), (ob, .inl (cI, mbn, .inl mbf))]) rfl (by decide) hl.1 rfl rfl (Nat.le_of_ble_eq_true rfl) dX7_lead_16 ⟨(Nat.le_of_ble_eq_true rfl), (Nat.le_of_ble_eq_true rfl)⟩ (fun i10 H locs hP hD hS => ?_)
    have hP : va_P (dC, dI) vwCl [(o, .inr (6, [.int (0 : Int32), .int mn, .int mch, .ref oc, .ref oi, .int mcl, .ref ol, .int mgo, .int mmo, .ref ob])), (oc, .inl (cI, 14, .inl mcf)), (oi, .inl (cI, 3, .inl mif)), (ol, .inl (cI, 24, .inl mlf)), (ob, .inl (cI, mbn, .inl mbf))] H := hP
    have hD : va_D A [(o, .inr (6, [.int (0 : Int32), .int mn, .int mch, .ref oc, .ref oi, .int mcl, .ref ol, .int mgo, .int mmo, .ref ob])), (oc, .inl (cI, 14, .inl mcf)), (oi, .inl (cI, 3, .inl mif)), (ol, .inl (cI, 24, .inl mlf)), (ob, .inl (cI, mbn, .inl mbf))] := hD
    refine lv_if_eq (tgt := 41) hx hb dX7_lead_19 (by decide) (fun c11 => ?_) (fun c11 => ?_)
    · have hF := (if_pos c11).symm.trans hF
      refine lv_aload_n hx hb dX7_lead_41 rfl (lv_at hl 0 rfl) ?_
      refine lv_iconst (v := (1 : Int32)) hx hb dX7_lead_42 (by decide) ?_
      obtain ⟨r12, hC13, hF⟩ := gd_b hF
      refine ct_callV (C := RX7) (As := [.int (1 : Int32)]) (rest := []) ⟨hx, hb, hml, hown, hts⟩ (kX7_no l dC dI tys cI ht0 o oc oi ol ob (0 : Int32) mn mch mcl mgo mmo mcf mif mlf mbn mbf (1 : Int32) r12 hC13) (cwV 1 hts gX7_lead_X7_no rfl rfl rfl (by decide +kernel) ⟨Nat.le_of_ble_eq_true rfl, Nat.le_of_ble_eq_true rfl⟩) hE hK hP hD hS hA [0, 1, 2, 3, 4] [] (by decide) rfl (by decide) (wr := []) rfl (by decide) (ci := 6) (T := TX7) (N := 10) (q0 := 0) rfl rfl hl.1 rfl rfl (Nat.le_of_ble_eq_true rfl) dX7_lead_43 ⟨(Nat.le_of_ble_eq_true rfl), (Nat.le_of_ble_eq_true rfl)⟩ (fun i14 H locs hP hD hS => ?_)
      have hP : va_P (dC, dI) vwCl [(o, .inr (6, [.int r12.2, .int mn, .int mch, .ref oc, .ref oi, .int mcl, .ref ol, .int mgo, .int mmo, .ref ob])), (oc, .inl (cI, 14, .inl mcf)), (oi, .inl (cI, 3, .inl mif)), (ol, .inl (cI, 24, .inl mlf)), (ob, .inl (cI, mbn, .inl mbf))] H := hP
      have hD : va_D A [(o, .inr (6, [.int r12.2, .int mn, .int mch, .ref oc, .ref oi, .int mcl, .ref ol, .int mgo, .int mmo, .ref ob])), (oc, .inl (cI, 14, .inl mcf)), (oi, .inl (cI, 3, .inl mif)), (ol, .inl (cI, 24, .inl mlf)), (ob, .inl (cI, mbn, .inl mbf))] := hD
      obtain rfl := Option.some.inj hF
      exact ct_i hx hb hr hlocks hK hP hD hS () rfl [0, 1, 2, 3, 4] (by decide) rfl (Nat.le_of_ble_eq_true rfl) (Nat.le_of_ble_eq_true rfl) dX7_lead_46
    · have hF := (if_neg c11).symm.trans hF
      refine lv_aload_n hx hb dX7_lead_22 rfl (lv_at hl 0 rfl) ?_
      refine lv_iload_n hx hb dX7_lead_23 rfl (lv_at hl 1 rfl) ?_
      obtain ⟨r15, hC16, hF⟩ := gd_b hF
      refine ct_callV (C := RX7) (As := [.int p0]) (rest := []) ⟨hx, hb, hml, hown, hts⟩ (kX7_read l dC dI tys cI ht0 cZ ht1 o oc oi ol ob (0 : Int32) mn mch mcl mgo mmo mcf mif mlf mbn mbf p0 r15 hC16) (cwV 1 hts gX7_lead_X7_read rfl rfl rfl (by decide +kernel) ⟨Nat.le_of_ble_eq_true rfl, Nat.le_of_ble_eq_true rfl⟩) hE hK hP hD hS hA [0, 1, 2, 3, 4] [] (by decide) rfl (by decide) (wr := []) rfl (by decide) (ci := 6) (T := TX7) (N := 10) (q0 := 0) rfl rfl hl.1 rfl rfl (Nat.le_of_ble_eq_true rfl) dX7_lead_24 ⟨(Nat.le_of_ble_eq_true rfl), (Nat.le_of_ble_eq_true rfl)⟩ (fun i17 H locs hP hD hS => ?_)
      have hP : va_P (dC, dI) vwCl [(o, .inr (6, [.int (0 : Int32), .int mn, .int mch, .ref oc, .ref oi, .int mcl, .ref ol, .int mgo, .int mmo, .ref ob])), (oc, .inl (cI, 14, .inl mcf)), (oi, .inl (cI, 3, .inl mif)), (ol, .inl (cI, 24, .inl mlf)), (ob, .inl (cI, mbn, .inl mbf)), (i17, .inl (cI, r15.2, .inl r15.1))] H := hP
      have hD : va_D A [(o, .inr (6, [.int (0 : Int32), .int mn, .int mch, .ref oc, .ref oi, .int mcl, .ref ol, .int mgo, .int mmo, .ref ob])), (oc, .inl (cI, 14, .inl mcf)), (oi, .inl (cI, 3, .inl mif)), (ol, .inl (cI, 24, .inl mlf)), (ob, .inl (cI, mbn, .inl mbf)), (i17, .inl (cI, r15.2, .inl r15.1))] := hD
      refine lv_aload_n hx hb dX7_lead_27 rfl (lv_at hl 0 rfl) ?_
      refine lv_iload_n hx hb dX7_lead_28 rfl (lv_at hl 2 rfl) ?_
      obtain ⟨r18, hC19, hF⟩ := gd_b hF
      refine ct_callV (C := RX7) (As := [.int p1]) (rest := [.ref i17]) ⟨hx, hb, hml, hown, hts⟩ (kX7_leadOrder l dC dI tys cI ht0 o oc oi ol ob (0 : Int32) mn mch mcl mgo mmo mcf mif mlf mbn mbf p1 r18 hC19) (cwV 1 hts gX7_lead_X7_leadOrder rfl rfl rfl (by decide +kernel) ⟨Nat.le_of_ble_eq_true rfl, Nat.le_of_ble_eq_true rfl⟩) hE hK hP hD hS hA [0, 1, 2, 3, 4] [5] (by decide) rfl (by decide) (wr := [(i17, .inl (cI, r15.2, .inl r15.1))]) rfl (by decide) (ci := 6) (T := TX7) (N := 10) (q0 := 0) rfl rfl hl.1 rfl rfl (Nat.le_of_ble_eq_true rfl) dX7_lead_29 ⟨(Nat.le_of_ble_eq_true rfl), (Nat.le_of_ble_eq_true rfl)⟩ (fun i20 H locs hP hD hS => ?_)
      have hP : va_P (dC, dI) vwCl [(i17, .inl (cI, r15.2, .inl r15.1)), (o, .inr (6, [.int (0 : Int32), .int mn, .int mch, .ref oc, .ref oi, .int mcl, .ref ol, .int mgo, .int mmo, .ref ob])), (oc, .inl (cI, 14, .inl mcf)), (oi, .inl (cI, 3, .inl mif)), (ol, .inl (cI, 24, .inl mlf)), (ob, .inl (cI, mbn, .inl mbf)), (i20, .inl (cI, r18.2, .inl r18.1))] H := hP
      have hD : va_D A [(i17, .inl (cI, r15.2, .inl r15.1)), (o, .inr (6, [.int (0 : Int32), .int mn, .int mch, .ref oc, .ref oi, .int mcl, .ref ol, .int mgo, .int mmo, .ref ob])), (oc, .inl (cI, 14, .inl mcf)), (oi, .inl (cI, 3, .inl mif)), (ol, .inl (cI, 24, .inl mlf)), (ob, .inl (cI, mbn, .inl mbf)), (i20, .inl (cI, r18.2, .inl r18.1))] := hD
      obtain ⟨r21, hC22, hF⟩ := gd_b hF
      refine ct_callS (As := [.ref i17, .ref i20]) (rest := []) ⟨hx, hb, hml, hown, hts⟩ (kX7_join l dC dI tys cI ht0 i17 i20 r15.2 r15.1 r18.2 r18.1 r21 hC22) (va_cwS 2 hts gX7_lead_X7_join rfl rfl rfl (by decide +kernel) ⟨Nat.le_of_ble_eq_true rfl, Nat.le_of_ble_eq_true rfl⟩) hE hK hP hD hS hA [0, 6] [1, 2, 3, 4, 5] (by decide) rfl (by decide) (wr := [(o, .inr (6, [.int (0 : Int32), .int mn, .int mch, .ref oc, .ref oi, .int mcl, .ref ol, .int mgo, .int mmo, .ref ob])), (oc, .inl (cI, 14, .inl mcf)), (oi, .inl (cI, 3, .inl mif)), (ol, .inl (cI, 24, .inl mlf)), (ob, .inl (cI, mbn, .inl mbf))]) rfl (by decide) hl.1 rfl rfl (Nat.le_of_ble_eq_true rfl) dX7_lead_32 ⟨(Nat.le_of_ble_eq_true rfl), (Nat.le_of_ble_eq_true rfl)⟩ (fun i23 H locs hP hD hS => ?_)
      have hP : va_P (dC, dI) vwCl [(o, .inr (6, [.int (0 : Int32), .int mn, .int mch, .ref oc, .ref oi, .int mcl, .ref ol, .int mgo, .int mmo, .ref ob])), (oc, .inl (cI, 14, .inl mcf)), (oi, .inl (cI, 3, .inl mif)), (ol, .inl (cI, 24, .inl mlf)), (ob, .inl (cI, mbn, .inl mbf)), (i17, .inl (cI, r15.2, .inl r15.1)), (i20, .inl (cI, r18.2, .inl r18.1)), (i23, .inl (cI, r21.2, .inl r21.1))] H := hP
      have hD : va_D A [(o, .inr (6, [.int (0 : Int32), .int mn, .int mch, .ref oc, .ref oi, .int mcl, .ref ol, .int mgo, .int mmo, .ref ob])), (oc, .inl (cI, 14, .inl mcf)), (oi, .inl (cI, 3, .inl mif)), (ol, .inl (cI, 24, .inl mlf)), (ob, .inl (cI, mbn, .inl mbf)), (i17, .inl (cI, r15.2, .inl r15.1)), (i20, .inl (cI, r18.2, .inl r18.1)), (i23, .inl (cI, r21.2, .inl r21.1))] := hD
      obtain ⟨r24, hC25, hF⟩ := gd_b hF
      refine ct_callS (As := [.ref i23]) (rest := []) ⟨hx, hb, hml, hown, hts⟩ (kX7_number l dC dI tys cI ht0 i23 r21.2 r21.1 r24 hC25) (va_cwS 1 hts gX7_lead_X7_number rfl rfl rfl (by decide +kernel) ⟨Nat.le_of_ble_eq_true rfl, Nat.le_of_ble_eq_true rfl⟩) hE hK hP hD hS hA [7] [0, 1, 2, 3, 4, 5, 6] (by decide) rfl (by decide) (wr := [(o, .inr (6, [.int (0 : Int32), .int mn, .int mch, .ref oc, .ref oi, .int mcl, .ref ol, .int mgo, .int mmo, .ref ob])), (oc, .inl (cI, 14, .inl mcf)), (oi, .inl (cI, 3, .inl mif)), (ol, .inl (cI, 24, .inl mlf)), (ob, .inl (cI, mbn, .inl mbf)), (i17, .inl (cI, r15.2, .inl r15.1)), (i20, .inl (cI, r18.2, .inl r18.1))]) rfl (by decide) hl.1 rfl rfl (Nat.le_of_ble_eq_true rfl) dX7_lead_35 ⟨(Nat.le_of_ble_eq_true rfl), (Nat.le_of_ble_eq_true rfl)⟩ (fun i26 H locs hP hD hS => ?_)
      have hP : va_P (dC, dI) vwCl [(o, .inr (6, [.int (0 : Int32), .int mn, .int mch, .ref oc, .ref oi, .int mcl, .ref ol, .int mgo, .int mmo, .ref ob])), (oc, .inl (cI, 14, .inl mcf)), (oi, .inl (cI, 3, .inl mif)), (ol, .inl (cI, 24, .inl mlf)), (ob, .inl (cI, mbn, .inl mbf)), (i17, .inl (cI, r15.2, .inl r15.1)), (i20, .inl (cI, r18.2, .inl r18.1)), (i23, .inl (cI, r21.2, .inl r21.1))] H := hP
      have hD : va_D A [(o, .inr (6, [.int (0 : Int32), .int mn, .int mch, .ref oc, .ref oi, .int mcl, .ref ol, .int mgo, .int mmo, .ref ob])), (oc, .inl (cI, 14, .inl mcf)), (oi, .inl (cI, 3, .inl mif)), (ol, .inl (cI, 24, .inl mlf)), (ob, .inl (cI, mbn, .inl mbf)), (i17, .inl (cI, r15.2, .inl r15.1)), (i20, .inl (cI, r18.2, .inl r18.1)), (i23, .inl (cI, r21.2, .inl r21.1))] := hD
      refine lv_goto (tgt := 46) hx hb dX7_lead_38 (by decide) ?_
      obtain rfl := Option.some.inj hF
      exact ct_i hx hb hr hlocks hK hP hD hS () rfl [0, 1, 2, 3, 4] (by decide) rfl (Nat.le_of_ble_eq_true rfl) (Nat.le_of_ble_eq_true rfl) dX7_lead_46

def fX7_crossedNow_X4  (x2_4 : Int32) (x1_4 : Int32) : Option Int32 := some (x1_4)
def fX7_crossedNow_X12 (rec4 : Int32 → Int32 → Option Int32) (x2_4 : Int32) (x3_12 : Int32) (x1_12 : Int32) : Option Int32 := rec4 (x2_4 + (1 : Int32)) x1_12
def fX7_crossedNow_L12 (x2_4 : Int32) (pan : Nat) (paf : (Nat → Int32)) (K12 : Int32 → Int32 → Option Int32) : Nat → Int32 → Int32 → Option Int32
  | 0, _, _ => none
  | n + 1, x3_12, x1_12 => if x2_4 ≤ x3_12 then (K12 x3_12 x1_12) else (if (x3_12 < 0 ∨ pan ≤ x3_12.toNatClampNeg) then none else (if (x2_4 < 0 ∨ pan ≤ x2_4.toNatClampNeg) then none else (if (paf x3_12.toNatClampNeg) ≤ (paf x2_4.toNatClampNeg) then ((fX7_crossedNow_L12 x2_4 pan paf K12 n) (x3_12 + (1 : Int32)) (x1_12 + (0 : Int32))) else ((fX7_crossedNow_L12 x2_4 pan paf K12 n) (x3_12 + (1 : Int32)) (x1_12 + (1 : Int32))))))
def fX7_crossedNow_L4 (pan : Nat) (paf : (Nat → Int32)) (K4 : Int32 → Int32 → Option Int32) : Nat → Int32 → Int32 → Option Int32
  | 0, _, _ => none
  | n + 1, x2_4, x1_4 => if (Int32.ofNat pan) ≤ x2_4 then (K4 x2_4 x1_4) else (fX7_crossedNow_L12 x2_4 pan paf (fX7_crossedNow_X12 (fX7_crossedNow_L4 pan paf K4 n) x2_4) 1000 (0 : Int32) x1_4)
def fX7_crossedNow (pan : Nat) (paf : (Nat → Int32)) : Option Int32 := fX7_crossedNow_L4 pan paf fX7_crossedNow_X4 1000 (0 : Int32) (0 : Int32)
abbrev rmX7_crossedNow : Room := { frames := 0, cells := 0, slots := 0, locals := 0 }
set_option maxHeartbeats 4000000 in
set_option maxRecDepth 100000 in
theorem kX7_crossedNow (l : Launch) (dC : Nat → ClassId) (dI : Nat → Nat → Nat) (tys : List (ClassId × FieldType)) (cI : ClassId) (ht0 : tys[0]? = some (cI, .int)) (pa : Nat) (pan : Nat) (paf : (Nat → Int32)) (r : Int32) (hF : fX7_crossedNow pan paf = some r) : ct l (dC, dI) tys yX7_crossedNow wsX7_crossedNow rmX7_crossedNow [.ref pa] [(pa, .inl (cI, pan, .inl paf))] (fun _ : Unit => some (.int r)) (fun _ : Unit => [(pa, .inl (cI, pan, .inl paf))]) := by
  refine ct_of (cc := cX7_crossedNow) (maxL := 4) (ret := (some .int)) (by decide) rfl (Nat.le_of_ble_eq_true rfl) ?_
  intro p e s m below meth c A ls hx hb hr hml hts hown hlocks hname hE hK hP hD hA hS hl
  have hown : s.vm.findClass RX7 = some m.cls := hown
  have hl : lv_has ls 4 [(0, .ref pa)] := hl
  unfold fX7_crossedNow at hF
  refine lv_iconst (v := (0 : Int32)) hx hb dX7_crossedNow_0 (by decide) ?_
  refine lv_istore_n (lv' := [(1, .int (0 : Int32)), (0, .ref pa)]) hx hb dX7_crossedNow_1 rfl hl (by decide) rfl (fun ls hl => ?_)
  refine lv_iconst (v := (0 : Int32)) hx hb dX7_crossedNow_2 (by decide) ?_
  refine lv_istore_n (lv' := [(2, .int (0 : Int32)), (1, .int (0 : Int32)), (0, .ref pa)]) hx hb dX7_crossedNow_3 rfl hl (by decide) rfl (fun ls hl => ?_)
  have X4 : ∀ (x2_4 : Int32) (x1_4 : Int32) (H : Heap) (locs : List Loc) (ls : Array Slot), fX7_crossedNow_X4 x2_4 x1_4 = some r → va_P (dC, dI) vwCl [(pa, .inl (cI, pan, .inl paf))] H → va_D A [(pa, .inl (cI, pan, .inl paf))] → va_S A s.heap H locs → lv_has ls 4 [(2, .int x2_4), (1, .int x1_4), (0, .ref pa)] → W p l e rmX7_crossedNow s m ([.ref pa] : List Value).toArray below meth c H locs 0 0 (MQ below (ct_Q (dC, dI) tys (fun _ : Unit => some (.int r)) (fun _ : Unit => [(pa, .inl (cI, pan, .inl paf))]) A) ([.ref pa] : List Value).toArray s rmX7_crossedNow.cells rmX7_crossedNow.slots A) (F0 m 46 ls []) := by
    intro x2_4 x1_4 H locs ls hF hP hD hS hl
    unfold fX7_crossedNow_X4 at hF
    refine lv_iload_n hx hb dX7_crossedNow_46 rfl (lv_at hl 1 rfl) ?_
    obtain rfl := Option.some.inj hF
    exact ct_i hx hb hr hlocks hK hP hD hS () rfl [0] (by decide) rfl (Nat.le_of_ble_eq_true rfl) (Nat.le_of_ble_eq_true rfl) dX7_crossedNow_47
  have L4 : ∀ (n4 : Nat) (x2_4 : Int32) (x1_4 : Int32) (H : Heap) (locs : List Loc) (ls : Array Slot), fX7_crossedNow_L4 pan paf fX7_crossedNow_X4 n4 x2_4 x1_4 = some r → va_P (dC, dI) vwCl [(pa, .inl (cI, pan, .inl paf))] H → va_D A [(pa, .inl (cI, pan, .inl paf))] → va_S A s.heap H locs → lv_has ls 4 [(2, .int x2_4), (1, .int x1_4), (0, .ref pa)] → W p l e rmX7_crossedNow s m ([.ref pa] : List Value).toArray below meth c H locs 0 0 (MQ below (ct_Q (dC, dI) tys (fun _ : Unit => some (.int r)) (fun _ : Unit => [(pa, .inl (cI, pan, .inl paf))]) A) ([.ref pa] : List Value).toArray s rmX7_crossedNow.cells rmX7_crossedNow.slots A) (F0 m 4 ls []) := by
    intro n4
    induction n4 with
    | zero => intro x2_4 x1_4 H locs ls hF; rw [fX7_crossedNow_L4] at hF; cases hF
    | succ n4 ih4 =>
      intro x2_4 x1_4 H locs ls hF hP hD hS hl
      rw [fX7_crossedNow_L4] at hF
      refine lv_iload_n hx hb dX7_crossedNow_4 rfl (lv_at hl 0 rfl) ?_
      refine lv_aload_n hx hb dX7_crossedNow_5 rfl (lv_at hl 2 rfl) ?_
      refine va_alen hx hb hK hP 0 0 rfl ht0 (v := Int32.ofNat pan) rfl dX7_crossedNow_6 ?_
      refine lv_icmp_ge (tgt := 46) hx hb dX7_crossedNow_7 (by decide) (fun c1 => ?_) (fun c1 => ?_)
      · have hF := (if_pos c1).symm.trans hF
        exact X4 x2_4 x1_4 _ _ _ hF (hP.sub [0] rfl) (hD.sub [0] (by decide) rfl) hS (lv_sub hl [0, 1, 2] rfl)
      · have hF := (if_neg c1).symm.trans hF
        refine lv_iconst (v := (0 : Int32)) hx hb dX7_crossedNow_10 (by decide) ?_
        refine lv_istore_n (lv' := [(3, .int (0 : Int32)), (2, .int x2_4), (1, .int x1_4), (0, .ref pa)]) hx hb dX7_crossedNow_11 rfl hl (by decide) rfl (fun ls hl => ?_)
        have X12 : ∀ (x3_12 : Int32) (x1_12 : Int32) (H : Heap) (locs : List Loc) (ls : Array Slot), fX7_crossedNow_X12 (fX7_crossedNow_L4 pan paf fX7_crossedNow_X4 n4) x2_4 x3_12 x1_12 = some r → va_P (dC, dI) vwCl [(pa, .inl (cI, pan, .inl paf))] H → va_D A [(pa, .inl (cI, pan, .inl paf))] → va_S A s.heap H locs → lv_has ls 4 [(3, .int x3_12), (2, .int x2_4), (1, .int x1_12), (0, .ref pa)] → W p l e rmX7_crossedNow s m ([.ref pa] : List Value).toArray below meth c H locs 0 0 (MQ below (ct_Q (dC, dI) tys (fun _ : Unit => some (.int r)) (fun _ : Unit => [(pa, .inl (cI, pan, .inl paf))]) A) ([.ref pa] : List Value).toArray s rmX7_crossedNow.cells rmX7_crossedNow.slots A) (F0 m 40 ls []) := by
          intro x3_12 x1_12 H locs ls hF hP hD hS hl
          unfold fX7_crossedNow_X12 at hF
          refine lv_iinc (v := x2_4 + (1 : Int32)) (lv' := [(2, .int (x2_4 + (1 : Int32))), (3, .int x3_12), (1, .int x1_12), (0, .ref pa)]) hx hb dX7_crossedNow_40 hl (k := 1) rfl rfl (by decide) rfl (fun ls hl => ?_)
          refine lv_goto (tgt := 4) hx hb dX7_crossedNow_43 (by decide) ?_
          exact ih4 (x2_4 + (1 : Int32)) x1_12 _ _ _ hF (hP.sub [0] rfl) (hD.sub [0] (by decide) rfl) hS (lv_sub hl [0, 2, 3] rfl)
        have L12 : ∀ (n12 : Nat) (x3_12 : Int32) (x1_12 : Int32) (H : Heap) (locs : List Loc) (ls : Array Slot), fX7_crossedNow_L12 x2_4 pan paf (fX7_crossedNow_X12 (fX7_crossedNow_L4 pan paf fX7_crossedNow_X4 n4) x2_4) n12 x3_12 x1_12 = some r → va_P (dC, dI) vwCl [(pa, .inl (cI, pan, .inl paf))] H → va_D A [(pa, .inl (cI, pan, .inl paf))] → va_S A s.heap H locs → lv_has ls 4 [(3, .int x3_12), (2, .int x2_4), (1, .int x1_12), (0, .ref pa)] → W p l e rmX7_crossedNow s m ([.ref pa] : List Value).toArray below meth c H locs 0 0 (MQ below (ct_Q (dC, dI) tys (fun _ : Unit => some (.int r)) (fun _ : Unit => [(pa, .inl (cI, pan, .inl paf))]) A) ([.ref pa] : List Value).toArray s rmX7_crossedNow.cells rmX7_crossedNow.slots A) (F0 m 12 ls []) := by
          intro n12
          induction n12 with
          | zero => intro x3_12 x1_12 H locs ls hF; rw [fX7_crossedNow_L12] at hF; cases hF
          | succ n12 ih12 =>
            intro x3_12 x1_12 H locs ls hF hP hD hS hl
            rw [fX7_crossedNow_L12] at hF
            refine lv_iload_n hx hb dX7_crossedNow_12 rfl (lv_at hl 0 rfl) ?_
            refine lv_iload_n hx hb dX7_crossedNow_13 rfl (lv_at hl 1 rfl) ?_
            refine lv_icmp_ge (tgt := 40) hx hb dX7_crossedNow_14 (by decide) (fun c2 => ?_) (fun c2 => ?_)
            · have hF := (if_pos c2).symm.trans hF
              exact X12 x3_12 x1_12 _ _ _ hF (hP.sub [0] rfl) (hD.sub [0] (by decide) rfl) hS (lv_sub hl [0, 1, 2, 3] rfl)
            · have hF := (if_neg c2).symm.trans hF
              refine lv_iload_n hx hb dX7_crossedNow_17 rfl (lv_at hl 2 rfl) ?_
              refine lv_aload_n hx hb dX7_crossedNow_18 rfl (lv_at hl 3 rfl) ?_
              refine lv_iload_n hx hb dX7_crossedNow_19 rfl (lv_at hl 0 rfl) ?_
              obtain ⟨g3, hF⟩ := gd_n hF
              refine va_iald hx hb hK hP 0 0 rfl ht0 g3 dX7_crossedNow_20 ?_
              refine lv_aload_n hx hb dX7_crossedNow_21 rfl (lv_at hl 3 rfl) ?_
              refine lv_iload_n hx hb dX7_crossedNow_22 rfl (lv_at hl 1 rfl) ?_
              obtain ⟨g4, hF⟩ := gd_n hF
              refine va_iald hx hb hK hP 0 0 rfl ht0 g4 dX7_crossedNow_23 ?_
              refine lv_icmp_le (tgt := 31) hx hb dX7_crossedNow_24 (by decide) (fun c5 => ?_) (fun c5 => ?_)
              · have hF := (if_pos c5).symm.trans hF
                refine lv_iconst (v := (0 : Int32)) hx hb dX7_crossedNow_31 (by decide) ?_
                refine lv_iadd hx hb dX7_crossedNow_32 ?_
                refine lv_istore_n (lv' := [(1, .int (x1_12 + (0 : Int32))), (3, .int x3_12), (2, .int x2_4), (0, .ref pa)]) hx hb dX7_crossedNow_33 rfl hl (by decide) rfl (fun ls hl => ?_)
                refine lv_iinc (v := x3_12 + (1 : Int32)) (lv' := [(3, .int (x3_12 + (1 : Int32))), (1, .int (x1_12 + (0 : Int32))), (2, .int x2_4), (0, .ref pa)]) hx hb dX7_crossedNow_34 hl (k := 1) rfl rfl (by decide) rfl (fun ls hl => ?_)
                refine lv_goto (tgt := 12) hx hb dX7_crossedNow_37 (by decide) ?_
                exact ih12 (x3_12 + (1 : Int32)) (x1_12 + (0 : Int32)) _ _ _ hF (hP.sub [0] rfl) (hD.sub [0] (by decide) rfl) hS (lv_sub hl [0, 2, 1, 3] rfl)
              · have hF := (if_neg c5).symm.trans hF
                refine lv_iconst (v := (1 : Int32)) hx hb dX7_crossedNow_27 (by decide) ?_
                refine lv_goto (tgt := 32) hx hb dX7_crossedNow_28 (by decide) ?_
                refine lv_iadd hx hb dX7_crossedNow_32 ?_
                refine lv_istore_n (lv' := [(1, .int (x1_12 + (1 : Int32))), (3, .int x3_12), (2, .int x2_4), (0, .ref pa)]) hx hb dX7_crossedNow_33 rfl hl (by decide) rfl (fun ls hl => ?_)
                refine lv_iinc (v := x3_12 + (1 : Int32)) (lv' := [(3, .int (x3_12 + (1 : Int32))), (1, .int (x1_12 + (1 : Int32))), (2, .int x2_4), (0, .ref pa)]) hx hb dX7_crossedNow_34 hl (k := 1) rfl rfl (by decide) rfl (fun ls hl => ?_)
                refine lv_goto (tgt := 12) hx hb dX7_crossedNow_37 (by decide) ?_
                exact ih12 (x3_12 + (1 : Int32)) (x1_12 + (1 : Int32)) _ _ _ hF (hP.sub [0] rfl) (hD.sub [0] (by decide) rfl) hS (lv_sub hl [0, 2, 1, 3] rfl)
        exact L12 1000 (0 : Int32) x1_4 _ _ _ hF (hP.sub [0] rfl) (hD.sub [0] (by decide) rfl) hS (lv_sub hl [0, 1, 2, 3] rfl)
  exact L4 1000 (0 : Int32) (0 : Int32) _ _ _ hF (hP.sub [0] rfl) (hD.sub [0] (by decide) rfl) hS (lv_sub hl [0, 1, 2] rfl)

def fX7_crossed (mn : Int32) (p0 : Int32) : Option (Int32 × Int32) := (fX7_isRow mn p0).bind (fun r1 => if r1 = 0 then ((fX7_no (1 : Int32)).bind (fun r5 => some (r5.1, r5.2))) else ((fX7_read mn p0).bind (fun r8 => (fX7_crossedNow r8.2 r8.1).bind (fun r11 => some (r11, (0 : Int32))))))
abbrev rmX7_crossed : Room := { frames := 3, cells := 6, slots := 34, locals := 69 }
set_option maxHeartbeats 4000000 in
set_option maxRecDepth 100000 in
theorem kX7_crossed (l : Launch) (dC : Nat → ClassId) (dI : Nat → Nat → Nat) (tys : List (ClassId × FieldType)) (cI : ClassId) (ht0 : tys[0]? = some (cI, .int)) (cZ : ClassId) (ht1 : tys[1]? = some (cZ, .boolean)) (o oc oi ol ob : Nat) (mth : Int32) (mn : Int32) (mch : Int32) (mcl : Int32) (mgo : Int32) (mmo : Int32) (mcf : (Nat → Int32)) (mif : (Nat → Int32)) (mlf : (Nat → Int32)) (mbn : Nat) (mbf : (Nat → Int32)) (p0 : Int32) (r : (Int32 × Int32)) (hF : fX7_crossed mn p0 = some r) : ct l (dC, dI) tys yX7_crossed wsX7_crossed rmX7_crossed [.ref o, .int p0] [(o, .inr (6, [.int mth, .int mn, .int mch, .ref oc, .ref oi, .int mcl, .ref ol, .int mgo, .int mmo, .ref ob])), (oc, .inl (cI, 14, .inl mcf)), (oi, .inl (cI, 3, .inl mif)), (ol, .inl (cI, 24, .inl mlf)), (ob, .inl (cI, mbn, .inl mbf))] (fun _ : Unit => some (.int r.1)) (fun _ : Unit => [(o, .inr (6, [.int r.2, .int mn, .int mch, .ref oc, .ref oi, .int mcl, .ref ol, .int mgo, .int mmo, .ref ob])), (oc, .inl (cI, 14, .inl mcf)), (oi, .inl (cI, 3, .inl mif)), (ol, .inl (cI, 24, .inl mlf)), (ob, .inl (cI, mbn, .inl mbf))]) := by
  refine ct_of (cc := cX7_crossed) (maxL := 2) (ret := (some .int)) (by decide) rfl (Nat.le_of_ble_eq_true rfl) ?_
  intro p e s m below meth c A ls hx hb hr hml hts hown hlocks hname hE hK hP hD hA hS hl
  have hown : s.vm.findClass RX7 = some m.cls := hown
  have hl : lv_has ls 2 [(0, .ref o), (1, .int p0)] := hl
  unfold fX7_crossed at hF
  have uX7 : ∀ w ∈ wsX70, w ∈ wsX7_crossed := (fun _ h => (List.mem_cons_of_mem _ (List.mem_append_right _ h)))
  have w1 := hts (.fieldLink RX7 36 "BellfounderTowerModel" "thrown" "I") (List.mem_cons_of_mem _ (List.mem_append_left _ (List.mem_of_getElem? (i := 0) rfl)))
  refine lv_aload_n hx hb dX7_crossed_0 rfl (lv_at hl 0 rfl) ?_
  refine lv_iconst (v := (0 : Int32)) hx hb dX7_crossed_1 (by decide) ?_
  refine va_put (D := (dC, dI)) (ci := 6) (v := .int (0 : Int32)) (ty := .int) (C := RX7) (T := TX7) (N := 10) hx hb hts uX7 tyX7 tyX7_ok nmX7 hown hK hP hD hS 0 rfl rfl 0 (by decide) w1 (fun _ h9 => h9) rfl (by decide +kernel) rfl rfl (Nat.le_of_ble_eq_true rfl) dX7_crossed_2 (fun H locs hP hD hS => ?_)
  have hP : va_P (dC, dI) vwCl [(o, .inr (6, [.int (0 : Int32), .int mn, .int mch, .ref oc, .ref oi, .int mcl, .ref ol, .int mgo, .int mmo, .ref ob])), (oc, .inl (cI, 14, .inl mcf)), (oi, .inl (cI, 3, .inl mif)), (ol, .inl (cI, 24, .inl mlf)), (ob, .inl (cI, mbn, .inl mbf))] H := hP
  have hD : va_D A [(o, .inr (6, [.int (0 : Int32), .int mn, .int mch, .ref oc, .ref oi, .int mcl, .ref ol, .int mgo, .int mmo, .ref ob])), (oc, .inl (cI, 14, .inl mcf)), (oi, .inl (cI, 3, .inl mif)), (ol, .inl (cI, 24, .inl mlf)), (ob, .inl (cI, mbn, .inl mbf))] := hD
  refine lv_aload_n hx hb dX7_crossed_5 rfl (lv_at hl 0 rfl) ?_
  refine lv_iload_n hx hb dX7_crossed_6 rfl (lv_at hl 1 rfl) ?_
  obtain ⟨r1, hC2, hF⟩ := gd_b hF
  refine ct_callV (C := RX7) (As := [.int p0]) (rest := []) ⟨hx, hb, hml, hown, hts⟩ (kX7_isRow l dC dI tys cI ht0 cZ ht1 o oc oi ol ob (0 : Int32) mn mch mcl mgo mmo mcf mif mlf mbn mbf p0 r1 hC2) (cwV 1 hts gX7_crossed_X7_isRow rfl rfl rfl (by decide +kernel) ⟨Nat.le_of_ble_eq_true rfl, Nat.le_of_ble_eq_true rfl⟩) hE hK hP hD hS hA [0, 1, 2, 3, 4] [] (by decide) rfl (by decide) (wr := []) rfl (by decide) (ci := 6) (T := TX7) (N := 10) (q0 := 0) rfl rfl hl.1 rfl rfl (Nat.le_of_ble_eq_true rfl) dX7_crossed_7 ⟨(Nat.le_of_ble_eq_true rfl), (Nat.le_of_ble_eq_true rfl)⟩ (fun i3 H locs hP hD hS => ?_)
  have hP : va_P (dC, dI) vwCl [(o, .inr (6, [.int (0 : Int32), .int mn, .int mch, .ref oc, .ref oi, .int mcl, .ref ol, .int mgo, .int mmo, .ref ob])), (oc, .inl (cI, 14, .inl mcf)), (oi, .inl (cI, 3, .inl mif)), (ol, .inl (cI, 24, .inl mlf)), (ob, .inl (cI, mbn, .inl mbf))] H := hP
  have hD : va_D A [(o, .inr (6, [.int (0 : Int32), .int mn, .int mch, .ref oc, .ref oi, .int mcl, .ref ol, .int mgo, .int mmo, .ref ob])), (oc, .inl (cI, 14, .inl mcf)), (oi, .inl (cI, 3, .inl mif)), (ol, .inl (cI, 24, .inl mlf)), (ob, .inl (cI, mbn, .inl mbf))] := hD
  refine lv_if_eq (tgt := 24) hx hb dX7_crossed_10 (by decide) (fun c4 => ?_) (fun c4 => ?_)
  · have hF := (if_pos c4).symm.trans hF
    refine lv_aload_n hx hb dX7_crossed_24 rfl (lv_at hl 0 rfl) ?_
    refine lv_iconst (v := (1 : Int32)) hx hb dX7_crossed_25 (by decide) ?_
    obtain ⟨r5, hC6, hF⟩ := gd_b hF
    refine ct_callV (C := RX7) (As := [.int (1 : Int32)]) (rest := []) ⟨hx, hb, hml, hown, hts⟩ (kX7_no l dC dI tys cI ht0 o oc oi ol ob (0 : Int32) mn mch mcl mgo mmo mcf mif mlf mbn mbf (1 : Int32) r5 hC6) (cwV 1 hts gX7_crossed_X7_no rfl rfl rfl (by decide +kernel) ⟨Nat.le_of_ble_eq_true rfl, Nat.le_of_ble_eq_true rfl⟩) hE hK hP hD hS hA [0, 1, 2, 3, 4] [] (by decide) rfl (by decide) (wr := []) rfl (by decide) (ci := 6) (T := TX7) (N := 10) (q0 := 0) rfl rfl hl.1 rfl rfl (Nat.le_of_ble_eq_true rfl) dX7_crossed_26 ⟨(Nat.le_of_ble_eq_true rfl), (Nat.le_of_ble_eq_true rfl)⟩ (fun i7 H locs hP hD hS => ?_)
    have hP : va_P (dC, dI) vwCl [(o, .inr (6, [.int r5.2, .int mn, .int mch, .ref oc, .ref oi, .int mcl, .ref ol, .int mgo, .int mmo, .ref ob])), (oc, .inl (cI, 14, .inl mcf)), (oi, .inl (cI, 3, .inl mif)), (ol, .inl (cI, 24, .inl mlf)), (ob, .inl (cI, mbn, .inl mbf))] H := hP
    have hD : va_D A [(o, .inr (6, [.int r5.2, .int mn, .int mch, .ref oc, .ref oi, .int mcl, .ref ol, .int mgo, .int mmo, .ref ob])), (oc, .inl (cI, 14, .inl mcf)), (oi, .inl (cI, 3, .inl mif)), (ol, .inl (cI, 24, .inl mlf)), (ob, .inl (cI, mbn, .inl mbf))] := hD
    obtain rfl := Option.some.inj hF
    exact ct_i hx hb hr hlocks hK hP hD hS () rfl [0, 1, 2, 3, 4] (by decide) rfl (Nat.le_of_ble_eq_true rfl) (Nat.le_of_ble_eq_true rfl) dX7_crossed_29
  · have hF := (if_neg c4).symm.trans hF
    refine lv_aload_n hx hb dX7_crossed_13 rfl (lv_at hl 0 rfl) ?_
    refine lv_iload_n hx hb dX7_crossed_14 rfl (lv_at hl 1 rfl) ?_
    obtain ⟨r8, hC9, hF⟩ := gd_b hF
    refine ct_callV (C := RX7) (As := [.int p0]) (rest := []) ⟨hx, hb, hml, hown, hts⟩ (kX7_read l dC dI tys cI ht0 cZ ht1 o oc oi ol ob (0 : Int32) mn mch mcl mgo mmo mcf mif mlf mbn mbf p0 r8 hC9) (cwV 1 hts gX7_crossed_X7_read rfl rfl rfl (by decide +kernel) ⟨Nat.le_of_ble_eq_true rfl, Nat.le_of_ble_eq_true rfl⟩) hE hK hP hD hS hA [0, 1, 2, 3, 4] [] (by decide) rfl (by decide) (wr := []) rfl (by decide) (ci := 6) (T := TX7) (N := 10) (q0 := 0) rfl rfl hl.1 rfl rfl (Nat.le_of_ble_eq_true rfl) dX7_crossed_15 ⟨(Nat.le_of_ble_eq_true rfl), (Nat.le_of_ble_eq_true rfl)⟩ (fun i10 H locs hP hD hS => ?_)
    have hP : va_P (dC, dI) vwCl [(o, .inr (6, [.int (0 : Int32), .int mn, .int mch, .ref oc, .ref oi, .int mcl, .ref ol, .int mgo, .int mmo, .ref ob])), (oc, .inl (cI, 14, .inl mcf)), (oi, .inl (cI, 3, .inl mif)), (ol, .inl (cI, 24, .inl mlf)), (ob, .inl (cI, mbn, .inl mbf)), (i10, .inl (cI, r8.2, .inl r8.1))] H := hP
    have hD : va_D A [(o, .inr (6, [.int (0 : Int32), .int mn, .int mch, .ref oc, .ref oi, .int mcl, .ref ol, .int mgo, .int mmo, .ref ob])), (oc, .inl (cI, 14, .inl mcf)), (oi, .inl (cI, 3, .inl mif)), (ol, .inl (cI, 24, .inl mlf)), (ob, .inl (cI, mbn, .inl mbf)), (i10, .inl (cI, r8.2, .inl r8.1))] := hD
    obtain ⟨r11, hC12, hF⟩ := gd_b hF
    refine ct_callS (As := [.ref i10]) (rest := []) ⟨hx, hb, hml, hown, hts⟩ (kX7_crossedNow l dC dI tys cI ht0 i10 r8.2 r8.1 r11 hC12) (va_cwS 1 hts gX7_crossed_X7_crossedNow rfl rfl rfl (by decide +kernel) ⟨Nat.le_of_ble_eq_true rfl, Nat.le_of_ble_eq_true rfl⟩) hE hK hP hD hS hA [5] [0, 1, 2, 3, 4] (by decide) rfl (by decide) (wr := [(o, .inr (6, [.int (0 : Int32), .int mn, .int mch, .ref oc, .ref oi, .int mcl, .ref ol, .int mgo, .int mmo, .ref ob])), (oc, .inl (cI, 14, .inl mcf)), (oi, .inl (cI, 3, .inl mif)), (ol, .inl (cI, 24, .inl mlf)), (ob, .inl (cI, mbn, .inl mbf))]) rfl (by decide) hl.1 rfl rfl (Nat.le_of_ble_eq_true rfl) dX7_crossed_18 ⟨(Nat.le_of_ble_eq_true rfl), (Nat.le_of_ble_eq_true rfl)⟩ (fun i13 H locs hP hD hS => ?_)
    have hP : va_P (dC, dI) vwCl [(o, .inr (6, [.int (0 : Int32), .int mn, .int mch, .ref oc, .ref oi, .int mcl, .ref ol, .int mgo, .int mmo, .ref ob])), (oc, .inl (cI, 14, .inl mcf)), (oi, .inl (cI, 3, .inl mif)), (ol, .inl (cI, 24, .inl mlf)), (ob, .inl (cI, mbn, .inl mbf)), (i10, .inl (cI, r8.2, .inl r8.1))] H := hP
    have hD : va_D A [(o, .inr (6, [.int (0 : Int32), .int mn, .int mch, .ref oc, .ref oi, .int mcl, .ref ol, .int mgo, .int mmo, .ref ob])), (oc, .inl (cI, 14, .inl mcf)), (oi, .inl (cI, 3, .inl mif)), (ol, .inl (cI, 24, .inl mlf)), (ob, .inl (cI, mbn, .inl mbf)), (i10, .inl (cI, r8.2, .inl r8.1))] := hD
    refine lv_goto (tgt := 29) hx hb dX7_crossed_21 (by decide) ?_
    obtain rfl := Option.some.inj hF
    exact ct_i hx hb hr hlocks hK hP hD hS () rfl [0, 1, 2, 3, 4] (by decide) rfl (Nat.le_of_ble_eq_true rfl) (Nat.le_of_ble_eq_true rfl) dX7_crossed_29
