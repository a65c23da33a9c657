def fX7_isIn (p0 : Int32) (p1 : Int32) (p2 : Int32) : Option Int32 := if p0 < p1 then (some ((0 : Int32))) else (if p2 < p0 then (some ((0 : Int32))) else (some ((1 : Int32))))
abbrev rmX7_isIn : Room := { frames := 0, cells := 0, slots := 0, locals := 0 }
set_option maxHeartbeats 4000000 in
set_option maxRecDepth 100000 in
theorem kX7_isIn (l : Launch) (dC : Nat → ClassId) (dI : Nat → Nat → Nat) (tys : List (ClassId × FieldType)) (cI : ClassId) (ht0 : tys[0]? = some (cI, .int))  (p0 : Int32) (p1 : Int32) (p2 : Int32) (r : Int32) (hF : fX7_isIn p0 p1 p2 = some r) : ct l (dC, dI) tys yX7_isIn wsX7_isIn rmX7_isIn [.int p0, .int p1, .int p2] [] (fun _ : Unit => some (.int r)) (fun _ : Unit => []) := by
  refine ct_of (cc := cX7_isIn) (maxL := 3) (ret := (some .boolean)) (by decide) rfl (Nat.le_of_ble_eq_true rfl) ?_
  intro p e s m below meth c A ls hx hb hr hml hts hown hlocks hname hE hK hP hD hA hS hl
  have hown : s.vm.findClass RX7 = some m.cls := hown
  have hl : lv_has ls 3 [(0, .int p0), (1, .int p1), (2, .int p2)] := hl
  unfold fX7_isIn at hF
  refine lv_iload_n hx hb dX7_isIn_0 rfl (lv_at hl 0 rfl) ?_
  refine lv_iload_n hx hb dX7_isIn_1 rfl (lv_at hl 1 rfl) ?_
  refine lv_icmp_lt (tgt := 14) hx hb dX7_isIn_2 (by decide) (fun c1 => ?_) (fun c1 => ?_)
  · have hF := (if_pos c1).symm.trans hF
    refine lv_iconst (v := (0 : Int32)) hx hb dX7_isIn_14 (by decide) ?_
    obtain rfl := Option.some.inj hF
    exact ct_z hx hb hr hlocks hK hP hD hS () (gd_z (by decide)) rfl [] (by decide) rfl (Nat.le_of_ble_eq_true rfl) (Nat.le_of_ble_eq_true rfl) dX7_isIn_15
  · have hF := (if_neg c1).symm.trans hF
    refine lv_iload_n hx hb dX7_isIn_5 rfl (lv_at hl 0 rfl) ?_
    refine lv_iload_n hx hb dX7_isIn_6 rfl (lv_at hl 2 rfl) ?_
    refine lv_icmp_gt (tgt := 14) hx hb dX7_isIn_7 (by decide) (fun c2 => ?_) (fun c2 => ?_)
    · have hF := (if_pos c2).symm.trans hF
      refine lv_iconst (v := (0 : Int32)) hx hb dX7_isIn_14 (by decide) ?_
      obtain rfl := Option.some.inj hF
      exact ct_z hx hb hr hlocks hK hP hD hS () (gd_z (by decide)) rfl [] (by decide) rfl (Nat.le_of_ble_eq_true rfl) (Nat.le_of_ble_eq_true rfl) dX7_isIn_15
    · have hF := (if_neg c2).symm.trans hF
      refine lv_iconst (v := (1 : Int32)) hx hb dX7_isIn_10 (by decide) ?_
      refine lv_goto (tgt := 15) hx hb dX7_isIn_11 (by decide) ?_
      obtain rfl := Option.some.inj hF
      exact ct_z hx hb hr hlocks hK hP hD hS () (gd_z (by decide)) rfl [] (by decide) rfl (Nat.le_of_ble_eq_true rfl) (Nat.le_of_ble_eq_true rfl) dX7_isIn_15

def fX7_reset (mif : (Nat → Int32)) (p0 : Int32) : Option (Int32 × (Nat → Int32)) := some (p0, (upd (upd mif (1 : Int32).toNatClampNeg (((1 : Int32) <<< (p0 &&& 31)) - (1 : Int32))) (2 : Int32).toNatClampNeg ((upd mif (1 : Int32).toNatClampNeg (((1 : Int32) <<< (p0 &&& 31)) - (1 : Int32))) (1 : Int32).toNatClampNeg)))
abbrev rmX7_reset : Room := { frames := 0, cells := 0, slots := 0, locals := 0 }
set_option maxHeartbeats 4000000 in
set_option maxRecDepth 100000 in
theorem kX7_reset (l : Launch) (dC : Nat → ClassId) (dI : Nat → Nat → Nat) (tys : List (ClassId × FieldType)) (cI : ClassId) (ht0 : tys[0]? = some (cI, .int)) (o oc oi ol ob : Nat) (mth : Int32) (mn : Int32) (mch : Int32) (mcl : Int32) (mgo : Int32) (mmo : Int32) (mcf : (Nat → Int32)) (mif : (Nat → Int32)) (mlf : (Nat → Int32)) (mbn : Nat) (mbf : (Nat → Int32)) (p0 : Int32) (r : (Int32 × (Nat → Int32))) (hF : fX7_reset mif p0 = some r) : ct l (dC, dI) tys yX7_reset wsX7_reset rmX7_reset [.ref o, .int p0] [(o, .inr (6, [.int mth, .int mn, .int mch, .ref oc, .ref oi, .int mcl, .ref ol, .int mgo, .int mmo, .ref ob])), (oc, .inl (cI, 14, .inl mcf)), (oi, .inl (cI, 3, .inl mif)), (ol, .inl (cI, 24, .inl mlf)), (ob, .inl (cI, mbn, .inl mbf))] (fun _ : Unit => none) (fun _ : Unit => [(o, .inr (6, [.int mth, .int r.1, .int (0 : Int32), .ref oc, .ref oi, .int (0 : Int32), .ref ol, .int mgo, .int mmo, .ref ob])), (oc, .inl (cI, 14, .inl mcf)), (oi, .inl (cI, 3, .inl r.2)), (ol, .inl (cI, 24, .inl mlf)), (ob, .inl (cI, mbn, .inl mbf))]) := by
  refine ct_of (cc := cX7_reset) (maxL := 2) (ret := none) (by decide) rfl (Nat.le_of_ble_eq_true rfl) ?_
  intro p e s m below meth c A ls hx hb hr hml hts hown hlocks hname hE hK hP hD hA hS hl
  have hown : s.vm.findClass RX7 = some m.cls := hown
  have hl : lv_has ls 2 [(0, .ref o), (1, .int p0)] := hl
  unfold fX7_reset at hF
  have uX7 : ∀ w ∈ wsX70, w ∈ wsX7_reset := (fun _ h => (List.mem_cons_of_mem _ (List.mem_append_right _ h)))
  have w1 := hts (.fieldLink RX7 26 "BellfounderTowerModel" "n" "I") (List.mem_cons_of_mem _ (List.mem_append_left _ (List.mem_of_getElem? (i := 0) rfl)))
  have w2 := hts (.fieldLink RX7 30 "BellfounderTowerModel" "changes" "I") (List.mem_cons_of_mem _ (List.mem_append_left _ (List.mem_of_getElem? (i := 1) rfl)))
  have w3 := hts (.fieldLink RX7 33 "BellfounderTowerModel" "calls" "I") (List.mem_cons_of_mem _ (List.mem_append_left _ (List.mem_of_getElem? (i := 2) rfl)))
  have w4 := hts (.fieldLink RX7 13 "BellfounderTowerModel" "instead" "[I") (List.mem_cons_of_mem _ (List.mem_append_left _ (List.mem_of_getElem? (i := 3) rfl)))
  refine lv_aload_n hx hb dX7_reset_0 rfl (lv_at hl 0 rfl) ?_
  refine lv_iload_n hx hb dX7_reset_1 rfl (lv_at hl 1 rfl) ?_
  refine va_put (D := (dC, dI)) (ci := 6) (v := .int p0) (ty := .int) (C := RX7) (T := TX7) (N := 10) hx hb hts uX7 tyX7 tyX7_ok nmX7 hown hK hP hD hS 0 rfl rfl 1 (by decide) w1 (fun _ h9 => h9) rfl (by decide +kernel) rfl rfl (Nat.le_of_ble_eq_true rfl) dX7_reset_2 (fun H locs hP hD hS => ?_)
  have hP : va_P (dC, dI) vwCl [(o, .inr (6, [.int mth, .int p0, .int mch, .ref oc, .ref oi, .int mcl, .ref ol, .int mgo, .int mmo, .ref ob])), (oc, .inl (cI, 14, .inl mcf)), (oi, .inl (cI, 3, .inl mif)), (ol, .inl (cI, 24, .inl mlf)), (ob, .inl (cI, mbn, .inl mbf))] H := hP
  have hD : va_D A [(o, .inr (6, [.int mth, .int p0, .int mch, .ref oc, .ref oi, .int mcl, .ref ol, .int mgo, .int mmo, .ref ob])), (oc, .inl (cI, 14, .inl mcf)), (oi, .inl (cI, 3, .inl mif)), (ol, .inl (cI, 24, .inl mlf)), (ob, .inl (cI, mbn, .inl mbf))] := hD
  refine lv_aload_n hx hb dX7_reset_5 rfl (lv_at hl 0 rfl) ?_
  refine lv_iconst (v := (0 : Int32)) hx hb dX7_reset_6 (by decide) ?_
  refine va_put (D := (dC, dI)) (ci := 6) (v := .int (0 : Int32)) (ty := .int) (C := RX7) (T := TX7) (N := 10) hx hb hts uX7 tyX7 tyX7_ok nmX7 hown hK hP hD hS 0 rfl rfl 2 (by decide) w2 (fun _ h9 => h9) rfl (by decide +kernel) rfl rfl (Nat.le_of_ble_eq_true rfl) dX7_reset_7 (fun H locs hP hD hS => ?_)
  have hP : va_P (dC, dI) vwCl [(o, .inr (6, [.int mth, .int p0, .int (0 : Int32), .ref oc, .ref oi, .int mcl, .ref ol, .int mgo, .int mmo, .ref ob])), (oc, .inl (cI, 14, .inl mcf)), (oi, .inl (cI, 3, .inl mif)), (ol, .inl (cI, 24, .inl mlf)), (ob, .inl (cI, mbn, .inl mbf))] H := hP
  have hD : va_D A [(o, .inr (6, [.int mth, .int p0, .int (0 : Int32), .ref oc, .ref oi, .int mcl, .ref ol, .int mgo, .int mmo, .ref ob])), (oc, .inl (cI, 14, .inl mcf)), (oi, .inl (cI, 3, .inl mif)), (ol, .inl (cI, 24, .inl mlf)), (ob, .inl (cI, mbn, .inl mbf))] := hD
  refine lv_aload_n hx hb dX7_reset_10 rfl (lv_at hl 0 rfl) ?_
  refine lv_iconst (v := (0 : Int32)) hx hb dX7_reset_11 (by decide) ?_
  refine va_put (D := (dC, dI)) (ci := 6) (v := .int (0 : Int32)) (ty := .int) (C := RX7) (T := TX7) (N := 10) hx hb hts uX7 tyX7 tyX7_ok nmX7 hown hK hP hD hS 0 rfl rfl 5 (by decide) w3 (fun _ h9 => h9) rfl (by decide +kernel) rfl rfl (Nat.le_of_ble_eq_true rfl) dX7_reset_12 (fun H locs hP hD hS => ?_)
  have hP : va_P (dC, dI) vwCl [(o, .inr (6, [.int mth, .int p0, .int (0 : Int32), .ref oc, .ref oi, .int (0 : Int32), .ref ol, .int mgo, .int mmo, .ref ob])), (oc, .inl (cI, 14, .inl mcf)), (oi, .inl (cI, 3, .inl mif)), (ol, .inl (cI, 24, .inl mlf)), (ob, .inl (cI, mbn, .inl mbf))] H := hP
  have hD : va_D A [(o, .inr (6, [.int mth, .int p0, .int (0 : Int32), .ref oc, .ref oi, .int (0 : Int32), .ref ol, .int mgo, .int mmo, .ref ob])), (oc, .inl (cI, 14, .inl mcf)), (oi, .inl (cI, 3, .inl mif)), (ol, .inl (cI, 24, .inl mlf)), (ob, .inl (cI, mbn, .inl mbf))] := hD
  refine lv_aload_n hx hb dX7_reset_15 rfl (lv_at hl 0 rfl) ?_
  refine va_get (D := (dC, dI)) (ci := 6) (v := .ref oi) (C := RX7) (T := TX7) (N := 10) hx hb hts uX7 hown hK hP 0 rfl rfl 4 (by decide) w4 (fun _ h9 => h9) rfl dX7_reset_16 ?_
  refine lv_iconst (v := (1 : Int32)) hx hb dX7_reset_19 (by decide) ?_
  refine lv_iconst (v := (1 : Int32)) hx hb dX7_reset_20 (by decide) ?_
  refine lv_aload_n hx hb dX7_reset_21 rfl (lv_at hl 0 rfl) ?_
  refine va_get (D := (dC, dI)) (ci := 6) (v := .int p0) (C := RX7) (T := TX7) (N := 10) hx hb hts uX7 hown hK hP 0 rfl rfl 1 (by decide) w1 (fun _ h9 => h9) rfl dX7_reset_22 ?_
  refine lv_ishl hx hb dX7_reset_25 ?_
  refine lv_iconst (v := (1 : Int32)) hx hb dX7_reset_26 (by decide) ?_
  refine lv_isub hx hb dX7_reset_27 ?_
  refine va_iast hx hb hK hP hD hS 2 0 rfl ht0 (by unfold vp_in; decide) dX7_reset_28 (fun H locs hP hD hS => ?_)
  have hP : va_P (dC, dI) vwCl [(o, .inr (6, [.int mth, .int p0, .int (0 : Int32), .ref oc, .ref oi, .int (0 : Int32), .ref ol, .int mgo, .int mmo, .ref ob])), (oc, .inl (cI, 14, .inl mcf)), (oi, .inl (cI, 3, .inl (upd mif (1 : Int32).toNatClampNeg (((1 : Int32) <<< (p0 &&& 31)) - (1 : Int32))))), (ol, .inl (cI, 24, .inl mlf)), (ob, .inl (cI, mbn, .inl mbf))] H := hP
  have hD : va_D A [(o, .inr (6, [.int mth, .int p0, .int (0 : Int32), .ref oc, .ref oi, .int (0 : Int32), .ref ol, .int mgo, .int mmo, .ref ob])), (oc, .inl (cI, 14, .inl mcf)), (oi, .inl (cI, 3, .inl (upd mif (1 : Int32).toNatClampNeg (((1 : Int32) <<< (p0 &&& 31)) - (1 : Int32))))), (ol, .inl (cI, 24, .inl mlf)), (ob, .inl (cI, mbn, .inl mbf))] := hD
  refine lv_aload_n hx hb dX7_reset_29 rfl (lv_at hl 0 rfl) ?_
  refine va_get (D := (dC, dI)) (ci := 6) (v := .ref oi) (C := RX7) (T := TX7) (N := 10) hx hb hts uX7 hown hK hP 0 rfl rfl 4 (by decide) w4 (fun _ h9 => h9) rfl dX7_reset_30 ?_
  refine lv_iconst (v := (2 : Int32)) hx hb dX7_reset_33 (by decide) ?_
  refine lv_aload_n hx hb dX7_reset_34 rfl (lv_at hl 0 rfl) ?_
  refine va_get (D := (dC, dI)) (ci := 6) (v := .ref oi) (C := RX7) (T := TX7) (N := 10) hx hb hts uX7 hown hK hP 0 rfl rfl 4 (by decide) w4 (fun _ h9 => h9) rfl dX7_reset_35 ?_
  refine lv_iconst (v := (1 : Int32)) hx hb dX7_reset_38 (by decide) ?_
  refine va_iald hx hb hK hP 2 0 rfl ht0 (by unfold vp_in; decide) dX7_reset_39 ?_
  refine va_iast hx hb hK hP hD hS 2 0 rfl ht0 (by unfold vp_in; decide) dX7_reset_40 (fun H locs hP hD hS => ?_)
  have hP : va_P (dC, dI) vwCl [(o, .inr (6, [.int mth, .int p0, .int (0 : Int32), .ref oc, .ref oi, .int (0 : Int32), .ref ol, .int mgo, .int mmo, .ref ob])), (oc, .inl (cI, 14, .inl mcf)), (oi, .inl (cI, 3, .inl (upd (upd mif (1 : Int32).toNatClampNeg (((1 : Int32) <<< (p0 &&& 31)) - (1 : Int32))) (2 : Int32).toNatClampNeg ((upd mif (1 : Int32).toNatClampNeg (((1 : Int32) <<< (p0 &&& 31)) - (1 : Int32))) (1 : Int32).toNatClampNeg)))), (ol, .inl (cI, 24, .inl mlf)), (ob, .inl (cI, mbn, .inl mbf))] H := hP
  have hD : va_D A [(o, .inr (6, [.int mth, .int p0, .int (0 : Int32), .ref oc, .ref oi, .int (0 : Int32), .ref ol, .int mgo, .int mmo, .ref ob])), (oc, .inl (cI, 14, .inl mcf)), (oi, .inl (cI, 3, .inl (upd (upd mif (1 : Int32).toNatClampNeg (((1 : Int32) <<< (p0 &&& 31)) - (1 : Int32))) (2 : Int32).toNatClampNeg ((upd mif (1 : Int32).toNatClampNeg (((1 : Int32) <<< (p0 &&& 31)) - (1 : Int32))) (1 : Int32).toNatClampNeg)))), (ol, .inl (cI, 24, .inl mlf)), (ob, .inl (cI, mbn, .inl mbf))] := hD
  obtain rfl := Option.some.inj hF
  exact ct_v hx hb hr hlocks hK hP hD hS () rfl [0, 1, 2, 3, 4] (by decide) rfl (Nat.le_of_ble_eq_true rfl) (Nat.le_of_ble_eq_true rfl) dX7_reset_41

def fX7_thrown (mth : Int32) : Option Int32 := some (mth)
abbrev rmX7_thrown : Room := { frames := 0, cells := 0, slots := 0, locals := 0 }
set_option maxHeartbeats 4000000 in
set_option maxRecDepth 100000 in
theorem kX7_thrown (l : Launch) (dC : Nat → ClassId) (dI : Nat → Nat → Nat) (tys : List (ClassId × FieldType)) (cI : ClassId) (ht0 : tys[0]? = some (cI, .int)) (o oc oi ol ob : Nat) (mth : Int32) (mn : Int32) (mch : Int32) (mcl : Int32) (mgo : Int32) (mmo : Int32) (mcf : (Nat → Int32)) (mif : (Nat → Int32)) (mlf : (Nat → Int32)) (mbn : Nat) (mbf : (Nat → Int32)) (r : Int32) (hF : fX7_thrown mth = some r) : ct l (dC, dI) tys yX7_thrown wsX7_thrown rmX7_thrown [.ref o] [(o, .inr (6, [.int mth, .int mn, .int mch, .ref oc, .ref oi, .int mcl, .ref ol, .int mgo, .int mmo, .ref ob])), (oc, .inl (cI, 14, .inl mcf)), (oi, .inl (cI, 3, .inl mif)), (ol, .inl (cI, 24, .inl mlf)), (ob, .inl (cI, mbn, .inl mbf))] (fun _ : Unit => some (.int r)) (fun _ : Unit => [(o, .inr (6, [.int mth, .int mn, .int mch, .ref oc, .ref oi, .int mcl, .ref ol, .int mgo, .int mmo, .ref ob])), (oc, .inl (cI, 14, .inl mcf)), (oi, .inl (cI, 3, .inl mif)), (ol, .inl (cI, 24, .inl mlf)), (ob, .inl (cI, mbn, .inl mbf))]) := by
  refine ct_of (cc := cX7_thrown) (maxL := 1) (ret := (some .int)) (by decide) rfl (Nat.le_of_ble_eq_true rfl) ?_
  intro p e s m below meth c A ls hx hb hr hml hts hown hlocks hname hE hK hP hD hA hS hl
  have hown : s.vm.findClass RX7 = some m.cls := hown
  have hl : lv_has ls 1 [(0, .ref o)] := hl
  unfold fX7_thrown at hF
  have uX7 : ∀ w ∈ wsX70, w ∈ wsX7_thrown := (fun _ h => (List.mem_cons_of_mem _ (List.mem_append_right _ h)))
  have w1 := hts (.fieldLink RX7 36 "BellfounderTowerModel" "thrown" "I") (List.mem_cons_of_mem _ (List.mem_append_left _ (List.mem_of_getElem? (i := 0) rfl)))
  refine lv_aload_n hx hb dX7_thrown_0 rfl (lv_at hl 0 rfl) ?_
  refine va_get (D := (dC, dI)) (ci := 6) (v := .int mth) (C := RX7) (T := TX7) (N := 10) hx hb hts uX7 hown hK hP 0 rfl rfl 0 (by decide) w1 (fun _ h9 => h9) rfl dX7_thrown_1 ?_
  obtain rfl := Option.some.inj hF
  exact ct_i hx hb hr hlocks hK hP hD hS () rfl [0, 1, 2, 3, 4] (by decide) rfl (Nat.le_of_ble_eq_true rfl) (Nat.le_of_ble_eq_true rfl) dX7_thrown_4

def fX7_no (p0 : Int32) : Option (Int32 × Int32) := some ((0 : Int32), p0)
abbrev rmX7_no : Room := { frames := 0, cells := 0, slots := 0, locals := 0 }
set_option maxHeartbeats 4000000 in
set_option maxRecDepth 100000 in
theorem kX7_no (l : Launch) (dC : Nat → ClassId) (dI : Nat → Nat → Nat) (tys : List (ClassId × FieldType)) (cI : ClassId) (ht0 : tys[0]? = some (cI, .int)) (o oc oi ol ob : Nat) (mth : Int32) (mn : Int32) (mch : Int32) (mcl : Int32) (mgo : Int32) (mmo : Int32) (mcf : (Nat → Int32)) (mif : (Nat → Int32)) (mlf : (Nat → Int32)) (mbn : Nat) (mbf : (Nat → Int32)) (p0 : Int32) (r : (Int32 × Int32)) (hF : fX7_no p0 = some r) : ct l (dC, dI) tys yX7_no wsX7_no rmX7_no [.ref o, .int p0] [(o, .inr (6, [.int mth, .int mn, .int mch, .ref oc, .ref oi, .int mcl, .ref ol, .int mgo, .int mmo, .ref ob])), (oc, .inl (cI, 14, .inl mcf)), (oi, .inl (cI, 3, .inl mif)), (ol, .inl (cI, 24, .inl mlf)), (ob, .inl (cI, mbn, .inl mbf))] (fun _ : Unit => some (.int r.1)) (fun _ : Unit => [(o, .inr (6, [.int r.2, .int mn, .int mch, .ref oc, .ref oi, .int mcl, .ref ol, .int mgo, .int mmo, .ref ob])), (oc, .inl (cI, 14, .inl mcf)), (oi, .inl (cI, 3, .inl mif)), (ol, .inl (cI, 24, .inl mlf)), (ob, .inl (cI, mbn, .inl mbf))]) := by
  refine ct_of (cc := cX7_no) (maxL := 2) (ret := (some .int)) (by decide) rfl (Nat.le_of_ble_eq_true rfl) ?_
  intro p e s m below meth c A ls hx hb hr hml hts hown hlocks hname hE hK hP hD hA hS hl
  have hown : s.vm.findClass RX7 = some m.cls := hown
  have hl : lv_has ls 2 [(0, .ref o), (1, .int p0)] := hl
  unfold fX7_no at hF
  have uX7 : ∀ w ∈ wsX70, w ∈ wsX7_no := (fun _ h => (List.mem_cons_of_mem _ (List.mem_append_right _ h)))
  have w1 := hts (.fieldLink RX7 36 "BellfounderTowerModel" "thrown" "I") (List.mem_cons_of_mem _ (List.mem_append_left _ (List.mem_of_getElem? (i := 0) rfl)))
  refine lv_aload_n hx hb dX7_no_0 rfl (lv_at hl 0 rfl) ?_
  refine lv_iload_n hx hb dX7_no_1 rfl (lv_at hl 1 rfl) ?_
  refine va_put (D := (dC, dI)) (ci := 6) (v := .int p0) (ty := .int) (C := RX7) (T := TX7) (N := 10) hx hb hts uX7 tyX7 tyX7_ok nmX7 hown hK hP hD hS 0 rfl rfl 0 (by decide) w1 (fun _ h9 => h9) rfl (by decide +kernel) rfl rfl (Nat.le_of_ble_eq_true rfl) dX7_no_2 (fun H locs hP hD hS => ?_)
  have hP : va_P (dC, dI) vwCl [(o, .inr (6, [.int p0, .int mn, .int mch, .ref oc, .ref oi, .int mcl, .ref ol, .int mgo, .int mmo, .ref ob])), (oc, .inl (cI, 14, .inl mcf)), (oi, .inl (cI, 3, .inl mif)), (ol, .inl (cI, 24, .inl mlf)), (ob, .inl (cI, mbn, .inl mbf))] H := hP
  have hD : va_D A [(o, .inr (6, [.int p0, .int mn, .int mch, .ref oc, .ref oi, .int mcl, .ref ol, .int mgo, .int mmo, .ref ob])), (oc, .inl (cI, 14, .inl mcf)), (oi, .inl (cI, 3, .inl mif)), (ol, .inl (cI, 24, .inl mlf)), (ob, .inl (cI, mbn, .inl mbf))] := hD
  refine lv_iconst (v := (0 : Int32)) hx hb dX7_no_5 (by decide) ?_
  obtain rfl := Option.some.inj hF
  exact ct_i hx hb hr hlocks hK hP hD hS () rfl [0, 1, 2, 3, 4] (by decide) rfl (Nat.le_of_ble_eq_true rfl) (Nat.le_of_ble_eq_true rfl) dX7_no_6

def fX7_same_X9 (mn : Int32) (x2_9 : Int32) (f5_9 : (Nat → Int32)) : Option ((Nat → Int32) × Nat) := some (f5_9, mn.toNatClampNeg)
def fX7_same_L9 (mn : Int32) (K9 : Int32 → (Nat → Int32) → Option ((Nat → Int32) × Nat)) : Nat → Int32 → (Nat → Int32) → Option ((Nat → Int32) × Nat)
  | 0, _, _ => none
  | n + 1, x2_9, f5_9 => if mn ≤ x2_9 then (K9 x2_9 f5_9) else (if (x2_9 < 0 ∨ mn.toNatClampNeg ≤ x2_9.toNatClampNeg) then none else ((fX7_same_L9 mn K9 n) (x2_9 + (1 : Int32)) (upd f5_9 x2_9.toNatClampNeg x2_9)))
def fX7_same (mn : Int32) : Option ((Nat → Int32) × Nat) := if mn < 0 then none else if ¬ mn.toNatClampNeg ≤ 7 then none else (fX7_same_L9 mn (fX7_same_X9 mn) 1000 (0 : Int32) (fun _ => 0))
abbrev rmX7_same : Room := { frames := 0, cells := 1, slots := 7, locals := 0 }
set_option maxHeartbeats 4000000 in
set_option maxRecDepth 100000 in
theorem kX7_same (l : Launch) (dC : Nat → ClassId) (dI : Nat → Nat → Nat) (tys : List (ClassId × FieldType)) (cI : ClassId) (ht0 : tys[0]? = some (cI, .int)) (o oc oi ol ob : Nat) (mth : Int32) (mn : Int32) (mch : Int32) (mcl : Int32) (mgo : Int32) (mmo : Int32) (mcf : (Nat → Int32)) (mif : (Nat → Int32)) (mlf : (Nat → Int32)) (mbn : Nat) (mbf : (Nat → Int32)) (r : ((Nat → Int32) × Nat)) (hF : fX7_same mn = some r) : ct l (dC, dI) tys yX7_same wsX7_same rmX7_same [.ref o] [(o, .inr (6, [.int mth, .int mn, .int mch, .ref oc, .ref oi, .int mcl, .ref ol, .int mgo, .int mmo, .ref ob])), (oc, .inl (cI, 14, .inl mcf)), (oi, .inl (cI, 3, .inl mif)), (ol, .inl (cI, 24, .inl mlf)), (ob, .inl (cI, mbn, .inl mbf))] (fun i : Nat => some (.ref i)) (fun i : Nat => [(o, .inr (6, [.int mth, .int mn, .int mch, .ref oc, .ref oi, .int mcl, .ref ol, .int mgo, .int mmo, .ref ob])), (oc, .inl (cI, 14, .inl mcf)), (oi, .inl (cI, 3, .inl mif)), (ol, .inl (cI, 24, .inl mlf)), (ob, .inl (cI, mbn, .inl mbf)), (i, .inl (cI, r.2, .inl r.1))]) := by
  refine ct_of (cc := cX7_same) (maxL := 3) (ret := (some (.array .int))) (by decide) rfl (Nat.le_of_ble_eq_true rfl) ?_
  intro p e s m below meth c A ls hx hb hr hml hts hown hlocks hname hE hK hP hD hA hS hl
  have hown : s.vm.findClass RX7 = some m.cls := hown
  have hl : lv_has ls 3 [(0, .ref o)] := hl
  unfold fX7_same at hF
  have uX7 : ∀ w ∈ wsX70, w ∈ wsX7_same := (fun _ h => (List.mem_cons_of_mem _ (List.mem_append_right _ h)))
  have w1 := hts (.fieldLink RX7 26 "BellfounderTowerModel" "n" "I") (List.mem_cons_of_mem _ (List.mem_append_left _ (List.mem_of_getElem? (i := 0) rfl)))
  have w2 := hts (.arrayClass .int) (List.mem_cons_of_mem _ (List.mem_append_left _ (List.mem_of_getElem? (i := 1) rfl)))
  refine lv_aload_n hx hb dX7_same_0 rfl (lv_at hl 0 rfl) ?_
  refine va_get (D := (dC, dI)) (ci := 6) (v := .int mn) (C := RX7) (T := TX7) (N := 10) hx hb hts uX7 hown hK hP 0 rfl rfl 1 (by decide) w1 (fun _ h9 => h9) rfl dX7_same_1 ?_
  obtain ⟨g1, hF⟩ := gd_n hF
  obtain ⟨g2, hF⟩ := gd_n hF
  have g2 := Decidable.not_not.mp g2
  refine ct_newi hx hb w2 ht0 hK hP hD hS hA (N' := mn.toNatClampNeg) g1 rfl (by omega) (Nat.le_of_ble_eq_true rfl) (Nat.le_trans (Nat.add_le_add_left g2 _) (Nat.le_of_ble_eq_true rfl)) dX7_same_4 (fun q3 H hP hD hS => ?_)
  refine W.widen (k := 1) (n := 7) (show 0 + 1 ≤ 1 from Nat.le_refl _) (show 0 + mn.toNatClampNeg ≤ 7 from Nat.add_le_add_left g2 _) ?_
  have hP : va_P (dC, dI) vwCl [(o, .inr (6, [.int mth, .int mn, .int mch, .ref oc, .ref oi, .int mcl, .ref ol, .int mgo, .int mmo, .ref ob])), (oc, .inl (cI, 14, .inl mcf)), (oi, .inl (cI, 3, .inl mif)), (ol, .inl (cI, 24, .inl mlf)), (ob, .inl (cI, mbn, .inl mbf)), (q3, .inl (cI, mn.toNatClampNeg, .inl (fun _ => 0)))] H := hP
  have hD : va_D A [(o, .inr (6, [.int mth, .int mn, .int mch, .ref oc, .ref oi, .int mcl, .ref ol, .int mgo, .int mmo, .ref ob])), (oc, .inl (cI, 14, .inl mcf)), (oi, .inl (cI, 3, .inl mif)), (ol, .inl (cI, 24, .inl mlf)), (ob, .inl (cI, mbn, .inl mbf)), (q3, .inl (cI, mn.toNatClampNeg, .inl (fun _ => 0)))] := hD
  refine lv_astore_n (lv' := [(1, .ref q3), (0, .ref o)]) hx hb dX7_same_6 rfl hl (by decide) rfl (fun ls hl => ?_)
  refine lv_iconst (v := (0 : Int32)) hx hb dX7_same_7 (by decide) ?_
  refine lv_istore_n (lv' := [(2, .int (0 : Int32)), (1, .ref q3), (0, .ref o)]) hx hb dX7_same_8 rfl hl (by decide) rfl (fun ls hl => ?_)
  have X9 : ∀ (x2_9 : Int32) (f5_9 : (Nat → Int32)) (H : Heap) (locs : List Loc) (ls : Array Slot), fX7_same_X9 mn x2_9 f5_9 = some r → va_P (dC, dI) vwCl [(o, .inr (6, [.int mth, .int mn, .int mch, .ref oc, .ref oi, .int mcl, .ref ol, .int mgo, .int mmo, .ref ob])), (oc, .inl (cI, 14, .inl mcf)), (oi, .inl (cI, 3, .inl mif)), (ol, .inl (cI, 24, .inl mlf)), (ob, .inl (cI, mbn, .inl mbf)), (q3, .inl (cI, mn.toNatClampNeg, .inl f5_9))] H → va_D A [(o, .inr (6, [.int mth, .int mn, .int mch, .ref oc, .ref oi, .int mcl, .ref ol, .int mgo, .int mmo, .ref ob])), (oc, .inl (cI, 14, .inl mcf)), (oi, .inl (cI, 3, .inl mif)), (ol, .inl (cI, 24, .inl mlf)), (ob, .inl (cI, mbn, .inl mbf)), (q3, .inl (cI, mn.toNatClampNeg, .inl f5_9))] → va_S A s.heap H locs → lv_has ls 3 [(2, .int x2_9), (1, .ref q3), (0, .ref o)] → W p l e rmX7_same s m ([.ref o] : List Value).toArray below meth c H locs 1 7 (MQ below (ct_Q (dC, dI) tys (fun i : Nat => some (.ref i)) (fun i : Nat => [(o, .inr (6, [.int mth, .int mn, .int mch, .ref oc, .ref oi, .int mcl, .ref ol, .int mgo, .int mmo, .ref ob])), (oc, .inl (cI, 14, .inl mcf)), (oi, .inl (cI, 3, .inl mif)), (ol, .inl (cI, 24, .inl mlf)), (ob, .inl (cI, mbn, .inl mbf)), (i, .inl (cI, r.2, .inl r.1))]) A) ([.ref o] : List Value).toArray s rmX7_same.cells rmX7_same.slots A) (F0 m 27 ls []) := by
    intro x2_9 f5_9 H locs ls hF hP hD hS hl
    unfold fX7_same_X9 at hF
    refine lv_aload_n hx hb dX7_same_27 rfl (lv_at hl 1 rfl) ?_
    obtain rfl := Option.some.inj hF
    exact ct_a hx hb hr hlocks hK hP hD hS q3 rfl [0, 1, 2, 3, 4, 5] (by decide) rfl (Nat.le_of_ble_eq_true rfl) (Nat.le_of_ble_eq_true rfl) dX7_same_28
  have L9 : ∀ (n9 : Nat) (x2_9 : Int32) (f5_9 : (Nat → Int32)) (H : Heap) (locs : List Loc) (ls : Array Slot), fX7_same_L9 mn (fX7_same_X9 mn) n9 x2_9 f5_9 = some r → va_P (dC, dI) vwCl [(o, .inr (6, [.int mth, .int mn, .int mch, .ref oc, .ref oi, .int mcl, .ref ol, .int mgo, .int mmo, .ref ob])), (oc, .inl (cI, 14, .inl mcf)), (oi, .inl (cI, 3, .inl mif)), (ol, .inl (cI, 24, .inl mlf)), (ob, .inl (cI, mbn, .inl mbf)), (q3, .inl (cI, mn.toNatClampNeg, .inl f5_9))] H → va_D A [(o, .inr (6, [.int mth, .int mn, .int mch, .ref oc, .ref oi, .int mcl, .ref ol, .int mgo, .int mmo, .ref ob])), (oc, .inl (cI, 14, .inl mcf)), (oi, .inl (cI, 3, .inl mif)), (ol, .inl (cI, 24, .inl mlf)), (ob, .inl (cI, mbn, .inl mbf)), (q3, .inl (cI, mn.toNatClampNeg, .inl f5_9))] → va_S A s.heap H locs → lv_has ls 3 [(2, .int x2_9), (1, .ref q3), (0, .ref o)] → W p l e rmX7_same s m ([.ref o] : List Value).toArray below meth c H locs 1 7 (MQ below (ct_Q (dC, dI) tys (fun i : Nat => some (.ref i)) (fun i : Nat => [(o, .inr (6, [.int mth, .int mn, .int mch, .ref oc, .ref oi, .int mcl, .ref ol, .int mgo, .int mmo, .ref ob])), (oc, .inl (cI, 14, .inl mcf)), (oi, .inl (cI, 3, .inl mif)), (ol, .inl (cI, 24, .inl mlf)), (ob, .inl (cI, mbn, .inl mbf)), (i, .inl (cI, r.2, .inl r.1))]) A) ([.ref o] : List Value).toArray s rmX7_same.cells rmX7_same.slots A) (F0 m 9 ls []) := by
    intro n9
    induction n9 with
    | zero => intro x2_9 f5_9 H locs ls hF; rw [fX7_same_L9] at hF; cases hF
    | succ n9 ih9 =>
      intro x2_9 f5_9 H locs ls hF hP hD hS hl
      rw [fX7_same_L9] at hF
      refine lv_iload_n hx hb dX7_same_9 rfl (lv_at hl 0 rfl) ?_
      refine lv_aload_n hx hb dX7_same_10 rfl (lv_at hl 2 rfl) ?_
      refine va_get (D := (dC, dI)) (ci := 6) (v := .int mn) (C := RX7) (T := TX7) (N := 10) hx hb hts uX7 hown hK hP 0 rfl rfl 1 (by decide) w1 (fun _ h9 => h9) rfl dX7_same_11 ?_
      refine lv_icmp_ge (tgt := 27) hx hb dX7_same_14 (by decide) (fun c4 => ?_) (fun c4 => ?_)
      · have hF := (if_pos c4).symm.trans hF
        exact X9 x2_9 f5_9 _ _ _ hF (hP.sub [0, 1, 2, 3, 4, 5] rfl) (hD.sub [0, 1, 2, 3, 4, 5] (by decide) rfl) hS (lv_sub hl [0, 1, 2] rfl)
      · have hF := (if_neg c4).symm.trans hF
        refine lv_aload_n hx hb dX7_same_17 rfl (lv_at hl 1 rfl) ?_
        refine lv_iload_n hx hb dX7_same_18 rfl (lv_at hl 0 rfl) ?_
        refine lv_iload_n hx hb dX7_same_19 rfl (lv_at hl 0 rfl) ?_
        obtain ⟨g5, hF⟩ := gd_n hF
        refine va_iast hx hb hK hP hD hS 5 0 rfl ht0 g5 dX7_same_20 (fun H locs hP hD hS => ?_)
        have hP : va_P (dC, dI) vwCl [(o, .inr (6, [.int mth, .int mn, .int mch, .ref oc, .ref oi, .int mcl, .ref ol, .int mgo, .int mmo, .ref ob])), (oc, .inl (cI, 14, .inl mcf)), (oi, .inl (cI, 3, .inl mif)), (ol, .inl (cI, 24, .inl mlf)), (ob, .inl (cI, mbn, .inl mbf)), (q3, .inl (cI, mn.toNatClampNeg, .inl (upd f5_9 x2_9.toNatClampNeg x2_9)))] H := hP
        have hD : va_D A [(o, .inr (6, [.int mth, .int mn, .int mch, .ref oc, .ref oi, .int mcl, .ref ol, .int mgo, .int mmo, .ref ob])), (oc, .inl (cI, 14, .inl mcf)), (oi, .inl (cI, 3, .inl mif)), (ol, .inl (cI, 24, .inl mlf)), (ob, .inl (cI, mbn, .inl mbf)), (q3, .inl (cI, mn.toNatClampNeg, .inl (upd f5_9 x2_9.toNatClampNeg x2_9)))] := hD
        refine lv_iinc (v := x2_9 + (1 : Int32)) (lv' := [(2, .int (x2_9 + (1 : Int32))), (1, .ref q3), (0, .ref o)]) hx hb dX7_same_21 hl (k := 0) rfl rfl (by decide) rfl (fun ls hl => ?_)
        refine lv_goto (tgt := 9) hx hb dX7_same_24 (by decide) ?_
        exact ih9 (x2_9 + (1 : Int32)) (upd f5_9 x2_9.toNatClampNeg x2_9) _ _ _ hF (hP.sub [0, 1, 2, 3, 4, 5] rfl) (hD.sub [0, 1, 2, 3, 4, 5] (by decide) rfl) hS (lv_sub hl [0, 1, 2] rfl)
  exact L9 1000 (0 : Int32) (fun _ => 0) _ _ _ hF (hP.sub [0, 1, 2, 3, 4, 5] rfl) (hD.sub [0, 1, 2, 3, 4, 5] (by decide) rfl) hS (lv_sub hl [0, 1, 2] rfl)

def fX7_join_X7 (pan : Nat) (x3_7 : Int32) (f2_7 : (Nat → Int32)) : Option ((Nat → Int32) × Nat) := some (f2_7, ((Int32.ofNat pan).toNatClampNeg))
def fX7_join_L7 (pan : Nat) (pbn : Nat) (pbf : (Nat → Int32)) (paf : (Nat → Int32)) (K7 : Int32 → (Nat → Int32) → Option ((Nat → Int32) × Nat)) : Nat → Int32 → (Nat → Int32) → Option ((Nat → Int32) × Nat)
  | 0, _, _ => none
  | n + 1, x3_7, f2_7 => if (Int32.ofNat ((Int32.ofNat pan).toNatClampNeg)) ≤ x3_7 then (K7 x3_7 f2_7) else (if (x3_7 < 0 ∨ pbn ≤ x3_7.toNatClampNeg) then none else (if ((pbf x3_7.toNatClampNeg) < 0 ∨ pan ≤ (pbf x3_7.toNatClampNeg).toNatClampNeg) then none else (if (x3_7 < 0 ∨ (Int32.ofNat pan).toNatClampNeg ≤ x3_7.toNatClampNeg) then none else ((fX7_join_L7 pan pbn pbf paf K7 n) (x3_7 + (1 : Int32)) (upd f2_7 x3_7.toNatClampNeg (paf (pbf x3_7.toNatClampNeg).toNatClampNeg))))))
def fX7_join (pan : Nat) (paf : (Nat → Int32)) (pbn : Nat) (pbf : (Nat → Int32)) : Option ((Nat → Int32) × Nat) := if (Int32.ofNat pan) < 0 then none else if ¬ (Int32.ofNat pan).toNatClampNeg ≤ 7 then none else (fX7_join_L7 pan pbn pbf paf (fX7_join_X7 pan) 1000 (0 : Int32) (fun _ => 0))
abbrev rmX7_join : Room := { frames := 0, cells := 1, slots := 7, locals := 0 }
set_option maxHeartbeats 4000000 in
set_option maxRecDepth 100000 in
theorem kX7_join (l : Launch) (dC : Nat → ClassId) (dI : Nat → Nat → Nat) (tys : List (ClassId × FieldType)) (cI : ClassId) (ht0 : tys[0]? = some (cI, .int)) (pa pb : Nat) (pan : Nat) (paf : (Nat → Int32)) (pbn : Nat) (pbf : (Nat → Int32)) (r : ((Nat → Int32) × Nat)) (hF : fX7_join pan paf pbn pbf = some r) : ct l (dC, dI) tys yX7_join wsX7_join rmX7_join [.ref pa, .ref pb] [(pa, .inl (cI, pan, .inl paf)), (pb, .inl (cI, pbn, .inl pbf))] (fun i : Nat => some (.ref i)) (fun i : Nat => [(pa, .inl (cI, pan, .inl paf)), (pb, .inl (cI, pbn, .inl pbf)), (i, .inl (cI, r.2, .inl r.1))]) := by
  refine ct_of (cc := cX7_join) (maxL := 4) (ret := (some (.array .int))) (by decide) rfl (Nat.le_of_ble_eq_true rfl) ?_
  intro p e s m below meth c A ls hx hb hr hml hts hown hlocks hname hE hK hP hD hA hS hl
  have hown : s.vm.findClass RX7 = some m.cls := hown
  have hl : lv_has ls 4 [(0, .ref pa), (1, .ref pb)] := hl
  unfold fX7_join at hF
  have w0 := hts (.arrayClass .int) (List.mem_cons_of_mem _ (List.mem_of_getElem? (i := 0) rfl))
  refine lv_aload_n hx hb dX7_join_0 rfl (lv_at hl 0 rfl) ?_
  refine va_alen hx hb hK hP 0 0 rfl ht0 (v := Int32.ofNat pan) rfl dX7_join_1 ?_
  obtain ⟨g1, hF⟩ := gd_n hF
  obtain ⟨g2, hF⟩ := gd_n hF
  have g2 := Decidable.not_not.mp g2
  refine ct_newi hx hb w0 ht0 hK hP hD hS hA (N' := (Int32.ofNat pan).toNatClampNeg) g1 rfl (by omega) (Nat.le_of_ble_eq_true rfl) (Nat.le_trans (Nat.add_le_add_left g2 _) (Nat.le_of_ble_eq_true rfl)) dX7_join_2 (fun q3 H hP hD hS => ?_)
  refine W.widen (k := 1) (n := 7) (show 0 + 1 ≤ 1 from Nat.le_refl _) (show 0 + (Int32.ofNat pan).toNatClampNeg ≤ 7 from Nat.add_le_add_left g2 _) ?_
  have hP : va_P (dC, dI) vwCl [(pa, .inl (cI, pan, .inl paf)), (pb, .inl (cI, pbn, .inl pbf)), (q3, .inl (cI, (Int32.ofNat pan).toNatClampNeg, .inl (fun _ => 0)))] H := hP
  have hD : va_D A [(pa, .inl (cI, pan, .inl paf)), (pb, .inl (cI, pbn, .inl pbf)), (q3, .inl (cI, (Int32.ofNat pan).toNatClampNeg, .inl (fun _ => 0)))] := hD
  refine lv_astore_n (lv' := [(2, .ref q3), (0, .ref pa), (1, .ref pb)]) hx hb dX7_join_4 rfl hl (by decide) rfl (fun ls hl => ?_)
  refine lv_iconst (v := (0 : Int32)) hx hb dX7_join_5 (by decide) ?_
  refine lv_istore_n (lv' := [(3, .int (0 : Int32)), (2, .ref q3), (0, .ref pa), (1, .ref pb)]) hx hb dX7_join_6 rfl hl (by decide) rfl (fun ls hl => ?_)
  have X7 : ∀ (x3_7 : Int32) (f2_7 : (Nat → Int32)) (H : Heap) (locs : List Loc) (ls : Array Slot), fX7_join_X7 pan x3_7 f2_7 = some r → va_P (dC, dI) vwCl [(pa, .inl (cI, pan, .inl paf)), (pb, .inl (cI, pbn, .inl pbf)), (q3, .inl (cI, (Int32.ofNat pan).toNatClampNeg, .inl f2_7))] H → va_D A [(pa, .inl (cI, pan, .inl paf)), (pb, .inl (cI, pbn, .inl pbf)), (q3, .inl (cI, (Int32.ofNat pan).toNatClampNeg, .inl f2_7))] → va_S A s.heap H locs → lv_has ls 4 [(3, .int x3_7), (2, .ref q3), (0, .ref pa), (1, .ref pb)] → W p l e rmX7_join s m ([.ref pa, .ref pb] : List Value).toArray below meth c H locs 1 7 (MQ below (ct_Q (dC, dI) tys (fun i : Nat => some (.ref i)) (fun i : Nat => [(pa, .inl (cI, pan, .inl paf)), (pb, .inl (cI, pbn, .inl pbf)), (i, .inl (cI, r.2, .inl r.1))]) A) ([.ref pa, .ref pb] : List Value).toArray s rmX7_join.cells rmX7_join.slots A) (F0 m 27 ls []) := by
    intro x3_7 f2_7 H locs ls hF hP hD hS hl
    unfold fX7_join_X7 at hF
    refine lv_aload_n hx hb dX7_join_27 rfl (lv_at hl 1 rfl) ?_
    obtain rfl := Option.some.inj hF
    exact ct_a hx hb hr hlocks hK hP hD hS q3 rfl [0, 1, 2] (by decide) rfl (Nat.le_of_ble_eq_true rfl) (Nat.le_of_ble_eq_true rfl) dX7_join_28
  have L7 : ∀ (n7 : Nat) (x3_7 : Int32) (f2_7 : (Nat → Int32)) (H : Heap) (locs : List Loc) (ls : Array Slot), fX7_join_L7 pan pbn pbf paf (fX7_join_X7 pan) n7 x3_7 f2_7 = some r → va_P (dC, dI) vwCl [(pa, .inl (cI, pan, .inl paf)), (pb, .inl (cI, pbn, .inl pbf)), (q3, .inl (cI, (Int32.ofNat pan).toNatClampNeg, .inl f2_7))] H → va_D A [(pa, .inl (cI, pan, .inl paf)), (pb, .inl (cI, pbn, .inl pbf)), (q3, .inl (cI, (Int32.ofNat pan).toNatClampNeg, .inl f2_7))] → va_S A s.heap H locs → lv_has ls 4 [(3, .int x3_7), (2, .ref q3), (0, .ref pa), (1, .ref pb)] → W p l e rmX7_join s m ([.ref pa, .ref pb] : List Value).toArray below meth c H locs 1 7 (MQ below (ct_Q (dC, dI) tys (fun i : Nat => some (.ref i)) (fun i : Nat => [(pa, .inl (cI, pan, .inl paf)), (pb, .inl (cI, pbn, .inl pbf)), (i, .inl (cI, r.2, .inl r.1))]) A) ([.ref pa, .ref pb] : List Value).toArray s rmX7_join.cells rmX7_join.slots A) (F0 m 7 ls []) := by
    intro n7
    induction n7 with
    | zero => intro x3_7 f2_7 H locs ls hF; rw [fX7_join_L7] at hF; cases hF
    | succ n7 ih7 =>
      intro x3_7 f2_7 H locs ls hF hP hD hS hl
      rw [fX7_join_L7] at hF
      refine lv_iload_n hx hb dX7_join_7 rfl (lv_at hl 0 rfl) ?_
      refine lv_aload_n hx hb dX7_join_8 rfl (lv_at hl 1 rfl) ?_
      refine va_alen hx hb hK hP 2 0 rfl ht0 (v := Int32.ofNat ((Int32.ofNat pan).toNatClampNeg)) rfl dX7_join_9 ?_
      refine lv_icmp_ge (tgt := 27) hx hb dX7_join_10 (by decide) (fun c4 => ?_) (fun c4 => ?_)
      · have hF := (if_pos c4).symm.trans hF
        exact X7 x3_7 f2_7 _ _ _ hF (hP.sub [0, 1, 2] rfl) (hD.sub [0, 1, 2] (by decide) rfl) hS (lv_sub hl [0, 1, 2, 3] rfl)
      · have hF := (if_neg c4).symm.trans hF
        refine lv_aload_n hx hb dX7_join_13 rfl (lv_at hl 1 rfl) ?_
        refine lv_iload_n hx hb dX7_join_14 rfl (lv_at hl 0 rfl) ?_
        refine lv_aload_n hx hb dX7_join_15 rfl (lv_at hl 2 rfl) ?_
        refine lv_aload_n hx hb dX7_join_16 rfl (lv_at hl 3 rfl) ?_
        refine lv_iload_n hx hb dX7_join_17 rfl (lv_at hl 0 rfl) ?_
        obtain ⟨g5, hF⟩ := gd_n hF
        refine va_iald hx hb hK hP 1 0 rfl ht0 g5 dX7_join_18 ?_
        obtain ⟨g6, hF⟩ := gd_n hF
        refine va_iald hx hb hK hP 0 0 rfl ht0 g6 dX7_join_19 ?_
        obtain ⟨g7, hF⟩ := gd_n hF
        refine va_iast hx hb hK hP hD hS 2 0 rfl ht0 g7 dX7_join_20 (fun H locs hP hD hS => ?_)
        have hP : va_P (dC, dI) vwCl [(pa, .inl (cI, pan, .inl paf)), (pb, .inl (cI, pbn, .inl pbf)), (q3, .inl (cI, (Int32.ofNat pan).toNatClampNeg, .inl (upd f2_7 x3_7.toNatClampNeg (paf (pbf x3_7.toNatClampNeg).toNatClampNeg))))] H := hP
        have hD : va_D A [(pa, .inl (cI, pan, .inl paf)), (pb, .inl (cI, pbn, .inl pbf)), (q3, .inl (cI, (Int32.ofNat pan).toNatClampNeg, .inl (upd f2_7 x3_7.toNatClampNeg (paf (pbf x3_7.toNatClampNeg).toNatClampNeg))))] := hD
        refine lv_iinc (v := x3_7 + (1 : Int32)) (lv' := [(3, .int (x3_7 + (1 : Int32))), (2, .ref q3), (0, .ref pa), (1, .ref pb)]) hx hb dX7_join_21 hl (k := 0) rfl rfl (by decide) rfl (fun ls hl => ?_)
        refine lv_goto (tgt := 7) hx hb dX7_join_24 (by decide) ?_
        exact ih7 (x3_7 + (1 : Int32)) (upd f2_7 x3_7.toNatClampNeg (paf (pbf x3_7.toNatClampNeg).toNatClampNeg)) _ _ _ hF (hP.sub [0, 1, 2] rfl) (hD.sub [0, 1, 2] (by decide) rfl) hS (lv_sub hl [0, 1, 2, 3] rfl)
  exact L7 1000 (0 : Int32) (fun _ => 0) _ _ _ hF (hP.sub [0, 1, 2] rfl) (hD.sub [0, 1, 2] (by decide) rfl) hS (lv_sub hl [0, 1, 2, 3] rfl)

def fX7_isChangeNow_X20  (x2_20 : Int32) : Option Int32 := some ((1 : Int32))
def fX7_isChangeNow_L20 (mn : Int32) (p0 : Int32) (K20 : Int32 → Option Int32) : Nat → Int32 → Option Int32
  | 0, _ => none
  | n + 1, x2_20 => if mn ≤ x2_20 then (K20 x2_20) else (if ((p0 >>> (x2_20 &&& 31)) &&& (1 : Int32)) = (1 : Int32) then ((fX7_isChangeNow_L20 mn p0 K20 n) (x2_20 + (1 : Int32))) else (if (x2_20 + (1 : Int32)) = mn then (some ((0 : Int32))) else (if ((p0 >>> ((x2_20 + (1 : Int32)) &&& 31)) &&& (1 : Int32)) = (1 : Int32) then (some ((0 : Int32))) else ((fX7_isChangeNow_L20 mn p0 K20 n) (x2_20 + (2 : Int32))))))
def fX7_isChangeNow (mn : Int32) (p0 : Int32) : Option Int32 := (fX7_isIn p0 (0 : Int32) (((1 : Int32) <<< (mn &&& 31)) - (1 : Int32))).bind (fun r1 => if r1 = 0 then (some ((0 : Int32))) else (fX7_isChangeNow_L20 mn p0 fX7_isChangeNow_X20 1000 (0 : Int32)))
abbrev rmX7_isChangeNow : Room := { frames := 1, cells := 0, slots := 0, locals := 22 }
set_option maxHeartbeats 4000000 in
set_option maxRecDepth 100000 in
theorem kX7_isChangeNow (l : Launch) (dC : Nat → ClassId) (dI : Nat → Nat → Nat) (tys : List (ClassId × FieldType)) (cI : ClassId) (ht0 : tys[0]? = some (cI, .int)) (o oc oi ol ob : Nat) (mth : Int32) (mn : Int32) (mch : Int32) (mcl : Int32) (mgo : Int32) (mmo : Int32) (mcf : (Nat → Int32)) (mif : (Nat → Int32)) (mlf : (Nat → Int32)) (mbn : Nat) (mbf : (Nat → Int32)) (p0 : Int32) (r : Int32) (hF : fX7_isChangeNow mn p0 = some r) : ct l (dC, dI) tys yX7_isChangeNow wsX7_isChangeNow rmX7_isChangeNow [.ref o, .int p0] [(o, .inr (6, [.int mth, .int mn, .int mch, .ref oc, .ref oi, .int mcl, .ref ol, .int mgo, .int mmo, .ref ob])), (oc, .inl (cI, 14, .inl mcf)), (oi, .inl (cI, 3, .inl mif)), (ol, .inl (cI, 24, .inl mlf)), (ob, .inl (cI, mbn, .inl mbf))] (fun _ : Unit => some (.int r)) (fun _ : Unit => [(o, .inr (6, [.int mth, .int mn, .int mch, .ref oc, .ref oi, .int mcl, .ref ol, .int mgo, .int mmo, .ref ob])), (oc, .inl (cI, 14, .inl mcf)), (oi, .inl (cI, 3, .inl mif)), (ol, .inl (cI, 24, .inl mlf)), (ob, .inl (cI, mbn, .inl mbf))]) := by
  refine ct_of (cc := cX7_isChangeNow) (maxL := 4) (ret := (some .boolean)) (by decide) rfl (Nat.le_of_ble_eq_true rfl) ?_
  intro p e s m below meth c A ls hx hb hr hml hts hown hlocks hname hE hK hP hD hA hS hl
  have hown : s.vm.findClass RX7 = some m.cls := hown
  have hl : lv_has ls 4 [(0, .ref o), (1, .int p0)] := hl
  unfold fX7_isChangeNow at hF
  have uX7 : ∀ w ∈ wsX70, w ∈ wsX7_isChangeNow := (fun _ h => (List.mem_cons_of_mem _ (List.mem_append_right _ h)))
  have w1 := hts (.fieldLink RX7 26 "BellfounderTowerModel" "n" "I") (List.mem_cons_of_mem _ (List.mem_append_left _ (List.mem_of_getElem? (i := 0) rfl)))
  refine lv_iload_n hx hb dX7_isChangeNow_0 rfl (lv_at hl 1 rfl) ?_
  refine lv_iconst (v := (0 : Int32)) hx hb dX7_isChangeNow_1 (by decide) ?_
  refine lv_iconst (v := (1 : Int32)) hx hb dX7_isChangeNow_2 (by decide) ?_
  refine lv_aload_n hx hb dX7_isChangeNow_3 rfl (lv_at hl 0 rfl) ?_
  refine va_get (D := (dC, dI)) (ci := 6) (v := .int mn) (C := RX7) (T := TX7) (N := 10) hx hb hts uX7 hown hK hP 0 rfl rfl 1 (by decide) w1 (fun _ h9 => h9) rfl dX7_isChangeNow_4 ?_
  refine lv_ishl hx hb dX7_isChangeNow_7 ?_
  refine lv_iconst (v := (1 : Int32)) hx hb dX7_isChangeNow_8 (by decide) ?_
  refine lv_isub hx hb dX7_isChangeNow_9 ?_
  obtain ⟨r1, hC2, hF⟩ := gd_b hF
  refine ct_callS (As := [.int p0, .int (0 : Int32), .int (((1 : Int32) <<< (mn &&& 31)) - (1 : Int32))]) (rest := []) ⟨hx, hb, hml, hown, hts⟩ (kX7_isIn l dC dI tys cI ht0 p0 (0 : Int32) (((1 : Int32) <<< (mn &&& 31)) - (1 : Int32)) r1 hC2) (va_cwS 3 hts gX7_isChangeNow_X7_isIn rfl rfl rfl (by decide +kernel) ⟨Nat.le_of_ble_eq_true rfl, Nat.le_of_ble_eq_true rfl⟩) hE hK hP hD hS hA [] [0, 1, 2, 3, 4] (by decide) rfl (by decide) (wr := [(o, .inr (6, [.int mth, .int mn, .int mch, .ref oc, .ref oi, .int mcl, .ref ol, .int mgo, .int mmo, .ref ob])), (oc, .inl (cI, 14, .inl mcf)), (oi, .inl (cI, 3, .inl mif)), (ol, .inl (cI, 24, .inl mlf)), (ob, .inl (cI, mbn, .inl mbf))]) rfl (by decide) hl.1 rfl rfl (Nat.le_of_ble_eq_true rfl) dX7_isChangeNow_10 ⟨(Nat.le_of_ble_eq_true rfl), (Nat.le_of_ble_eq_true rfl)⟩ (fun i3 H locs hP hD hS => ?_)
  have hP : va_P (dC, dI) vwCl [(o, .inr (6, [.int mth, .int mn, .int mch, .ref oc, .ref oi, .int mcl, .ref ol, .int mgo, .int mmo, .ref ob])), (oc, .inl (cI, 14, .inl mcf)), (oi, .inl (cI, 3, .inl mif)), (ol, .inl (cI, 24, .inl mlf)), (ob, .inl (cI, mbn, .inl mbf))] H := hP
  have hD : va_D A [(o, .inr (6, [.int mth, .int mn, .int mch, .ref oc, .ref oi, .int mcl, .ref ol, .int mgo, .int mmo, .ref ob])), (oc, .inl (cI, 14, .inl mcf)), (oi, .inl (cI, 3, .inl mif)), (ol, .inl (cI, 24, .inl mlf)), (ob, .inl (cI, mbn, .inl mbf))] := hD
  refine lv_if_ne (tgt := 18) hx hb dX7_isChangeNow_13 (by decide) (fun c4 => ?_) (fun c4 => ?_)
  · have hF := (if_neg c4).symm.trans hF
    refine lv_iconst (v := (0 : Int32)) hx hb dX7_isChangeNow_18 (by decide) ?_
    refine lv_istore_n (lv' := [(2, .int (0 : Int32)), (0, .ref o), (1, .int p0)]) hx hb dX7_isChangeNow_19 rfl hl (by decide) rfl (fun ls hl => ?_)
    have X20 : ∀ (x2_20 : Int32) (H : Heap) (locs : List Loc) (ls : Array Slot), fX7_isChangeNow_X20 x2_20 = some r → va_P (dC, dI) vwCl [(o, .inr (6, [.int mth, .int mn, .int mch, .ref oc, .ref oi, .int mcl, .ref ol, .int mgo, .int mmo, .ref ob])), (oc, .inl (cI, 14, .inl mcf)), (oi, .inl (cI, 3, .inl mif)), (ol, .inl (cI, 24, .inl mlf)), (ob, .inl (cI, mbn, .inl mbf))] H → va_D A [(o, .inr (6, [.int mth, .int mn, .int mch, .ref oc, .ref oi, .int mcl, .ref ol, .int mgo, .int mmo, .ref ob])), (oc, .inl (cI, 14, .inl mcf)), (oi, .inl (cI, 3, .inl mif)), (ol, .inl (cI, 24, .inl mlf)), (ob, .inl (cI, mbn, .inl mbf))] → va_S A s.heap H locs → lv_has ls 4 [(2, .int x2_20), (0, .ref o), (1, .int p0)] → W p l e rmX7_isChangeNow s m ([.ref o, .int p0] : List Value).toArray below meth c H locs 0 0 (MQ below (ct_Q (dC, dI) tys (fun _ : Unit => some (.int r)) (fun _ : Unit => [(o, .inr (6, [.int mth, .int mn, .int mch, .ref oc, .ref oi, .int mcl, .ref ol, .int mgo, .int mmo, .ref ob])), (oc, .inl (cI, 14, .inl mcf)), (oi, .inl (cI, 3, .inl mif)), (ol, .inl (cI, 24, .inl mlf)), (ob, .inl (cI, mbn, .inl mbf))]) A) ([.ref o, .int p0] : List Value).toArray s rmX7_isChangeNow.cells rmX7_isChangeNow.slots A) (F0 m 85 ls []) := by
      intro x2_20 H locs ls hF hP hD hS hl
      unfold fX7_isChangeNow_X20 at hF
      refine lv_iconst (v := (1 : Int32)) hx hb dX7_isChangeNow_85 (by decide) ?_
      obtain rfl := Option.some.inj hF
      exact ct_z hx hb hr hlocks hK hP hD hS () (gd_z (by decide)) rfl [0, 1, 2, 3, 4] (by decide) rfl (Nat.le_of_ble_eq_true rfl) (Nat.le_of_ble_eq_true rfl) dX7_isChangeNow_86
    have L20 : ∀ (n20 : Nat) (x2_20 : Int32) (H : Heap) (locs : List Loc) (ls : Array Slot), fX7_isChangeNow_L20 mn p0 fX7_isChangeNow_X20 n20 x2_20 = some r → va_P (dC, dI) vwCl [(o, .inr (6, [.int mth, .int mn, .int mch, .ref oc, .ref oi, .int mcl, .ref ol, .int mgo, .int mmo, .ref ob])), (oc, .inl (cI, 14, .inl mcf)), (oi, .inl (cI, 3, .inl mif)), (ol, .inl (cI, 24, .inl mlf)), (ob, .inl (cI, mbn, .inl mbf))] H → va_D A [(o, .inr (6, [.int mth, .int mn, .int mch, .ref oc, .ref oi, .int mcl, .ref ol, .int mgo, .int mmo, .ref ob])), (oc, .inl (cI, 14, .inl mcf)), (oi, .inl (cI, 3, .inl mif)), (ol, .inl (cI, 24, .inl mlf)), (ob, .inl (cI, mbn, .inl mbf))] → va_S A s.heap H locs → lv_has ls 4 [(2, .int x2_20), (0, .ref o), (1, .int p0)] → W p l e rmX7_isChangeNow s m ([.ref o, .int p0] : List Value).toArray below meth c H locs 0 0 (MQ below (ct_Q (dC, dI) tys (fun _ : Unit => some (.int r)) (fun _ : Unit => [(o, .inr (6, [.int mth, .int mn, .int mch, .ref oc, .ref oi, .int mcl, .ref ol, .int mgo, .int mmo, .ref ob])), (oc, .inl (cI, 14, .inl mcf)), (oi, .inl (cI, 3, .inl mif)), (ol, .inl (cI, 24, .inl mlf)), (ob, .inl (cI, mbn, .inl mbf))]) A) ([.ref o, .int p0] : List Value).toArray s rmX7_isChangeNow.cells rmX7_isChangeNow.slots A) (F0 m 20 ls []) := by
      intro n20
      induction n20 with
      | zero => intro x2_20 H locs ls hF; rw [fX7_isChangeNow_L20] at hF; cases hF
      | succ n20 ih20 =>
        intro x2_20 H locs ls hF hP hD hS hl
        rw [fX7_isChangeNow_L20] at hF
        refine lv_iload_n hx hb dX7_isChangeNow_20 rfl (lv_at hl 0 rfl) ?_
        refine lv_aload_n hx hb dX7_isChangeNow_21 rfl (lv_at hl 1 rfl) ?_
        refine va_get (D := (dC, dI)) (ci := 6) (v := .int mn) (C := RX7) (T := TX7) (N := 10) hx hb hts uX7 hown hK hP 0 rfl rfl 1 (by decide) w1 (fun _ h9 => h9) rfl dX7_isChangeNow_22 ?_
        refine lv_icmp_ge (tgt := 85) hx hb dX7_isChangeNow_25 (by decide) (fun c5 => ?_) (fun c5 => ?_)
        · have hF := (if_pos c5).symm.trans hF
          exact X20 x2_20 _ _ _ hF (hP.sub [0, 1, 2, 3, 4] rfl) (hD.sub [0, 1, 2, 3, 4] (by decide) rfl) hS (lv_sub hl [0, 1, 2] rfl)
        · have hF := (if_neg c5).symm.trans hF
          refine lv_iload_n hx hb dX7_isChangeNow_28 rfl (lv_at hl 2 rfl) ?_
          refine lv_iload_n hx hb dX7_isChangeNow_29 rfl (lv_at hl 0 rfl) ?_
          refine lv_ishr hx hb dX7_isChangeNow_30 ?_
          refine lv_iconst (v := (1 : Int32)) hx hb dX7_isChangeNow_31 (by decide) ?_
          refine lv_iand hx hb dX7_isChangeNow_32 ?_
          refine lv_iconst (v := (1 : Int32)) hx hb dX7_isChangeNow_33 (by decide) ?_
          refine lv_icmp_ne (tgt := 41) hx hb dX7_isChangeNow_34 (by decide) (fun c6 => ?_) (fun c6 => ?_)
          · have hF := (if_neg c6).symm.trans hF
            refine lv_iconst (v := (0 : Int32)) hx hb dX7_isChangeNow_41 (by decide) ?_
            refine lv_istore_n (lv' := [(3, .int (0 : Int32)), (2, .int x2_20), (0, .ref o), (1, .int p0)]) hx hb dX7_isChangeNow_42 rfl hl (by decide) rfl (fun ls hl => ?_)
            refine lv_iload_n hx hb dX7_isChangeNow_43 rfl (lv_at hl 0 rfl) ?_
            refine lv_if_ne (tgt := 70) hx hb dX7_isChangeNow_44 (by decide) (fun c9 => absurd (by decide) c9) (fun _ => ?_)
            refine lv_iload_n hx hb dX7_isChangeNow_47 rfl (lv_at hl 1 rfl) ?_
            refine lv_iconst (v := (1 : Int32)) hx hb dX7_isChangeNow_48 (by decide) ?_
            refine lv_iadd hx hb dX7_isChangeNow_49 ?_
            refine lv_aload_n hx hb dX7_isChangeNow_50 rfl (lv_at hl 2 rfl) ?_
            refine va_get (D := (dC, dI)) (ci := 6) (v := .int mn) (C := RX7) (T := TX7) (N := 10) hx hb hts uX7 hown hK hP 0 rfl rfl 1 (by decide) w1 (fun _ h9 => h9) rfl dX7_isChangeNow_51 ?_
            refine lv_icmp_eq (tgt := 68) hx hb dX7_isChangeNow_54 (by decide) (fun c7 => ?_) (fun c7 => ?_)
            · have hF := (if_pos c7).symm.trans hF
              refine lv_iconst (v := (0 : Int32)) hx hb dX7_isChangeNow_68 (by decide) ?_
              obtain rfl := Option.some.inj hF
              exact ct_z hx hb hr hlocks hK hP hD hS () (gd_z (by decide)) rfl [0, 1, 2, 3, 4] (by decide) rfl (Nat.le_of_ble_eq_true rfl) (Nat.le_of_ble_eq_true rfl) dX7_isChangeNow_69
            · have hF := (if_neg c7).symm.trans hF
              refine lv_iload_n hx hb dX7_isChangeNow_57 rfl (lv_at hl 3 rfl) ?_
              refine lv_iload_n hx hb dX7_isChangeNow_58 rfl (lv_at hl 1 rfl) ?_
              refine lv_iconst (v := (1 : Int32)) hx hb dX7_isChangeNow_59 (by decide) ?_
              refine lv_iadd hx hb dX7_isChangeNow_60 ?_
              refine lv_ishr hx hb dX7_isChangeNow_61 ?_
              refine lv_iconst (v := (1 : Int32)) hx hb dX7_isChangeNow_62 (by decide) ?_
              refine lv_iand hx hb dX7_isChangeNow_63 ?_
              refine lv_iconst (v := (1 : Int32)) hx hb dX7_isChangeNow_64 (by decide) ?_
              refine lv_icmp_ne (tgt := 70) hx hb dX7_isChangeNow_65 (by decide) (fun c8 => ?_) (fun c8 => ?_)
              · have hF := (if_neg c8).symm.trans hF
                refine lv_iload_n hx hb dX7_isChangeNow_70 rfl (lv_at hl 1 rfl) ?_
                refine lv_iload_n hx hb dX7_isChangeNow_71 rfl (lv_at hl 0 rfl) ?_
                refine lv_if_eq (tgt := 79) hx hb dX7_isChangeNow_72 (by decide) (fun _ => ?_) (fun c9 => absurd (by decide) c9)
                refine lv_iconst (v := (2 : Int32)) hx hb dX7_isChangeNow_79 (by decide) ?_
                refine lv_iadd hx hb dX7_isChangeNow_80 ?_
                refine lv_istore_n (lv' := [(2, .int (x2_20 + (2 : Int32))), (3, .int (0 : Int32)), (0, .ref o), (1, .int p0)]) hx hb dX7_isChangeNow_81 rfl hl (by decide) rfl (fun ls hl => ?_)
                refine lv_goto (tgt := 20) hx hb dX7_isChangeNow_82 (by decide) ?_
                exact ih20 (x2_20 + (2 : Int32)) _ _ _ hF (hP.sub [0, 1, 2, 3, 4] rfl) (hD.sub [0, 1, 2, 3, 4] (by decide) rfl) hS (lv_sub hl [0, 2, 3] rfl)
              · have hF := (if_pos c8).symm.trans hF
                refine lv_iconst (v := (0 : Int32)) hx hb dX7_isChangeNow_68 (by decide) ?_
                obtain rfl := Option.some.inj hF
                exact ct_z hx hb hr hlocks hK hP hD hS () (gd_z (by decide)) rfl [0, 1, 2, 3, 4] (by decide) rfl (Nat.le_of_ble_eq_true rfl) (Nat.le_of_ble_eq_true rfl) dX7_isChangeNow_69
          · have hF := (if_pos c6).symm.trans hF
            refine lv_iconst (v := (1 : Int32)) hx hb dX7_isChangeNow_37 (by decide) ?_
            refine lv_goto (tgt := 42) hx hb dX7_isChangeNow_38 (by decide) ?_
            refine lv_istore_n (lv' := [(3, .int (1 : Int32)), (2, .int x2_20), (0, .ref o), (1, .int p0)]) hx hb dX7_isChangeNow_42 rfl hl (by decide) rfl (fun ls hl => ?_)
            refine lv_iload_n hx hb dX7_isChangeNow_43 rfl (lv_at hl 0 rfl) ?_
            refine lv_if_ne (tgt := 70) hx hb dX7_isChangeNow_44 (by decide) (fun _ => ?_) (fun c9 => absurd c9 (by decide))
            refine lv_iload_n hx hb dX7_isChangeNow_70 rfl (lv_at hl 1 rfl) ?_
            refine lv_iload_n hx hb dX7_isChangeNow_71 rfl (lv_at hl 0 rfl) ?_
            refine lv_if_eq (tgt := 79) hx hb dX7_isChangeNow_72 (by decide) (fun c9 => absurd c9 (by decide)) (fun _ => ?_)
            refine lv_iconst (v := (1 : Int32)) hx hb dX7_isChangeNow_75 (by decide) ?_
            refine lv_goto (tgt := 80) hx hb dX7_isChangeNow_76 (by decide) ?_
            refine lv_iadd hx hb dX7_isChangeNow_80 ?_
            refine lv_istore_n (lv' := [(2, .int (x2_20 + (1 : Int32))), (3, .int (1 : Int32)), (0, .ref o), (1, .int p0)]) hx hb dX7_isChangeNow_81 rfl hl (by decide) rfl (fun ls hl => ?_)
            refine lv_goto (tgt := 20) hx hb dX7_isChangeNow_82 (by decide) ?_
            exact ih20 (x2_20 + (1 : Int32)) _ _ _ hF (hP.sub [0, 1, 2, 3, 4] rfl) (hD.sub [0, 1, 2, 3, 4] (by decide) rfl) hS (lv_sub hl [0, 2, 3] rfl)
    exact L20 1000 (0 : Int32) _ _ _ hF (hP.sub [0, 1, 2, 3, 4] rfl) (hD.sub [0, 1, 2, 3, 4] (by decide) rfl) hS (lv_sub hl [0, 1, 2] rfl)
  · have hF := (if_pos c4).symm.trans hF
    refine lv_iconst (v := (0 : Int32)) hx hb dX7_isChangeNow_16 (by decide) ?_
    obtain rfl := Option.some.inj hF
    exact ct_z hx hb hr hlocks hK hP hD hS () (gd_z (by decide)) rfl [0, 1, 2, 3, 4] (by decide) rfl (Nat.le_of_ble_eq_true rfl) (Nat.le_of_ble_eq_true rfl) dX7_isChangeNow_17

def fX7_order_X7 (r1 : ((Nat → Int32) × Nat)) (x3_7 : Int32) (f5_7 : (Nat → Int32)) : Option ((Nat → Int32) × Nat) := some (f5_7, r1.2)
def fX7_order_L7 (mn : Int32) (p0 : Int32) (r1 : ((Nat → Int32) × Nat)) (K7 : Int32 → (Nat → Int32) → Option ((Nat → Int32) × Nat)) : Nat → Int32 → (Nat → Int32) → Option ((Nat → Int32) × Nat)
  | 0, _, _ => none
  | n + 1, x3_7, f5_7 => if mn ≤ (x3_7 + (1 : Int32)) then (K7 x3_7 f5_7) else (if ((p0 >>> (x3_7 &&& 31)) &&& (1 : Int32)) = (1 : Int32) then ((fX7_order_L7 mn p0 r1 K7 n) (x3_7 + (1 : Int32)) f5_7) else (if (x3_7 < 0 ∨ r1.2 ≤ x3_7.toNatClampNeg) then none else (if ((x3_7 + (1 : Int32)) < 0 ∨ r1.2 ≤ (x3_7 + (1 : Int32)).toNatClampNeg) then none else ((fX7_order_L7 mn p0 r1 K7 n) ((x3_7 + (1 : Int32)) + (1 : Int32)) (upd (upd f5_7 x3_7.toNatClampNeg (x3_7 + (1 : Int32))) (x3_7 + (1 : Int32)).toNatClampNeg x3_7)))))
def fX7_order (mn : Int32) (p0 : Int32) : Option ((Nat → Int32) × Nat) := (fX7_same mn).bind (fun r1 => fX7_order_L7 mn p0 r1 (fX7_order_X7 r1) 1000 (0 : Int32) r1.1)
abbrev rmX7_order : Room := { frames := 1, cells := 1, slots := 7, locals := 22 }
set_option maxHeartbeats 4000000 in
set_option maxRecDepth 100000 in
theorem kX7_order (l : Launch) (dC : Nat → ClassId) (dI : Nat → Nat → Nat) (tys : List (ClassId × FieldType)) (cI : ClassId) (ht0 : tys[0]? = some (cI, .int)) (o oc oi ol ob : Nat) (mth : Int32) (mn : Int32) (mch : Int32) (mcl : Int32) (mgo : Int32) (mmo : Int32) (mcf : (Nat → Int32)) (mif : (Nat → Int32)) (mlf : (Nat → Int32)) (mbn : Nat) (mbf : (Nat → Int32)) (p0 : Int32) (r : ((Nat → Int32) × Nat)) (hF : fX7_order mn p0 = some r) : ct l (dC, dI) tys yX7_order wsX7_order rmX7_order [.ref o, .int p0] [(o, .inr (6, [.int mth, .int mn, .int mch, .ref oc, .ref oi, .int mcl, .ref ol, .int mgo, .int mmo, .ref ob])), (oc, .inl (cI, 14, .inl mcf)), (oi, .inl (cI, 3, .inl mif)), (ol, .inl (cI, 24, .inl mlf)), (ob, .inl (cI, mbn, .inl mbf))] (fun i : Nat => some (.ref i)) (fun i : Nat => [(o, .inr (6, [.int mth, .int mn, .int mch, .ref oc, .ref oi, .int mcl, .ref ol, .int mgo, .int mmo, .ref ob])), (oc, .inl (cI, 14, .inl mcf)), (oi, .inl (cI, 3, .inl mif)), (ol, .inl (cI, 24, .inl mlf)), (ob, .inl (cI, mbn, .inl mbf)), (i, .inl (cI, r.2, .inl r.1))]) := by
  refine ct_of (cc := cX7_order) (maxL := 4) (ret := (some (.array .int))) (by decide) rfl (Nat.le_of_ble_eq_true rfl) ?_
  intro p e s m below meth c A ls hx hb hr hml hts hown hlocks hname hE hK hP hD hA hS hl
  have hown : s.vm.findClass RX7 = some m.cls := hown
  have hl : lv_has ls 4 [(0, .ref o), (1, .int p0)] := hl
  unfold fX7_order at hF
  have uX7 : ∀ w ∈ wsX70, w ∈ wsX7_order := (fun _ h => (List.mem_cons_of_mem _ (List.mem_append_right _ h)))
  have w1 := hts (.fieldLink RX7 26 "BellfounderTowerModel" "n" "I") (List.mem_cons_of_mem _ (List.mem_append_left _ (List.mem_of_getElem? (i := 0) rfl)))
  refine lv_aload_n hx hb dX7_order_0 rfl (lv_at hl 0 rfl) ?_
  obtain ⟨r1, hC2, hF⟩ := gd_b hF
  refine ct_callV (C := RX7) (As := []) (rest := []) ⟨hx, hb, hml, hown, hts⟩ (kX7_same l dC dI tys cI ht0 o oc oi ol ob mth mn mch mcl mgo mmo mcf mif mlf mbn mbf r1 hC2) (cwV 0 hts gX7_order_X7_same rfl rfl rfl (by decide +kernel) ⟨Nat.le_of_ble_eq_true rfl, Nat.le_of_ble_eq_true rfl⟩) hE hK hP hD hS hA [0, 1, 2, 3, 4] [] (by decide) rfl (by decide) (wr := []) rfl (by decide) (ci := 6) (T := TX7) (N := 10) (q0 := 0) rfl rfl hl.1 rfl rfl (Nat.le_of_ble_eq_true rfl) dX7_order_1 ⟨(Nat.le_of_ble_eq_true rfl), (Nat.le_of_ble_eq_true rfl)⟩ (fun i3 H locs hP hD hS => ?_)
  have hP : va_P (dC, dI) vwCl [(o, .inr (6, [.int mth, .int mn, .int mch, .ref oc, .ref oi, .int mcl, .ref ol, .int mgo, .int mmo, .ref ob])), (oc, .inl (cI, 14, .inl mcf)), (oi, .inl (cI, 3, .inl mif)), (ol, .inl (cI, 24, .inl mlf)), (ob, .inl (cI, mbn, .inl mbf)), (i3, .inl (cI, r1.2, .inl r1.1))] H := hP
  have hD : va_D A [(o, .inr (6, [.int mth, .int mn, .int mch, .ref oc, .ref oi, .int mcl, .ref ol, .int mgo, .int mmo, .ref ob])), (oc, .inl (cI, 14, .inl mcf)), (oi, .inl (cI, 3, .inl mif)), (ol, .inl (cI, 24, .inl mlf)), (ob, .inl (cI, mbn, .inl mbf)), (i3, .inl (cI, r1.2, .inl r1.1))] := hD
  refine lv_astore_n (lv' := [(2, .ref i3), (0, .ref o), (1, .int p0)]) hx hb dX7_order_4 rfl hl (by decide) rfl (fun ls hl => ?_)
  refine lv_iconst (v := (0 : Int32)) hx hb dX7_order_5 (by decide) ?_
  refine lv_istore_n (lv' := [(3, .int (0 : Int32)), (2, .ref i3), (0, .ref o), (1, .int p0)]) hx hb dX7_order_6 rfl hl (by decide) rfl (fun ls hl => ?_)
  have X7 : ∀ (x3_7 : Int32) (f5_7 : (Nat → Int32)) (H : Heap) (locs : List Loc) (ls : Array Slot), fX7_order_X7 r1 x3_7 f5_7 = some r → va_P (dC, dI) vwCl [(o, .inr (6, [.int mth, .int mn, .int mch, .ref oc, .ref oi, .int mcl, .ref ol, .int mgo, .int mmo, .ref ob])), (oc, .inl (cI, 14, .inl mcf)), (oi, .inl (cI, 3, .inl mif)), (ol, .inl (cI, 24, .inl mlf)), (ob, .inl (cI, mbn, .inl mbf)), (i3, .inl (cI, r1.2, .inl f5_7))] H → va_D A [(o, .inr (6, [.int mth, .int mn, .int mch, .ref oc, .ref oi, .int mcl, .ref ol, .int mgo, .int mmo, .ref ob])), (oc, .inl (cI, 14, .inl mcf)), (oi, .inl (cI, 3, .inl mif)), (ol, .inl (cI, 24, .inl mlf)), (ob, .inl (cI, mbn, .inl mbf)), (i3, .inl (cI, r1.2, .inl f5_7))] → va_S A s.heap H locs → lv_has ls 4 [(3, .int x3_7), (2, .ref i3), (0, .ref o), (1, .int p0)] → W p l e rmX7_order s m ([.ref o, .int p0] : List Value).toArray below meth c H locs 1 7 (MQ below (ct_Q (dC, dI) tys (fun i : Nat => some (.ref i)) (fun i : Nat => [(o, .inr (6, [.int mth, .int mn, .int mch, .ref oc, .ref oi, .int mcl, .ref ol, .int mgo, .int mmo, .ref ob])), (oc, .inl (cI, 14, .inl mcf)), (oi, .inl (cI, 3, .inl mif)), (ol, .inl (cI, 24, .inl mlf)), (ob, .inl (cI, mbn, .inl mbf)), (i, .inl (cI, r.2, .inl r.1))]) A) ([.ref o, .int p0] : List Value).toArray s rmX7_order.cells rmX7_order.slots A) (F0 m 50 ls []) := by
    intro x3_7 f5_7 H locs ls hF hP hD hS hl
    unfold fX7_order_X7 at hF
    refine lv_aload_n hx hb dX7_order_50 rfl (lv_at hl 1 rfl) ?_
    obtain rfl := Option.some.inj hF
    exact ct_a hx hb hr hlocks hK hP hD hS i3 rfl [0, 1, 2, 3, 4, 5] (by decide) rfl (Nat.le_of_ble_eq_true rfl) (Nat.le_of_ble_eq_true rfl) dX7_order_51
  have L7 : ∀ (n7 : Nat) (x3_7 : Int32) (f5_7 : (Nat → Int32)) (H : Heap) (locs : List Loc) (ls : Array Slot), fX7_order_L7 mn p0 r1 (fX7_order_X7 r1) n7 x3_7 f5_7 = some r → va_P (dC, dI) vwCl [(o, .inr (6, [.int mth, .int mn, .int mch, .ref oc, .ref oi, .int mcl, .ref ol, .int mgo, .int mmo, .ref ob])), (oc, .inl (cI, 14, .inl mcf)), (oi, .inl (cI, 3, .inl mif)), (ol, .inl (cI, 24, .inl mlf)), (ob, .inl (cI, mbn, .inl mbf)), (i3, .inl (cI, r1.2, .inl f5_7))] H → va_D A [(o, .inr (6, [.int mth, .int mn, .int mch, .ref oc, .ref oi, .int mcl, .ref ol, .int mgo, .int mmo, .ref ob])), (oc, .inl (cI, 14, .inl mcf)), (oi, .inl (cI, 3, .inl mif)), (ol, .inl (cI, 24, .inl mlf)), (ob, .inl (cI, mbn, .inl mbf)), (i3, .inl (cI, r1.2, .inl f5_7))] → va_S A s.heap H locs → lv_has ls 4 [(3, .int x3_7), (2, .ref i3), (0, .ref o), (1, .int p0)] → W p l e rmX7_order s m ([.ref o, .int p0] : List Value).toArray below meth c H locs 1 7 (MQ below (ct_Q (dC, dI) tys (fun i : Nat => some (.ref i)) (fun i : Nat => [(o, .inr (6, [.int mth, .int mn, .int mch, .ref oc, .ref oi, .int mcl, .ref ol, .int mgo, .int mmo, .ref ob])), (oc, .inl (cI, 14, .inl mcf)), (oi, .inl (cI, 3, .inl mif)), (ol, .inl (cI, 24, .inl mlf)), (ob, .inl (cI, mbn, .inl mbf)), (i, .inl (cI, r.2, .inl r.1))]) A) ([.ref o, .int p0] : List Value).toArray s rmX7_order.cells rmX7_order.slots A) (F0 m 7 ls []) := by
    intro n7
    induction n7 with
    | zero => intro x3_7 f5_7 H locs ls hF; rw [fX7_order_L7] at hF; cases hF
    | succ n7 ih7 =>
      intro x3_7 f5_7 H locs ls hF hP hD hS hl
      rw [fX7_order_L7] at hF
      refine lv_iload_n hx hb dX7_order_7 rfl (lv_at hl 0 rfl) ?_
      refine lv_iconst (v := (1 : Int32)) hx hb dX7_order_8 (by decide) ?_
      refine lv_iadd hx hb dX7_order_9 ?_
      refine lv_aload_n hx hb dX7_order_10 rfl (lv_at hl 2 rfl) ?_
      refine va_get (D := (dC, dI)) (ci := 6) (v := .int mn) (C := RX7) (T := TX7) (N := 10) hx hb hts uX7 hown hK hP 0 rfl rfl 1 (by decide) w1 (fun _ h9 => h9) rfl dX7_order_11 ?_
      refine lv_icmp_ge (tgt := 50) hx hb dX7_order_14 (by decide) (fun c4 => ?_) (fun c4 => ?_)
      · have hF := (if_pos c4).symm.trans hF
        exact X7 x3_7 f5_7 _ _ _ hF (hP.sub [0, 1, 2, 3, 4, 5] rfl) (hD.sub [0, 1, 2, 3, 4, 5] (by decide) rfl) hS (lv_sub hl [0, 1, 2, 3] rfl)
      · have hF := (if_neg c4).symm.trans hF
        refine lv_iload_n hx hb dX7_order_17 rfl (lv_at hl 3 rfl) ?_
        refine lv_iload_n hx hb dX7_order_18 rfl (lv_at hl 0 rfl) ?_
        refine lv_ishr hx hb dX7_order_19 ?_
        refine lv_iconst (v := (1 : Int32)) hx hb dX7_order_20 (by decide) ?_
        refine lv_iand hx hb dX7_order_21 ?_
        refine lv_iconst (v := (1 : Int32)) hx hb dX7_order_22 (by decide) ?_
        refine lv_icmp_ne (tgt := 29) hx hb dX7_order_23 (by decide) (fun c5 => ?_) (fun c5 => ?_)
        · have hF := (if_neg c5).symm.trans hF
          refine lv_aload_n hx hb dX7_order_29 rfl (lv_at hl 1 rfl) ?_
          refine lv_iload_n hx hb dX7_order_30 rfl (lv_at hl 0 rfl) ?_
          refine lv_iload_n hx hb dX7_order_31 rfl (lv_at hl 0 rfl) ?_
          refine lv_iconst (v := (1 : Int32)) hx hb dX7_order_32 (by decide) ?_
          refine lv_iadd hx hb dX7_order_33 ?_
          obtain ⟨g6, hF⟩ := gd_n hF
          refine va_iast hx hb hK hP hD hS 5 0 rfl ht0 g6 dX7_order_34 (fun H locs hP hD hS => ?_)
          have hP : va_P (dC, dI) vwCl [(o, .inr (6, [.int mth, .int mn, .int mch, .ref oc, .ref oi, .int mcl, .ref ol, .int mgo, .int mmo, .ref ob])), (oc, .inl (cI, 14, .inl mcf)), (oi, .inl (cI, 3, .inl mif)), (ol, .inl (cI, 24, .inl mlf)), (ob, .inl (cI, mbn, .inl mbf)), (i3, .inl (cI, r1.2, .inl (upd f5_7 x3_7.toNatClampNeg (x3_7 + (1 : Int32)))))] H := hP
          have hD : va_D A [(o, .inr (6, [.int mth, .int mn, .int mch, .ref oc, .ref oi, .int mcl, .ref ol, .int mgo, .int mmo, .ref ob])), (oc, .inl (cI, 14, .inl mcf)), (oi, .inl (cI, 3, .inl mif)), (ol, .inl (cI, 24, .inl mlf)), (ob, .inl (cI, mbn, .inl mbf)), (i3, .inl (cI, r1.2, .inl (upd f5_7 x3_7.toNatClampNeg (x3_7 + (1 : Int32)))))] := hD
          refine lv_aload_n hx hb dX7_order_35 rfl (lv_at hl 1 rfl) ?_
          refine lv_iload_n hx hb dX7_order_36 rfl (lv_at hl 0 rfl) ?_
          refine lv_iconst (v := (1 : Int32)) hx hb dX7_order_37 (by decide) ?_
          refine lv_iadd hx hb dX7_order_38 ?_
          refine lv_iload_n hx hb dX7_order_39 rfl (lv_at hl 0 rfl) ?_
          obtain ⟨g7, hF⟩ := gd_n hF
          refine va_iast hx hb hK hP hD hS 5 0 rfl ht0 g7 dX7_order_40 (fun H locs hP hD hS => ?_)
          have hP : va_P (dC, dI) vwCl [(o, .inr (6, [.int mth, .int mn, .int mch, .ref oc, .ref oi, .int mcl, .ref ol, .int mgo, .int mmo, .ref ob])), (oc, .inl (cI, 14, .inl mcf)), (oi, .inl (cI, 3, .inl mif)), (ol, .inl (cI, 24, .inl mlf)), (ob, .inl (cI, mbn, .inl mbf)), (i3, .inl (cI, r1.2, .inl (upd (upd f5_7 x3_7.toNatClampNeg (x3_7 + (1 : Int32))) (x3_7 + (1 : Int32)).toNatClampNeg x3_7)))] H := hP
          have hD : va_D A [(o, .inr (6, [.int mth, .int mn, .int mch, .ref oc, .ref oi, .int mcl, .ref ol, .int mgo, .int mmo, .ref ob])), (oc, .inl (cI, 14, .inl mcf)), (oi, .inl (cI, 3, .inl mif)), (ol, .inl (cI, 24, .inl mlf)), (ob, .inl (cI, mbn, .inl mbf)), (i3, .inl (cI, r1.2, .inl (upd (upd f5_7 x3_7.toNatClampNeg (x3_7 + (1 : Int32))) (x3_7 + (1 : Int32)).toNatClampNeg x3_7)))] := hD
          refine lv_iinc (v := x3_7 + (1 : Int32)) (lv' := [(3, .int (x3_7 + (1 : Int32))), (2, .ref i3), (0, .ref o), (1, .int p0)]) hx hb dX7_order_41 hl (k := 0) rfl rfl (by decide) rfl (fun ls hl => ?_)
          refine lv_iinc (v := (x3_7 + (1 : Int32)) + (1 : Int32)) (lv' := [(3, .int ((x3_7 + (1 : Int32)) + (1 : Int32))), (2, .ref i3), (0, .ref o), (1, .int p0)]) hx hb dX7_order_44 hl (k := 0) rfl rfl (by decide) rfl (fun ls hl => ?_)
          refine lv_goto (tgt := 7) hx hb dX7_order_47 (by decide) ?_
          exact ih7 ((x3_7 + (1 : Int32)) + (1 : Int32)) (upd (upd f5_7 x3_7.toNatClampNeg (x3_7 + (1 : Int32))) (x3_7 + (1 : Int32)).toNatClampNeg x3_7) _ _ _ hF (hP.sub [0, 1, 2, 3, 4, 5] rfl) (hD.sub [0, 1, 2, 3, 4, 5] (by decide) rfl) hS (lv_sub hl [0, 1, 2, 3] rfl)
        · have hF := (if_pos c5).symm.trans hF
          refine lv_goto (tgt := 44) hx hb dX7_order_26 (by decide) ?_
          refine lv_iinc (v := x3_7 + (1 : Int32)) (lv' := [(3, .int (x3_7 + (1 : Int32))), (2, .ref i3), (0, .ref o), (1, .int p0)]) hx hb dX7_order_44 hl (k := 0) rfl rfl (by decide) rfl (fun ls hl => ?_)
          refine lv_goto (tgt := 7) hx hb dX7_order_47 (by decide) ?_
          exact ih7 (x3_7 + (1 : Int32)) f5_7 _ _ _ hF (hP.sub [0, 1, 2, 3, 4, 5] rfl) (hD.sub [0, 1, 2, 3, 4, 5] (by decide) rfl) hS (lv_sub hl [0, 1, 2, 3] rfl)
  exact L7 1000 (0 : Int32) r1.1 _ _ _ hF (hP.sub [0, 1, 2, 3, 4, 5] rfl) (hD.sub [0, 1, 2, 3, 4, 5] (by decide) rfl) hS (lv_sub hl [0, 1, 2, 3] rfl)

def fX7_step (mn : Int32) (mch : Int32) (mcf : (Nat → Int32)) (mif : (Nat → Int32)) (p0 : Int32) (p1 : Int32) : Option ((Nat → Int32) × Nat) := if p0 = (mch - (1 : Int32)) then (if p1 ≤ 0 then (if (p0 < 0 ∨ 14 ≤ p0.toNatClampNeg) then none else ((fX7_order mn (mcf p0.toNatClampNeg)).bind (fun r8 => some (r8.1, r8.2)))) else (if (p1 < 0 ∨ 3 ≤ p1.toNatClampNeg) then none else ((fX7_order mn (mif p1.toNatClampNeg)).bind (fun r12 => some (r12.1, r12.2))))) else (if (p0 < 0 ∨ 14 ≤ p0.toNatClampNeg) then none else ((fX7_order mn (mcf p0.toNatClampNeg)).bind (fun r3 => some (r3.1, r3.2))))
abbrev rmX7_step : Room := { frames := 2, cells := 1, slots := 7, locals := 45 }
set_option maxHeartbeats 4000000 in
set_option maxRecDepth 100000 in
theorem kX7_step (l : Launch) (dC : Nat → ClassId) (dI : Nat → Nat → Nat) (tys : List (ClassId × FieldType)) (cI : ClassId) (ht0 : tys[0]? = some (cI, .int)) (o oc oi ol ob : Nat) (mth : Int32) (mn : Int32) (mch : Int32) (mcl : Int32) (mgo : Int32) (mmo : Int32) (mcf : (Nat → Int32)) (mif : (Nat → Int32)) (mlf : (Nat → Int32)) (mbn : Nat) (mbf : (Nat → Int32)) (p0 : Int32) (p1 : Int32) (r : ((Nat → Int32) × Nat)) (hF : fX7_step mn mch mcf mif p0 p1 = some r) : ct l (dC, dI) tys yX7_step wsX7_step rmX7_step [.ref o, .int p0, .int p1] [(o, .inr (6, [.int mth, .int mn, .int mch, .ref oc, .ref oi, .int mcl, .ref ol, .int mgo, .int mmo, .ref ob])), (oc, .inl (cI, 14, .inl mcf)), (oi, .inl (cI, 3, .inl mif)), (ol, .inl (cI, 24, .inl mlf)), (ob, .inl (cI, mbn, .inl mbf))] (fun i : Nat => some (.ref i)) (fun i : Nat => [(o, .inr (6, [.int mth, .int mn, .int mch, .ref oc, .ref oi, .int mcl, .ref ol, .int mgo, .int mmo, .ref ob])), (oc, .inl (cI, 14, .inl mcf)), (oi, .inl (cI, 3, .inl mif)), (ol, .inl (cI, 24, .inl mlf)), (ob, .inl (cI, mbn, .inl mbf)), (i, .inl (cI, r.2, .inl r.1))]) := by
  refine ct_of (cc := cX7_step) (maxL := 3) (ret := (some (.array .int))) (by decide) rfl (Nat.le_of_ble_eq_true rfl) ?_
  intro p e s m below meth c A ls hx hb hr hml hts hown hlocks hname hE hK hP hD hA hS hl
  have hown : s.vm.findClass RX7 = some m.cls := hown
  have hl : lv_has ls 3 [(0, .ref o), (1, .int p0), (2, .int p1)] := hl
  unfold fX7_step at hF
  have uX7 : ∀ w ∈ wsX70, w ∈ wsX7_step := (fun _ h => (List.mem_cons_of_mem _ (List.mem_append_right _ h)))
  have w1 := hts (.fieldLink RX7 30 "BellfounderTowerModel" "changes" "I") (List.mem_cons_of_mem _ (List.mem_append_left _ (List.mem_of_getElem? (i := 0) rfl)))
  have w2 := hts (.fieldLink RX7 9 "BellfounderTowerModel" "change" "[I") (List.mem_cons_of_mem _ (List.mem_append_left _ (List.mem_of_getElem? (i := 2) rfl)))
  have w3 := hts (.fieldLink RX7 13 "BellfounderTowerModel" "instead" "[I") (List.mem_cons_of_mem _ (List.mem_append_left _ (List.mem_of_getElem? (i := 1) rfl)))
  refine lv_aload_n hx hb dX7_step_0 rfl (lv_at hl 0 rfl) ?_
  refine lv_iload_n hx hb dX7_step_1 rfl (lv_at hl 1 rfl) ?_
  refine lv_aload_n hx hb dX7_step_2 rfl (lv_at hl 0 rfl) ?_
  refine va_get (D := (dC, dI)) (ci := 6) (v := .int mch) (C := RX7) (T := TX7) (N := 10) hx hb hts uX7 hown hK hP 0 rfl rfl 2 (by decide) w1 (fun _ h9 => h9) rfl dX7_step_3 ?_
  refine lv_iconst (v := (1 : Int32)) hx hb dX7_step_6 (by decide) ?_
  refine lv_isub hx hb dX7_step_7 ?_
  refine lv_icmp_ne (tgt := 24) hx hb dX7_step_8 (by decide) (fun c1 => ?_) (fun c1 => ?_)
  · have hF := (if_neg c1).symm.trans hF
    refine lv_aload_n hx hb dX7_step_24 rfl (lv_at hl 0 rfl) ?_
    refine va_get (D := (dC, dI)) (ci := 6) (v := .ref oc) (C := RX7) (T := TX7) (N := 10) hx hb hts uX7 hown hK hP 0 rfl rfl 3 (by decide) w2 (fun _ h9 => h9) rfl dX7_step_25 ?_
    refine lv_iload_n hx hb dX7_step_28 rfl (lv_at hl 1 rfl) ?_
    obtain ⟨g2, hF⟩ := gd_n hF
    refine va_iald hx hb hK hP 1 0 rfl ht0 g2 dX7_step_29 ?_
    obtain ⟨r3, hC4, hF⟩ := gd_b hF
    refine ct_callV (C := RX7) (As := [.int (mcf p0.toNatClampNeg)]) (rest := []) ⟨hx, hb, hml, hown, hts⟩ (kX7_order l dC dI tys cI ht0 o oc oi ol ob mth mn mch mcl mgo mmo mcf mif mlf mbn mbf (mcf p0.toNatClampNeg) r3 hC4) (cwV 1 hts gX7_step_X7_order rfl rfl rfl (by decide +kernel) ⟨Nat.le_of_ble_eq_true rfl, Nat.le_of_ble_eq_true rfl⟩) hE hK hP hD hS hA [0, 1, 2, 3, 4] [] (by decide) rfl (by decide) (wr := []) rfl (by decide) (ci := 6) (T := TX7) (N := 10) (q0 := 0) rfl rfl hl.1 rfl rfl (Nat.le_of_ble_eq_true rfl) dX7_step_30 ⟨(Nat.le_of_ble_eq_true rfl), (Nat.le_of_ble_eq_true rfl)⟩ (fun i5 H locs hP hD hS => ?_)
    have hP : va_P (dC, dI) vwCl [(o, .inr (6, [.int mth, .int mn, .int mch, .ref oc, .ref oi, .int mcl, .ref ol, .int mgo, .int mmo, .ref ob])), (oc, .inl (cI, 14, .inl mcf)), (oi, .inl (cI, 3, .inl mif)), (ol, .inl (cI, 24, .inl mlf)), (ob, .inl (cI, mbn, .inl mbf)), (i5, .inl (cI, r3.2, .inl r3.1))] H := hP
    have hD : va_D A [(o, .inr (6, [.int mth, .int mn, .int mch, .ref oc, .ref oi, .int mcl, .ref ol, .int mgo, .int mmo, .ref ob])), (oc, .inl (cI, 14, .inl mcf)), (oi, .inl (cI, 3, .inl mif)), (ol, .inl (cI, 24, .inl mlf)), (ob, .inl (cI, mbn, .inl mbf)), (i5, .inl (cI, r3.2, .inl r3.1))] := hD
    obtain rfl := Option.some.inj hF
    exact ct_a hx hb hr hlocks hK hP hD hS i5 rfl [0, 1, 2, 3, 4, 5] (by decide) rfl (Nat.le_of_ble_eq_true rfl) (Nat.le_of_ble_eq_true rfl) dX7_step_33
  · have hF := (if_pos c1).symm.trans hF
    refine lv_iload_n hx hb dX7_step_11 rfl (lv_at hl 2 rfl) ?_
    refine lv_if_le (tgt := 24) hx hb dX7_step_12 (by decide) (fun c6 => ?_) (fun c6 => ?_)
    · have hF := (if_pos c6).symm.trans hF
      refine lv_aload_n hx hb dX7_step_24 rfl (lv_at hl 0 rfl) ?_
      refine va_get (D := (dC, dI)) (ci := 6) (v := .ref oc) (C := RX7) (T := TX7) (N := 10) hx hb hts uX7 hown hK hP 0 rfl rfl 3 (by decide) w2 (fun _ h9 => h9) rfl dX7_step_25 ?_
      refine lv_iload_n hx hb dX7_step_28 rfl (lv_at hl 1 rfl) ?_
      obtain ⟨g7, hF⟩ := gd_n hF
      refine va_iald hx hb hK hP 1 0 rfl ht0 g7 dX7_step_29 ?_
      obtain ⟨r8, hC9, hF⟩ := gd_b hF
      refine ct_callV (C := RX7) (As := [.int (mcf p0.toNatClampNeg)]) (rest := []) ⟨hx, hb, hml, hown, hts⟩ (kX7_order l dC dI tys cI ht0 o oc oi ol ob mth mn mch mcl mgo mmo mcf mif mlf mbn mbf (mcf p0.toNatClampNeg) r8 hC9) (cwV 1 hts gX7_step_X7_order rfl rfl rfl (by decide +kernel) ⟨Nat.le_of_ble_eq_true rfl, Nat.le_of_ble_eq_true rfl⟩) hE hK hP hD hS hA [0, 1, 2, 3, 4] [] (by decide) rfl (by decide) (wr := []) rfl (by decide) (ci := 6) (T := TX7) (N := 10) (q0 := 0) rfl rfl hl.1 rfl rfl (Nat.le_of_ble_eq_true rfl) dX7_step_30 ⟨(Nat.le_of_ble_eq_true rfl), (Nat.le_of_ble_eq_true rfl)⟩ (fun i10 H locs hP hD hS => ?_)
      have hP : va_P (dC, dI) vwCl [(o, .inr (6, [.int mth, .int mn, .int mch, .ref oc, .ref oi, .int mcl, .ref ol, .int mgo, .int mmo, .ref ob])), (oc, .inl (cI, 14, .inl mcf)), (oi, .inl (cI, 3, .inl mif)), (ol, .inl (cI, 24, .inl mlf)), (ob, .inl (cI, mbn, .inl mbf)), (i10, .inl (cI, r8.2, .inl r8.1))] H := hP
      have hD : va_D A [(o, .inr (6, [.int mth, .int mn, .int mch, .ref oc, .ref oi, .int mcl, .ref ol, .int mgo, .int mmo, .ref ob])), (oc, .inl (cI, 14, .inl mcf)), (oi, .inl (cI, 3, .inl mif)), (ol, .inl (cI, 24, .inl mlf)), (ob, .inl (cI, mbn, .inl mbf)), (i10, .inl (cI, r8.2, .inl r8.1))] := hD
      obtain rfl := Option.some.inj hF
      exact ct_a hx hb hr hlocks hK hP hD hS i10 rfl [0, 1, 2, 3, 4, 5] (by decide) rfl (Nat.le_of_ble_eq_true rfl) (Nat.le_of_ble_eq_true rfl) dX7_step_33
    · have hF := (if_neg c6).symm.trans hF
      refine lv_aload_n hx hb dX7_step_15 rfl (lv_at hl 0 rfl) ?_
      refine va_get (D := (dC, dI)) (ci := 6) (v := .ref oi) (C := RX7) (T := TX7) (N := 10) hx hb hts uX7 hown hK hP 0 rfl rfl 4 (by decide) w3 (fun _ h9 => h9) rfl dX7_step_16 ?_
      refine lv_iload_n hx hb dX7_step_19 rfl (lv_at hl 2 rfl) ?_
      obtain ⟨g11, hF⟩ := gd_n hF
      refine va_iald hx hb hK hP 2 0 rfl ht0 g11 dX7_step_20 ?_
      refine lv_goto (tgt := 30) hx hb dX7_step_21 (by decide) ?_
      obtain ⟨r12, hC13, hF⟩ := gd_b hF
      refine ct_callV (C := RX7) (As := [.int (mif p1.toNatClampNeg)]) (rest := []) ⟨hx, hb, hml, hown, hts⟩ (kX7_order l dC dI tys cI ht0 o oc oi ol ob mth mn mch mcl mgo mmo mcf mif mlf mbn mbf (mif p1.toNatClampNeg) r12 hC13) (cwV 1 hts gX7_step_X7_order rfl rfl rfl (by decide +kernel) ⟨Nat.le_of_ble_eq_true rfl, Nat.le_of_ble_eq_true rfl⟩) hE hK hP hD hS hA [0, 1, 2, 3, 4] [] (by decide) rfl (by decide) (wr := []) rfl (by decide) (ci := 6) (T := TX7) (N := 10) (q0 := 0) rfl rfl hl.1 rfl rfl (Nat.le_of_ble_eq_true rfl) dX7_step_30 ⟨(Nat.le_of_ble_eq_true rfl), (Nat.le_of_ble_eq_true rfl)⟩ (fun i14 H locs hP hD hS => ?_)
      have hP : va_P (dC, dI) vwCl [(o, .inr (6, [.int mth, .int mn, .int mch, .ref oc, .ref oi, .int mcl, .ref ol, .int mgo, .int mmo, .ref ob])), (oc, .inl (cI, 14, .inl mcf)), (oi, .inl (cI, 3, .inl mif)), (ol, .inl (cI, 24, .inl mlf)), (ob, .inl (cI, mbn, .inl mbf)), (i14, .inl (cI, r12.2, .inl r12.1))] H := hP
      have hD : va_D A [(o, .inr (6, [.int mth, .int mn, .int mch, .ref oc, .ref oi, .int mcl, .ref ol, .int mgo, .int mmo, .ref ob])), (oc, .inl (cI, 14, .inl mcf)), (oi, .inl (cI, 3, .inl mif)), (ol, .inl (cI, 24, .inl mlf)), (ob, .inl (cI, mbn, .inl mbf)), (i14, .inl (cI, r12.2, .inl r12.1))] := hD
      obtain rfl := Option.some.inj hF
      exact ct_a hx hb hr hlocks hK hP hD hS i14 rfl [0, 1, 2, 3, 4, 5] (by decide) rfl (Nat.le_of_ble_eq_true rfl) (Nat.le_of_ble_eq_true rfl) dX7_step_33

def fX7_leadOrder_X7  (x3_7 : Int32) (n5_7 : Nat) (f5_7 : (Nat → Int32)) : Option ((Nat → Int32) × Nat) := some (f5_7, n5_7)
def fX7_leadOrder_L7 (mch : Int32) (mn : Int32) (mcf : (Nat → Int32)) (mif : (Nat → Int32)) (p0 : Int32) (K7 : Int32 → Nat → (Nat → Int32) → Option ((Nat → Int32) × Nat)) : Nat → Int32 → Nat → (Nat → Int32) → Option ((Nat → Int32) × Nat)
  | 0, _, _, _ => none
  | n + 1, x3_7, n5_7, f5_7 => if mch ≤ x3_7 then (K7 x3_7 n5_7 f5_7) else ((fX7_step mn mch mcf mif x3_7 p0).bind (fun r5 => (fX7_join n5_7 f5_7 r5.2 r5.1).bind (fun r8 => (fX7_leadOrder_L7 mch mn mcf mif p0 K7 n) (x3_7 + (1 : Int32)) r8.2 r8.1)))
def fX7_leadOrder (mn : Int32) (mch : Int32) (mcf : (Nat → Int32)) (mif : (Nat → Int32)) (p0 : Int32) : Option ((Nat → Int32) × Nat) := (fX7_same mn).bind (fun r1 => fX7_leadOrder_L7 mch mn mcf mif p0 fX7_leadOrder_X7 15 (0 : Int32) r1.2 r1.1)
abbrev rmX7_leadOrder : Room := { frames := 3, cells := 31, slots := 217, locals := 67 }
set_option maxHeartbeats 4000000 in
set_option maxRecDepth 100000 in
theorem kX7_leadOrder (l : Launch) (dC : Nat → ClassId) (dI : Nat → Nat → Nat) (tys : List (ClassId × FieldType)) (cI : ClassId) (ht0 : tys[0]? = some (cI, .int)) (o oc oi ol ob : Nat) (mth : Int32) (mn : Int32) (mch : Int32) (mcl : Int32) (mgo : Int32) (mmo : Int32) (mcf : (Nat → Int32)) (mif : (Nat → Int32)) (mlf : (Nat → Int32)) (mbn : Nat) (mbf : (Nat → Int32)) (p0 : Int32) (r : ((Nat → Int32) × Nat)) (hF : fX7_leadOrder mn mch mcf mif p0 = some r) : ct l (dC, dI) tys yX7_leadOrder wsX7_leadOrder rmX7_leadOrder [.ref o, .int p0] [(o, .inr (6, [.int mth, .int mn, .int mch, .ref oc, .ref oi, .int mcl, .ref ol, .int mgo, .int mmo, .ref ob])), (oc, .inl (cI, 14, .inl mcf)), (oi, .inl (cI, 3, .inl mif)), (ol, .inl (cI, 24, .inl mlf)), (ob, .inl (cI, mbn, .inl mbf))] (fun i : Nat => some (.ref i)) (fun i : Nat => [(o, .inr (6, [.int mth, .int mn, .int mch, .ref oc, .ref oi, .int mcl, .ref ol, .int mgo, .int mmo, .ref ob])), (oc, .inl (cI, 14, .inl mcf)), (oi, .inl (cI, 3, .inl mif)), (ol, .inl (cI, 24, .inl mlf)), (ob, .inl (cI, mbn, .inl mbf)), (i, .inl (cI, r.2, .inl r.1))]) := by
  refine ct_of (cc := cX7_leadOrder) (maxL := 4) (ret := (some (.array .int))) (by decide) rfl (Nat.le_of_ble_eq_true rfl) ?_
  intro p e s m below meth c A ls hx hb hr hml hts hown hlocks hname hE hK hP hD hA hS hl
  have hown : s.vm.findClass RX7 = some m.cls := hown
  have hl : lv_has ls 4 [(0, .ref o), (1, .int p0)] := hl
  unfold fX7_leadOrder at hF
  have uX7 : ∀ w ∈ wsX70, w ∈ wsX7_leadOrder := (fun _ h => (List.mem_cons_of_mem _ (List.mem_append_right _ h)))
  have w1 := hts (.fieldLink RX7 30 "BellfounderTowerModel" "changes" "I") (List.mem_cons_of_mem _ (List.mem_append_left _ (List.mem_of_getElem? (i := 0) rfl)))
  refine lv_aload_n hx hb dX7_leadOrder_0 rfl (lv_at hl 0 rfl) ?_
  obtain ⟨r1, hC2, hF⟩ := gd_b hF
  refine ct_callV (C := RX7) (As := []) (rest := []) ⟨hx, hb, hml, hown, hts⟩ (kX7_same l dC dI tys cI ht0 o oc oi ol ob mth mn mch mcl mgo mmo mcf mif mlf mbn mbf r1 hC2) (cwV 0 hts gX7_leadOrder_X7_same rfl rfl rfl (by decide +kernel) ⟨Nat.le_of_ble_eq_true rfl, Nat.le_of_ble_eq_true rfl⟩) hE hK hP hD hS hA [0, 1, 2, 3, 4] [] (by decide) rfl (by decide) (wr := []) rfl (by decide) (ci := 6) (T := TX7) (N := 10) (q0 := 0) rfl rfl hl.1 rfl rfl (Nat.le_of_ble_eq_true rfl) dX7_leadOrder_1 ⟨(Nat.le_of_ble_eq_true rfl), (Nat.le_of_ble_eq_true rfl)⟩ (fun i3 H locs hP hD hS => ?_)
  have hP : va_P (dC, dI) vwCl [(o, .inr (6, [.int mth, .int mn, .int mch, .ref oc, .ref oi, .int mcl, .ref ol, .int mgo, .int mmo, .ref ob])), (oc, .inl (cI, 14, .inl mcf)), (oi, .inl (cI, 3, .inl mif)), (ol, .inl (cI, 24, .inl mlf)), (ob, .inl (cI, mbn, .inl mbf)), (i3, .inl (cI, r1.2, .inl r1.1))] H := hP
  have hD : va_D A [(o, .inr (6, [.int mth, .int mn, .int mch, .ref oc, .ref oi, .int mcl, .ref ol, .int mgo, .int mmo, .ref ob])), (oc, .inl (cI, 14, .inl mcf)), (oi, .inl (cI, 3, .inl mif)), (ol, .inl (cI, 24, .inl mlf)), (ob, .inl (cI, mbn, .inl mbf)), (i3, .inl (cI, r1.2, .inl r1.1))] := hD
  refine lv_astore_n (lv' := [(2, .ref i3), (0, .ref o), (1, .int p0)]) hx hb dX7_leadOrder_4 rfl hl (by decide) rfl (fun ls hl => ?_)
  refine lv_iconst (v := (0 : Int32)) hx hb dX7_leadOrder_5 (by decide) ?_
  refine lv_istore_n (lv' := [(3, .int (0 : Int32)), (2, .ref i3), (0, .ref o), (1, .int p0)]) hx hb dX7_leadOrder_6 rfl hl (by decide) rfl (fun ls hl => ?_)
  have X7 : ∀ (a2_7 : Nat) (x3_7 : Int32) (n5_7 : Nat) (f5_7 : (Nat → Int32)) (H : Heap) (locs : List Loc) (ls : Array Slot), fX7_leadOrder_X7 x3_7 n5_7 f5_7 = some r → va_P (dC, dI) vwCl [(o, .inr (6, [.int mth, .int mn, .int mch, .ref oc, .ref oi, .int mcl, .ref ol, .int mgo, .int mmo, .ref ob])), (oc, .inl (cI, 14, .inl mcf)), (oi, .inl (cI, 3, .inl mif)), (ol, .inl (cI, 24, .inl mlf)), (ob, .inl (cI, mbn, .inl mbf)), (a2_7, .inl (cI, n5_7, .inl f5_7))] H → va_D A [(o, .inr (6, [.int mth, .int mn, .int mch, .ref oc, .ref oi, .int mcl, .ref ol, .int mgo, .int mmo, .ref ob])), (oc, .inl (cI, 14, .inl mcf)), (oi, .inl (cI, 3, .inl mif)), (ol, .inl (cI, 24, .inl mlf)), (ob, .inl (cI, mbn, .inl mbf)), (a2_7, .inl (cI, n5_7, .inl f5_7))] → va_S A s.heap H locs → lv_has ls 4 [(3, .int x3_7), (2, .ref a2_7), (0, .ref o), (1, .int p0)] → W p l e rmX7_leadOrder s m ([.ref o, .int p0] : List Value).toArray below meth c H locs 31 217 (MQ below (ct_Q (dC, dI) tys (fun i : Nat => some (.ref i)) (fun i : Nat => [(o, .inr (6, [.int mth, .int mn, .int mch, .ref oc, .ref oi, .int mcl, .ref ol, .int mgo, .int mmo, .ref ob])), (oc, .inl (cI, 14, .inl mcf)), (oi, .inl (cI, 3, .inl mif)), (ol, .inl (cI, 24, .inl mlf)), (ob, .inl (cI, mbn, .inl mbf)), (i, .inl (cI, r.2, .inl r.1))]) A) ([.ref o, .int p0] : List Value).toArray s rmX7_leadOrder.cells rmX7_leadOrder.slots A) (F0 m 32 ls []) := by
    intro a2_7 x3_7 n5_7 f5_7 H locs ls hF hP hD hS hl
    unfold fX7_leadOrder_X7 at hF
    refine lv_aload_n hx hb dX7_leadOrder_32 rfl (lv_at hl 1 rfl) ?_
    obtain rfl := Option.some.inj hF
    exact ct_a hx hb hr hlocks hK hP hD hS a2_7 rfl [0, 1, 2, 3, 4, 5] (by decide) rfl (Nat.le_of_ble_eq_true rfl) (Nat.le_of_ble_eq_true rfl) dX7_leadOrder_33
  have L7 : ∀ (n7 : Nat) (a2_7 : Nat) (x3_7 : Int32) (n5_7 : Nat) (f5_7 : (Nat → Int32)) (H : Heap) (locs : List Loc) (ls : Array Slot) (cc7 ss7 : Nat), cc7 + n7 * 2 ≤ 31 → ss7 + n7 * 14 ≤ 217 → fX7_leadOrder_L7 mch mn mcf mif p0 fX7_leadOrder_X7 n7 x3_7 n5_7 f5_7 = some r → va_P (dC, dI) vwCl [(o, .inr (6, [.int mth, .int mn, .int mch, .ref oc, .ref oi, .int mcl, .ref ol, .int mgo, .int mmo, .ref ob])), (oc, .inl (cI, 14, .inl mcf)), (oi, .inl (cI, 3, .inl mif)), (ol, .inl (cI, 24, .inl mlf)), (ob, .inl (cI, mbn, .inl mbf)), (a2_7, .inl (cI, n5_7, .inl f5_7))] H → va_D A [(o, .inr (6, [.int mth, .int mn, .int mch, .ref oc, .ref oi, .int mcl, .ref ol, .int mgo, .int mmo, .ref ob])), (oc, .inl (cI, 14, .inl mcf)), (oi, .inl (cI, 3, .inl mif)), (ol, .inl (cI, 24, .inl mlf)), (ob, .inl (cI, mbn, .inl mbf)), (a2_7, .inl (cI, n5_7, .inl f5_7))] → va_S A s.heap H locs → lv_has ls 4 [(3, .int x3_7), (2, .ref a2_7), (0, .ref o), (1, .int p0)] → W p l e rmX7_leadOrder s m ([.ref o, .int p0] : List Value).toArray below meth c H locs cc7 ss7 (MQ below (ct_Q (dC, dI) tys (fun i : Nat => some (.ref i)) (fun i : Nat => [(o, .inr (6, [.int mth, .int mn, .int mch, .ref oc, .ref oi, .int mcl, .ref ol, .int mgo, .int mmo, .ref ob])), (oc, .inl (cI, 14, .inl mcf)), (oi, .inl (cI, 3, .inl mif)), (ol, .inl (cI, 24, .inl mlf)), (ob, .inl (cI, mbn, .inl mbf)), (i, .inl (cI, r.2, .inl r.1))]) A) ([.ref o, .int p0] : List Value).toArray s rmX7_leadOrder.cells rmX7_leadOrder.slots A) (F0 m 7 ls []) := by
    intro n7
    induction n7 with
    | zero => intro a2_7 x3_7 n5_7 f5_7 H locs ls cc7 ss7 hcc7 hss7 hF; rw [fX7_leadOrder_L7] at hF; cases hF
    | succ n7 ih7 =>
      intro a2_7 x3_7 n5_7 f5_7 H locs ls cc7 ss7 hcc7 hss7 hF hP hD hS hl
      rw [fX7_leadOrder_L7] at hF
      refine lv_iload_n hx hb dX7_leadOrder_7 rfl (lv_at hl 0 rfl) ?_
      refine lv_aload_n hx hb dX7_leadOrder_8 rfl (lv_at hl 2 rfl) ?_
      refine va_get (D := (dC, dI)) (ci := 6) (v := .int mch) (C := RX7) (T := TX7) (N := 10) hx hb hts uX7 hown hK hP 0 rfl rfl 2 (by decide) w1 (fun _ h9 => h9) rfl dX7_leadOrder_9 ?_
      refine lv_icmp_ge (tgt := 32) hx hb dX7_leadOrder_12 (by decide) (fun c4 => ?_) (fun c4 => ?_)
      · have hF := (if_pos c4).symm.trans hF
        refine W.widen (k := 31) (n := 217) (al_le (k := 0) (c1 := 2) hcc7 (Nat.le_refl _) (Nat.le_of_ble_eq_true rfl)) (al_le (k := 0) (c1 := 14) hss7 (Nat.le_refl _) (Nat.le_of_ble_eq_true rfl)) ?_
        exact X7 a2_7 x3_7 n5_7 f5_7 _ _ _ hF (hP.sub [0, 1, 2, 3, 4, 5] rfl) (hD.sub [0, 1, 2, 3, 4, 5] (by decide) rfl) hS (lv_sub hl [0, 1, 2, 3] rfl)
      · have hF := (if_neg c4).symm.trans hF
        refine lv_aload_n hx hb dX7_leadOrder_15 rfl (lv_at hl 1 rfl) ?_
        refine lv_aload_n hx hb dX7_leadOrder_16 rfl (lv_at hl 2 rfl) ?_
        refine lv_iload_n hx hb dX7_leadOrder_17 rfl (lv_at hl 0 rfl) ?_
        refine lv_iload_n hx hb dX7_leadOrder_18 rfl (lv_at hl 3 rfl) ?_
        obtain ⟨r5, hC6, hF⟩ := gd_b hF
        refine ct_callV (C := RX7) (As := [.int x3_7, .int p0]) (rest := [.ref a2_7]) ⟨hx, hb, hml, hown, hts⟩ (kX7_step l dC dI tys cI ht0 o oc oi ol ob mth mn mch mcl mgo mmo mcf mif mlf mbn mbf x3_7 p0 r5 hC6) (cwV 2 hts gX7_leadOrder_X7_step rfl rfl rfl (by decide +kernel) ⟨Nat.le_of_ble_eq_true rfl, Nat.le_of_ble_eq_true rfl⟩) hE hK hP hD hS hA [0, 1, 2, 3, 4] [5] (by decide) rfl (by decide) (wr := [(a2_7, .inl (cI, n5_7, .inl f5_7))]) rfl (by decide) (ci := 6) (T := TX7) (N := 10) (q0 := 0) rfl rfl hl.1 rfl rfl (Nat.le_of_ble_eq_true rfl) dX7_leadOrder_19 ⟨(show cc7 + 1 ≤ 31 from (al_le (k := 1) (c1 := 2) hcc7 (Nat.le_of_ble_eq_true rfl) (Nat.le_of_ble_eq_true rfl))), (show ss7 + 7 ≤ 217 from (al_le (k := 7) (c1 := 14) hss7 (Nat.le_of_ble_eq_true rfl) (Nat.le_of_ble_eq_true rfl)))⟩ (fun i7 H locs hP hD hS => ?_)
        refine W.widen (k := cc7 + 1) (n := ss7 + 7) (show cc7 + 1 ≤ cc7 + 1 from Nat.le_refl _) (show ss7 + 7 ≤ ss7 + 7 from Nat.le_refl _) ?_
        have hP : va_P (dC, dI) vwCl [(a2_7, .inl (cI, n5_7, .inl f5_7)), (o, .inr (6, [.int mth, .int mn, .int mch, .ref oc, .ref oi, .int mcl, .ref ol, .int mgo, .int mmo, .ref ob])), (oc, .inl (cI, 14, .inl mcf)), (oi, .inl (cI, 3, .inl mif)), (ol, .inl (cI, 24, .inl mlf)), (ob, .inl (cI, mbn, .inl mbf)), (i7, .inl (cI, r5.2, .inl r5.1))] H := hP
        have hD : va_D A [(a2_7, .inl (cI, n5_7, .inl f5_7)), (o, .inr (6, [.int mth, .int mn, .int mch, .ref oc, .ref oi, .int mcl, .ref ol, .int mgo, .int mmo, .ref ob])), (oc, .inl (cI, 14, .inl mcf)), (oi, .inl (cI, 3, .inl mif)), (ol, .inl (cI, 24, .inl mlf)), (ob, .inl (cI, mbn, .inl mbf)), (i7, .inl (cI, r5.2, .inl r5.1))] := hD
        obtain ⟨r8, hC9, hF⟩ := gd_b hF
        refine ct_callS (As := [.ref a2_7, .ref i7]) (rest := []) ⟨hx, hb, hml, hown, hts⟩ (kX7_join l dC dI tys cI ht0 a2_7 i7 n5_7 f5_7 r5.2 r5.1 r8 hC9) (va_cwS 2 hts gX7_leadOrder_X7_join rfl rfl rfl (by decide +kernel) ⟨Nat.le_of_ble_eq_true rfl, Nat.le_of_ble_eq_true rfl⟩) hE hK hP hD hS hA [0, 6] [1, 2, 3, 4, 5] (by decide) rfl (by decide) (wr := [(o, .inr (6, [.int mth, .int mn, .int mch, .ref oc, .ref oi, .int mcl, .ref ol, .int mgo, .int mmo, .ref ob])), (oc, .inl (cI, 14, .inl mcf)), (oi, .inl (cI, 3, .inl mif)), (ol, .inl (cI, 24, .inl mlf)), (ob, .inl (cI, mbn, .inl mbf))]) rfl (by decide) hl.1 rfl rfl (Nat.le_of_ble_eq_true rfl) dX7_leadOrder_22 ⟨(show cc7 + 1 + 1 ≤ 31 from (al_le (k := 2) (c1 := 2) hcc7 (Nat.le_of_ble_eq_true rfl) (Nat.le_of_ble_eq_true rfl))), (show ss7 + 7 + 7 ≤ 217 from (al_le (k := 14) (c1 := 14) hss7 (Nat.le_of_ble_eq_true rfl) (Nat.le_of_ble_eq_true rfl)))⟩ (fun i10 H locs hP hD hS => ?_)
        refine W.widen (k := cc7 + 2) (n := ss7 + 14) (show cc7 + 1 + 1 ≤ cc7 + 2 from Nat.le_refl _) (show ss7 + 7 + 7 ≤ ss7 + 14 from Nat.le_refl _) ?_
        have hP : va_P (dC, dI) vwCl [(o, .inr (6, [.int mth, .int mn, .int mch, .ref oc, .ref oi, .int mcl, .ref ol, .int mgo, .int mmo, .ref ob])), (oc, .inl (cI, 14, .inl mcf)), (oi, .inl (cI, 3, .inl mif)), (ol, .inl (cI, 24, .inl mlf)), (ob, .inl (cI, mbn, .inl mbf)), (a2_7, .inl (cI, n5_7, .inl f5_7)), (i7, .inl (cI, r5.2, .inl r5.1)), (i10, .inl (cI, r8.2, .inl r8.1))] H := hP
        have hD : va_D A [(o, .inr (6, [.int mth, .int mn, .int mch, .ref oc, .ref oi, .int mcl, .ref ol, .int mgo, .int mmo, .ref ob])), (oc, .inl (cI, 14, .inl mcf)), (oi, .inl (cI, 3, .inl mif)), (ol, .inl (cI, 24, .inl mlf)), (ob, .inl (cI, mbn, .inl mbf)), (a2_7, .inl (cI, n5_7, .inl f5_7)), (i7, .inl (cI, r5.2, .inl r5.1)), (i10, .inl (cI, r8.2, .inl r8.1))] := hD
        refine lv_astore_n (lv' := [(2, .ref i10), (3, .int x3_7), (0, .ref o), (1, .int p0)]) hx hb dX7_leadOrder_25 rfl hl (by decide) rfl (fun ls hl => ?_)
        refine lv_iinc (v := x3_7 + (1 : Int32)) (lv' := [(3, .int (x3_7 + (1 : Int32))), (2, .ref i10), (0, .ref o), (1, .int p0)]) hx hb dX7_leadOrder_26 hl (k := 1) rfl rfl (by decide) rfl (fun ls hl => ?_)
        refine lv_goto (tgt := 7) hx hb dX7_leadOrder_29 (by decide) ?_
        exact ih7 i10 (x3_7 + (1 : Int32)) r8.2 r8.1 _ _ _ (cc7 + 2) (ss7 + 14) (al_back (k := 2) hcc7 (Nat.le_of_ble_eq_true rfl)) (al_back (k := 14) hss7 (Nat.le_of_ble_eq_true rfl)) hF (hP.sub [0, 1, 2, 3, 4, 7] rfl) (hD.sub [0, 1, 2, 3, 4, 7] (by decide) rfl) hS (lv_sub hl [0, 1, 2, 3] rfl)
  exact L7 15 i3 (0 : Int32) r1.2 r1.1 _ _ _ (1) (7) (Nat.le_refl _) (Nat.le_refl _) hF (hP.sub [0, 1, 2, 3, 4, 5] rfl) (hD.sub [0, 1, 2, 3, 4, 5] (by decide) rfl) hS (lv_sub hl [0, 1, 2, 3] rfl)

def fX7_number_X10  (x4_10 : Int32) (x1_10 : Int32) : Option Int32 := some (x1_10)
def fX7_number_L10 (pan : Nat) (paf : (Nat → Int32)) (K10 : Int32 → Int32 → Option Int32) : Nat → Int32 → Int32 → Option Int32
  | 0, _, _ => none
  | n + 1, x4_10, x1_10 => if (Int32.ofNat pan) ≤ x4_10 then (K10 x4_10 x1_10) else (if (x4_10 < 0 ∨ pan ≤ x4_10.toNatClampNeg) then none else ((fX7_number_L10 pan paf K10 n) (x4_10 + (1 : Int32)) (((x1_10 * (10 : Int32)) + (paf x4_10.toNatClampNeg)) + (1 : Int32))))
def fX7_number (pan : Nat) (paf : (Nat → Int32)) : Option Int32 := fX7_number_L10 pan paf fX7_number_X10 1000 (0 : Int32) (0 : Int32)
abbrev rmX7_number : Room := { frames := 0, cells := 0, slots := 0, locals := 0 }
set_option maxHeartbeats 4000000 in
set_option maxRecDepth 100000 in
theorem kX7_number (l : Launch) (dC : Nat → ClassId) (dI : Nat → Nat → Nat) (tys : List (ClassId × FieldType)) (cI : ClassId) (ht0 : tys[0]? = some (cI, .int)) (pa : Nat) (pan : Nat) (paf : (Nat → Int32)) (r : Int32) (hF : fX7_number pan paf = some r) : ct l (dC, dI) tys yX7_number wsX7_number rmX7_number [.ref pa] [(pa, .inl (cI, pan, .inl paf))] (fun _ : Unit => some (.int r)) (fun _ : Unit => [(pa, .inl (cI, pan, .inl paf))]) := by
  refine ct_of (cc := cX7_number) (maxL := 6) (ret := (some .int)) (by decide) rfl (Nat.le_of_ble_eq_true rfl) ?_
  intro p e s m below meth c A ls hx hb hr hml hts hown hlocks hname hE hK hP hD hA hS hl
  have hown : s.vm.findClass RX7 = some m.cls := hown
  have hl : lv_has ls 6 [(0, .ref pa)] := hl
  unfold fX7_number at hF
  refine lv_iconst (v := (0 : Int32)) hx hb dX7_number_0 (by decide) ?_
  refine lv_istore_n (lv' := [(1, .int (0 : Int32)), (0, .ref pa)]) hx hb dX7_number_1 rfl hl (by decide) rfl (fun ls hl => ?_)
  refine lv_aload_n hx hb dX7_number_2 rfl (lv_at hl 1 rfl) ?_
  refine lv_astore_n (lv' := [(2, .ref pa), (1, .int (0 : Int32)), (0, .ref pa)]) hx hb dX7_number_3 rfl hl (by decide) rfl (fun ls hl => ?_)
  refine lv_aload_n hx hb dX7_number_4 rfl (lv_at hl 0 rfl) ?_
  refine va_alen hx hb hK hP 0 0 rfl ht0 (v := Int32.ofNat pan) rfl dX7_number_5 ?_
  refine lv_istore_n (lv' := [(3, .int (Int32.ofNat pan)), (2, .ref pa), (1, .int (0 : Int32)), (0, .ref pa)]) hx hb dX7_number_6 rfl hl (by decide) rfl (fun ls hl => ?_)
  refine lv_iconst (v := (0 : Int32)) hx hb dX7_number_7 (by decide) ?_
  refine lv_istore (lv' := [(4, .int (0 : Int32)), (3, .int (Int32.ofNat pan)), (2, .ref pa), (1, .int (0 : Int32)), (0, .ref pa)]) hx hb dX7_number_8 hl (by decide) rfl (fun ls hl => ?_)
  have X10 : ∀ (x4_10 : Int32) (x1_10 : Int32) (H : Heap) (locs : List Loc) (ls : Array Slot), fX7_number_X10 x4_10 x1_10 = some r → va_P (dC, dI) vwCl [(pa, .inl (cI, pan, .inl paf))] H → va_D A [(pa, .inl (cI, pan, .inl paf))] → va_S A s.heap H locs → lv_has ls 6 [(4, .int x4_10), (3, .int (Int32.ofNat pan)), (2, .ref pa), (1, .int x1_10), (0, .ref pa)] → W p l e rmX7_number s m ([.ref pa] : List Value).toArray below meth c H locs 0 0 (MQ below (ct_Q (dC, dI) tys (fun _ : Unit => some (.int r)) (fun _ : Unit => [(pa, .inl (cI, pan, .inl paf))]) A) ([.ref pa] : List Value).toArray s rmX7_number.cells rmX7_number.slots A) (F0 m 38 ls []) := by
    intro x4_10 x1_10 H locs ls hF hP hD hS hl
    unfold fX7_number_X10 at hF
    refine lv_iload_n hx hb dX7_number_38 rfl (lv_at hl 3 rfl) ?_
    obtain rfl := Option.some.inj hF
    exact ct_i hx hb hr hlocks hK hP hD hS () rfl [0] (by decide) rfl (Nat.le_of_ble_eq_true rfl) (Nat.le_of_ble_eq_true rfl) dX7_number_39
  have L10 : ∀ (n10 : Nat) (x4_10 : Int32) (x1_10 : Int32) (H : Heap) (locs : List Loc) (ls : Array Slot), fX7_number_L10 pan paf fX7_number_X10 n10 x4_10 x1_10 = some r → va_P (dC, dI) vwCl [(pa, .inl (cI, pan, .inl paf))] H → va_D A [(pa, .inl (cI, pan, .inl paf))] → va_S A s.heap H locs → lv_has ls 6 [(4, .int x4_10), (3, .int (Int32.ofNat pan)), (2, .ref pa), (1, .int x1_10), (0, .ref pa)] → W p l e rmX7_number s m ([.ref pa] : List Value).toArray below meth c H locs 0 0 (MQ below (ct_Q (dC, dI) tys (fun _ : Unit => some (.int r)) (fun _ : Unit => [(pa, .inl (cI, pan, .inl paf))]) A) ([.ref pa] : List Value).toArray s rmX7_number.cells rmX7_number.slots A) (F0 m 10 ls []) := by
    intro n10
    induction n10 with
    | zero => intro x4_10 x1_10 H locs ls hF; rw [fX7_number_L10] at hF; cases hF
    | succ n10 ih10 =>
      intro x4_10 x1_10 H locs ls hF hP hD hS hl
      rw [fX7_number_L10] at hF
      refine lv_iload hx hb dX7_number_10 (lv_at hl 0 rfl) ?_
      refine lv_iload_n hx hb dX7_number_12 rfl (lv_at hl 1 rfl) ?_
      refine lv_icmp_ge (tgt := 38) hx hb dX7_number_13 (by decide) (fun c1 => ?_) (fun c1 => ?_)
      · have hF := (if_pos c1).symm.trans hF
        exact X10 x4_10 x1_10 _ _ _ hF (hP.sub [0] rfl) (hD.sub [0] (by decide) rfl) hS (lv_sub hl [0, 1, 2, 3, 4] rfl)
      · have hF := (if_neg c1).symm.trans hF
        refine lv_aload_n hx hb dX7_number_16 rfl (lv_at hl 2 rfl) ?_
        refine lv_iload hx hb dX7_number_17 (lv_at hl 0 rfl) ?_
        obtain ⟨g2, hF⟩ := gd_n hF
        refine va_iald hx hb hK hP 0 0 rfl ht0 g2 dX7_number_19 ?_
        refine lv_istore (lv' := [(5, .int (paf x4_10.toNatClampNeg)), (4, .int x4_10), (3, .int (Int32.ofNat pan)), (2, .ref pa), (1, .int x1_10), (0, .ref pa)]) hx hb dX7_number_20 hl (by decide) rfl (fun ls hl => ?_)
        refine lv_iload_n hx hb dX7_number_22 rfl (lv_at hl 4 rfl) ?_
        refine lv_bipush (v := (10 : Int32)) hx hb dX7_number_23 (by decide) ?_
        refine lv_imul hx hb dX7_number_25 ?_
        refine lv_iload hx hb dX7_number_26 (lv_at hl 0 rfl) ?_
        refine lv_iadd hx hb dX7_number_28 ?_
        refine lv_iconst (v := (1 : Int32)) hx hb dX7_number_29 (by decide) ?_
        refine lv_iadd hx hb dX7_number_30 ?_
        refine lv_istore_n (lv' := [(1, .int (((x1_10 * (10 : Int32)) + (paf x4_10.toNatClampNeg)) + (1 : Int32))), (5, .int (paf x4_10.toNatClampNeg)), (4, .int x4_10), (3, .int (Int32.ofNat pan)), (2, .ref pa), (0, .ref pa)]) hx hb dX7_number_31 rfl hl (by decide) rfl (fun ls hl => ?_)
        refine lv_iinc (v := x4_10 + (1 : Int32)) (lv' := [(4, .int (x4_10 + (1 : Int32))), (1, .int (((x1_10 * (10 : Int32)) + (paf x4_10.toNatClampNeg)) + (1 : Int32))), (5, .int (paf x4_10.toNatClampNeg)), (3, .int (Int32.ofNat pan)), (2, .ref pa), (0, .ref pa)]) hx hb dX7_number_32 hl (k := 2) rfl rfl (by decide) rfl (fun ls hl => ?_)
        refine lv_goto (tgt := 10) hx hb dX7_number_35 (by decide) ?_
        exact ih10 (x4_10 + (1 : Int32)) (((x1_10 * (10 : Int32)) + (paf x4_10.toNatClampNeg)) + (1 : Int32)) _ _ _ hF (hP.sub [0] rfl) (hD.sub [0] (by decide) rfl) hS (lv_sub hl [0, 3, 4, 1, 5] rfl)
  exact L10 1000 (0 : Int32) (0 : Int32) _ _ _ hF (hP.sub [0] rfl) (hD.sub [0] (by decide) rfl) hS (lv_sub hl [0, 1, 2, 3, 4] rfl)

def fX7_read_X34   : Option ((Nat → Int32) × Nat) := some ((fun _ => 0), 0)
def fX7_read_L34 (mn : Int32) (K34 : Option ((Nat → Int32) × Nat)) : Nat → Option ((Nat → Int32) × Nat)
  | 0 => none
  | n + 1 => if (mn - (1 : Int32)) < 0 then (K34) else (K34)
def fX7_read_X34b (mn : Int32) (x6_34 : Int32) (x4_34 : Int32) (x3_34 : Int32) (f5_34 : (Nat → Int32)) (f6_34 : (Nat → Int32)) : Option ((Nat → Int32) × Nat) := if x4_34 = 0 then (some ((fun _ => 0), 0)) else (if x3_34 = 0 then (some (f5_34, mn.toNatClampNeg)) else (some ((fun _ => 0), 0)))
def fX7_read_L34b (mn : Int32) (K34 : Int32 → Int32 → Int32 → (Nat → Int32) → (Nat → Int32) → Option ((Nat → Int32) × Nat)) : Nat → Int32 → Int32 → Int32 → (Nat → Int32) → (Nat → Int32) → Option ((Nat → Int32) × Nat)
  | 0, _, _, _, _, _ => none
  | n + 1, x6_34, x4_34, x3_34, f5_34, f6_34 => if x6_34 < 0 then (K34 x6_34 x4_34 x3_34 f5_34 f6_34) else (if x4_34 = 0 then (K34 x6_34 x4_34 x3_34 f5_34 f6_34) else (if (x6_34 < 0 ∨ mn.toNatClampNeg ≤ x6_34.toNatClampNeg) then none else (if (x6_34 < 0 ∨ mn.toNatClampNeg ≤ x6_34.toNatClampNeg) then none else ((fX7_isIn ((upd f5_34 x6_34.toNatClampNeg ((x3_34 - x3_34 / (10 : Int32) * (10 : Int32)) - (1 : Int32))) x6_34.toNatClampNeg) (0 : Int32) (mn - (1 : Int32))).bind (fun r23 => if r23 = 0 then (if ((x3_34 - x3_34 / (10 : Int32) * (10 : Int32)) < 0 ∨ 10 ≤ (x3_34 - x3_34 / (10 : Int32) * (10 : Int32)).toNatClampNeg) then none else ((fX7_read_L34b mn K34 n) (x6_34 + (-1 : Int32)) (0 : Int32) (x3_34 / (10 : Int32)) (upd f5_34 x6_34.toNatClampNeg ((x3_34 - x3_34 / (10 : Int32) * (10 : Int32)) - (1 : Int32))) (upd f6_34 (x3_34 - x3_34 / (10 : Int32) * (10 : Int32)).toNatClampNeg (1 : Int32)))) else (if ((x3_34 - x3_34 / (10 : Int32) * (10 : Int32)) < 0 ∨ 10 ≤ (x3_34 - x3_34 / (10 : Int32) * (10 : Int32)).toNatClampNeg) then none else (if (f6_34 (x3_34 - x3_34 / (10 : Int32) * (10 : Int32)).toNatClampNeg) = 0 then (if ((x3_34 - x3_34 / (10 : Int32) * (10 : Int32)) < 0 ∨ 10 ≤ (x3_34 - x3_34 / (10 : Int32) * (10 : Int32)).toNatClampNeg) then none else ((fX7_read_L34b mn K34 n) (x6_34 + (-1 : Int32)) (1 : Int32) (x3_34 / (10 : Int32)) (upd f5_34 x6_34.toNatClampNeg ((x3_34 - x3_34 / (10 : Int32) * (10 : Int32)) - (1 : Int32))) (upd f6_34 (x3_34 - x3_34 / (10 : Int32) * (10 : Int32)).toNatClampNeg (1 : Int32)))) else (if ((x3_34 - x3_34 / (10 : Int32) * (10 : Int32)) < 0 ∨ 10 ≤ (x3_34 - x3_34 / (10 : Int32) * (10 : Int32)).toNatClampNeg) then none else ((fX7_read_L34b mn K34 n) (x6_34 + (-1 : Int32)) (0 : Int32) (x3_34 / (10 : Int32)) (upd f5_34 x6_34.toNatClampNeg ((x3_34 - x3_34 / (10 : Int32) * (10 : Int32)) - (1 : Int32))) (upd f6_34 (x3_34 - x3_34 / (10 : Int32) * (10 : Int32)).toNatClampNeg (1 : Int32)))))))))))
def fX7_read (mn : Int32) (p0 : Int32) : Option ((Nat → Int32) × Nat) := if mn < 0 then none else if ¬ mn.toNatClampNeg ≤ 7 then none else (if p0 ≤ 0 then (fX7_read_L34 mn fX7_read_X34 1000) else (fX7_read_L34b mn (fX7_read_X34b mn) 1000 (mn - (1 : Int32)) (1 : Int32) p0 (fun _ => 0) (fun _ => 0)))
abbrev rmX7_read : Room := { frames := 1, cells := 3, slots := 17, locals := 22 }
set_option maxHeartbeats 4000000 in
set_option maxRecDepth 100000 in
theorem kX7_read (l : Launch) (dC : Nat → ClassId) (dI : Nat → Nat → Nat) (tys : List (ClassId × FieldType)) (cI : ClassId) (ht0 : tys[0]? = some (cI, .int)) (cZ : ClassId) (ht1 : tys[1]? = some (cZ, .boolean)) (o oc oi ol ob : Nat) (mth : Int32) (mn : Int32) (mch : Int32) (mcl : Int32) (mgo : Int32) (mmo : Int32) (mcf : (Nat → Int32)) (mif : (Nat → Int32)) (mlf : (Nat → Int32)) (mbn : Nat) (mbf : (Nat → Int32)) (p0 : Int32) (r : ((Nat → Int32) × Nat)) (hF : fX7_read mn p0 = some r) : ct l (dC, dI) tys yX7_read wsX7_read rmX7_read [.ref o, .int p0] [(o, .inr (6, [.int mth, .int mn, .int mch, .ref oc, .ref oi, .int mcl, .ref ol, .int mgo, .int mmo, .ref ob])), (oc, .inl (cI, 14, .inl mcf)), (oi, .inl (cI, 3, .inl mif)), (ol, .inl (cI, 24, .inl mlf)), (ob, .inl (cI, mbn, .inl mbf))] (fun i : Nat => some (.ref i)) (fun i : Nat => [(o, .inr (6, [.int mth, .int mn, .int mch, .ref oc, .ref oi, .int mcl, .ref ol, .int mgo, .int mmo, .ref ob])), (oc, .inl (cI, 14, .inl mcf)), (oi, .inl (cI, 3, .inl mif)), (ol, .inl (cI, 24, .inl mlf)), (ob, .inl (cI, mbn, .inl mbf)), (i, .inl (cI, r.2, .inl r.1))]) := by
  refine ct_of (cc := cX7_read) (maxL := 7) (ret := (some (.array .int))) (by decide) rfl (Nat.le_of_ble_eq_true rfl) ?_
  intro p e s m below meth c A ls hx hb hr hml hts hown hlocks hname hE hK hP hD hA hS hl
  have hown : s.vm.findClass RX7 = some m.cls := hown
  have hl : lv_has ls 7 [(0, .ref o), (1, .int p0)] := hl
  unfold fX7_read at hF
  have uX7 : ∀ w ∈ wsX70, w ∈ wsX7_read := (fun _ h => (List.mem_cons_of_mem _ (List.mem_append_right _ h)))
  have w1 := hts (.fieldLink RX7 26 "BellfounderTowerModel" "n" "I") (List.mem_cons_of_mem _ (List.mem_append_left _ (List.mem_of_getElem? (i := 0) rfl)))
  have w2 := hts (.arrayClass .int) (List.mem_cons_of_mem _ (List.mem_append_left _ (List.mem_of_getElem? (i := 1) rfl)))
  have w3 := hts (.arrayClass .boolean) (List.mem_cons_of_mem _ (List.mem_append_left _ (List.mem_of_getElem? (i := 2) rfl)))
  refine lv_aload_n hx hb dX7_read_0 rfl (lv_at hl 0 rfl) ?_
  refine va_get (D := (dC, dI)) (ci := 6) (v := .int mn) (C := RX7) (T := TX7) (N := 10) hx hb hts uX7 hown hK hP 0 rfl rfl 1 (by decide) w1 (fun _ h9 => h9) rfl dX7_read_1 ?_
  obtain ⟨g1, hF⟩ := gd_n hF
  obtain ⟨g2, hF⟩ := gd_n hF
  have g2 := Decidable.not_not.mp g2
  refine ct_newi hx hb w2 ht0 hK hP hD hS hA (N' := mn.toNatClampNeg) g1 rfl (by omega) (Nat.le_of_ble_eq_true rfl) (Nat.le_trans (Nat.add_le_add_left g2 _) (Nat.le_of_ble_eq_true rfl)) dX7_read_4 (fun q3 H hP hD hS => ?_)
  refine W.widen (k := 1) (n := 7) (show 0 + 1 ≤ 1 from Nat.le_refl _) (show 0 + mn.toNatClampNeg ≤ 7 from Nat.add_le_add_left g2 _) ?_
  have hP : va_P (dC, dI) vwCl [(o, .inr (6, [.int mth, .int mn, .int mch, .ref oc, .ref oi, .int mcl, .ref ol, .int mgo, .int mmo, .ref ob])), (oc, .inl (cI, 14, .inl mcf)), (oi, .inl (cI, 3, .inl mif)), (ol, .inl (cI, 24, .inl mlf)), (ob, .inl (cI, mbn, .inl mbf)), (q3, .inl (cI, mn.toNatClampNeg, .inl (fun _ => 0)))] H := hP
  have hD : va_D A [(o, .inr (6, [.int mth, .int mn, .int mch, .ref oc, .ref oi, .int mcl, .ref ol, .int mgo, .int mmo, .ref ob])), (oc, .inl (cI, 14, .inl mcf)), (oi, .inl (cI, 3, .inl mif)), (ol, .inl (cI, 24, .inl mlf)), (ob, .inl (cI, mbn, .inl mbf)), (q3, .inl (cI, mn.toNatClampNeg, .inl (fun _ => 0)))] := hD
  refine lv_astore_n (lv' := [(2, .ref q3), (0, .ref o), (1, .int p0)]) hx hb dX7_read_6 rfl hl (by decide) rfl (fun ls hl => ?_)
  refine lv_iload_n hx hb dX7_read_7 rfl (lv_at hl 2 rfl) ?_
  refine lv_istore_n (lv' := [(3, .int p0), (2, .ref q3), (0, .ref o), (1, .int p0)]) hx hb dX7_read_8 rfl hl (by decide) rfl (fun ls hl => ?_)
  refine lv_iload_n hx hb dX7_read_9 rfl (lv_at hl 3 rfl) ?_
  refine lv_if_le (tgt := 17) hx hb dX7_read_10 (by decide) (fun c4 => ?_) (fun c4 => ?_)
  · have hF := (if_pos c4).symm.trans hF
    refine lv_iconst (v := (0 : Int32)) hx hb dX7_read_17 (by decide) ?_
    refine lv_istore (lv' := [(4, .int (0 : Int32)), (3, .int p0), (2, .ref q3), (0, .ref o), (1, .int p0)]) hx hb dX7_read_18 hl (by decide) rfl (fun ls hl => ?_)
    refine lv_bipush (v := (10 : Int32)) hx hb dX7_read_20 (by decide) ?_
    refine ct_newz hx hb w3 ht1 hK hP hD hS hA (N' := 10) (by decide) (by decide) (Nat.le_of_ble_eq_true rfl) (Nat.le_of_ble_eq_true rfl) (Nat.le_of_ble_eq_true rfl) dX7_read_22 (fun q5 H hP hD hS => ?_)
    have hP : va_P (dC, dI) vwCl [(o, .inr (6, [.int mth, .int mn, .int mch, .ref oc, .ref oi, .int mcl, .ref ol, .int mgo, .int mmo, .ref ob])), (oc, .inl (cI, 14, .inl mcf)), (oi, .inl (cI, 3, .inl mif)), (ol, .inl (cI, 24, .inl mlf)), (ob, .inl (cI, mbn, .inl mbf)), (q3, .inl (cI, mn.toNatClampNeg, .inl (fun _ => 0))), (q5, .inl (cZ, 10, .inl (fun _ => 0)))] H := hP
    have hD : va_D A [(o, .inr (6, [.int mth, .int mn, .int mch, .ref oc, .ref oi, .int mcl, .ref ol, .int mgo, .int mmo, .ref ob])), (oc, .inl (cI, 14, .inl mcf)), (oi, .inl (cI, 3, .inl mif)), (ol, .inl (cI, 24, .inl mlf)), (ob, .inl (cI, mbn, .inl mbf)), (q3, .inl (cI, mn.toNatClampNeg, .inl (fun _ => 0))), (q5, .inl (cZ, 10, .inl (fun _ => 0)))] := hD
    refine lv_astore (lv' := [(5, .ref q5), (4, .int (0 : Int32)), (3, .int p0), (2, .ref q3), (0, .ref o), (1, .int p0)]) hx hb dX7_read_24 hl (by decide) rfl (fun ls hl => ?_)
    refine lv_aload_n hx hb dX7_read_26 rfl (lv_at hl 4 rfl) ?_
    refine va_get (D := (dC, dI)) (ci := 6) (v := .int mn) (C := RX7) (T := TX7) (N := 10) hx hb hts uX7 hown hK hP 0 rfl rfl 1 (by decide) w1 (fun _ h9 => h9) rfl dX7_read_27 ?_
    refine lv_iconst (v := (1 : Int32)) hx hb dX7_read_30 (by decide) ?_
    refine lv_isub hx hb dX7_read_31 ?_
    refine lv_istore (lv' := [(6, .int (mn - (1 : Int32))), (5, .ref q5), (4, .int (0 : Int32)), (3, .int p0), (2, .ref q3), (0, .ref o), (1, .int p0)]) hx hb dX7_read_32 hl (by decide) rfl (fun ls hl => ?_)
    have X34 : ∀  (H : Heap) (locs : List Loc) (ls : Array Slot), fX7_read_X34 = some r → va_P (dC, dI) vwCl [(o, .inr (6, [.int mth, .int mn, .int mch, .ref oc, .ref oi, .int mcl, .ref ol, .int mgo, .int mmo, .ref ob])), (oc, .inl (cI, 14, .inl mcf)), (oi, .inl (cI, 3, .inl mif)), (ol, .inl (cI, 24, .inl mlf)), (ob, .inl (cI, mbn, .inl mbf)), (q3, .inl (cI, mn.toNatClampNeg, .inl (fun _ => 0))), (q5, .inl (cZ, 10, .inl (fun _ => 0)))] H → va_D A [(o, .inr (6, [.int mth, .int mn, .int mch, .ref oc, .ref oi, .int mcl, .ref ol, .int mgo, .int mmo, .ref ob])), (oc, .inl (cI, 14, .inl mcf)), (oi, .inl (cI, 3, .inl mif)), (ol, .inl (cI, 24, .inl mlf)), (ob, .inl (cI, mbn, .inl mbf)), (q3, .inl (cI, mn.toNatClampNeg, .inl (fun _ => 0))), (q5, .inl (cZ, 10, .inl (fun _ => 0)))] → va_S A s.heap H locs → lv_has ls 7 [(6, .int (mn - (1 : Int32))), (5, .ref q5), (4, .int (0 : Int32)), (3, .int p0), (2, .ref q3), (0, .ref o), (1, .int p0)] → W p l e rmX7_read s m ([.ref o, .int p0] : List Value).toArray below meth c H locs 2 17 (MQ below (ct_Q (dC, dI) tys (fun i : Nat => some (.ref i)) (fun i : Nat => [(o, .inr (6, [.int mth, .int mn, .int mch, .ref oc, .ref oi, .int mcl, .ref ol, .int mgo, .int mmo, .ref ob])), (oc, .inl (cI, 14, .inl mcf)), (oi, .inl (cI, 3, .inl mif)), (ol, .inl (cI, 24, .inl mlf)), (ob, .inl (cI, mbn, .inl mbf)), (i, .inl (cI, r.2, .inl r.1))]) A) ([.ref o, .int p0] : List Value).toArray s rmX7_read.cells rmX7_read.slots A) (F0 m 107 ls []) := by
      intro  H locs ls hF hP hD hS hl
      unfold fX7_read_X34 at hF
      refine lv_iload hx hb dX7_read_107 (lv_at hl 2 rfl) ?_
      refine lv_if_eq (tgt := 120) hx hb dX7_read_109 (by decide) (fun _ => ?_) (fun c9 => absurd (by decide) c9)
      refine lv_iconst (v := (0 : Int32)) hx hb dX7_read_120 (by decide) ?_
      refine ct_newi hx hb w2 ht0 hK hP hD hS hA (N' := 0) (by decide) (by decide) (Nat.le_of_ble_eq_true rfl) (Nat.le_of_ble_eq_true rfl) (Nat.le_of_ble_eq_true rfl) dX7_read_121 (fun q8 H hP hD hS => ?_)
      have hP : va_P (dC, dI) vwCl [(o, .inr (6, [.int mth, .int mn, .int mch, .ref oc, .ref oi, .int mcl, .ref ol, .int mgo, .int mmo, .ref ob])), (oc, .inl (cI, 14, .inl mcf)), (oi, .inl (cI, 3, .inl mif)), (ol, .inl (cI, 24, .inl mlf)), (ob, .inl (cI, mbn, .inl mbf)), (q3, .inl (cI, mn.toNatClampNeg, .inl (fun _ => 0))), (q5, .inl (cZ, 10, .inl (fun _ => 0))), (q8, .inl (cI, 0, .inl (fun _ => 0)))] H := hP
      have hD : va_D A [(o, .inr (6, [.int mth, .int mn, .int mch, .ref oc, .ref oi, .int mcl, .ref ol, .int mgo, .int mmo, .ref ob])), (oc, .inl (cI, 14, .inl mcf)), (oi, .inl (cI, 3, .inl mif)), (ol, .inl (cI, 24, .inl mlf)), (ob, .inl (cI, mbn, .inl mbf)), (q3, .inl (cI, mn.toNatClampNeg, .inl (fun _ => 0))), (q5, .inl (cZ, 10, .inl (fun _ => 0))), (q8, .inl (cI, 0, .inl (fun _ => 0)))] := hD
      obtain rfl := Option.some.inj hF
      exact ct_a hx hb hr hlocks hK hP hD hS q8 rfl [0, 1, 2, 3, 4, 7] (by decide) rfl (Nat.le_of_ble_eq_true rfl) (Nat.le_of_ble_eq_true rfl) dX7_read_123
    have L34 : ∀ (n34 : Nat)  (H : Heap) (locs : List Loc) (ls : Array Slot), fX7_read_L34 mn fX7_read_X34 n34  = some r → va_P (dC, dI) vwCl [(o, .inr (6, [.int mth, .int mn, .int mch, .ref oc, .ref oi, .int mcl, .ref ol, .int mgo, .int mmo, .ref ob])), (oc, .inl (cI, 14, .inl mcf)), (oi, .inl (cI, 3, .inl mif)), (ol, .inl (cI, 24, .inl mlf)), (ob, .inl (cI, mbn, .inl mbf)), (q3, .inl (cI, mn.toNatClampNeg, .inl (fun _ => 0))), (q5, .inl (cZ, 10, .inl (fun _ => 0)))] H → va_D A [(o, .inr (6, [.int mth, .int mn, .int mch, .ref oc, .ref oi, .int mcl, .ref ol, .int mgo, .int mmo, .ref ob])), (oc, .inl (cI, 14, .inl mcf)), (oi, .inl (cI, 3, .inl mif)), (ol, .inl (cI, 24, .inl mlf)), (ob, .inl (cI, mbn, .inl mbf)), (q3, .inl (cI, mn.toNatClampNeg, .inl (fun _ => 0))), (q5, .inl (cZ, 10, .inl (fun _ => 0)))] → va_S A s.heap H locs → lv_has ls 7 [(6, .int (mn - (1 : Int32))), (5, .ref q5), (4, .int (0 : Int32)), (3, .int p0), (2, .ref q3), (0, .ref o), (1, .int p0)] → W p l e rmX7_read s m ([.ref o, .int p0] : List Value).toArray below meth c H locs 2 17 (MQ below (ct_Q (dC, dI) tys (fun i : Nat => some (.ref i)) (fun i : Nat => [(o, .inr (6, [.int mth, .int mn, .int mch, .ref oc, .ref oi, .int mcl, .ref ol, .int mgo, .int mmo, .ref ob])), (oc, .inl (cI, 14, .inl mcf)), (oi, .inl (cI, 3, .inl mif)), (ol, .inl (cI, 24, .inl mlf)), (ob, .inl (cI, mbn, .inl mbf)), (i, .inl (cI, r.2, .inl r.1))]) A) ([.ref o, .int p0] : List Value).toArray s rmX7_read.cells rmX7_read.slots A) (F0 m 34 ls []) := by
      intro n34
      induction n34 with
      | zero => intro  H locs ls hF; rw [fX7_read_L34] at hF; cases hF
      | succ n34 ih34 =>
        intro  H locs ls hF hP hD hS hl
        rw [fX7_read_L34] at hF
        refine lv_iload hx hb dX7_read_34 (lv_at hl 0 rfl) ?_
        refine lv_if_lt (tgt := 107) hx hb dX7_read_36 (by decide) (fun c9 => ?_) (fun c9 => ?_)
        · have hF := (if_pos c9).symm.trans hF
          exact X34  _ _ _ hF (hP.sub [0, 1, 2, 3, 4, 5, 6] rfl) (hD.sub [0, 1, 2, 3, 4, 5, 6] (by decide) rfl) hS (lv_sub hl [0, 1, 2, 3, 4, 5, 6] rfl)
        · have hF := (if_neg c9).symm.trans hF
          refine lv_iload hx hb dX7_read_39 (lv_at hl 2 rfl) ?_
          refine lv_if_eq (tgt := 107) hx hb dX7_read_41 (by decide) (fun _ => ?_) (fun c9 => absurd (by decide) c9)
          exact X34  _ _ _ hF (hP.sub [0, 1, 2, 3, 4, 5, 6] rfl) (hD.sub [0, 1, 2, 3, 4, 5, 6] (by decide) rfl) hS (lv_sub hl [0, 1, 2, 3, 4, 5, 6] rfl)
    exact L34 1000  _ _ _ hF (hP.sub [0, 1, 2, 3, 4, 5, 6] rfl) (hD.sub [0, 1, 2, 3, 4, 5, 6] (by decide) rfl) hS (lv_sub hl [0, 1, 2, 3, 4, 5, 6] rfl)
  · have hF := (if_neg c4).symm.trans hF
    refine lv_iconst (v := (1 : Int32)) hx hb dX7_read_13 (by decide) ?_
    refine lv_goto (tgt := 18) hx hb dX7_read_14 (by decide) ?_
    refine lv_istore (lv' := [(4, .int (1 : Int32)), (3, .int p0), (2, .ref q3), (0, .ref o), (1, .int p0)]) hx hb dX7_read_18 hl (by decide) rfl (fun ls hl => ?_)
    refine lv_bipush (v := (10 : Int32)) hx hb dX7_read_20 (by decide) ?_
    refine ct_newz hx hb w3 ht1 hK hP hD hS hA (N' := 10) (by decide) (by decide) (Nat.le_of_ble_eq_true rfl) (Nat.le_of_ble_eq_true rfl) (Nat.le_of_ble_eq_true rfl) dX7_read_22 (fun q10 H hP hD hS => ?_)
    have hP : va_P (dC, dI) vwCl [(o, .inr (6, [.int mth, .int mn, .int mch, .ref oc, .ref oi, .int mcl, .ref ol, .int mgo, .int mmo, .ref ob])), (oc, .inl (cI, 14, .inl mcf)), (oi, .inl (cI, 3, .inl mif)), (ol, .inl (cI, 24, .inl mlf)), (ob, .inl (cI, mbn, .inl mbf)), (q3, .inl (cI, mn.toNatClampNeg, .inl (fun _ => 0))), (q10, .inl (cZ, 10, .inl (fun _ => 0)))] H := hP
    have hD : va_D A [(o, .inr (6, [.int mth, .int mn, .int mch, .ref oc, .ref oi, .int mcl, .ref ol, .int mgo, .int mmo, .ref ob])), (oc, .inl (cI, 14, .inl mcf)), (oi, .inl (cI, 3, .inl mif)), (ol, .inl (cI, 24, .inl mlf)), (ob, .inl (cI, mbn, .inl mbf)), (q3, .inl (cI, mn.toNatClampNeg, .inl (fun _ => 0))), (q10, .inl (cZ, 10, .inl (fun _ => 0)))] := hD
    refine lv_astore (lv' := [(5, .ref q10), (4, .int (1 : Int32)), (3, .int p0), (2, .ref q3), (0, .ref o), (1, .int p0)]) hx hb dX7_read_24 hl (by decide) rfl (fun ls hl => ?_)
    refine lv_aload_n hx hb dX7_read_26 rfl (lv_at hl 4 rfl) ?_
    refine va_get (D := (dC, dI)) (ci := 6) (v := .int mn) (C := RX7) (T := TX7) (N := 10) hx hb hts uX7 hown hK hP 0 rfl rfl 1 (by decide) w1 (fun _ h9 => h9) rfl dX7_read_27 ?_
    refine lv_iconst (v := (1 : Int32)) hx hb dX7_read_30 (by decide) ?_
    refine lv_isub hx hb dX7_read_31 ?_
    refine lv_istore (lv' := [(6, .int (mn - (1 : Int32))), (5, .ref q10), (4, .int (1 : Int32)), (3, .int p0), (2, .ref q3), (0, .ref o), (1, .int p0)]) hx hb dX7_read_32 hl (by decide) rfl (fun ls hl => ?_)
    have X34 : ∀ (x6_34 : Int32) (x4_34 : Int32) (x3_34 : Int32) (f5_34 : (Nat → Int32)) (f6_34 : (Nat → Int32)) (H : Heap) (locs : List Loc) (ls : Array Slot), fX7_read_X34b mn x6_34 x4_34 x3_34 f5_34 f6_34 = some r → va_P (dC, dI) vwCl [(o, .inr (6, [.int mth, .int mn, .int mch, .ref oc, .ref oi, .int mcl, .ref ol, .int mgo, .int mmo, .ref ob])), (oc, .inl (cI, 14, .inl mcf)), (oi, .inl (cI, 3, .inl mif)), (ol, .inl (cI, 24, .inl mlf)), (ob, .inl (cI, mbn, .inl mbf)), (q3, .inl (cI, mn.toNatClampNeg, .inl f5_34)), (q10, .inl (cZ, 10, .inl f6_34))] H → va_D A [(o, .inr (6, [.int mth, .int mn, .int mch, .ref oc, .ref oi, .int mcl, .ref ol, .int mgo, .int mmo, .ref ob])), (oc, .inl (cI, 14, .inl mcf)), (oi, .inl (cI, 3, .inl mif)), (ol, .inl (cI, 24, .inl mlf)), (ob, .inl (cI, mbn, .inl mbf)), (q3, .inl (cI, mn.toNatClampNeg, .inl f5_34)), (q10, .inl (cZ, 10, .inl f6_34))] → va_S A s.heap H locs → lv_has ls 7 [(6, .int x6_34), (5, .ref q10), (4, .int x4_34), (3, .int x3_34), (2, .ref q3), (0, .ref o), (1, .int p0)] → W p l e rmX7_read s m ([.ref o, .int p0] : List Value).toArray below meth c H locs 2 17 (MQ below (ct_Q (dC, dI) tys (fun i : Nat => some (.ref i)) (fun i : Nat => [(o, .inr (6, [.int mth, .int mn, .int mch, .ref oc, .ref oi, .int mcl, .ref ol, .int mgo, .int mmo, .ref ob])), (oc, .inl (cI, 14, .inl mcf)), (oi, .inl (cI, 3, .inl mif)), (ol, .inl (cI, 24, .inl mlf)), (ob, .inl (cI, mbn, .inl mbf)), (i, .inl (cI, r.2, .inl r.1))]) A) ([.ref o, .int p0] : List Value).toArray s rmX7_read.cells rmX7_read.slots A) (F0 m 107 ls []) := by
      intro x6_34 x4_34 x3_34 f5_34 f6_34 H locs ls hF hP hD hS hl
      unfold fX7_read_X34b at hF
      refine lv_iload hx hb dX7_read_107 (lv_at hl 2 rfl) ?_
      refine lv_if_eq (tgt := 120) hx hb dX7_read_109 (by decide) (fun c11 => ?_) (fun c11 => ?_)
      · have hF := (if_pos c11).symm.trans hF
        refine lv_iconst (v := (0 : Int32)) hx hb dX7_read_120 (by decide) ?_
        refine ct_newi hx hb w2 ht0 hK hP hD hS hA (N' := 0) (by decide) (by decide) (Nat.le_of_ble_eq_true rfl) (Nat.le_of_ble_eq_true rfl) (Nat.le_of_ble_eq_true rfl) dX7_read_121 (fun q14 H hP hD hS => ?_)
        have hP : va_P (dC, dI) vwCl [(o, .inr (6, [.int mth, .int mn, .int mch, .ref oc, .ref oi, .int mcl, .ref ol, .int mgo, .int mmo, .ref ob])), (oc, .inl (cI, 14, .inl mcf)), (oi, .inl (cI, 3, .inl mif)), (ol, .inl (cI, 24, .inl mlf)), (ob, .inl (cI, mbn, .inl mbf)), (q3, .inl (cI, mn.toNatClampNeg, .inl f5_34)), (q10, .inl (cZ, 10, .inl f6_34)), (q14, .inl (cI, 0, .inl (fun _ => 0)))] H := hP
        have hD : va_D A [(o, .inr (6, [.int mth, .int mn, .int mch, .ref oc, .ref oi, .int mcl, .ref ol, .int mgo, .int mmo, .ref ob])), (oc, .inl (cI, 14, .inl mcf)), (oi, .inl (cI, 3, .inl mif)), (ol, .inl (cI, 24, .inl mlf)), (ob, .inl (cI, mbn, .inl mbf)), (q3, .inl (cI, mn.toNatClampNeg, .inl f5_34)), (q10, .inl (cZ, 10, .inl f6_34)), (q14, .inl (cI, 0, .inl (fun _ => 0)))] := hD
        obtain rfl := Option.some.inj hF
        exact ct_a hx hb hr hlocks hK hP hD hS q14 rfl [0, 1, 2, 3, 4, 7] (by decide) rfl (Nat.le_of_ble_eq_true rfl) (Nat.le_of_ble_eq_true rfl) dX7_read_123
      · have hF := (if_neg c11).symm.trans hF
        refine lv_iload_n hx hb dX7_read_112 rfl (lv_at hl 3 rfl) ?_
        refine lv_if_ne (tgt := 120) hx hb dX7_read_113 (by decide) (fun c15 => ?_) (fun c15 => ?_)
        · have hF := (if_neg c15).symm.trans hF
          refine lv_iconst (v := (0 : Int32)) hx hb dX7_read_120 (by decide) ?_
          refine ct_newi hx hb w2 ht0 hK hP hD hS hA (N' := 0) (by decide) (by decide) (Nat.le_of_ble_eq_true rfl) (Nat.le_of_ble_eq_true rfl) (Nat.le_of_ble_eq_true rfl) dX7_read_121 (fun q18 H hP hD hS => ?_)
          have hP : va_P (dC, dI) vwCl [(o, .inr (6, [.int mth, .int mn, .int mch, .ref oc, .ref oi, .int mcl, .ref ol, .int mgo, .int mmo, .ref ob])), (oc, .inl (cI, 14, .inl mcf)), (oi, .inl (cI, 3, .inl mif)), (ol, .inl (cI, 24, .inl mlf)), (ob, .inl (cI, mbn, .inl mbf)), (q3, .inl (cI, mn.toNatClampNeg, .inl f5_34)), (q10, .inl (cZ, 10, .inl f6_34)), (q18, .inl (cI, 0, .inl (fun _ => 0)))] H := hP
          have hD : va_D A [(o, .inr (6, [.int mth, .int mn, .int mch, .ref oc, .ref oi, .int mcl, .ref ol, .int mgo, .int mmo, .ref ob])), (oc, .inl (cI, 14, .inl mcf)), (oi, .inl (cI, 3, .inl mif)), (ol, .inl (cI, 24, .inl mlf)), (ob, .inl (cI, mbn, .inl mbf)), (q3, .inl (cI, mn.toNatClampNeg, .inl f5_34)), (q10, .inl (cZ, 10, .inl f6_34)), (q18, .inl (cI, 0, .inl (fun _ => 0)))] := hD
          obtain rfl := Option.some.inj hF
          exact ct_a hx hb hr hlocks hK hP hD hS q18 rfl [0, 1, 2, 3, 4, 7] (by decide) rfl (Nat.le_of_ble_eq_true rfl) (Nat.le_of_ble_eq_true rfl) dX7_read_123
        · have hF := (if_pos c15).symm.trans hF
          refine lv_aload_n hx hb dX7_read_116 rfl (lv_at hl 4 rfl) ?_
          refine lv_goto (tgt := 123) hx hb dX7_read_117 (by decide) ?_
          obtain rfl := Option.some.inj hF
          exact ct_a hx hb hr hlocks hK hP hD hS q3 rfl [0, 1, 2, 3, 4, 5] (by decide) rfl (Nat.le_of_ble_eq_true rfl) (Nat.le_of_ble_eq_true rfl) dX7_read_123
    have L34 : ∀ (n34 : Nat) (x6_34 : Int32) (x4_34 : Int32) (x3_34 : Int32) (f5_34 : (Nat → Int32)) (f6_34 : (Nat → Int32)) (H : Heap) (locs : List Loc) (ls : Array Slot), fX7_read_L34b mn (fX7_read_X34b mn) n34 x6_34 x4_34 x3_34 f5_34 f6_34 = some r → va_P (dC, dI) vwCl [(o, .inr (6, [.int mth, .int mn, .int mch, .ref oc, .ref oi, .int mcl, .ref ol, .int mgo, .int mmo, .ref ob])), (oc, .inl (cI, 14, .inl mcf)), (oi, .inl (cI, 3, .inl mif)), (ol, .inl (cI, 24, .inl mlf)), (ob, .inl (cI, mbn, .inl mbf)), (q3, .inl (cI, mn.toNatClampNeg, .inl f5_34)), (q10, .inl (cZ, 10, .inl f6_34))] H → va_D A [(o, .inr (6, [.int mth, .int mn, .int mch, .ref oc, .ref oi, .int mcl, .ref ol, .int mgo, .int mmo, .ref ob])), (oc, .inl (cI, 14, .inl mcf)), (oi, .inl (cI, 3, .inl mif)), (ol, .inl (cI, 24, .inl mlf)), (ob, .inl (cI, mbn, .inl mbf)), (q3, .inl (cI, mn.toNatClampNeg, .inl f5_34)), (q10, .inl (cZ, 10, .inl f6_34))] → va_S A s.heap H locs → lv_has ls 7 [(6, .int x6_34), (5, .ref q10), (4, .int x4_34), (3, .int x3_34), (2, .ref q3), (0, .ref o), (1, .int p0)] → W p l e rmX7_read s m ([.ref o, .int p0] : List Value).toArray below meth c H locs 2 17 (MQ below (ct_Q (dC, dI) tys (fun i : Nat => some (.ref i)) (fun i : Nat => [(o, .inr (6, [.int mth, .int mn, .int mch, .ref oc, .ref oi, .int mcl, .ref ol, .int mgo, .int mmo, .ref ob])), (oc, .inl (cI, 14, .inl mcf)), (oi, .inl (cI, 3, .inl mif)), (ol, .inl (cI, 24, .inl mlf)), (ob, .inl (cI, mbn, .inl mbf)), (i, .inl (cI, r.2, .inl r.1))]) A) ([.ref o, .int p0] : List Value).toArray s rmX7_read.cells rmX7_read.slots A) (F0 m 34 ls []) := by
      intro n34
      induction n34 with
      | zero => intro x6_34 x4_34 x3_34 f5_34 f6_34 H locs ls hF; rw [fX7_read_L34b] at hF; cases hF
      | succ n34 ih34 =>
        intro x6_34 x4_34 x3_34 f5_34 f6_34 H locs ls hF hP hD hS hl
        rw [fX7_read_L34b] at hF
        refine lv_iload hx hb dX7_read_34 (lv_at hl 0 rfl) ?_
        refine lv_if_lt (tgt := 107) hx hb dX7_read_36 (by decide) (fun c19 => ?_) (fun c19 => ?_)
        · have hF := (if_pos c19).symm.trans hF
          exact X34 x6_34 x4_34 x3_34 f5_34 f6_34 _ _ _ hF (hP.sub [0, 1, 2, 3, 4, 5, 6] rfl) (hD.sub [0, 1, 2, 3, 4, 5, 6] (by decide) rfl) hS (lv_sub hl [0, 1, 2, 3, 4, 5, 6] rfl)
        · have hF := (if_neg c19).symm.trans hF
          refine lv_iload hx hb dX7_read_39 (lv_at hl 2 rfl) ?_
          refine lv_if_eq (tgt := 107) hx hb dX7_read_41 (by decide) (fun c20 => ?_) (fun c20 => ?_)
          · have hF := (if_pos c20).symm.trans hF
            exact X34 x6_34 x4_34 x3_34 f5_34 f6_34 _ _ _ hF (hP.sub [0, 1, 2, 3, 4, 5, 6] rfl) (hD.sub [0, 1, 2, 3, 4, 5, 6] (by decide) rfl) hS (lv_sub hl [0, 1, 2, 3, 4, 5, 6] rfl)
          · have hF := (if_neg c20).symm.trans hF
            refine lv_aload_n hx hb dX7_read_44 rfl (lv_at hl 4 rfl) ?_
            refine lv_iload hx hb dX7_read_45 (lv_at hl 0 rfl) ?_
            refine lv_iload_n hx hb dX7_read_47 rfl (lv_at hl 3 rfl) ?_
            refine lv_bipush (v := (10 : Int32)) hx hb dX7_read_48 (by decide) ?_
            refine lv_irem hx hb dX7_read_50 (by decide) ?_
            refine lv_iconst (v := (1 : Int32)) hx hb dX7_read_51 (by decide) ?_
            refine lv_isub hx hb dX7_read_52 ?_
            obtain ⟨g21, hF⟩ := gd_n hF
            refine va_iast hx hb hK hP hD hS 5 0 rfl ht0 g21 dX7_read_53 (fun H locs hP hD hS => ?_)
            have hP : va_P (dC, dI) vwCl [(o, .inr (6, [.int mth, .int mn, .int mch, .ref oc, .ref oi, .int mcl, .ref ol, .int mgo, .int mmo, .ref ob])), (oc, .inl (cI, 14, .inl mcf)), (oi, .inl (cI, 3, .inl mif)), (ol, .inl (cI, 24, .inl mlf)), (ob, .inl (cI, mbn, .inl mbf)), (q3, .inl (cI, mn.toNatClampNeg, .inl (upd f5_34 x6_34.toNatClampNeg ((x3_34 - x3_34 / (10 : Int32) * (10 : Int32)) - (1 : Int32))))), (q10, .inl (cZ, 10, .inl f6_34))] H := hP
            have hD : va_D A [(o, .inr (6, [.int mth, .int mn, .int mch, .ref oc, .ref oi, .int mcl, .ref ol, .int mgo, .int mmo, .ref ob])), (oc, .inl (cI, 14, .inl mcf)), (oi, .inl (cI, 3, .inl mif)), (ol, .inl (cI, 24, .inl mlf)), (ob, .inl (cI, mbn, .inl mbf)), (q3, .inl (cI, mn.toNatClampNeg, .inl (upd f5_34 x6_34.toNatClampNeg ((x3_34 - x3_34 / (10 : Int32) * (10 : Int32)) - (1 : Int32))))), (q10, .inl (cZ, 10, .inl f6_34))] := hD
            refine lv_aload_n hx hb dX7_read_54 rfl (lv_at hl 4 rfl) ?_
            refine lv_iload hx hb dX7_read_55 (lv_at hl 0 rfl) ?_
            obtain ⟨g22, hF⟩ := gd_n hF
            refine va_iald hx hb hK hP 5 0 rfl ht0 g22 dX7_read_57 ?_
            refine lv_iconst (v := (0 : Int32)) hx hb dX7_read_58 (by decide) ?_
            refine lv_aload_n hx hb dX7_read_59 rfl (lv_at hl 5 rfl) ?_
            refine va_get (D := (dC, dI)) (ci := 6) (v := .int mn) (C := RX7) (T := TX7) (N := 10) hx hb hts uX7 hown hK hP 0 rfl rfl 1 (by decide) w1 (fun _ h9 => h9) rfl dX7_read_60 ?_
            refine lv_iconst (v := (1 : Int32)) hx hb dX7_read_63 (by decide) ?_
            refine lv_isub hx hb dX7_read_64 ?_
            obtain ⟨r23, hC24, hF⟩ := gd_b hF
            refine ct_callS (As := [.int ((upd f5_34 x6_34.toNatClampNeg ((x3_34 - x3_34 / (10 : Int32) * (10 : Int32)) - (1 : Int32))) x6_34.toNatClampNeg), .int (0 : Int32), .int (mn - (1 : Int32))]) (rest := []) ⟨hx, hb, hml, hown, hts⟩ (kX7_isIn l dC dI tys cI ht0 ((upd f5_34 x6_34.toNatClampNeg ((x3_34 - x3_34 / (10 : Int32) * (10 : Int32)) - (1 : Int32))) x6_34.toNatClampNeg) (0 : Int32) (mn - (1 : Int32)) r23 hC24) (va_cwS 3 hts gX7_read_X7_isIn rfl rfl rfl (by decide +kernel) ⟨Nat.le_of_ble_eq_true rfl, Nat.le_of_ble_eq_true rfl⟩) hE hK hP hD hS hA [] [0, 1, 2, 3, 4, 5, 6] (by decide) rfl (by decide) (wr := [(o, .inr (6, [.int mth, .int mn, .int mch, .ref oc, .ref oi, .int mcl, .ref ol, .int mgo, .int mmo, .ref ob])), (oc, .inl (cI, 14, .inl mcf)), (oi, .inl (cI, 3, .inl mif)), (ol, .inl (cI, 24, .inl mlf)), (ob, .inl (cI, mbn, .inl mbf)), (q3, .inl (cI, mn.toNatClampNeg, .inl (upd f5_34 x6_34.toNatClampNeg ((x3_34 - x3_34 / (10 : Int32) * (10 : Int32)) - (1 : Int32))))), (q10, .inl (cZ, 10, .inl f6_34))]) rfl (by decide) hl.1 rfl rfl (Nat.le_of_ble_eq_true rfl) dX7_read_65 ⟨(Nat.le_of_ble_eq_true rfl), (Nat.le_of_ble_eq_true rfl)⟩ (fun i25 H locs hP hD hS => ?_)
            have hP : va_P (dC, dI) vwCl [(o, .inr (6, [.int mth, .int mn, .int mch, .ref oc, .ref oi, .int mcl, .ref ol, .int mgo, .int mmo, .ref ob])), (oc, .inl (cI, 14, .inl mcf)), (oi, .inl (cI, 3, .inl mif)), (ol, .inl (cI, 24, .inl mlf)), (ob, .inl (cI, mbn, .inl mbf)), (q3, .inl (cI, mn.toNatClampNeg, .inl (upd f5_34 x6_34.toNatClampNeg ((x3_34 - x3_34 / (10 : Int32) * (10 : Int32)) - (1 : Int32))))), (q10, .inl (cZ, 10, .inl f6_34))] H := hP
            have hD : va_D A [(o, .inr (6, [.int mth, .int mn, .int mch, .ref oc, .ref oi, .int mcl, .ref ol, .int mgo, .int mmo, .ref ob])), (oc, .inl (cI, 14, .inl mcf)), (oi, .inl (cI, 3, .inl mif)), (ol, .inl (cI, 24, .inl mlf)), (ob, .inl (cI, mbn, .inl mbf)), (q3, .inl (cI, mn.toNatClampNeg, .inl (upd f5_34 x6_34.toNatClampNeg ((x3_34 - x3_34 / (10 : Int32) * (10 : Int32)) - (1 : Int32))))), (q10, .inl (cZ, 10, .inl f6_34))] := hD
            refine lv_if_eq (tgt := 85) hx hb dX7_read_68 (by decide) (fun c26 => ?_) (fun c26 => ?_)
            · have hF := (if_pos c26).symm.trans hF
              refine lv_iconst (v := (0 : Int32)) hx hb dX7_read_85 (by decide) ?_
              refine lv_istore (lv' := [(4, .int (0 : Int32)), (6, .int x6_34), (5, .ref q10), (3, .int x3_34), (2, .ref q3), (0, .ref o), (1, .int p0)]) hx hb dX7_read_86 hl (by decide) rfl (fun ls hl => ?_)
              refine lv_aload hx hb dX7_read_88 (lv_at hl 2 rfl) ?_
              refine lv_iload_n hx hb dX7_read_90 rfl (lv_at hl 3 rfl) ?_
              refine lv_bipush (v := (10 : Int32)) hx hb dX7_read_91 (by decide) ?_
              refine lv_irem hx hb dX7_read_93 (by decide) ?_
              refine lv_iconst (v := (1 : Int32)) hx hb dX7_read_94 (by decide) ?_
              obtain ⟨g27, hF⟩ := gd_n hF
              refine va_zast hx hb hK hP hD hS 6 1 rfl ht1 g27 dX7_read_95 (fun H locs hP hD hS => ?_)
              have hP : va_P (dC, dI) vwCl [(o, .inr (6, [.int mth, .int mn, .int mch, .ref oc, .ref oi, .int mcl, .ref ol, .int mgo, .int mmo, .ref ob])), (oc, .inl (cI, 14, .inl mcf)), (oi, .inl (cI, 3, .inl mif)), (ol, .inl (cI, 24, .inl mlf)), (ob, .inl (cI, mbn, .inl mbf)), (q3, .inl (cI, mn.toNatClampNeg, .inl (upd f5_34 x6_34.toNatClampNeg ((x3_34 - x3_34 / (10 : Int32) * (10 : Int32)) - (1 : Int32))))), (q10, .inl (cZ, 10, .inl (upd f6_34 (x3_34 - x3_34 / (10 : Int32) * (10 : Int32)).toNatClampNeg (1 : Int32))))] H := hP
              have hD : va_D A [(o, .inr (6, [.int mth, .int mn, .int mch, .ref oc, .ref oi, .int mcl, .ref ol, .int mgo, .int mmo, .ref ob])), (oc, .inl (cI, 14, .inl mcf)), (oi, .inl (cI, 3, .inl mif)), (ol, .inl (cI, 24, .inl mlf)), (ob, .inl (cI, mbn, .inl mbf)), (q3, .inl (cI, mn.toNatClampNeg, .inl (upd f5_34 x6_34.toNatClampNeg ((x3_34 - x3_34 / (10 : Int32) * (10 : Int32)) - (1 : Int32))))), (q10, .inl (cZ, 10, .inl (upd f6_34 (x3_34 - x3_34 / (10 : Int32) * (10 : Int32)).toNatClampNeg (1 : Int32))))] := hD
              refine lv_iload_n hx hb dX7_read_96 rfl (lv_at hl 3 rfl) ?_
              refine lv_bipush (v := (10 : Int32)) hx hb dX7_read_97 (by decide) ?_
              refine lv_idiv hx hb dX7_read_99 (by decide) ?_
              refine lv_istore_n (lv' := [(3, .int (x3_34 / (10 : Int32))), (4, .int (0 : Int32)), (6, .int x6_34), (5, .ref q10), (2, .ref q3), (0, .ref o), (1, .int p0)]) hx hb dX7_read_100 rfl hl (by decide) rfl (fun ls hl => ?_)
              refine lv_iinc (v := x6_34 + (-1 : Int32)) (lv' := [(6, .int (x6_34 + (-1 : Int32))), (3, .int (x3_34 / (10 : Int32))), (4, .int (0 : Int32)), (5, .ref q10), (2, .ref q3), (0, .ref o), (1, .int p0)]) hx hb dX7_read_101 hl (k := 2) rfl rfl (by decide) rfl (fun ls hl => ?_)
              refine lv_goto (tgt := 34) hx hb dX7_read_104 (by decide) ?_
              exact ih34 (x6_34 + (-1 : Int32)) (0 : Int32) (x3_34 / (10 : Int32)) (upd f5_34 x6_34.toNatClampNeg ((x3_34 - x3_34 / (10 : Int32) * (10 : Int32)) - (1 : Int32))) (upd f6_34 (x3_34 - x3_34 / (10 : Int32) * (10 : Int32)).toNatClampNeg (1 : Int32)) _ _ _ hF (hP.sub [0, 1, 2, 3, 4, 5, 6] rfl) (hD.sub [0, 1, 2, 3, 4, 5, 6] (by decide) rfl) hS (lv_sub hl [0, 3, 2, 1, 4, 5, 6] rfl)
            · have hF := (if_neg c26).symm.trans hF
              refine lv_aload hx hb dX7_read_71 (lv_at hl 1 rfl) ?_
              refine lv_iload_n hx hb dX7_read_73 rfl (lv_at hl 3 rfl) ?_
              refine lv_bipush (v := (10 : Int32)) hx hb dX7_read_74 (by decide) ?_
              refine lv_irem hx hb dX7_read_76 (by decide) ?_
              obtain ⟨g28, hF⟩ := gd_n hF
              refine va_zald hx hb hK hP 6 1 rfl ht1 g28 dX7_read_77 ?_
              refine lv_if_ne (tgt := 85) hx hb dX7_read_78 (by decide) (fun c29 => ?_) (fun c29 => ?_)
              · have hF := (if_neg c29).symm.trans hF
                refine lv_iconst (v := (0 : Int32)) hx hb dX7_read_85 (by decide) ?_
                refine lv_istore (lv' := [(4, .int (0 : Int32)), (6, .int x6_34), (5, .ref q10), (3, .int x3_34), (2, .ref q3), (0, .ref o), (1, .int p0)]) hx hb dX7_read_86 hl (by decide) rfl (fun ls hl => ?_)
                refine lv_aload hx hb dX7_read_88 (lv_at hl 2 rfl) ?_
                refine lv_iload_n hx hb dX7_read_90 rfl (lv_at hl 3 rfl) ?_
                refine lv_bipush (v := (10 : Int32)) hx hb dX7_read_91 (by decide) ?_
                refine lv_irem hx hb dX7_read_93 (by decide) ?_
                refine lv_iconst (v := (1 : Int32)) hx hb dX7_read_94 (by decide) ?_
                obtain ⟨g30, hF⟩ := gd_n hF
                refine va_zast hx hb hK hP hD hS 6 1 rfl ht1 g30 dX7_read_95 (fun H locs hP hD hS => ?_)
                have hP : va_P (dC, dI) vwCl [(o, .inr (6, [.int mth, .int mn, .int mch, .ref oc, .ref oi, .int mcl, .ref ol, .int mgo, .int mmo, .ref ob])), (oc, .inl (cI, 14, .inl mcf)), (oi, .inl (cI, 3, .inl mif)), (ol, .inl (cI, 24, .inl mlf)), (ob, .inl (cI, mbn, .inl mbf)), (q3, .inl (cI, mn.toNatClampNeg, .inl (upd f5_34 x6_34.toNatClampNeg ((x3_34 - x3_34 / (10 : Int32) * (10 : Int32)) - (1 : Int32))))), (q10, .inl (cZ, 10, .inl (upd f6_34 (x3_34 - x3_34 / (10 : Int32) * (10 : Int32)).toNatClampNeg (1 : Int32))))] H := hP
                have hD : va_D A [(o, .inr (6, [.int mth, .int mn, .int mch, .ref oc, .ref oi, .int mcl, .ref ol, .int mgo, .int mmo, .ref ob])), (oc, .inl (cI, 14, .inl mcf)), (oi, .inl (cI, 3, .inl mif)), (ol, .inl (cI, 24, .inl mlf)), (ob, .inl (cI, mbn, .inl mbf)), (q3, .inl (cI, mn.toNatClampNeg, .inl (upd f5_34 x6_34.toNatClampNeg ((x3_34 - x3_34 / (10 : Int32) * (10 : Int32)) - (1 : Int32))))), (q10, .inl (cZ, 10, .inl (upd f6_34 (x3_34 - x3_34 / (10 : Int32) * (10 : Int32)).toNatClampNeg (1 : Int32))))] := hD
                refine lv_iload_n hx hb dX7_read_96 rfl (lv_at hl 3 rfl) ?_
                refine lv_bipush (v := (10 : Int32)) hx hb dX7_read_97 (by decide) ?_
                refine lv_idiv hx hb dX7_read_99 (by decide) ?_
                refine lv_istore_n (lv' := [(3, .int (x3_34 / (10 : Int32))), (4, .int (0 : Int32)), (6, .int x6_34), (5, .ref q10), (2, .ref q3), (0, .ref o), (1, .int p0)]) hx hb dX7_read_100 rfl hl (by decide) rfl (fun ls hl => ?_)
                refine lv_iinc (v := x6_34 + (-1 : Int32)) (lv' := [(6, .int (x6_34 + (-1 : Int32))), (3, .int (x3_34 / (10 : Int32))), (4, .int (0 : Int32)), (5, .ref q10), (2, .ref q3), (0, .ref o), (1, .int p0)]) hx hb dX7_read_101 hl (k := 2) rfl rfl (by decide) rfl (fun ls hl => ?_)
                refine lv_goto (tgt := 34) hx hb dX7_read_104 (by decide) ?_
                exact ih34 (x6_34 + (-1 : Int32)) (0 : Int32) (x3_34 / (10 : Int32)) (upd f5_34 x6_34.toNatClampNeg ((x3_34 - x3_34 / (10 : Int32) * (10 : Int32)) - (1 : Int32))) (upd f6_34 (x3_34 - x3_34 / (10 : Int32) * (10 : Int32)).toNatClampNeg (1 : Int32)) _ _ _ hF (hP.sub [0, 1, 2, 3, 4, 5, 6] rfl) (hD.sub [0, 1, 2, 3, 4, 5, 6] (by decide) rfl) hS (lv_sub hl [0, 3, 2, 1, 4, 5, 6] rfl)
              · have hF := (if_pos c29).symm.trans hF
                refine lv_iconst (v := (1 : Int32)) hx hb dX7_read_81 (by decide) ?_
                refine lv_goto (tgt := 86) hx hb dX7_read_82 (by decide) ?_
                refine lv_istore (lv' := [(4, .int (1 : Int32)), (6, .int x6_34), (5, .ref q10), (3, .int x3_34), (2, .ref q3), (0, .ref o), (1, .int p0)]) hx hb dX7_read_86 hl (by decide) rfl (fun ls hl => ?_)
                refine lv_aload hx hb dX7_read_88 (lv_at hl 2 rfl) ?_
                refine lv_iload_n hx hb dX7_read_90 rfl (lv_at hl 3 rfl) ?_
                refine lv_bipush (v := (10 : Int32)) hx hb dX7_read_91 (by decide) ?_
                refine lv_irem hx hb dX7_read_93 (by decide) ?_
                refine lv_iconst (v := (1 : Int32)) hx hb dX7_read_94 (by decide) ?_
                obtain ⟨g31, hF⟩ := gd_n hF
                refine va_zast hx hb hK hP hD hS 6 1 rfl ht1 g31 dX7_read_95 (fun H locs hP hD hS => ?_)
                have hP : va_P (dC, dI) vwCl [(o, .inr (6, [.int mth, .int mn, .int mch, .ref oc, .ref oi, .int mcl, .ref ol, .int mgo, .int mmo, .ref ob])), (oc, .inl (cI, 14, .inl mcf)), (oi, .inl (cI, 3, .inl mif)), (ol, .inl (cI, 24, .inl mlf)), (ob, .inl (cI, mbn, .inl mbf)), (q3, .inl (cI, mn.toNatClampNeg, .inl (upd f5_34 x6_34.toNatClampNeg ((x3_34 - x3_34 / (10 : Int32) * (10 : Int32)) - (1 : Int32))))), (q10, .inl (cZ, 10, .inl (upd f6_34 (x3_34 - x3_34 / (10 : Int32) * (10 : Int32)).toNatClampNeg (1 : Int32))))] H := hP
                have hD : va_D A [(o, .inr (6, [.int mth, .int mn, .int mch, .ref oc, .ref oi, .int mcl, .ref ol, .int mgo, .int mmo, .ref ob])), (oc, .inl (cI, 14, .inl mcf)), (oi, .inl (cI, 3, .inl mif)), (ol, .inl (cI, 24, .inl mlf)), (ob, .inl (cI, mbn, .inl mbf)), (q3, .inl (cI, mn.toNatClampNeg, .inl (upd f5_34 x6_34.toNatClampNeg ((x3_34 - x3_34 / (10 : Int32) * (10 : Int32)) - (1 : Int32))))), (q10, .inl (cZ, 10, .inl (upd f6_34 (x3_34 - x3_34 / (10 : Int32) * (10 : Int32)).toNatClampNeg (1 : Int32))))] := hD
                refine lv_iload_n hx hb dX7_read_96 rfl (lv_at hl 3 rfl) ?_
                refine lv_bipush (v := (10 : Int32)) hx hb dX7_read_97 (by decide) ?_
                refine lv_idiv hx hb dX7_read_99 (by decide) ?_
                refine lv_istore_n (lv' := [(3, .int (x3_34 / (10 : Int32))), (4, .int (1 : Int32)), (6, .int x6_34), (5, .ref q10), (2, .ref q3), (0, .ref o), (1, .int p0)]) hx hb dX7_read_100 rfl hl (by decide) rfl (fun ls hl => ?_)
                refine lv_iinc (v := x6_34 + (-1 : Int32)) (lv' := [(6, .int (x6_34 + (-1 : Int32))), (3, .int (x3_34 / (10 : Int32))), (4, .int (1 : Int32)), (5, .ref q10), (2, .ref q3), (0, .ref o), (1, .int p0)]) hx hb dX7_read_101 hl (k := 2) rfl rfl (by decide) rfl (fun ls hl => ?_)
                refine lv_goto (tgt := 34) hx hb dX7_read_104 (by decide) ?_
                exact ih34 (x6_34 + (-1 : Int32)) (1 : Int32) (x3_34 / (10 : Int32)) (upd f5_34 x6_34.toNatClampNeg ((x3_34 - x3_34 / (10 : Int32) * (10 : Int32)) - (1 : Int32))) (upd f6_34 (x3_34 - x3_34 / (10 : Int32) * (10 : Int32)).toNatClampNeg (1 : Int32)) _ _ _ hF (hP.sub [0, 1, 2, 3, 4, 5, 6] rfl) (hD.sub [0, 1, 2, 3, 4, 5, 6] (by decide) rfl) hS (lv_sub hl [0, 3, 2, 1, 4, 5, 6] rfl)
    exact L34 1000 (mn - (1 : Int32)) (1 : Int32) p0 (fun _ => 0) (fun _ => 0) _ _ _ hF (hP.sub [0, 1, 2, 3, 4, 5, 6] rfl) (hD.sub [0, 1, 2, 3, 4, 5, 6] (by decide) rfl) hS (lv_sub hl [0, 1, 2, 3, 4, 5, 6] rfl)

def fX7_isRow (mn : Int32) (p0 : Int32) : Option Int32 := (fX7_read mn p0).bind (fun r1 => if (Int32.ofNat r1.2) ≤ 0 then (some ((0 : Int32))) else (some ((1 : Int32))))
abbrev rmX7_isRow : Room := { frames := 2, cells := 3, slots := 17, locals := 48 }
set_option maxHeartbeats 4000000 in
set_option maxRecDepth 100000 in
theorem kX7_isRow (l : Launch) (dC : Nat → ClassId) (dI : Nat → Nat → Nat) (tys : List (ClassId × FieldType)) (cI : ClassId) (ht0 : tys[0]? = some (cI, .int)) (cZ : ClassId) (ht1 : tys[1]? = some (cZ, .boolean)) (o oc oi ol ob : Nat) (mth : Int32) (mn : Int32) (mch : Int32) (mcl : Int32) (mgo : Int32) (mmo : Int32) (mcf : (Nat → Int32)) (mif : (Nat → Int32)) (mlf : (Nat → Int32)) (mbn : Nat) (mbf : (Nat → Int32)) (p0 : Int32) (r : Int32) (hF : fX7_isRow mn p0 = some r) : ct l (dC, dI) tys yX7_isRow wsX7_isRow rmX7_isRow [.ref o, .int p0] [(o, .inr (6, [.int mth, .int mn, .int mch, .ref oc, .ref oi, .int mcl, .ref ol, .int mgo, .int mmo, .ref ob])), (oc, .inl (cI, 14, .inl mcf)), (oi, .inl (cI, 3, .inl mif)), (ol, .inl (cI, 24, .inl mlf)), (ob, .inl (cI, mbn, .inl mbf))] (fun _ : Unit => some (.int r)) (fun _ : Unit => [(o, .inr (6, [.int mth, .int mn, .int mch, .ref oc, .ref oi, .int mcl, .ref ol, .int mgo, .int mmo, .ref ob])), (oc, .inl (cI, 14, .inl mcf)), (oi, .inl (cI, 3, .inl mif)), (ol, .inl (cI, 24, .inl mlf)), (ob, .inl (cI, mbn, .inl mbf))]) := by
  refine ct_of (cc := cX7_isRow) (maxL := 2) (ret := (some .boolean)) (by decide) rfl (Nat.le_of_ble_eq_true rfl) ?_
  intro p e s m below meth c A ls hx hb hr hml hts hown hlocks hname hE hK hP hD hA hS hl
  have hown : s.vm.findClass RX7 = some m.cls := hown
  have hl : lv_has ls 2 [(0, .ref o), (1, .int p0)] := hl
  unfold fX7_isRow at hF
  refine lv_aload_n hx hb dX7_isRow_0 rfl (lv_at hl 0 rfl) ?_
  refine lv_iload_n hx hb dX7_isRow_1 rfl (lv_at hl 1 rfl) ?_
  obtain ⟨r1, hC2, hF⟩ := gd_b hF
  refine ct_callV (C := RX7) (As := [.int p0]) (rest := []) ⟨hx, hb, hml, hown, hts⟩ (kX7_read l dC dI tys cI ht0 cZ ht1 o oc oi ol ob mth mn mch mcl mgo mmo mcf mif mlf mbn mbf p0 r1 hC2) (cwV 1 hts gX7_isRow_X7_read rfl rfl rfl (by decide +kernel) ⟨Nat.le_of_ble_eq_true rfl, Nat.le_of_ble_eq_true rfl⟩) hE hK hP hD hS hA [0, 1, 2, 3, 4] [] (by decide) rfl (by decide) (wr := []) rfl (by decide) (ci := 6) (T := TX7) (N := 10) (q0 := 0) rfl rfl hl.1 rfl rfl (Nat.le_of_ble_eq_true rfl) dX7_isRow_2 ⟨(Nat.le_of_ble_eq_true rfl), (Nat.le_of_ble_eq_true rfl)⟩ (fun i3 H locs hP hD hS => ?_)
  have hP : va_P (dC, dI) vwCl [(o, .inr (6, [.int mth, .int mn, .int mch, .ref oc, .ref oi, .int mcl, .ref ol, .int mgo, .int mmo, .ref ob])), (oc, .inl (cI, 14, .inl mcf)), (oi, .inl (cI, 3, .inl mif)), (ol, .inl (cI, 24, .inl mlf)), (ob, .inl (cI, mbn, .inl mbf)), (i3, .inl (cI, r1.2, .inl r1.1))] H := hP
  have hD : va_D A [(o, .inr (6, [.int mth, .int mn, .int mch, .ref oc, .ref oi, .int mcl, .ref ol, .int mgo, .int mmo, .ref ob])), (oc, .inl (cI, 14, .inl mcf)), (oi, .inl (cI, 3, .inl mif)), (ol, .inl (cI, 24, .inl mlf)), (ob, .inl (cI, mbn, .inl mbf)), (i3, .inl (cI, r1.2, .inl r1.1))] := hD
  refine va_alen hx hb hK hP 5 0 rfl ht0 (v := Int32.ofNat r1.2) rfl dX7_isRow_5 ?_
  refine lv_if_le (tgt := 13) hx hb dX7_isRow_6 (by decide) (fun c4 => ?_) (fun c4 => ?_)
  · have hF := (if_pos c4).symm.trans hF
    refine lv_iconst (v := (0 : Int32)) hx hb dX7_isRow_13 (by decide) ?_
    obtain rfl := Option.some.inj hF
    exact ct_z hx hb hr hlocks hK hP hD hS () (gd_z (by decide)) rfl [0, 1, 2, 3, 4] (by decide) rfl (Nat.le_of_ble_eq_true rfl) (Nat.le_of_ble_eq_true rfl) dX7_isRow_14
  · have hF := (if_neg c4).symm.trans hF
    refine lv_iconst (v := (1 : Int32)) hx hb dX7_isRow_9 (by decide) ?_
    refine lv_goto (tgt := 14) hx hb dX7_isRow_10 (by decide) ?_
    obtain rfl := Option.some.inj hF
    exact ct_z hx hb hr hlocks hK hP hD hS () (gd_z (by decide)) rfl [0, 1, 2, 3, 4] (by decide) rfl (Nat.le_of_ble_eq_true rfl) (Nat.le_of_ble_eq_true rfl) dX7_isRow_14

def fX7_rounds (mn : Int32) : Option Int32 := (fX7_same mn).bind (fun r1 => (fX7_number r1.2 r1.1).bind (fun r4 => some (r4)))
abbrev rmX7_rounds : Room := { frames := 1, cells := 1, slots := 7, locals := 25 }
set_option maxHeartbeats 4000000 in
set_option maxRecDepth 100000 in
theorem kX7_rounds (l : Launch) (dC : Nat → ClassId) (dI : Nat → Nat → Nat) (tys : List (ClassId × FieldType)) (cI : ClassId) (ht0 : tys[0]? = some (cI, .int)) (o oc oi ol ob : Nat) (mth : Int32) (mn : Int32) (mch : Int32) (mcl : Int32) (mgo : Int32) (mmo : Int32) (mcf : (Nat → Int32)) (mif : (Nat → Int32)) (mlf : (Nat → Int32)) (mbn : Nat) (mbf : (Nat → Int32)) (r : Int32) (hF : fX7_rounds mn = some r) : ct l (dC, dI) tys yX7_rounds wsX7_rounds rmX7_rounds [.ref o] [(o, .inr (6, [.int mth, .int mn, .int mch, .ref oc, .ref oi, .int mcl, .ref ol, .int mgo, .int mmo, .ref ob])), (oc, .inl (cI, 14, .inl mcf)), (oi, .inl (cI, 3, .inl mif)), (ol, .inl (cI, 24, .inl mlf)), (ob, .inl (cI, mbn, .inl mbf))] (fun _ : Unit => some (.int r)) (fun _ : Unit => [(o, .inr (6, [.int mth, .int mn, .int mch, .ref oc, .ref oi, .int mcl, .ref ol, .int mgo, .int mmo, .ref ob])), (oc, .inl (cI, 14, .inl mcf)), (oi, .inl (cI, 3, .inl mif)), (ol, .inl (cI, 24, .inl mlf)), (ob, .inl (cI, mbn, .inl mbf))]) := by
  refine ct_of (cc := cX7_rounds) (maxL := 1) (ret := (some .int)) (by decide) rfl (Nat.le_of_ble_eq_true rfl) ?_
  intro p e s m below meth c A ls hx hb hr hml hts hown hlocks hname hE hK hP hD hA hS hl
  have hown : s.vm.findClass RX7 = some m.cls := hown
  have hl : lv_has ls 1 [(0, .ref o)] := hl
  unfold fX7_rounds at hF
  refine lv_aload_n hx hb dX7_rounds_0 rfl (lv_at hl 0 rfl) ?_
  obtain ⟨r1, hC2, hF⟩ := gd_b hF
  refine ct_callV (C := RX7) (As := []) (rest := []) ⟨hx, hb, hml, hown, hts⟩ (kX7_same l dC dI tys cI ht0 o oc oi ol ob mth mn mch mcl mgo mmo mcf mif mlf mbn mbf r1 hC2) (cwV 0 hts gX7_rounds_X7_same rfl rfl rfl (by decide +kernel) ⟨Nat.le_of_ble_eq_true rfl, Nat.le_of_ble_eq_true rfl⟩) hE hK hP hD hS hA [0, 1, 2, 3, 4] [] (by decide) rfl (by decide) (wr := []) rfl (by decide) (ci := 6) (T := TX7) (N := 10) (q0 := 0) rfl rfl hl.1 rfl rfl (Nat.le_of_ble_eq_true rfl) dX7_rounds_1 ⟨(Nat.le_of_ble_eq_true rfl), (Nat.le_of_ble_eq_true rfl)⟩ (fun i3 H locs hP hD hS => ?_)
  have hP : va_P (dC, dI) vwCl [(o, .inr (6, [.int mth, .int mn, .int mch, .ref oc, .ref oi, .int mcl, .ref ol, .int mgo, .int mmo, .ref ob])), (oc, .inl (cI, 14, .inl mcf)), (oi, .inl (cI, 3, .inl mif)), (ol, .inl (cI, 24, .inl mlf)), (ob, .inl (cI, mbn, .inl mbf)), (i3, .inl (cI, r1.2, .inl r1.1))] H := hP
  have hD : va_D A [(o, .inr (6, [.int mth, .int mn, .int mch, .ref oc, .ref oi, .int mcl, .ref ol, .int mgo, .int mmo, .ref ob])), (oc, .inl (cI, 14, .inl mcf)), (oi, .inl (cI, 3, .inl mif)), (ol, .inl (cI, 24, .inl mlf)), (ob, .inl (cI, mbn, .inl mbf)), (i3, .inl (cI, r1.2, .inl r1.1))] := hD
  obtain ⟨r4, hC5, hF⟩ := gd_b hF
  refine ct_callS (As := [.ref i3]) (rest := []) ⟨hx, hb, hml, hown, hts⟩ (kX7_number l dC dI tys cI ht0 i3 r1.2 r1.1 r4 hC5) (va_cwS 1 hts gX7_rounds_X7_number rfl rfl rfl (by decide +kernel) ⟨Nat.le_of_ble_eq_true rfl, Nat.le_of_ble_eq_true rfl⟩) hE hK hP hD hS hA [5] [0, 1, 2, 3, 4] (by decide) rfl (by decide) (wr := [(o, .inr (6, [.int mth, .int mn, .int mch, .ref oc, .ref oi, .int mcl, .ref ol, .int mgo, .int mmo, .ref ob])), (oc, .inl (cI, 14, .inl mcf)), (oi, .inl (cI, 3, .inl mif)), (ol, .inl (cI, 24, .inl mlf)), (ob, .inl (cI, mbn, .inl mbf))]) rfl (by decide) hl.1 rfl rfl (Nat.le_of_ble_eq_true rfl) dX7_rounds_4 ⟨(Nat.le_of_ble_eq_true rfl), (Nat.le_of_ble_eq_true rfl)⟩ (fun i6 H locs hP hD hS => ?_)
  have hP : va_P (dC, dI) vwCl [(o, .inr (6, [.int mth, .int mn, .int mch, .ref oc, .ref oi, .int mcl, .ref ol, .int mgo, .int mmo, .ref ob])), (oc, .inl (cI, 14, .inl mcf)), (oi, .inl (cI, 3, .inl mif)), (ol, .inl (cI, 24, .inl mlf)), (ob, .inl (cI, mbn, .inl mbf)), (i3, .inl (cI, r1.2, .inl r1.1))] H := hP
  have hD : va_D A [(o, .inr (6, [.int mth, .int mn, .int mch, .ref oc, .ref oi, .int mcl, .ref ol, .int mgo, .int mmo, .ref ob])), (oc, .inl (cI, 14, .inl mcf)), (oi, .inl (cI, 3, .inl mif)), (ol, .inl (cI, 24, .inl mlf)), (ob, .inl (cI, mbn, .inl mbf)), (i3, .inl (cI, r1.2, .inl r1.1))] := hD
  obtain rfl := Option.some.inj hF
  exact ct_i hx hb hr hlocks hK hP hD hS () rfl [0, 1, 2, 3, 4] (by decide) rfl (Nat.le_of_ble_eq_true rfl) (Nat.le_of_ble_eq_true rfl) dX7_rounds_7
