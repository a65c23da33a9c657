def fX6_refuseNoChange (mebells : Int32) (p0 : Int32) : Option (Sum (String × Unit) Unit) := (fX2_bells mebells).bind (fun r1 => (fX3_canBeRung p0 r1).bind (fun r4 => if r4 = 0 then (some (.inl ("java/lang/IllegalArgumentException", ()))) else (some (.inr ()))))
abbrev rmX6_refuseNoChange : Room := { frames := 6, cells := 1, slots := 6, locals := 82 }
set_option maxHeartbeats 4000000 in
set_option maxRecDepth 100000 in
theorem kX6_refuseNoChange (l : Launch) (hl0 : l.stackTraces = false) (dC : Nat → ClassId) (dI : Nat → Nat → Nat) (tys : List (ClassId × FieldType)) (cI : ClassId) (ht0 : tys[0]? = some (cI, .int)) (b o me t se mech mecha : Nat) (L : Nat) (xs : (Nat → Int32)) (mebells : Int32) (mebob : Int32) (mesng : Int32) (mechz : Int32) (mechn : Nat) (mechf : (Nat → Int32)) (p0 : Int32) (r : (Sum (String × Unit) Unit)) (hF : fX6_refuseNoChange mebells p0 = some r) : cx (b, L, xs) l (dC, dI) tys yX6_refuseNoChange wsX6_refuseNoChange rmX6_refuseNoChange [.ref o, .int p0] [(o, .inr (5, [.ref me, .ref t, .ref se])), (me, .inr (2, [.ref mech, .int mebells, .int mebob, .int mesng])), (mech, .inr (1, [.ref mecha, .int mechz])), (mecha, .inl (cI, mechn, .inl mechf))] (thrOf r) (Sum.elim (fun _ _ => none) (fun vv _ => none) r : Unit → Option Value) (Sum.elim (fun ee _ => [(o, .inr (5, [.ref me, .ref t, .ref se])), (me, .inr (2, [.ref mech, .int mebells, .int mebob, .int mesng])), (mech, .inr (1, [.ref mecha, .int mechz])), (mecha, .inl (cI, mechn, .inl mechf))]) (fun vv _ => [(o, .inr (5, [.ref me, .ref t, .ref se])), (me, .inr (2, [.ref mech, .int mebells, .int mebob, .int mesng])), (mech, .inr (1, [.ref mecha, .int mechz])), (mecha, .inl (cI, mechn, .inl mechf))]) r : Unit → va_W) := by
  refine cx_of (cc := cX6_refuseNoChange) (maxL := 2) (ret := none) (by decide) rfl (Nat.le_of_ble_eq_true rfl) ?_
  intro p e s m below meth c A ls hx hb hr hml hts hown hlocks hname hE hK hP hD hA hS hl hZ htb
  have hown : s.vm.findClass RX6 = some m.cls := hown
  have hl : lv_has ls 2 [(0, .ref o), (1, .int p0)] := hl
  unfold fX6_refuseNoChange at hF
  have uX6 : ∀ w ∈ wsX60, w ∈ wsX6_refuseNoChange := (fun _ h => (List.mem_cons_of_mem _ (List.mem_append_left _ (List.mem_append_left _ (List.mem_append_right _ h)))))
  have w1 := hts (.fieldLink RX6 10 "BellfounderTower" "method" "LBellfounderTower$Method;") (List.mem_cons_of_mem _ (List.mem_append_left _ (List.mem_append_left _ (List.mem_append_left _ (List.mem_of_getElem? (i := 2) rfl)))))
  have w2 := hts (.classLink RX6 32 "java/lang/IllegalArgumentException") (List.mem_cons_of_mem _ (List.mem_append_left _ (List.mem_append_left _ (List.mem_append_left _ (List.mem_of_getElem? (i := 0) rfl)))))
  have w3 := hts (.initialized "java/lang/IllegalArgumentException") (List.mem_cons_of_mem _ (List.mem_append_left _ (List.mem_append_left _ (List.mem_append_left _ (List.mem_of_getElem? (i := 1) rfl)))))
  refine lv_iload_n hx hb dX6_refuseNoChange_0 rfl (lv_at hl 1 rfl) ?_
  refine lv_aload_n hx hb dX6_refuseNoChange_1 rfl (lv_at hl 0 rfl) ?_
  refine va_get (D := (dC, dI)) (ci := 5) (v := .ref me) (C := RX6) (T := TX6) (N := 3) hx hb hts uX6 hown hK hP 0 rfl rfl 0 (by decide) w1 (fun _ h9 => h9) rfl dX6_refuseNoChange_2 ?_
  obtain ⟨r1, hC2, hF⟩ := gd_b hF
  refine ct_callV (C := RX2) (As := []) (rest := [.int p0]) ⟨hx, hb, hml, hown, hts⟩ (kX2_bells l dC dI tys cI ht0 me mech mecha mebells mebob mesng mechz mechn mechf r1 hC2) (cwV 0 hts gX6_refuseNoChange_X2_bells rfl rfl rfl (by decide +kernel) ⟨Nat.le_of_ble_eq_true rfl, Nat.le_of_ble_eq_true rfl⟩) hE hK hP hD hS hA [1, 2, 3] [0] (by decide) rfl (by decide) (wr := [(o, .inr (5, [.ref me, .ref t, .ref se]))]) rfl (by decide) (ci := 2) (T := TX2) (N := 4) (q0 := 0) rfl rfl hl.1 rfl rfl (Nat.le_of_ble_eq_true rfl) dX6_refuseNoChange_5 ⟨(Nat.le_of_ble_eq_true rfl), (Nat.le_of_ble_eq_true rfl)⟩ (fun i3 H locs hP hD hS => ?_)
  have hP : va_P (dC, dI) vwCl [(o, .inr (5, [.ref me, .ref t, .ref se])), (me, .inr (2, [.ref mech, .int mebells, .int mebob, .int mesng])), (mech, .inr (1, [.ref mecha, .int mechz])), (mecha, .inl (cI, mechn, .inl mechf))] H := hP
  have hD : va_D A [(o, .inr (5, [.ref me, .ref t, .ref se])), (me, .inr (2, [.ref mech, .int mebells, .int mebob, .int mesng])), (mech, .inr (1, [.ref mecha, .int mechz])), (mecha, .inl (cI, mechn, .inl mechf))] := hD
  obtain ⟨r4, hC5, hF⟩ := gd_b hF
  refine ct_callS (As := [.int p0, .int r1]) (rest := []) ⟨hx, hb, hml, hown, hts⟩ (kX3_canBeRung l dC dI tys cI ht0 p0 r1 r4 hC5) (va_cwS 2 hts gX6_refuseNoChange_X3_canBeRung rfl rfl rfl (by decide +kernel) ⟨Nat.le_of_ble_eq_true rfl, Nat.le_of_ble_eq_true rfl⟩) hE hK hP hD hS hA [] [0, 1, 2, 3] (by decide) rfl (by decide) (wr := [(o, .inr (5, [.ref me, .ref t, .ref se])), (me, .inr (2, [.ref mech, .int mebells, .int mebob, .int mesng])), (mech, .inr (1, [.ref mecha, .int mechz])), (mecha, .inl (cI, mechn, .inl mechf))]) rfl (by decide) hl.1 rfl rfl (Nat.le_of_ble_eq_true rfl) dX6_refuseNoChange_8 ⟨(Nat.le_of_ble_eq_true rfl), (Nat.le_of_ble_eq_true rfl)⟩ (fun i6 H locs hP hD hS => ?_)
  have hP : va_P (dC, dI) vwCl [(o, .inr (5, [.ref me, .ref t, .ref se])), (me, .inr (2, [.ref mech, .int mebells, .int mebob, .int mesng])), (mech, .inr (1, [.ref mecha, .int mechz])), (mecha, .inl (cI, mechn, .inl mechf))] H := hP
  have hD : va_D A [(o, .inr (5, [.ref me, .ref t, .ref se])), (me, .inr (2, [.ref mech, .int mebells, .int mebob, .int mesng])), (mech, .inr (1, [.ref mecha, .int mechz])), (mecha, .inl (cI, mechn, .inl mechf))] := hD
  refine lv_if_ne (tgt := 24) hx hb dX6_refuseNoChange_11 (by decide) (fun c7 => ?_) (fun c7 => ?_)
  · have hF := (if_neg c7).symm.trans hF
    obtain rfl := Option.some.inj hF
    exact cx_ret rfl (ct_v hx hb hr hlocks hK hP hD hS () rfl [0, 1, 2, 3] (by decide) rfl (Nat.le_of_ble_eq_true rfl) (Nat.le_of_ble_eq_true rfl) dX6_refuseNoChange_24)
  · have hF := (if_pos c7).symm.trans hF
    obtain rfl := Option.some.inj hF
    exact cx_throw (names := ["java/lang/RuntimeException", "java/lang/Exception"]) (text := "no change") hx hb hl0 hown (by decide) (by decide) w2 w3 hE (List.mem_of_getElem? (i := 0) rfl) (fun w h => hts w (List.mem_cons_of_mem _ (List.mem_append_right _ h))) (by decide +kernel) (by decide +kernel) hZ hK hP hD hS (hl.1.trans hml.symm) dX6_refuseNoChange_14 dX6_refuseNoChange_17 dX6_refuseNoChange_18 dX6_refuseNoChange_20 dX6_refuseNoChange_23 htb (Nat.le_of_ble_eq_true rfl) (Nat.le_of_ble_eq_true rfl) (Nat.le_of_ble_eq_true rfl) (Nat.le_of_ble_eq_true rfl) hlocks rfl () [0, 1, 2, 3] (by decide) rfl (Nat.le_of_ble_eq_true rfl) (Nat.le_of_ble_eq_true rfl)

def fX6_refuseNoCall (p0 : Int32) : Option (Sum (String × Unit) Unit) := if p0 < 0 then (some (.inl ("java/lang/IllegalArgumentException", ()))) else (if p0 ≤ (2 : Int32) then (some (.inr ())) else (some (.inl ("java/lang/IllegalArgumentException", ()))))
abbrev rmX6_refuseNoCall : Room := { frames := 6, cells := 1, slots := 6, locals := 82 }
set_option maxHeartbeats 4000000 in
set_option maxRecDepth 100000 in
theorem kX6_refuseNoCall (l : Launch) (hl0 : l.stackTraces = false) (dC : Nat → ClassId) (dI : Nat → Nat → Nat) (tys : List (ClassId × FieldType)) (cI : ClassId) (ht0 : tys[0]? = some (cI, .int)) (b o me t se : Nat) (L : Nat) (xs : (Nat → Int32)) (p0 : Int32) (r : (Sum (String × Unit) Unit)) (hF : fX6_refuseNoCall p0 = some r) : cx (b, L, xs) l (dC, dI) tys yX6_refuseNoCall wsX6_refuseNoCall rmX6_refuseNoCall [.ref o, .int p0] [(o, .inr (5, [.ref me, .ref t, .ref se]))] (thrOf r) (Sum.elim (fun _ _ => none) (fun vv _ => none) r : Unit → Option Value) (Sum.elim (fun ee _ => [(o, .inr (5, [.ref me, .ref t, .ref se]))]) (fun vv _ => [(o, .inr (5, [.ref me, .ref t, .ref se]))]) r : Unit → va_W) := by
  refine cx_of (cc := cX6_refuseNoCall) (maxL := 2) (ret := none) (by decide) rfl (Nat.le_of_ble_eq_true rfl) ?_
  intro p e s m below meth c A ls hx hb hr hml hts hown hlocks hname hE hK hP hD hA hS hl hZ htb
  have hown : s.vm.findClass RX6 = some m.cls := hown
  have hl : lv_has ls 2 [(0, .ref o), (1, .int p0)] := hl
  unfold fX6_refuseNoCall at hF
  have w0 := hts (.classLink RX6 32 "java/lang/IllegalArgumentException") (List.mem_cons_of_mem _ (List.mem_append_left _ (List.mem_of_getElem? (i := 0) rfl)))
  have w1 := hts (.initialized "java/lang/IllegalArgumentException") (List.mem_cons_of_mem _ (List.mem_append_left _ (List.mem_of_getElem? (i := 1) rfl)))
  refine lv_iload_n hx hb dX6_refuseNoCall_0 rfl (lv_at hl 1 rfl) ?_
  refine lv_if_lt (tgt := 9) hx hb dX6_refuseNoCall_1 (by decide) (fun c1 => ?_) (fun c1 => ?_)
  · have hF := (if_pos c1).symm.trans hF
    obtain rfl := Option.some.inj hF
    exact cx_throw (names := ["java/lang/RuntimeException", "java/lang/Exception"]) (text := "a call is 0 to 2") hx hb hl0 hown (by decide) (by decide) w0 w1 hE (List.mem_of_getElem? (i := 6) rfl) (fun w h => hts w (List.mem_cons_of_mem _ (List.mem_append_right _ h))) (by decide +kernel) (by decide +kernel) hZ hK hP hD hS (hl.1.trans hml.symm) dX6_refuseNoCall_9 dX6_refuseNoCall_12 dX6_refuseNoCall_13 dX6_refuseNoCall_15 dX6_refuseNoCall_18 htb (Nat.le_of_ble_eq_true rfl) (Nat.le_of_ble_eq_true rfl) (Nat.le_of_ble_eq_true rfl) (Nat.le_of_ble_eq_true rfl) hlocks rfl () [0] (by decide) rfl (Nat.le_of_ble_eq_true rfl) (Nat.le_of_ble_eq_true rfl)
  · have hF := (if_neg c1).symm.trans hF
    refine lv_iload_n hx hb dX6_refuseNoCall_4 rfl (lv_at hl 1 rfl) ?_
    refine lv_iconst (v := (2 : Int32)) hx hb dX6_refuseNoCall_5 (by decide) ?_
    refine lv_icmp_le (tgt := 19) hx hb dX6_refuseNoCall_6 (by decide) (fun c2 => ?_) (fun c2 => ?_)
    · have hF := (if_pos c2).symm.trans hF
      obtain rfl := Option.some.inj hF
      exact cx_ret rfl (ct_v hx hb hr hlocks hK hP hD hS () rfl [0] (by decide) rfl (Nat.le_of_ble_eq_true rfl) (Nat.le_of_ble_eq_true rfl) dX6_refuseNoCall_19)
    · have hF := (if_neg c2).symm.trans hF
      obtain rfl := Option.some.inj hF
      exact cx_throw (names := ["java/lang/RuntimeException", "java/lang/Exception"]) (text := "a call is 0 to 2") hx hb hl0 hown (by decide) (by decide) w0 w1 hE (List.mem_of_getElem? (i := 6) rfl) (fun w h => hts w (List.mem_cons_of_mem _ (List.mem_append_right _ h))) (by decide +kernel) (by decide +kernel) hZ hK hP hD hS (hl.1.trans hml.symm) dX6_refuseNoCall_9 dX6_refuseNoCall_12 dX6_refuseNoCall_13 dX6_refuseNoCall_15 dX6_refuseNoCall_18 htb (Nat.le_of_ble_eq_true rfl) (Nat.le_of_ble_eq_true rfl) (Nat.le_of_ble_eq_true rfl) (Nat.le_of_ble_eq_true rfl) hlocks rfl () [0] (by decide) rfl (Nat.le_of_ble_eq_true rfl) (Nat.le_of_ble_eq_true rfl)

def fX6_refuseNoCallPlace (tcz : Int32) (p0 : Int32) : Option (Sum (String × Unit) Unit) := if p0 < 0 then (some (.inl ("java/lang/IndexOutOfBoundsException", ()))) else ((fX5_callCount tcz).bind (fun r2 => if p0 < r2 then (some (.inr ())) else (some (.inl ("java/lang/IndexOutOfBoundsException", ())))))
abbrev rmX6_refuseNoCallPlace : Room := { frames := 6, cells := 1, slots := 6, locals := 82 }
set_option maxHeartbeats 4000000 in
set_option maxRecDepth 100000 in
theorem kX6_refuseNoCallPlace (l : Launch) (hl0 : l.stackTraces = false) (dC : Nat → ClassId) (dI : Nat → Nat → Nat) (tys : List (ClassId × FieldType)) (cI : ClassId) (ht0 : tys[0]? = some (cI, .int)) (b o me t se tc tw tb tca twa tba mech mecha : Nat) (L : Nat) (xs : (Nat → Int32)) (tdif : Int32) (trep : Int32) (tcz : Int32) (tcn : Nat) (tcf : (Nat → Int32)) (twz : Int32) (twn : Nat) (twf : (Nat → Int32)) (tbn : Nat) (tbf : (Nat → Int32)) (mebells : Int32) (mebob : Int32) (mesng : Int32) (mechz : Int32) (mechn : Nat) (mechf : (Nat → Int32)) (p0 : Int32) (r : (Sum (String × Unit) Unit)) (hF : fX6_refuseNoCallPlace tcz p0 = some r) : cx (b, L, xs) l (dC, dI) tys yX6_refuseNoCallPlace wsX6_refuseNoCallPlace rmX6_refuseNoCallPlace [.ref o, .int p0] [(o, .inr (5, [.ref me, .ref t, .ref se])), (t, .inr (4, [.ref me, .ref tc, .ref tw, .ref tb, .int tdif, .int trep])), (tc, .inr (1, [.ref tca, .int tcz])), (tca, .inl (cI, tcn, .inl tcf)), (tw, .inr (1, [.ref twa, .int twz])), (twa, .inl (cI, twn, .inl twf)), (tb, .inr (0, [.ref tba])), (tba, .inl (cI, tbn, .inl tbf)), (me, .inr (2, [.ref mech, .int mebells, .int mebob, .int mesng])), (mech, .inr (1, [.ref mecha, .int mechz])), (mecha, .inl (cI, mechn, .inl mechf))] (thrOf r) (Sum.elim (fun _ _ => none) (fun vv _ => none) r : Unit → Option Value) (Sum.elim (fun ee _ => [(o, .inr (5, [.ref me, .ref t, .ref se])), (t, .inr (4, [.ref me, .ref tc, .ref tw, .ref tb, .int tdif, .int trep])), (tc, .inr (1, [.ref tca, .int tcz])), (tca, .inl (cI, tcn, .inl tcf)), (tw, .inr (1, [.ref twa, .int twz])), (twa, .inl (cI, twn, .inl twf)), (tb, .inr (0, [.ref tba])), (tba, .inl (cI, tbn, .inl tbf)), (me, .inr (2, [.ref mech, .int mebells, .int mebob, .int mesng])), (mech, .inr (1, [.ref mecha, .int mechz])), (mecha, .inl (cI, mechn, .inl mechf))]) (fun vv _ => [(o, .inr (5, [.ref me, .ref t, .ref se])), (t, .inr (4, [.ref me, .ref tc, .ref tw, .ref tb, .int tdif, .int trep])), (tc, .inr (1, [.ref tca, .int tcz])), (tca, .inl (cI, tcn, .inl tcf)), (tw, .inr (1, [.ref twa, .int twz])), (twa, .inl (cI, twn, .inl twf)), (tb, .inr (0, [.ref tba])), (tba, .inl (cI, tbn, .inl tbf)), (me, .inr (2, [.ref mech, .int mebells, .int mebob, .int mesng])), (mech, .inr (1, [.ref mecha, .int mechz])), (mecha, .inl (cI, mechn, .inl mechf))]) r : Unit → va_W) := by
  refine cx_of (cc := cX6_refuseNoCallPlace) (maxL := 2) (ret := none) (by decide) rfl (Nat.le_of_ble_eq_true rfl) ?_
  intro p e s m below meth c A ls hx hb hr hml hts hown hlocks hname hE hK hP hD hA hS hl hZ htb
  have hown : s.vm.findClass RX6 = some m.cls := hown
  have hl : lv_has ls 2 [(0, .ref o), (1, .int p0)] := hl
  unfold fX6_refuseNoCallPlace at hF
  have w0 := hts (.classLink RX6 108 "java/lang/IndexOutOfBoundsException") (List.mem_cons_of_mem _ (List.mem_append_left _ (List.mem_append_left _ (List.mem_append_left _ (List.mem_append_left _ (List.mem_of_getElem? (i := 0) rfl))))))
  have w1 := hts (.initialized "java/lang/IndexOutOfBoundsException") (List.mem_cons_of_mem _ (List.mem_append_left _ (List.mem_append_left _ (List.mem_append_left _ (List.mem_append_left _ (List.mem_of_getElem? (i := 1) rfl))))))
  have uX6 : ∀ w ∈ wsX60, w ∈ wsX6_refuseNoCallPlace := (fun _ h => (List.mem_cons_of_mem _ (List.mem_append_left _ (List.mem_append_left _ (List.mem_append_left _ (List.mem_append_right _ h))))))
  have w3 := hts (.fieldLink RX6 21 "BellfounderTower" "touch" "LBellfounderTower$Touch;") (List.mem_cons_of_mem _ (List.mem_append_left _ (List.mem_append_left _ (List.mem_append_left _ (List.mem_append_left _ (List.mem_of_getElem? (i := 2) rfl))))))
  refine lv_iload_n hx hb dX6_refuseNoCallPlace_0 rfl (lv_at hl 1 rfl) ?_
  refine lv_if_lt (tgt := 15) hx hb dX6_refuseNoCallPlace_1 (by decide) (fun c1 => ?_) (fun c1 => ?_)
  · have hF := (if_pos c1).symm.trans hF
    obtain rfl := Option.some.inj hF
    exact cx_throw (names := ["java/lang/RuntimeException", "java/lang/Exception"]) (text := "no such place among the calls") hx hb hl0 hown (by decide) (by decide) w0 w1 hE (List.mem_of_getElem? (i := 9) rfl) (fun w h => hts w (List.mem_cons_of_mem _ (List.mem_append_right _ h))) (by decide +kernel) (by decide +kernel) hZ hK hP hD hS (hl.1.trans hml.symm) dX6_refuseNoCallPlace_15 dX6_refuseNoCallPlace_18 dX6_refuseNoCallPlace_19 dX6_refuseNoCallPlace_21 dX6_refuseNoCallPlace_24 htb (Nat.le_of_ble_eq_true rfl) (Nat.le_of_ble_eq_true rfl) (Nat.le_of_ble_eq_true rfl) (Nat.le_of_ble_eq_true rfl) hlocks rfl () [0, 1, 2, 3, 4, 5, 6, 7, 8, 9, 10] (by decide) rfl (Nat.le_of_ble_eq_true rfl) (Nat.le_of_ble_eq_true rfl)
  · have hF := (if_neg c1).symm.trans hF
    refine lv_iload_n hx hb dX6_refuseNoCallPlace_4 rfl (lv_at hl 1 rfl) ?_
    refine lv_aload_n hx hb dX6_refuseNoCallPlace_5 rfl (lv_at hl 0 rfl) ?_
    refine va_get (D := (dC, dI)) (ci := 5) (v := .ref t) (C := RX6) (T := TX6) (N := 3) hx hb hts uX6 hown hK hP 0 rfl rfl 1 (by decide) w3 (fun _ h9 => h9) rfl dX6_refuseNoCallPlace_6 ?_
    obtain ⟨r2, hC3, hF⟩ := gd_b hF
    refine ct_callV (C := RX5) (As := []) (rest := [.int p0]) ⟨hx, hb, hml, hown, hts⟩ (kX5_callCount l dC dI tys cI ht0 t me tc tw tb tca twa tba mech mecha tdif trep tcz tcn tcf twz twn twf tbn tbf mebells mebob mesng mechz mechn mechf r2 hC3) (cwV 0 hts gX6_refuseNoCallPlace_X5_callCount rfl rfl rfl (by decide +kernel) ⟨Nat.le_of_ble_eq_true rfl, Nat.le_of_ble_eq_true rfl⟩) hE hK hP hD hS hA [1, 2, 3, 4, 5, 6, 7, 8, 9, 10] [0] (by decide) rfl (by decide) (wr := [(o, .inr (5, [.ref me, .ref t, .ref se]))]) rfl (by decide) (ci := 4) (T := TX5) (N := 6) (q0 := 0) rfl rfl hl.1 rfl rfl (Nat.le_of_ble_eq_true rfl) dX6_refuseNoCallPlace_9 ⟨(Nat.le_of_ble_eq_true rfl), (Nat.le_of_ble_eq_true rfl)⟩ (fun i4 H locs hP hD hS => ?_)
    have hP : va_P (dC, dI) vwCl [(o, .inr (5, [.ref me, .ref t, .ref se])), (t, .inr (4, [.ref me, .ref tc, .ref tw, .ref tb, .int tdif, .int trep])), (tc, .inr (1, [.ref tca, .int tcz])), (tca, .inl (cI, tcn, .inl tcf)), (tw, .inr (1, [.ref twa, .int twz])), (twa, .inl (cI, twn, .inl twf)), (tb, .inr (0, [.ref tba])), (tba, .inl (cI, tbn, .inl tbf)), (me, .inr (2, [.ref mech, .int mebells, .int mebob, .int mesng])), (mech, .inr (1, [.ref mecha, .int mechz])), (mecha, .inl (cI, mechn, .inl mechf))] H := hP
    have hD : va_D A [(o, .inr (5, [.ref me, .ref t, .ref se])), (t, .inr (4, [.ref me, .ref tc, .ref tw, .ref tb, .int tdif, .int trep])), (tc, .inr (1, [.ref tca, .int tcz])), (tca, .inl (cI, tcn, .inl tcf)), (tw, .inr (1, [.ref twa, .int twz])), (twa, .inl (cI, twn, .inl twf)), (tb, .inr (0, [.ref tba])), (tba, .inl (cI, tbn, .inl tbf)), (me, .inr (2, [.ref mech, .int mebells, .int mebob, .int mesng])), (mech, .inr (1, [.ref mecha, .int mechz])), (mecha, .inl (cI, mechn, .inl mechf))] := hD
    refine lv_icmp_lt (tgt := 25) hx hb dX6_refuseNoCallPlace_12 (by decide) (fun c5 => ?_) (fun c5 => ?_)
    · have hF := (if_pos c5).symm.trans hF
      obtain rfl := Option.some.inj hF
      exact cx_ret rfl (ct_v hx hb hr hlocks hK hP hD hS () rfl [0, 1, 2, 3, 4, 5, 6, 7, 8, 9, 10] (by decide) rfl (Nat.le_of_ble_eq_true rfl) (Nat.le_of_ble_eq_true rfl) dX6_refuseNoCallPlace_25)
    · have hF := (if_neg c5).symm.trans hF
      obtain rfl := Option.some.inj hF
      exact cx_throw (names := ["java/lang/RuntimeException", "java/lang/Exception"]) (text := "no such place among the calls") hx hb hl0 hown (by decide) (by decide) w0 w1 hE (List.mem_of_getElem? (i := 9) rfl) (fun w h => hts w (List.mem_cons_of_mem _ (List.mem_append_right _ h))) (by decide +kernel) (by decide +kernel) hZ hK hP hD hS (hl.1.trans hml.symm) dX6_refuseNoCallPlace_15 dX6_refuseNoCallPlace_18 dX6_refuseNoCallPlace_19 dX6_refuseNoCallPlace_21 dX6_refuseNoCallPlace_24 htb (Nat.le_of_ble_eq_true rfl) (Nat.le_of_ble_eq_true rfl) (Nat.le_of_ble_eq_true rfl) (Nat.le_of_ble_eq_true rfl) hlocks rfl () [0, 1, 2, 3, 4, 5, 6, 7, 8, 9, 10] (by decide) rfl (Nat.le_of_ble_eq_true rfl) (Nat.le_of_ble_eq_true rfl)

def fX6_refuseNoRowNumber (twz : Int32) (p0 : Int32) : Option (Sum (String × Unit) Unit) := if p0 < 0 then (some (.inl ("java/lang/IndexOutOfBoundsException", ()))) else ((fX5_rowCount twz).bind (fun r2 => if p0 < r2 then (some (.inr ())) else (some (.inl ("java/lang/IndexOutOfBoundsException", ())))))
abbrev rmX6_refuseNoRowNumber : Room := { frames := 6, cells := 1, slots := 6, locals := 82 }
set_option maxHeartbeats 4000000 in
set_option maxRecDepth 100000 in
theorem kX6_refuseNoRowNumber (l : Launch) (hl0 : l.stackTraces = false) (dC : Nat → ClassId) (dI : Nat → Nat → Nat) (tys : List (ClassId × FieldType)) (cI : ClassId) (ht0 : tys[0]? = some (cI, .int)) (b o me t se tc tw tb tca twa tba mech mecha : Nat) (L : Nat) (xs : (Nat → Int32)) (tdif : Int32) (trep : Int32) (tcz : Int32) (tcn : Nat) (tcf : (Nat → Int32)) (twz : Int32) (twn : Nat) (twf : (Nat → Int32)) (tbn : Nat) (tbf : (Nat → Int32)) (mebells : Int32) (mebob : Int32) (mesng : Int32) (mechz : Int32) (mechn : Nat) (mechf : (Nat → Int32)) (p0 : Int32) (r : (Sum (String × Unit) Unit)) (hF : fX6_refuseNoRowNumber twz p0 = some r) : cx (b, L, xs) l (dC, dI) tys yX6_refuseNoRowNumber wsX6_refuseNoRowNumber rmX6_refuseNoRowNumber [.ref o, .int p0] [(o, .inr (5, [.ref me, .ref t, .ref se])), (t, .inr (4, [.ref me, .ref tc, .ref tw, .ref tb, .int tdif, .int trep])), (tc, .inr (1, [.ref tca, .int tcz])), (tca, .inl (cI, tcn, .inl tcf)), (tw, .inr (1, [.ref twa, .int twz])), (twa, .inl (cI, twn, .inl twf)), (tb, .inr (0, [.ref tba])), (tba, .inl (cI, tbn, .inl tbf)), (me, .inr (2, [.ref mech, .int mebells, .int mebob, .int mesng])), (mech, .inr (1, [.ref mecha, .int mechz])), (mecha, .inl (cI, mechn, .inl mechf))] (thrOf r) (Sum.elim (fun _ _ => none) (fun vv _ => none) r : Unit → Option Value) (Sum.elim (fun ee _ => [(o, .inr (5, [.ref me, .ref t, .ref se])), (t, .inr (4, [.ref me, .ref tc, .ref tw, .ref tb, .int tdif, .int trep])), (tc, .inr (1, [.ref tca, .int tcz])), (tca, .inl (cI, tcn, .inl tcf)), (tw, .inr (1, [.ref twa, .int twz])), (twa, .inl (cI, twn, .inl twf)), (tb, .inr (0, [.ref tba])), (tba, .inl (cI, tbn, .inl tbf)), (me, .inr (2, [.ref mech, .int mebells, .int mebob, .int mesng])), (mech, .inr (1, [.ref mecha, .int mechz])), (mecha, .inl (cI, mechn, .inl mechf))]) (fun vv _ => [(o, .inr (5, [.ref me, .ref t, .ref se])), (t, .inr (4, [.ref me, .ref tc, .ref tw, .ref tb, .int tdif, .int trep])), (tc, .inr (1, [.ref tca, .int tcz])), (tca, .inl (cI, tcn, .inl tcf)), (tw, .inr (1, [.ref twa, .int twz])), (twa, .inl (cI, twn, .inl twf)), (tb, .inr (0, [.ref tba])), (tba, .inl (cI, tbn, .inl tbf)), (me, .inr (2, [.ref mech, .int mebells, .int mebob, .int mesng])), (mech, .inr (1, [.ref mecha, .int mechz])), (mecha, .inl (cI, mechn, .inl mechf))]) r : Unit → va_W) := by
  refine cx_of (cc := cX6_refuseNoRowNumber) (maxL := 2) (ret := none) (by decide) rfl (Nat.le_of_ble_eq_true rfl) ?_
  intro p e s m below meth c A ls hx hb hr hml hts hown hlocks hname hE hK hP hD hA hS hl hZ htb
  have hown : s.vm.findClass RX6 = some m.cls := hown
  have hl : lv_has ls 2 [(0, .ref o), (1, .int p0)] := hl
  unfold fX6_refuseNoRowNumber at hF
  have w0 := hts (.classLink RX6 108 "java/lang/IndexOutOfBoundsException") (List.mem_cons_of_mem _ (List.mem_append_left _ (List.mem_append_left _ (List.mem_append_left _ (List.mem_append_left _ (List.mem_of_getElem? (i := 0) rfl))))))
  have w1 := hts (.initialized "java/lang/IndexOutOfBoundsException") (List.mem_cons_of_mem _ (List.mem_append_left _ (List.mem_append_left _ (List.mem_append_left _ (List.mem_append_left _ (List.mem_of_getElem? (i := 1) rfl))))))
  have uX6 : ∀ w ∈ wsX60, w ∈ wsX6_refuseNoRowNumber := (fun _ h => (List.mem_cons_of_mem _ (List.mem_append_left _ (List.mem_append_left _ (List.mem_append_left _ (List.mem_append_right _ h))))))
  have w3 := hts (.fieldLink RX6 21 "BellfounderTower" "touch" "LBellfounderTower$Touch;") (List.mem_cons_of_mem _ (List.mem_append_left _ (List.mem_append_left _ (List.mem_append_left _ (List.mem_append_left _ (List.mem_of_getElem? (i := 2) rfl))))))
  refine lv_iload_n hx hb dX6_refuseNoRowNumber_0 rfl (lv_at hl 1 rfl) ?_
  refine lv_if_lt (tgt := 15) hx hb dX6_refuseNoRowNumber_1 (by decide) (fun c1 => ?_) (fun c1 => ?_)
  · have hF := (if_pos c1).symm.trans hF
    obtain rfl := Option.some.inj hF
    exact cx_throw (names := ["java/lang/RuntimeException", "java/lang/Exception"]) (text := "no such row in the touch") hx hb hl0 hown (by decide) (by decide) w0 w1 hE (List.mem_of_getElem? (i := 11) rfl) (fun w h => hts w (List.mem_cons_of_mem _ (List.mem_append_right _ h))) (by decide +kernel) (by decide +kernel) hZ hK hP hD hS (hl.1.trans hml.symm) dX6_refuseNoRowNumber_15 dX6_refuseNoRowNumber_18 dX6_refuseNoRowNumber_19 dX6_refuseNoRowNumber_21 dX6_refuseNoRowNumber_24 htb (Nat.le_of_ble_eq_true rfl) (Nat.le_of_ble_eq_true rfl) (Nat.le_of_ble_eq_true rfl) (Nat.le_of_ble_eq_true rfl) hlocks rfl () [0, 1, 2, 3, 4, 5, 6, 7, 8, 9, 10] (by decide) rfl (Nat.le_of_ble_eq_true rfl) (Nat.le_of_ble_eq_true rfl)
  · have hF := (if_neg c1).symm.trans hF
    refine lv_iload_n hx hb dX6_refuseNoRowNumber_4 rfl (lv_at hl 1 rfl) ?_
    refine lv_aload_n hx hb dX6_refuseNoRowNumber_5 rfl (lv_at hl 0 rfl) ?_
    refine va_get (D := (dC, dI)) (ci := 5) (v := .ref t) (C := RX6) (T := TX6) (N := 3) hx hb hts uX6 hown hK hP 0 rfl rfl 1 (by decide) w3 (fun _ h9 => h9) rfl dX6_refuseNoRowNumber_6 ?_
    obtain ⟨r2, hC3, hF⟩ := gd_b hF
    refine ct_callV (C := RX5) (As := []) (rest := [.int p0]) ⟨hx, hb, hml, hown, hts⟩ (kX5_rowCount l dC dI tys cI ht0 t me tc tw tb tca twa tba mech mecha tdif trep tcz tcn tcf twz twn twf tbn tbf mebells mebob mesng mechz mechn mechf r2 hC3) (cwV 0 hts gX6_refuseNoRowNumber_X5_rowCount rfl rfl rfl (by decide +kernel) ⟨Nat.le_of_ble_eq_true rfl, Nat.le_of_ble_eq_true rfl⟩) hE hK hP hD hS hA [1, 2, 3, 4, 5, 6, 7, 8, 9, 10] [0] (by decide) rfl (by decide) (wr := [(o, .inr (5, [.ref me, .ref t, .ref se]))]) rfl (by decide) (ci := 4) (T := TX5) (N := 6) (q0 := 0) rfl rfl hl.1 rfl rfl (Nat.le_of_ble_eq_true rfl) dX6_refuseNoRowNumber_9 ⟨(Nat.le_of_ble_eq_true rfl), (Nat.le_of_ble_eq_true rfl)⟩ (fun i4 H locs hP hD hS => ?_)
    have hP : va_P (dC, dI) vwCl [(o, .inr (5, [.ref me, .ref t, .ref se])), (t, .inr (4, [.ref me, .ref tc, .ref tw, .ref tb, .int tdif, .int trep])), (tc, .inr (1, [.ref tca, .int tcz])), (tca, .inl (cI, tcn, .inl tcf)), (tw, .inr (1, [.ref twa, .int twz])), (twa, .inl (cI, twn, .inl twf)), (tb, .inr (0, [.ref tba])), (tba, .inl (cI, tbn, .inl tbf)), (me, .inr (2, [.ref mech, .int mebells, .int mebob, .int mesng])), (mech, .inr (1, [.ref mecha, .int mechz])), (mecha, .inl (cI, mechn, .inl mechf))] H := hP
    have hD : va_D A [(o, .inr (5, [.ref me, .ref t, .ref se])), (t, .inr (4, [.ref me, .ref tc, .ref tw, .ref tb, .int tdif, .int trep])), (tc, .inr (1, [.ref tca, .int tcz])), (tca, .inl (cI, tcn, .inl tcf)), (tw, .inr (1, [.ref twa, .int twz])), (twa, .inl (cI, twn, .inl twf)), (tb, .inr (0, [.ref tba])), (tba, .inl (cI, tbn, .inl tbf)), (me, .inr (2, [.ref mech, .int mebells, .int mebob, .int mesng])), (mech, .inr (1, [.ref mecha, .int mechz])), (mecha, .inl (cI, mechn, .inl mechf))] := hD
    refine lv_icmp_lt (tgt := 25) hx hb dX6_refuseNoRowNumber_12 (by decide) (fun c5 => ?_) (fun c5 => ?_)
    · have hF := (if_pos c5).symm.trans hF
      obtain rfl := Option.some.inj hF
      exact cx_ret rfl (ct_v hx hb hr hlocks hK hP hD hS () rfl [0, 1, 2, 3, 4, 5, 6, 7, 8, 9, 10] (by decide) rfl (Nat.le_of_ble_eq_true rfl) (Nat.le_of_ble_eq_true rfl) dX6_refuseNoRowNumber_25)
    · have hF := (if_neg c5).symm.trans hF
      obtain rfl := Option.some.inj hF
      exact cx_throw (names := ["java/lang/RuntimeException", "java/lang/Exception"]) (text := "no such row in the touch") hx hb hl0 hown (by decide) (by decide) w0 w1 hE (List.mem_of_getElem? (i := 11) rfl) (fun w h => hts w (List.mem_cons_of_mem _ (List.mem_append_right _ h))) (by decide +kernel) (by decide +kernel) hZ hK hP hD hS (hl.1.trans hml.symm) dX6_refuseNoRowNumber_15 dX6_refuseNoRowNumber_18 dX6_refuseNoRowNumber_19 dX6_refuseNoRowNumber_21 dX6_refuseNoRowNumber_24 htb (Nat.le_of_ble_eq_true rfl) (Nat.le_of_ble_eq_true rfl) (Nat.le_of_ble_eq_true rfl) (Nat.le_of_ble_eq_true rfl) hlocks rfl () [0, 1, 2, 3, 4, 5, 6, 7, 8, 9, 10] (by decide) rfl (Nat.le_of_ble_eq_true rfl) (Nat.le_of_ble_eq_true rfl)

def fX6_refuseNoBell (mebells : Int32) (p0 : Int32) : Option (Sum (String × Unit) Unit) := if p0 < (1 : Int32) then (some (.inl ("java/lang/IndexOutOfBoundsException", ()))) else ((fX2_bells mebells).bind (fun r2 => if p0 ≤ r2 then (some (.inr ())) else (some (.inl ("java/lang/IndexOutOfBoundsException", ())))))
abbrev rmX6_refuseNoBell : Room := { frames := 6, cells := 1, slots := 6, locals := 82 }
set_option maxHeartbeats 4000000 in
set_option maxRecDepth 100000 in
theorem kX6_refuseNoBell (l : Launch) (hl0 : l.stackTraces = false) (dC : Nat → ClassId) (dI : Nat → Nat → Nat) (tys : List (ClassId × FieldType)) (cI : ClassId) (ht0 : tys[0]? = some (cI, .int)) (b o me t se mech mecha : Nat) (L : Nat) (xs : (Nat → Int32)) (mebells : Int32) (mebob : Int32) (mesng : Int32) (mechz : Int32) (mechn : Nat) (mechf : (Nat → Int32)) (p0 : Int32) (r : (Sum (String × Unit) Unit)) (hF : fX6_refuseNoBell mebells p0 = some r) : cx (b, L, xs) l (dC, dI) tys yX6_refuseNoBell wsX6_refuseNoBell rmX6_refuseNoBell [.ref o, .int p0] [(o, .inr (5, [.ref me, .ref t, .ref se])), (me, .inr (2, [.ref mech, .int mebells, .int mebob, .int mesng])), (mech, .inr (1, [.ref mecha, .int mechz])), (mecha, .inl (cI, mechn, .inl mechf))] (thrOf r) (Sum.elim (fun _ _ => none) (fun vv _ => none) r : Unit → Option Value) (Sum.elim (fun ee _ => [(o, .inr (5, [.ref me, .ref t, .ref se])), (me, .inr (2, [.ref mech, .int mebells, .int mebob, .int mesng])), (mech, .inr (1, [.ref mecha, .int mechz])), (mecha, .inl (cI, mechn, .inl mechf))]) (fun vv _ => [(o, .inr (5, [.ref me, .ref t, .ref se])), (me, .inr (2, [.ref mech, .int mebells, .int mebob, .int mesng])), (mech, .inr (1, [.ref mecha, .int mechz])), (mecha, .inl (cI, mechn, .inl mechf))]) r : Unit → va_W) := by
  refine cx_of (cc := cX6_refuseNoBell) (maxL := 2) (ret := none) (by decide) rfl (Nat.le_of_ble_eq_true rfl) ?_
  intro p e s m below meth c A ls hx hb hr hml hts hown hlocks hname hE hK hP hD hA hS hl hZ htb
  have hown : s.vm.findClass RX6 = some m.cls := hown
  have hl : lv_has ls 2 [(0, .ref o), (1, .int p0)] := hl
  unfold fX6_refuseNoBell at hF
  have w0 := hts (.classLink RX6 108 "java/lang/IndexOutOfBoundsException") (List.mem_cons_of_mem _ (List.mem_append_left _ (List.mem_append_left _ (List.mem_append_left _ (List.mem_of_getElem? (i := 0) rfl)))))
  have w1 := hts (.initialized "java/lang/IndexOutOfBoundsException") (List.mem_cons_of_mem _ (List.mem_append_left _ (List.mem_append_left _ (List.mem_append_left _ (List.mem_of_getElem? (i := 1) rfl)))))
  have uX6 : ∀ w ∈ wsX60, w ∈ wsX6_refuseNoBell := (fun _ h => (List.mem_cons_of_mem _ (List.mem_append_left _ (List.mem_append_left _ (List.mem_append_right _ h)))))
  have w3 := hts (.fieldLink RX6 10 "BellfounderTower" "method" "LBellfounderTower$Method;") (List.mem_cons_of_mem _ (List.mem_append_left _ (List.mem_append_left _ (List.mem_append_left _ (List.mem_of_getElem? (i := 2) rfl)))))
  refine lv_iload_n hx hb dX6_refuseNoBell_0 rfl (lv_at hl 1 rfl) ?_
  refine lv_iconst (v := (1 : Int32)) hx hb dX6_refuseNoBell_1 (by decide) ?_
  refine lv_icmp_lt (tgt := 16) hx hb dX6_refuseNoBell_2 (by decide) (fun c1 => ?_) (fun c1 => ?_)
  · have hF := (if_pos c1).symm.trans hF
    obtain rfl := Option.some.inj hF
    exact cx_throw (names := ["java/lang/RuntimeException", "java/lang/Exception"]) (text := "no such bell") hx hb hl0 hown (by decide) (by decide) w0 w1 hE (List.mem_of_getElem? (i := 12) rfl) (fun w h => hts w (List.mem_cons_of_mem _ (List.mem_append_right _ h))) (by decide +kernel) (by decide +kernel) hZ hK hP hD hS (hl.1.trans hml.symm) dX6_refuseNoBell_16 dX6_refuseNoBell_19 dX6_refuseNoBell_20 dX6_refuseNoBell_22 dX6_refuseNoBell_25 htb (Nat.le_of_ble_eq_true rfl) (Nat.le_of_ble_eq_true rfl) (Nat.le_of_ble_eq_true rfl) (Nat.le_of_ble_eq_true rfl) hlocks rfl () [0, 1, 2, 3] (by decide) rfl (Nat.le_of_ble_eq_true rfl) (Nat.le_of_ble_eq_true rfl)
  · have hF := (if_neg c1).symm.trans hF
    refine lv_iload_n hx hb dX6_refuseNoBell_5 rfl (lv_at hl 1 rfl) ?_
    refine lv_aload_n hx hb dX6_refuseNoBell_6 rfl (lv_at hl 0 rfl) ?_
    refine va_get (D := (dC, dI)) (ci := 5) (v := .ref me) (C := RX6) (T := TX6) (N := 3) hx hb hts uX6 hown hK hP 0 rfl rfl 0 (by decide) w3 (fun _ h9 => h9) rfl dX6_refuseNoBell_7 ?_
    obtain ⟨r2, hC3, hF⟩ := gd_b hF
    refine ct_callV (C := RX2) (As := []) (rest := [.int p0]) ⟨hx, hb, hml, hown, hts⟩ (kX2_bells l dC dI tys cI ht0 me mech mecha mebells mebob mesng mechz mechn mechf r2 hC3) (cwV 0 hts gX6_refuseNoBell_X2_bells rfl rfl rfl (by decide +kernel) ⟨Nat.le_of_ble_eq_true rfl, Nat.le_of_ble_eq_true rfl⟩) hE hK hP hD hS hA [1, 2, 3] [0] (by decide) rfl (by decide) (wr := [(o, .inr (5, [.ref me, .ref t, .ref se]))]) rfl (by decide) (ci := 2) (T := TX2) (N := 4) (q0 := 0) rfl rfl hl.1 rfl rfl (Nat.le_of_ble_eq_true rfl) dX6_refuseNoBell_10 ⟨(Nat.le_of_ble_eq_true rfl), (Nat.le_of_ble_eq_true rfl)⟩ (fun i4 H locs hP hD hS => ?_)
    have hP : va_P (dC, dI) vwCl [(o, .inr (5, [.ref me, .ref t, .ref se])), (me, .inr (2, [.ref mech, .int mebells, .int mebob, .int mesng])), (mech, .inr (1, [.ref mecha, .int mechz])), (mecha, .inl (cI, mechn, .inl mechf))] H := hP
    have hD : va_D A [(o, .inr (5, [.ref me, .ref t, .ref se])), (me, .inr (2, [.ref mech, .int mebells, .int mebob, .int mesng])), (mech, .inr (1, [.ref mecha, .int mechz])), (mecha, .inl (cI, mechn, .inl mechf))] := hD
    refine lv_icmp_le (tgt := 26) hx hb dX6_refuseNoBell_13 (by decide) (fun c5 => ?_) (fun c5 => ?_)
    · have hF := (if_pos c5).symm.trans hF
      obtain rfl := Option.some.inj hF
      exact cx_ret rfl (ct_v hx hb hr hlocks hK hP hD hS () rfl [0, 1, 2, 3] (by decide) rfl (Nat.le_of_ble_eq_true rfl) (Nat.le_of_ble_eq_true rfl) dX6_refuseNoBell_26)
    · have hF := (if_neg c5).symm.trans hF
      obtain rfl := Option.some.inj hF
      exact cx_throw (names := ["java/lang/RuntimeException", "java/lang/Exception"]) (text := "no such bell") hx hb hl0 hown (by decide) (by decide) w0 w1 hE (List.mem_of_getElem? (i := 12) rfl) (fun w h => hts w (List.mem_cons_of_mem _ (List.mem_append_right _ h))) (by decide +kernel) (by decide +kernel) hZ hK hP hD hS (hl.1.trans hml.symm) dX6_refuseNoBell_16 dX6_refuseNoBell_19 dX6_refuseNoBell_20 dX6_refuseNoBell_22 dX6_refuseNoBell_25 htb (Nat.le_of_ble_eq_true rfl) (Nat.le_of_ble_eq_true rfl) (Nat.le_of_ble_eq_true rfl) (Nat.le_of_ble_eq_true rfl) hlocks rfl () [0, 1, 2, 3] (by decide) rfl (Nat.le_of_ble_eq_true rfl) (Nat.le_of_ble_eq_true rfl)

def fX6_refuseNoLeads (p0 : Int32) : Option (Sum (String × Unit) Unit) := if p0 < 0 then (some (.inl ("java/lang/IllegalArgumentException", ()))) else (if p0 ≤ (5 : Int32) then (some (.inr ())) else (some (.inl ("java/lang/IllegalArgumentException", ()))))
abbrev rmX6_refuseNoLeads : Room := { frames := 6, cells := 1, slots := 6, locals := 82 }
set_option maxHeartbeats 4000000 in
set_option maxRecDepth 100000 in
theorem kX6_refuseNoLeads (l : Launch) (hl0 : l.stackTraces = false) (dC : Nat → ClassId) (dI : Nat → Nat → Nat) (tys : List (ClassId × FieldType)) (cI : ClassId) (ht0 : tys[0]? = some (cI, .int)) (b o me t se : Nat) (L : Nat) (xs : (Nat → Int32)) (p0 : Int32) (r : (Sum (String × Unit) Unit)) (hF : fX6_refuseNoLeads p0 = some r) : cx (b, L, xs) l (dC, dI) tys yX6_refuseNoLeads wsX6_refuseNoLeads rmX6_refuseNoLeads [.ref o, .int p0] [(o, .inr (5, [.ref me, .ref t, .ref se]))] (thrOf r) (Sum.elim (fun _ _ => none) (fun vv _ => none) r : Unit → Option Value) (Sum.elim (fun ee _ => [(o, .inr (5, [.ref me, .ref t, .ref se]))]) (fun vv _ => [(o, .inr (5, [.ref me, .ref t, .ref se]))]) r : Unit → va_W) := by
  refine cx_of (cc := cX6_refuseNoLeads) (maxL := 2) (ret := none) (by decide) rfl (Nat.le_of_ble_eq_true rfl) ?_
  intro p e s m below meth c A ls hx hb hr hml hts hown hlocks hname hE hK hP hD hA hS hl hZ htb
  have hown : s.vm.findClass RX6 = some m.cls := hown
  have hl : lv_has ls 2 [(0, .ref o), (1, .int p0)] := hl
  unfold fX6_refuseNoLeads at hF
  have w0 := hts (.classLink RX6 32 "java/lang/IllegalArgumentException") (List.mem_cons_of_mem _ (List.mem_append_left _ (List.mem_of_getElem? (i := 0) rfl)))
  have w1 := hts (.initialized "java/lang/IllegalArgumentException") (List.mem_cons_of_mem _ (List.mem_append_left _ (List.mem_of_getElem? (i := 1) rfl)))
  refine lv_iload_n hx hb dX6_refuseNoLeads_0 rfl (lv_at hl 1 rfl) ?_
  refine lv_if_lt (tgt := 9) hx hb dX6_refuseNoLeads_1 (by decide) (fun c1 => ?_) (fun c1 => ?_)
  · have hF := (if_pos c1).symm.trans hF
    obtain rfl := Option.some.inj hF
    exact cx_throw (names := ["java/lang/RuntimeException", "java/lang/Exception"]) (text := "0 to 5 leads are looked at") hx hb hl0 hown (by decide) (by decide) w0 w1 hE (List.mem_of_getElem? (i := 13) rfl) (fun w h => hts w (List.mem_cons_of_mem _ (List.mem_append_right _ h))) (by decide +kernel) (by decide +kernel) hZ hK hP hD hS (hl.1.trans hml.symm) dX6_refuseNoLeads_9 dX6_refuseNoLeads_12 dX6_refuseNoLeads_13 dX6_refuseNoLeads_15 dX6_refuseNoLeads_18 htb (Nat.le_of_ble_eq_true rfl) (Nat.le_of_ble_eq_true rfl) (Nat.le_of_ble_eq_true rfl) (Nat.le_of_ble_eq_true rfl) hlocks rfl () [0] (by decide) rfl (Nat.le_of_ble_eq_true rfl) (Nat.le_of_ble_eq_true rfl)
  · have hF := (if_neg c1).symm.trans hF
    refine lv_iload_n hx hb dX6_refuseNoLeads_4 rfl (lv_at hl 1 rfl) ?_
    refine lv_iconst (v := (5 : Int32)) hx hb dX6_refuseNoLeads_5 (by decide) ?_
    refine lv_icmp_le (tgt := 19) hx hb dX6_refuseNoLeads_6 (by decide) (fun c2 => ?_) (fun c2 => ?_)
    · have hF := (if_pos c2).symm.trans hF
      obtain rfl := Option.some.inj hF
      exact cx_ret rfl (ct_v hx hb hr hlocks hK hP hD hS () rfl [0] (by decide) rfl (Nat.le_of_ble_eq_true rfl) (Nat.le_of_ble_eq_true rfl) dX6_refuseNoLeads_19)
    · have hF := (if_neg c2).symm.trans hF
      obtain rfl := Option.some.inj hF
      exact cx_throw (names := ["java/lang/RuntimeException", "java/lang/Exception"]) (text := "0 to 5 leads are looked at") hx hb hl0 hown (by decide) (by decide) w0 w1 hE (List.mem_of_getElem? (i := 13) rfl) (fun w h => hts w (List.mem_cons_of_mem _ (List.mem_append_right _ h))) (by decide +kernel) (by decide +kernel) hZ hK hP hD hS (hl.1.trans hml.symm) dX6_refuseNoLeads_9 dX6_refuseNoLeads_12 dX6_refuseNoLeads_13 dX6_refuseNoLeads_15 dX6_refuseNoLeads_18 htb (Nat.le_of_ble_eq_true rfl) (Nat.le_of_ble_eq_true rfl) (Nat.le_of_ble_eq_true rfl) (Nat.le_of_ble_eq_true rfl) hlocks rfl () [0] (by decide) rfl (Nat.le_of_ble_eq_true rfl) (Nat.le_of_ble_eq_true rfl)

def fX6_packedOrRefused (mebells : Int32) (p0 : Int32) : Option (Sum (String × Unit) Int32) := (fX2_bells mebells).bind (fun r1 => (fX3_packed p0 r1).bind (fun r4 => if r4 = (-1 : Int32) then (some (.inl ("java/lang/IllegalArgumentException", ()))) else (some (.inr (r4)))))
abbrev rmX6_packedOrRefused : Room := { frames := 6, cells := 1, slots := 6, locals := 82 }
set_option maxHeartbeats 4000000 in
set_option maxRecDepth 100000 in
theorem kX6_packedOrRefused (l : Launch) (hl0 : l.stackTraces = false) (dC : Nat → ClassId) (dI : Nat → Nat → Nat) (tys : List (ClassId × FieldType)) (cI : ClassId) (ht0 : tys[0]? = some (cI, .int)) (b o me t se mech mecha : Nat) (L : Nat) (xs : (Nat → Int32)) (mebells : Int32) (mebob : Int32) (mesng : Int32) (mechz : Int32) (mechn : Nat) (mechf : (Nat → Int32)) (p0 : Int32) (r : (Sum (String × Unit) Int32)) (hF : fX6_packedOrRefused mebells p0 = some r) : cx (b, L, xs) l (dC, dI) tys yX6_packedOrRefused wsX6_packedOrRefused rmX6_packedOrRefused [.ref o, .int p0] [(o, .inr (5, [.ref me, .ref t, .ref se])), (me, .inr (2, [.ref mech, .int mebells, .int mebob, .int mesng])), (mech, .inr (1, [.ref mecha, .int mechz])), (mecha, .inl (cI, mechn, .inl mechf))] (thrOf r) (Sum.elim (fun _ _ => none) (fun vv _ => some (.int vv)) r : Unit → Option Value) (Sum.elim (fun ee _ => [(o, .inr (5, [.ref me, .ref t, .ref se])), (me, .inr (2, [.ref mech, .int mebells, .int mebob, .int mesng])), (mech, .inr (1, [.ref mecha, .int mechz])), (mecha, .inl (cI, mechn, .inl mechf))]) (fun vv _ => [(o, .inr (5, [.ref me, .ref t, .ref se])), (me, .inr (2, [.ref mech, .int mebells, .int mebob, .int mesng])), (mech, .inr (1, [.ref mecha, .int mechz])), (mecha, .inl (cI, mechn, .inl mechf))]) r : Unit → va_W) := by
  refine cx_of (cc := cX6_packedOrRefused) (maxL := 3) (ret := (some .int)) (by decide) rfl (Nat.le_of_ble_eq_true rfl) ?_
  intro p e s m below meth c A ls hx hb hr hml hts hown hlocks hname hE hK hP hD hA hS hl hZ htb
  have hown : s.vm.findClass RX6 = some m.cls := hown
  have hl : lv_has ls 3 [(0, .ref o), (1, .int p0)] := hl
  unfold fX6_packedOrRefused at hF
  have uX6 : ∀ w ∈ wsX60, w ∈ wsX6_packedOrRefused := (fun _ h => (List.mem_cons_of_mem _ (List.mem_append_left _ (List.mem_append_left _ (List.mem_append_right _ h)))))
  have w1 := hts (.fieldLink RX6 10 "BellfounderTower" "method" "LBellfounderTower$Method;") (List.mem_cons_of_mem _ (List.mem_append_left _ (List.mem_append_left _ (List.mem_append_left _ (List.mem_of_getElem? (i := 2) rfl)))))
  have w2 := hts (.classLink RX6 32 "java/lang/IllegalArgumentException") (List.mem_cons_of_mem _ (List.mem_append_left _ (List.mem_append_left _ (List.mem_append_left _ (List.mem_of_getElem? (i := 0) rfl)))))
  have w3 := hts (.initialized "java/lang/IllegalArgumentException") (List.mem_cons_of_mem _ (List.mem_append_left _ (List.mem_append_left _ (List.mem_append_left _ (List.mem_of_getElem? (i := 1) rfl)))))
  refine lv_iload_n hx hb dX6_packedOrRefused_0 rfl (lv_at hl 1 rfl) ?_
  refine lv_aload_n hx hb dX6_packedOrRefused_1 rfl (lv_at hl 0 rfl) ?_
  refine va_get (D := (dC, dI)) (ci := 5) (v := .ref me) (C := RX6) (T := TX6) (N := 3) hx hb hts uX6 hown hK hP 0 rfl rfl 0 (by decide) w1 (fun _ h9 => h9) rfl dX6_packedOrRefused_2 ?_
  obtain ⟨r1, hC2, hF⟩ := gd_b hF
  refine ct_callV (C := RX2) (As := []) (rest := [.int p0]) ⟨hx, hb, hml, hown, hts⟩ (kX2_bells l dC dI tys cI ht0 me mech mecha mebells mebob mesng mechz mechn mechf r1 hC2) (cwV 0 hts gX6_packedOrRefused_X2_bells rfl rfl rfl (by decide +kernel) ⟨Nat.le_of_ble_eq_true rfl, Nat.le_of_ble_eq_true rfl⟩) hE hK hP hD hS hA [1, 2, 3] [0] (by decide) rfl (by decide) (wr := [(o, .inr (5, [.ref me, .ref t, .ref se]))]) rfl (by decide) (ci := 2) (T := TX2) (N := 4) (q0 := 0) rfl rfl hl.1 rfl rfl (Nat.le_of_ble_eq_true rfl) dX6_packedOrRefused_5 ⟨(Nat.le_of_ble_eq_true rfl), (Nat.le_of_ble_eq_true rfl)⟩ (fun i3 H locs hP hD hS => ?_)
  have hP : va_P (dC, dI) vwCl [(o, .inr (5, [.ref me, .ref t, .ref se])), (me, .inr (2, [.ref mech, .int mebells, .int mebob, .int mesng])), (mech, .inr (1, [.ref mecha, .int mechz])), (mecha, .inl (cI, mechn, .inl mechf))] H := hP
  have hD : va_D A [(o, .inr (5, [.ref me, .ref t, .ref se])), (me, .inr (2, [.ref mech, .int mebells, .int mebob, .int mesng])), (mech, .inr (1, [.ref mecha, .int mechz])), (mecha, .inl (cI, mechn, .inl mechf))] := hD
  obtain ⟨r4, hC5, hF⟩ := gd_b hF
  refine ct_callS (As := [.int p0, .int r1]) (rest := []) ⟨hx, hb, hml, hown, hts⟩ (kX3_packed l dC dI tys cI ht0 p0 r1 r4 hC5) (va_cwS 2 hts gX6_packedOrRefused_X3_packed rfl rfl rfl (by decide +kernel) ⟨Nat.le_of_ble_eq_true rfl, Nat.le_of_ble_eq_true rfl⟩) hE hK hP hD hS hA [] [0, 1, 2, 3] (by decide) rfl (by decide) (wr := [(o, .inr (5, [.ref me, .ref t, .ref se])), (me, .inr (2, [.ref mech, .int mebells, .int mebob, .int mesng])), (mech, .inr (1, [.ref mecha, .int mechz])), (mecha, .inl (cI, mechn, .inl mechf))]) rfl (by decide) hl.1 rfl rfl (Nat.le_of_ble_eq_true rfl) dX6_packedOrRefused_8 ⟨(Nat.le_of_ble_eq_true rfl), (Nat.le_of_ble_eq_true rfl)⟩ (fun i6 H locs hP hD hS => ?_)
  have hP : va_P (dC, dI) vwCl [(o, .inr (5, [.ref me, .ref t, .ref se])), (me, .inr (2, [.ref mech, .int mebells, .int mebob, .int mesng])), (mech, .inr (1, [.ref mecha, .int mechz])), (mecha, .inl (cI, mechn, .inl mechf))] H := hP
  have hD : va_D A [(o, .inr (5, [.ref me, .ref t, .ref se])), (me, .inr (2, [.ref mech, .int mebells, .int mebob, .int mesng])), (mech, .inr (1, [.ref mecha, .int mechz])), (mecha, .inl (cI, mechn, .inl mechf))] := hD
  refine lv_istore_n (lv' := [(2, .int r4), (0, .ref o), (1, .int p0)]) hx hb dX6_packedOrRefused_11 rfl hl (by decide) rfl (fun ls hl => ?_)
  refine lv_iload_n hx hb dX6_packedOrRefused_12 rfl (lv_at hl 0 rfl) ?_
  refine lv_iconst (v := (-1 : Int32)) hx hb dX6_packedOrRefused_13 (by decide) ?_
  refine lv_icmp_ne (tgt := 27) hx hb dX6_packedOrRefused_14 (by decide) (fun c7 => ?_) (fun c7 => ?_)
  · have hF := (if_neg c7).symm.trans hF
    refine lv_iload_n hx hb dX6_packedOrRefused_27 rfl (lv_at hl 0 rfl) ?_
    obtain rfl := Option.some.inj hF
    exact cx_ret rfl (ct_i hx hb hr hlocks hK hP hD hS () rfl [0, 1, 2, 3] (by decide) rfl (Nat.le_of_ble_eq_true rfl) (Nat.le_of_ble_eq_true rfl) dX6_packedOrRefused_28)
  · have hF := (if_pos c7).symm.trans hF
    obtain rfl := Option.some.inj hF
    exact cx_throw (names := ["java/lang/RuntimeException", "java/lang/Exception"]) (text := "no row") hx hb hl0 hown (by decide) (by decide) w2 w3 hE (List.mem_of_getElem? (i := 5) rfl) (fun w h => hts w (List.mem_cons_of_mem _ (List.mem_append_right _ h))) (by decide +kernel) (by decide +kernel) hZ hK hP hD hS (hl.1.trans hml.symm) dX6_packedOrRefused_17 dX6_packedOrRefused_20 dX6_packedOrRefused_21 dX6_packedOrRefused_23 dX6_packedOrRefused_26 htb (Nat.le_of_ble_eq_true rfl) (Nat.le_of_ble_eq_true rfl) (Nat.le_of_ble_eq_true rfl) (Nat.le_of_ble_eq_true rfl) hlocks rfl () [0, 1, 2, 3] (by decide) rfl (Nat.le_of_ble_eq_true rfl) (Nat.le_of_ble_eq_true rfl)

def fX6_numberOf (mebells : Int32) (p0 : Int32) : Option Int32 := (fX2_bells mebells).bind (fun r1 => (fX3_number p0 r1).bind (fun r4 => some (r4)))
abbrev rmX6_numberOf : Room := { frames := 2, cells := 0, slots := 0, locals := 44 }
set_option maxHeartbeats 4000000 in
set_option maxRecDepth 100000 in
theorem kX6_numberOf (l : Launch) (dC : Nat → ClassId) (dI : Nat → Nat → Nat) (tys : List (ClassId × FieldType)) (cI : ClassId) (ht0 : tys[0]? = some (cI, .int)) (o me t se mech mecha : Nat) (mebells : Int32) (mebob : Int32) (mesng : Int32) (mechz : Int32) (mechn : Nat) (mechf : (Nat → Int32)) (p0 : Int32) (r : Int32) (hF : fX6_numberOf mebells p0 = some r) : ct l (dC, dI) tys yX6_numberOf wsX6_numberOf rmX6_numberOf [.ref o, .int p0] [(o, .inr (5, [.ref me, .ref t, .ref se])), (me, .inr (2, [.ref mech, .int mebells, .int mebob, .int mesng])), (mech, .inr (1, [.ref mecha, .int mechz])), (mecha, .inl (cI, mechn, .inl mechf))] (fun _ : Unit => some (.int r)) (fun _ : Unit => [(o, .inr (5, [.ref me, .ref t, .ref se])), (me, .inr (2, [.ref mech, .int mebells, .int mebob, .int mesng])), (mech, .inr (1, [.ref mecha, .int mechz])), (mecha, .inl (cI, mechn, .inl mechf))]) := by
  refine ct_of (cc := cX6_numberOf) (maxL := 2) (ret := (some .int)) (by decide) rfl (Nat.le_of_ble_eq_true rfl) ?_
  intro p e s m below meth c A ls hx hb hr hml hts hown hlocks hname hE hK hP hD hA hS hl
  have hown : s.vm.findClass RX6 = some m.cls := hown
  have hl : lv_has ls 2 [(0, .ref o), (1, .int p0)] := hl
  unfold fX6_numberOf at hF
  have uX6 : ∀ w ∈ wsX60, w ∈ wsX6_numberOf := (fun _ h => (List.mem_cons_of_mem _ (List.mem_append_left _ (List.mem_append_right _ h))))
  have w1 := hts (.fieldLink RX6 10 "BellfounderTower" "method" "LBellfounderTower$Method;") (List.mem_cons_of_mem _ (List.mem_append_left _ (List.mem_append_left _ (List.mem_of_getElem? (i := 0) rfl))))
  refine lv_iload_n hx hb dX6_numberOf_0 rfl (lv_at hl 1 rfl) ?_
  refine lv_aload_n hx hb dX6_numberOf_1 rfl (lv_at hl 0 rfl) ?_
  refine va_get (D := (dC, dI)) (ci := 5) (v := .ref me) (C := RX6) (T := TX6) (N := 3) hx hb hts uX6 hown hK hP 0 rfl rfl 0 (by decide) w1 (fun _ h9 => h9) rfl dX6_numberOf_2 ?_
  obtain ⟨r1, hC2, hF⟩ := gd_b hF
  refine ct_callV (C := RX2) (As := []) (rest := [.int p0]) ⟨hx, hb, hml, hown, hts⟩ (kX2_bells l dC dI tys cI ht0 me mech mecha mebells mebob mesng mechz mechn mechf r1 hC2) (cwV 0 hts gX6_numberOf_X2_bells rfl rfl rfl (by decide +kernel) ⟨Nat.le_of_ble_eq_true rfl, Nat.le_of_ble_eq_true rfl⟩) hE hK hP hD hS hA [1, 2, 3] [0] (by decide) rfl (by decide) (wr := [(o, .inr (5, [.ref me, .ref t, .ref se]))]) rfl (by decide) (ci := 2) (T := TX2) (N := 4) (q0 := 0) rfl rfl hl.1 rfl rfl (Nat.le_of_ble_eq_true rfl) dX6_numberOf_5 ⟨(Nat.le_of_ble_eq_true rfl), (Nat.le_of_ble_eq_true rfl)⟩ (fun i3 H locs hP hD hS => ?_)
  have hP : va_P (dC, dI) vwCl [(o, .inr (5, [.ref me, .ref t, .ref se])), (me, .inr (2, [.ref mech, .int mebells, .int mebob, .int mesng])), (mech, .inr (1, [.ref mecha, .int mechz])), (mecha, .inl (cI, mechn, .inl mechf))] H := hP
  have hD : va_D A [(o, .inr (5, [.ref me, .ref t, .ref se])), (me, .inr (2, [.ref mech, .int mebells, .int mebob, .int mesng])), (mech, .inr (1, [.ref mecha, .int mechz])), (mecha, .inl (cI, mechn, .inl mechf))] := hD
  obtain ⟨r4, hC5, hF⟩ := gd_b hF
  refine ct_callS (As := [.int p0, .int r1]) (rest := []) ⟨hx, hb, hml, hown, hts⟩ (kX3_number l dC dI tys cI ht0 p0 r1 r4 hC5) (va_cwS 2 hts gX6_numberOf_X3_number rfl rfl rfl (by decide +kernel) ⟨Nat.le_of_ble_eq_true rfl, Nat.le_of_ble_eq_true rfl⟩) hE hK hP hD hS hA [] [0, 1, 2, 3] (by decide) rfl (by decide) (wr := [(o, .inr (5, [.ref me, .ref t, .ref se])), (me, .inr (2, [.ref mech, .int mebells, .int mebob, .int mesng])), (mech, .inr (1, [.ref mecha, .int mechz])), (mecha, .inl (cI, mechn, .inl mechf))]) rfl (by decide) hl.1 rfl rfl (Nat.le_of_ble_eq_true rfl) dX6_numberOf_8 ⟨(Nat.le_of_ble_eq_true rfl), (Nat.le_of_ble_eq_true rfl)⟩ (fun i6 H locs hP hD hS => ?_)
  have hP : va_P (dC, dI) vwCl [(o, .inr (5, [.ref me, .ref t, .ref se])), (me, .inr (2, [.ref mech, .int mebells, .int mebob, .int mesng])), (mech, .inr (1, [.ref mecha, .int mechz])), (mecha, .inl (cI, mechn, .inl mechf))] H := hP
  have hD : va_D A [(o, .inr (5, [.ref me, .ref t, .ref se])), (me, .inr (2, [.ref mech, .int mebells, .int mebob, .int mesng])), (mech, .inr (1, [.ref mecha, .int mechz])), (mecha, .inl (cI, mechn, .inl mechf))] := hD
  obtain rfl := Option.some.inj hF
  exact ct_i hx hb hr hlocks hK hP hD hS () rfl [0, 1, 2, 3] (by decide) rfl (Nat.le_of_ble_eq_true rfl) (Nat.le_of_ble_eq_true rfl) dX6_numberOf_11
