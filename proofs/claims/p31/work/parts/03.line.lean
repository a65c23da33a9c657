def fX1_size (oz : Int32) : Option Int32 := some (oz)
abbrev rmX1_size : Room := { frames := 0, cells := 0, slots := 0, locals := 0 }
set_option maxHeartbeats 4000000 in
set_option maxRecDepth 100000 in
theorem kX1_size (l : Launch) (dC : Nat → ClassId) (dI : Nat → Nat → Nat) (tys : List (ClassId × FieldType)) (cI : ClassId) (ht0 : tys[0]? = some (cI, .int)) (o oa : Nat) (oz : Int32) (on : Nat) (of : (Nat → Int32)) (r : Int32) (hF : fX1_size oz = some r) : ct l (dC, dI) tys yX1_size wsX1_size rmX1_size [.ref o] [(o, .inr (1, [.ref oa, .int oz])), (oa, .inl (cI, on, .inl of))] (fun _ : Unit => some (.int r)) (fun _ : Unit => [(o, .inr (1, [.ref oa, .int oz])), (oa, .inl (cI, on, .inl of))]) := by
  refine ct_of (cc := cX1_size) (maxL := 1) (ret := (some .int)) (by decide) rfl (Nat.le_of_ble_eq_true rfl) ?_
  intro p e s m below meth c A ls hx hb hr hml hts hown hlocks hname hE hK hP hD hA hS hl
  have hown : s.vm.findClass RX1 = some m.cls := hown
  have hl : lv_has ls 1 [(0, .ref o)] := hl
  unfold fX1_size at hF
  have uX1 : ∀ w ∈ wsX10, w ∈ wsX1_size := (fun _ h => (List.mem_cons_of_mem _ (List.mem_append_right _ h)))
  have w1 := hts (.fieldLink RX1 21 "BellfounderTower$Line" "size" "I") (List.mem_cons_of_mem _ (List.mem_append_left _ (List.mem_of_getElem? (i := 0) rfl)))
  refine lv_aload_n hx hb dX1_size_0 rfl (lv_at hl 0 rfl) ?_
  refine va_get (D := (dC, dI)) (ci := 1) (v := .int oz) (C := RX1) (T := TX1) (N := 2) hx hb hts uX1 hown hK hP 0 rfl rfl 1 (by decide) w1 (fun _ h9 => h9) rfl dX1_size_1 ?_
  obtain rfl := Option.some.inj hF
  exact ct_i hx hb hr hlocks hK hP hD hS () rfl [0, 1] (by decide) rfl (Nat.le_of_ble_eq_true rfl) (Nat.le_of_ble_eq_true rfl) dX1_size_4

def fX1_get (oz : Int32) (on : Nat) (of : (Nat → Int32)) (p0 : Int32) : Option Int32 := if p0 < 0 then (some ((-1 : Int32))) else (if oz ≤ p0 then (some ((-1 : Int32))) else (if (Int32.ofNat on) ≤ p0 then (some ((-1 : Int32))) else (if (p0 < 0 ∨ on ≤ p0.toNatClampNeg) then none else (some (of p0.toNatClampNeg)))))
abbrev rmX1_get : Room := { frames := 0, cells := 0, slots := 0, locals := 0 }
set_option maxHeartbeats 4000000 in
set_option maxRecDepth 100000 in
theorem kX1_get (l : Launch) (dC : Nat → ClassId) (dI : Nat → Nat → Nat) (tys : List (ClassId × FieldType)) (cI : ClassId) (ht0 : tys[0]? = some (cI, .int)) (o oa : Nat) (oz : Int32) (on : Nat) (of : (Nat → Int32)) (p0 : Int32) (r : Int32) (hF : fX1_get oz on of p0 = some r) : ct l (dC, dI) tys yX1_get wsX1_get rmX1_get [.ref o, .int p0] [(o, .inr (1, [.ref oa, .int oz])), (oa, .inl (cI, on, .inl of))] (fun _ : Unit => some (.int r)) (fun _ : Unit => [(o, .inr (1, [.ref oa, .int oz])), (oa, .inl (cI, on, .inl of))]) := by
  refine ct_of (cc := cX1_get) (maxL := 2) (ret := (some .int)) (by decide) rfl (Nat.le_of_ble_eq_true rfl) ?_
  intro p e s m below meth c A ls hx hb hr hml hts hown hlocks hname hE hK hP hD hA hS hl
  have hown : s.vm.findClass RX1 = some m.cls := hown
  have hl : lv_has ls 2 [(0, .ref o), (1, .int p0)] := hl
  unfold fX1_get at hF
  have uX1 : ∀ w ∈ wsX10, w ∈ wsX1_get := (fun _ h => (List.mem_cons_of_mem _ (List.mem_append_right _ h)))
  have w1 := hts (.fieldLink RX1 21 "BellfounderTower$Line" "size" "I") (List.mem_cons_of_mem _ (List.mem_append_left _ (List.mem_of_getElem? (i := 0) rfl)))
  have w2 := hts (.fieldLink RX1 15 "BellfounderTower$Line" "cells" "[I") (List.mem_cons_of_mem _ (List.mem_append_left _ (List.mem_of_getElem? (i := 1) rfl)))
  refine lv_iload_n hx hb dX1_get_0 rfl (lv_at hl 1 rfl) ?_
  refine lv_if_lt (tgt := 30) hx hb dX1_get_1 (by decide) (fun c1 => ?_) (fun c1 => ?_)
  · have hF := (if_pos c1).symm.trans hF
    refine lv_iconst (v := (-1 : Int32)) hx hb dX1_get_30 (by decide) ?_
    obtain rfl := Option.some.inj hF
    exact ct_i hx hb hr hlocks hK hP hD hS () rfl [0, 1] (by decide) rfl (Nat.le_of_ble_eq_true rfl) (Nat.le_of_ble_eq_true rfl) dX1_get_31
  · have hF := (if_neg c1).symm.trans hF
    refine lv_iload_n hx hb dX1_get_4 rfl (lv_at hl 1 rfl) ?_
    refine lv_aload_n hx hb dX1_get_5 rfl (lv_at hl 0 rfl) ?_
    refine va_get (D := (dC, dI)) (ci := 1) (v := .int oz) (C := RX1) (T := TX1) (N := 2) hx hb hts uX1 hown hK hP 0 rfl rfl 1 (by decide) w1 (fun _ h9 => h9) rfl dX1_get_6 ?_
    refine lv_icmp_ge (tgt := 30) hx hb dX1_get_9 (by decide) (fun c2 => ?_) (fun c2 => ?_)
    · have hF := (if_pos c2).symm.trans hF
      refine lv_iconst (v := (-1 : Int32)) hx hb dX1_get_30 (by decide) ?_
      obtain rfl := Option.some.inj hF
      exact ct_i hx hb hr hlocks hK hP hD hS () rfl [0, 1] (by decide) rfl (Nat.le_of_ble_eq_true rfl) (Nat.le_of_ble_eq_true rfl) dX1_get_31
    · have hF := (if_neg c2).symm.trans hF
      refine lv_iload_n hx hb dX1_get_12 rfl (lv_at hl 1 rfl) ?_
      refine lv_aload_n hx hb dX1_get_13 rfl (lv_at hl 0 rfl) ?_
      refine va_get (D := (dC, dI)) (ci := 1) (v := .ref oa) (C := RX1) (T := TX1) (N := 2) hx hb hts uX1 hown hK hP 0 rfl rfl 0 (by decide) w2 (fun _ h9 => h9) rfl dX1_get_14 ?_
      refine va_alen hx hb hK hP 1 0 rfl ht0 (v := Int32.ofNat on) rfl dX1_get_17 ?_
      refine lv_icmp_ge (tgt := 30) hx hb dX1_get_18 (by decide) (fun c3 => ?_) (fun c3 => ?_)
      · have hF := (if_pos c3).symm.trans hF
        refine lv_iconst (v := (-1 : Int32)) hx hb dX1_get_30 (by decide) ?_
        obtain rfl := Option.some.inj hF
        exact ct_i hx hb hr hlocks hK hP hD hS () rfl [0, 1] (by decide) rfl (Nat.le_of_ble_eq_true rfl) (Nat.le_of_ble_eq_true rfl) dX1_get_31
      · have hF := (if_neg c3).symm.trans hF
        refine lv_aload_n hx hb dX1_get_21 rfl (lv_at hl 0 rfl) ?_
        refine va_get (D := (dC, dI)) (ci := 1) (v := .ref oa) (C := RX1) (T := TX1) (N := 2) hx hb hts uX1 hown hK hP 0 rfl rfl 0 (by decide) w2 (fun _ h9 => h9) rfl dX1_get_22 ?_
        refine lv_iload_n hx hb dX1_get_25 rfl (lv_at hl 1 rfl) ?_
        obtain ⟨g4, hF⟩ := gd_n hF
        refine va_iald hx hb hK hP 1 0 rfl ht0 g4 dX1_get_26 ?_
        refine lv_goto (tgt := 31) hx hb dX1_get_27 (by decide) ?_
        obtain rfl := Option.some.inj hF
        exact ct_i hx hb hr hlocks hK hP hD hS () rfl [0, 1] (by decide) rfl (Nat.le_of_ble_eq_true rfl) (Nat.le_of_ble_eq_true rfl) dX1_get_31

def fX1_add (oz : Int32) (on : Nat) (of : (Nat → Int32)) (p0 : Int32) : Option (Int32 × (Nat → Int32)) := if oz < 0 then (some (oz, of)) else (if (Int32.ofNat on) ≤ oz then (some (oz, of)) else (if (oz < 0 ∨ on ≤ oz.toNatClampNeg) then none else (some ((oz + (1 : Int32)), (upd of oz.toNatClampNeg p0)))))
abbrev rmX1_add : Room := { frames := 0, cells := 0, slots := 0, locals := 0 }
set_option maxHeartbeats 4000000 in
set_option maxRecDepth 100000 in
theorem kX1_add (l : Launch) (dC : Nat → ClassId) (dI : Nat → Nat → Nat) (tys : List (ClassId × FieldType)) (cI : ClassId) (ht0 : tys[0]? = some (cI, .int)) (o oa : Nat) (oz : Int32) (on : Nat) (of : (Nat → Int32)) (p0 : Int32) (r : (Int32 × (Nat → Int32))) (hF : fX1_add oz on of p0 = some r) : ct l (dC, dI) tys yX1_add wsX1_add rmX1_add [.ref o, .int p0] [(o, .inr (1, [.ref oa, .int oz])), (oa, .inl (cI, on, .inl of))] (fun _ : Unit => none) (fun _ : Unit => [(o, .inr (1, [.ref oa, .int r.1])), (oa, .inl (cI, on, .inl r.2))]) := by
  refine ct_of (cc := cX1_add) (maxL := 2) (ret := none) (by decide) rfl (Nat.le_of_ble_eq_true rfl) ?_
  intro p e s m below meth c A ls hx hb hr hml hts hown hlocks hname hE hK hP hD hA hS hl
  have hown : s.vm.findClass RX1 = some m.cls := hown
  have hl : lv_has ls 2 [(0, .ref o), (1, .int p0)] := hl
  unfold fX1_add at hF
  have uX1 : ∀ w ∈ wsX10, w ∈ wsX1_add := (fun _ h => (List.mem_cons_of_mem _ (List.mem_append_right _ h)))
  have w1 := hts (.fieldLink RX1 21 "BellfounderTower$Line" "size" "I") (List.mem_cons_of_mem _ (List.mem_append_left _ (List.mem_of_getElem? (i := 0) rfl)))
  have w2 := hts (.fieldLink RX1 15 "BellfounderTower$Line" "cells" "[I") (List.mem_cons_of_mem _ (List.mem_append_left _ (List.mem_of_getElem? (i := 1) rfl)))
  refine lv_aload_n hx hb dX1_add_0 rfl (lv_at hl 0 rfl) ?_
  refine va_get (D := (dC, dI)) (ci := 1) (v := .int oz) (C := RX1) (T := TX1) (N := 2) hx hb hts uX1 hown hK hP 0 rfl rfl 1 (by decide) w1 (fun _ h9 => h9) rfl dX1_add_1 ?_
  refine lv_if_lt (tgt := 39) hx hb dX1_add_4 (by decide) (fun c1 => ?_) (fun c1 => ?_)
  · have hF := (if_pos c1).symm.trans hF
    obtain rfl := Option.some.inj hF
    exact ct_v hx hb hr hlocks hK hP hD hS () rfl [0, 1] (by decide) rfl (Nat.le_of_ble_eq_true rfl) (Nat.le_of_ble_eq_true rfl) dX1_add_39
  · have hF := (if_neg c1).symm.trans hF
    refine lv_aload_n hx hb dX1_add_7 rfl (lv_at hl 0 rfl) ?_
    refine va_get (D := (dC, dI)) (ci := 1) (v := .int oz) (C := RX1) (T := TX1) (N := 2) hx hb hts uX1 hown hK hP 0 rfl rfl 1 (by decide) w1 (fun _ h9 => h9) rfl dX1_add_8 ?_
    refine lv_aload_n hx hb dX1_add_11 rfl (lv_at hl 0 rfl) ?_
    refine va_get (D := (dC, dI)) (ci := 1) (v := .ref oa) (C := RX1) (T := TX1) (N := 2) hx hb hts uX1 hown hK hP 0 rfl rfl 0 (by decide) w2 (fun _ h9 => h9) rfl dX1_add_12 ?_
    refine va_alen hx hb hK hP 1 0 rfl ht0 (v := Int32.ofNat on) rfl dX1_add_15 ?_
    refine lv_icmp_ge (tgt := 39) hx hb dX1_add_16 (by decide) (fun c2 => ?_) (fun c2 => ?_)
    · have hF := (if_pos c2).symm.trans hF
      obtain rfl := Option.some.inj hF
      exact ct_v hx hb hr hlocks hK hP hD hS () rfl [0, 1] (by decide) rfl (Nat.le_of_ble_eq_true rfl) (Nat.le_of_ble_eq_true rfl) dX1_add_39
    · have hF := (if_neg c2).symm.trans hF
      refine lv_aload_n hx hb dX1_add_19 rfl (lv_at hl 0 rfl) ?_
      refine va_get (D := (dC, dI)) (ci := 1) (v := .ref oa) (C := RX1) (T := TX1) (N := 2) hx hb hts uX1 hown hK hP 0 rfl rfl 0 (by decide) w2 (fun _ h9 => h9) rfl dX1_add_20 ?_
      refine lv_aload_n hx hb dX1_add_23 rfl (lv_at hl 0 rfl) ?_
      refine va_get (D := (dC, dI)) (ci := 1) (v := .int oz) (C := RX1) (T := TX1) (N := 2) hx hb hts uX1 hown hK hP 0 rfl rfl 1 (by decide) w1 (fun _ h9 => h9) rfl dX1_add_24 ?_
      refine lv_iload_n hx hb dX1_add_27 rfl (lv_at hl 1 rfl) ?_
      obtain ⟨g3, hF⟩ := gd_n hF
      refine va_iast hx hb hK hP hD hS 1 0 rfl ht0 g3 dX1_add_28 (fun H locs hP hD hS => ?_)
      have hP : va_P (dC, dI) vwCl [(o, .inr (1, [.ref oa, .int oz])), (oa, .inl (cI, on, .inl (upd of oz.toNatClampNeg p0)))] H := hP
      have hD : va_D A [(o, .inr (1, [.ref oa, .int oz])), (oa, .inl (cI, on, .inl (upd of oz.toNatClampNeg p0)))] := hD
      refine lv_aload_n hx hb dX1_add_29 rfl (lv_at hl 0 rfl) ?_
      refine lv_dup hx hb dX1_add_30 rfl ?_
      refine va_get (D := (dC, dI)) (ci := 1) (v := .int oz) (C := RX1) (T := TX1) (N := 2) hx hb hts uX1 hown hK hP 0 rfl rfl 1 (by decide) w1 (fun _ h9 => h9) rfl dX1_add_31 ?_
      refine lv_iconst (v := (1 : Int32)) hx hb dX1_add_34 (by decide) ?_
      refine lv_iadd hx hb dX1_add_35 ?_
      refine va_put (D := (dC, dI)) (ci := 1) (v := .int (oz + (1 : Int32))) (ty := .int) (C := RX1) (T := TX1) (N := 2) hx hb hts uX1 tyX1 tyX1_ok nmX1 hown hK hP hD hS 0 rfl rfl 1 (by decide) w1 (fun _ h9 => h9) rfl (by decide +kernel) rfl rfl (Nat.le_of_ble_eq_true rfl) dX1_add_36 (fun H locs hP hD hS => ?_)
      have hP : va_P (dC, dI) vwCl [(o, .inr (1, [.ref oa, .int (oz + (1 : Int32))])), (oa, .inl (cI, on, .inl (upd of oz.toNatClampNeg p0)))] H := hP
      have hD : va_D A [(o, .inr (1, [.ref oa, .int (oz + (1 : Int32))])), (oa, .inl (cI, on, .inl (upd of oz.toNatClampNeg p0)))] := hD
      obtain rfl := Option.some.inj hF
      exact ct_v hx hb hr hlocks hK hP hD hS () rfl [0, 1] (by decide) rfl (Nat.le_of_ble_eq_true rfl) (Nat.le_of_ble_eq_true rfl) dX1_add_39

def fX1_removeLast (oz : Int32) (on : Nat) (of : (Nat → Int32)) : Option (Int32 × Int32) := (fX1_get oz on of (oz - (1 : Int32))).bind (fun r1 => if oz ≤ 0 then (some (r1, oz)) else (some (r1, (oz - (1 : Int32)))))
abbrev rmX1_removeLast : Room := { frames := 1, cells := 0, slots := 0, locals := 21 }
set_option maxHeartbeats 4000000 in
set_option maxRecDepth 100000 in
theorem kX1_removeLast (l : Launch) (dC : Nat → ClassId) (dI : Nat → Nat → Nat) (tys : List (ClassId × FieldType)) (cI : ClassId) (ht0 : tys[0]? = some (cI, .int)) (o oa : Nat) (oz : Int32) (on : Nat) (of : (Nat → Int32)) (r : (Int32 × Int32)) (hF : fX1_removeLast oz on of = some r) : ct l (dC, dI) tys yX1_removeLast wsX1_removeLast rmX1_removeLast [.ref o] [(o, .inr (1, [.ref oa, .int oz])), (oa, .inl (cI, on, .inl of))] (fun _ : Unit => some (.int r.1)) (fun _ : Unit => [(o, .inr (1, [.ref oa, .int r.2])), (oa, .inl (cI, on, .inl of))]) := by
  refine ct_of (cc := cX1_removeLast) (maxL := 2) (ret := (some .int)) (by decide) rfl (Nat.le_of_ble_eq_true rfl) ?_
  intro p e s m below meth c A ls hx hb hr hml hts hown hlocks hname hE hK hP hD hA hS hl
  have hown : s.vm.findClass RX1 = some m.cls := hown
  have hl : lv_has ls 2 [(0, .ref o)] := hl
  unfold fX1_removeLast at hF
  have uX1 : ∀ w ∈ wsX10, w ∈ wsX1_removeLast := (fun _ h => (List.mem_cons_of_mem _ (List.mem_append_right _ h)))
  have w1 := hts (.fieldLink RX1 21 "BellfounderTower$Line" "size" "I") (List.mem_cons_of_mem _ (List.mem_append_left _ (List.mem_of_getElem? (i := 0) rfl)))
  refine lv_aload_n hx hb dX1_removeLast_0 rfl (lv_at hl 0 rfl) ?_
  refine lv_aload_n hx hb dX1_removeLast_1 rfl (lv_at hl 0 rfl) ?_
  refine va_get (D := (dC, dI)) (ci := 1) (v := .int oz) (C := RX1) (T := TX1) (N := 2) hx hb hts uX1 hown hK hP 0 rfl rfl 1 (by decide) w1 (fun _ h9 => h9) rfl dX1_removeLast_2 ?_
  refine lv_iconst (v := (1 : Int32)) hx hb dX1_removeLast_5 (by decide) ?_
  refine lv_isub hx hb dX1_removeLast_6 ?_
  obtain ⟨r1, hC2, hF⟩ := gd_b hF
  refine ct_callV (C := RX1) (As := [.int (oz - (1 : Int32))]) (rest := []) ⟨hx, hb, hml, hown, hts⟩ (kX1_get l dC dI tys cI ht0 o oa oz on of (oz - (1 : Int32)) r1 hC2) (cwV 1 hts gX1_removeLast_X1_get rfl rfl rfl (by decide +kernel) ⟨Nat.le_of_ble_eq_true rfl, Nat.le_of_ble_eq_true rfl⟩) hE hK hP hD hS hA [0, 1] [] (by decide) rfl (by decide) (wr := []) rfl (by decide) (ci := 1) (T := TX1) (N := 2) (q0 := 0) rfl rfl hl.1 rfl rfl (Nat.le_of_ble_eq_true rfl) dX1_removeLast_7 ⟨(Nat.le_of_ble_eq_true rfl), (Nat.le_of_ble_eq_true rfl)⟩ (fun i3 H locs hP hD hS => ?_)
  have hP : va_P (dC, dI) vwCl [(o, .inr (1, [.ref oa, .int oz])), (oa, .inl (cI, on, .inl of))] H := hP
  have hD : va_D A [(o, .inr (1, [.ref oa, .int oz])), (oa, .inl (cI, on, .inl of))] := hD
  refine lv_istore_n (lv' := [(1, .int r1), (0, .ref o)]) hx hb dX1_removeLast_10 rfl hl (by decide) rfl (fun ls hl => ?_)
  refine lv_aload_n hx hb dX1_removeLast_11 rfl (lv_at hl 1 rfl) ?_
  refine va_get (D := (dC, dI)) (ci := 1) (v := .int oz) (C := RX1) (T := TX1) (N := 2) hx hb hts uX1 hown hK hP 0 rfl rfl 1 (by decide) w1 (fun _ h9 => h9) rfl dX1_removeLast_12 ?_
  refine lv_if_le (tgt := 28) hx hb dX1_removeLast_15 (by decide) (fun c4 => ?_) (fun c4 => ?_)
  · have hF := (if_pos c4).symm.trans hF
    refine lv_iload_n hx hb dX1_removeLast_28 rfl (lv_at hl 0 rfl) ?_
    obtain rfl := Option.some.inj hF
    exact ct_i hx hb hr hlocks hK hP hD hS () rfl [0, 1] (by decide) rfl (Nat.le_of_ble_eq_true rfl) (Nat.le_of_ble_eq_true rfl) dX1_removeLast_29
  · have hF := (if_neg c4).symm.trans hF
    refine lv_aload_n hx hb dX1_removeLast_18 rfl (lv_at hl 1 rfl) ?_
    refine lv_dup hx hb dX1_removeLast_19 rfl ?_
    refine va_get (D := (dC, dI)) (ci := 1) (v := .int oz) (C := RX1) (T := TX1) (N := 2) hx hb hts uX1 hown hK hP 0 rfl rfl 1 (by decide) w1 (fun _ h9 => h9) rfl dX1_removeLast_20 ?_
    refine lv_iconst (v := (1 : Int32)) hx hb dX1_removeLast_23 (by decide) ?_
    refine lv_isub hx hb dX1_removeLast_24 ?_
    refine va_put (D := (dC, dI)) (ci := 1) (v := .int (oz - (1 : Int32))) (ty := .int) (C := RX1) (T := TX1) (N := 2) hx hb hts uX1 tyX1 tyX1_ok nmX1 hown hK hP hD hS 0 rfl rfl 1 (by decide) w1 (fun _ h9 => h9) rfl (by decide +kernel) rfl rfl (Nat.le_of_ble_eq_true rfl) dX1_removeLast_25 (fun H locs hP hD hS => ?_)
    have hP : va_P (dC, dI) vwCl [(o, .inr (1, [.ref oa, .int (oz - (1 : Int32))])), (oa, .inl (cI, on, .inl of))] H := hP
    have hD : va_D A [(o, .inr (1, [.ref oa, .int (oz - (1 : Int32))])), (oa, .inl (cI, on, .inl of))] := hD
    refine lv_iload_n hx hb dX1_removeLast_28 rfl (lv_at hl 0 rfl) ?_
    obtain rfl := Option.some.inj hF
    exact ct_i hx hb hr hlocks hK hP hD hS () rfl [0, 1] (by decide) rfl (Nat.le_of_ble_eq_true rfl) (Nat.le_of_ble_eq_true rfl) dX1_removeLast_29

def fX1_clear  : Option Unit := some ()
abbrev rmX1_clear : Room := { frames := 0, cells := 0, slots := 0, locals := 0 }
set_option maxHeartbeats 4000000 in
set_option maxRecDepth 100000 in
theorem kX1_clear (l : Launch) (dC : Nat → ClassId) (dI : Nat → Nat → Nat) (tys : List (ClassId × FieldType)) (cI : ClassId) (ht0 : tys[0]? = some (cI, .int)) (o oa : Nat) (oz : Int32) (on : Nat) (of : (Nat → Int32)) (r : Unit) (hF : fX1_clear  = some r) : ct l (dC, dI) tys yX1_clear wsX1_clear rmX1_clear [.ref o] [(o, .inr (1, [.ref oa, .int oz])), (oa, .inl (cI, on, .inl of))] (fun _ : Unit => none) (fun _ : Unit => [(o, .inr (1, [.ref oa, .int (0 : Int32)])), (oa, .inl (cI, on, .inl of))]) := by
  refine ct_of (cc := cX1_clear) (maxL := 1) (ret := none) (by decide) rfl (Nat.le_of_ble_eq_true rfl) ?_
  intro p e s m below meth c A ls hx hb hr hml hts hown hlocks hname hE hK hP hD hA hS hl
  have hown : s.vm.findClass RX1 = some m.cls := hown
  have hl : lv_has ls 1 [(0, .ref o)] := hl
  unfold fX1_clear at hF
  have uX1 : ∀ w ∈ wsX10, w ∈ wsX1_clear := (fun _ h => (List.mem_cons_of_mem _ (List.mem_append_right _ h)))
  have w1 := hts (.fieldLink RX1 21 "BellfounderTower$Line" "size" "I") (List.mem_cons_of_mem _ (List.mem_append_left _ (List.mem_of_getElem? (i := 0) rfl)))
  refine lv_aload_n hx hb dX1_clear_0 rfl (lv_at hl 0 rfl) ?_
  refine lv_iconst (v := (0 : Int32)) hx hb dX1_clear_1 (by decide) ?_
  refine va_put (D := (dC, dI)) (ci := 1) (v := .int (0 : Int32)) (ty := .int) (C := RX1) (T := TX1) (N := 2) hx hb hts uX1 tyX1 tyX1_ok nmX1 hown hK hP hD hS 0 rfl rfl 1 (by decide) w1 (fun _ h9 => h9) rfl (by decide +kernel) rfl rfl (Nat.le_of_ble_eq_true rfl) dX1_clear_2 (fun H locs hP hD hS => ?_)
  have hP : va_P (dC, dI) vwCl [(o, .inr (1, [.ref oa, .int (0 : Int32)])), (oa, .inl (cI, on, .inl of))] H := hP
  have hD : va_D A [(o, .inr (1, [.ref oa, .int (0 : Int32)])), (oa, .inl (cI, on, .inl of))] := hD
  obtain rfl := Option.some.inj hF
  exact ct_v hx hb hr hlocks hK hP hD hS () rfl [0, 1] (by decide) rfl (Nat.le_of_ble_eq_true rfl) (Nat.le_of_ble_eq_true rfl) dX1_clear_5
