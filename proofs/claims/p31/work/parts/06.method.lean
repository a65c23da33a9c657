def fX2_init  : Option Nat := (fX1_init (14 : Int32)).bind (fun r2 => some (r2))
abbrev rmX2_init : Room := { frames := 2, cells := 2, slots := 338, locals := 42 }
set_option maxHeartbeats 4000000 in
set_option maxRecDepth 100000 in
theorem kX2_init (l : Launch) (dC : Nat → ClassId) (dI : Nat → Nat → Nat) (tys : List (ClassId × FieldType)) (cI : ClassId) (ht0 : tys[0]? = some (cI, .int)) (o : Nat)  (r : Nat) (hF : fX2_init  = some r) : ct l (dC, dI) tys yX2_init wsX2_init rmX2_init [.ref o] [(o, .inr (2, [.null, .int (0 : Int32), .int (0 : Int32), .int (0 : Int32)]))] (fun _ : (Nat × Nat) => none) (fun i : (Nat × Nat) => [(o, .inr (2, [.ref i.1, .int (5 : Int32), .int (31 : Int32), .int (31 : Int32)])), (i.1, .inr (1, [.ref i.2, .int (0 : Int32)])), (i.2, .inl (cI, r, .inl (fun _ => 0)))]) := by
  refine ct_of (cc := cX2_init) (maxL := 1) (ret := none) (by decide) rfl (Nat.le_of_ble_eq_true rfl) ?_
  intro p e s m below meth c A ls hx hb hr hml hts hown hlocks hname hE hK hP hD hA hS hl
  have hown : s.vm.findClass RX2 = some m.cls := hown
  have hl : lv_has ls 1 [(0, .ref o)] := hl
  unfold fX2_init at hF
  have w0 := hts (.methodLink RX2 3 objectInit) (List.mem_cons_of_mem _ (List.mem_append_left _ (List.mem_append_left _ (List.mem_of_getElem? (i := 0) rfl))))
  have w1 := hts (.instanceMethod objectInit) (List.mem_cons_of_mem _ (List.mem_append_left _ (List.mem_append_left _ (List.mem_of_getElem? (i := 1) rfl))))
  have w2 := hts (.code objectInit ⟨#[0xb1]⟩ 1 none) (List.mem_cons_of_mem _ (List.mem_append_left _ (List.mem_append_left _ (List.mem_of_getElem? (i := 2) rfl))))
  have uX1 : ∀ w ∈ wsX10, w ∈ wsX2_init := (fun _ h => (List.mem_cons_of_mem _ (List.mem_append_left _ (List.mem_append_right _ h))))
  have w4 := hts (.classLink RX2 9 RX1) (List.mem_cons_of_mem _ (List.mem_append_left _ (List.mem_append_left _ (List.mem_of_getElem? (i := 3) rfl))))
  have w5 := hts (.instantiable RX1 2) (List.mem_cons_of_mem _ (List.mem_append_left _ (List.mem_append_left _ (List.mem_of_getElem? (i := 4) rfl))))
  have w6 := hts (.initialized RX1) (List.mem_cons_of_mem _ (List.mem_append_left _ (List.mem_append_left _ (List.mem_of_getElem? (i := 5) rfl))))
  have w7 := hts (.methodLink RX2 11 yX1_init) (List.mem_cons_of_mem _ (List.mem_append_left _ (List.mem_append_left _ (List.mem_of_getElem? (i := 10) rfl))))
  have w8 := hts (.instanceMethod yX1_init) (List.mem_cons_of_mem _ (List.mem_append_left _ (List.mem_append_left _ (List.mem_of_getElem? (i := 11) rfl))))
  have uX2 : ∀ w ∈ wsX20, w ∈ wsX2_init := (fun _ h => (List.mem_cons_of_mem _ (List.mem_append_right _ h)))
  have w10 := hts (.fieldLink RX2 14 "BellfounderTower$Method" "changes" "LBellfounderTower$Line;") (List.mem_cons_of_mem _ (List.mem_append_left _ (List.mem_append_left _ (List.mem_of_getElem? (i := 6) rfl))))
  have w11 := hts (.fieldLink RX2 20 "BellfounderTower$Method" "bells" "I") (List.mem_cons_of_mem _ (List.mem_append_left _ (List.mem_append_left _ (List.mem_of_getElem? (i := 7) rfl))))
  have w12 := hts (.fieldLink RX2 24 "BellfounderTower$Method" "bob" "I") (List.mem_cons_of_mem _ (List.mem_append_left _ (List.mem_append_left _ (List.mem_of_getElem? (i := 8) rfl))))
  have w13 := hts (.fieldLink RX2 27 "BellfounderTower$Method" "single" "I") (List.mem_cons_of_mem _ (List.mem_append_left _ (List.mem_append_left _ (List.mem_of_getElem? (i := 9) rfl))))
  refine lv_aload_n hx hb dX2_init_0 rfl (lv_at hl 0 rfl) ?_
  refine W.objInit hx hb hown w0 w1 w2 rfl (by rw [hml]; exact hl.1) rfl dX2_init_1 (Nat.le_of_ble_eq_true rfl) (Nat.le_of_ble_eq_true rfl) ?_
  refine W.eq (g2 := F0 m 4 ls []) rfl ?_
  refine lv_aload_n hx hb dX2_init_4 rfl (lv_at hl 0 rfl) ?_
  refine va_new (ci := 1) (fs := [.null, .int (0 : Int32)]) (C := RX1) (T := TX1) (N := 2) hx hb hts uX1 tyX1 tyX1_ok hown w4 w5 w6 hK hP hD hS hA rfl (fun j hj => by rcases (show j = 0 ∨ j = 1 by omega) with rfl | rfl <;> rfl) (Nat.le_of_ble_eq_true rfl) (Nat.le_of_ble_eq_true rfl) dX2_init_5 (fun q1 H hP hD hS => ?_)
  have hP : va_P (dC, dI) vwCl [(o, .inr (2, [.null, .int (0 : Int32), .int (0 : Int32), .int (0 : Int32)])), (q1, .inr (1, [.null, .int (0 : Int32)]))] H := hP
  have hD : va_D A [(o, .inr (2, [.null, .int (0 : Int32), .int (0 : Int32), .int (0 : Int32)])), (q1, .inr (1, [.null, .int (0 : Int32)]))] := hD
  refine lv_dup hx hb dX2_init_8 rfl ?_
  refine lv_bipush (v := (14 : Int32)) hx hb dX2_init_9 (by decide) ?_
  obtain ⟨r2, hC3, hF⟩ := gd_b hF
  refine ct_callI (As := [.int (14 : Int32)]) (rest := [.ref q1, .ref o]) ⟨hx, hb, hml, hown, hts⟩ (kX1_init l dC dI tys cI ht0 q1 (14 : Int32) r2 hC3) (cwI 1 hts gX2_init_X1_init rfl rfl rfl w6 w7 w8 rfl (by decide +kernel) ⟨Nat.le_of_ble_eq_true rfl, Nat.le_of_ble_eq_true rfl⟩) hE hK hP hD hS hA [1] [0] (by decide) rfl (by decide) (wr := [(o, .inr (2, [.null, .int (0 : Int32), .int (0 : Int32), .int (0 : Int32)]))]) rfl (by decide) hl.1 rfl rfl (Nat.le_of_ble_eq_true rfl) dX2_init_11 ⟨(Nat.le_of_ble_eq_true rfl), (Nat.le_of_ble_eq_true rfl)⟩ (fun i4 H locs hP hD hS => ?_)
  have hP : va_P (dC, dI) vwCl [(o, .inr (2, [.null, .int (0 : Int32), .int (0 : Int32), .int (0 : Int32)])), (q1, .inr (1, [.ref i4, .int (0 : Int32)])), (i4, .inl (cI, r2, .inl (fun _ => 0)))] H := hP
  have hD : va_D A [(o, .inr (2, [.null, .int (0 : Int32), .int (0 : Int32), .int (0 : Int32)])), (q1, .inr (1, [.ref i4, .int (0 : Int32)])), (i4, .inl (cI, r2, .inl (fun _ => 0)))] := hD
  refine va_putF (D := (dC, dI)) (ci := 2) (v := .ref q1) (ty := .object "BellfounderTower$Line") (C := RX2) (T := TX2) (N := 4) hx hb hts uX2 tyX2 tyX2_ok nmX2 hown hK hP hD hS 0 rfl rfl 0 (by decide) w10 (fun _ h9 => h9) rfl hname rfl (by decide +kernel) rfl rfl (Nat.le_of_ble_eq_true rfl) dX2_init_14 (fun H locs hP hD hS => ?_)
  have hP : va_P (dC, dI) vwCl [(o, .inr (2, [.ref q1, .int (0 : Int32), .int (0 : Int32), .int (0 : Int32)])), (q1, .inr (1, [.ref i4, .int (0 : Int32)])), (i4, .inl (cI, r2, .inl (fun _ => 0)))] H := hP
  have hD : va_D A [(o, .inr (2, [.ref q1, .int (0 : Int32), .int (0 : Int32), .int (0 : Int32)])), (q1, .inr (1, [.ref i4, .int (0 : Int32)])), (i4, .inl (cI, r2, .inl (fun _ => 0)))] := hD
  refine lv_aload_n hx hb dX2_init_17 rfl (lv_at hl 0 rfl) ?_
  refine lv_iconst (v := (5 : Int32)) hx hb dX2_init_18 (by decide) ?_
  refine va_put (D := (dC, dI)) (ci := 2) (v := .int (5 : Int32)) (ty := .int) (C := RX2) (T := TX2) (N := 4) hx hb hts uX2 tyX2 tyX2_ok nmX2 hown hK hP hD hS 0 rfl rfl 1 (by decide) w11 (fun _ h9 => h9) rfl (by decide +kernel) rfl rfl (Nat.le_of_ble_eq_true rfl) dX2_init_19 (fun H locs hP hD hS => ?_)
  have hP : va_P (dC, dI) vwCl [(o, .inr (2, [.ref q1, .int (5 : Int32), .int (0 : Int32), .int (0 : Int32)])), (q1, .inr (1, [.ref i4, .int (0 : Int32)])), (i4, .inl (cI, r2, .inl (fun _ => 0)))] H := hP
  have hD : va_D A [(o, .inr (2, [.ref q1, .int (5 : Int32), .int (0 : Int32), .int (0 : Int32)])), (q1, .inr (1, [.ref i4, .int (0 : Int32)])), (i4, .inl (cI, r2, .inl (fun _ => 0)))] := hD
  refine lv_aload_n hx hb dX2_init_22 rfl (lv_at hl 0 rfl) ?_
  refine lv_bipush (v := (31 : Int32)) hx hb dX2_init_23 (by decide) ?_
  refine va_put (D := (dC, dI)) (ci := 2) (v := .int (31 : Int32)) (ty := .int) (C := RX2) (T := TX2) (N := 4) hx hb hts uX2 tyX2 tyX2_ok nmX2 hown hK hP hD hS 0 rfl rfl 2 (by decide) w12 (fun _ h9 => h9) rfl (by decide +kernel) rfl rfl (Nat.le_of_ble_eq_true rfl) dX2_init_25 (fun H locs hP hD hS => ?_)
  have hP : va_P (dC, dI) vwCl [(o, .inr (2, [.ref q1, .int (5 : Int32), .int (31 : Int32), .int (0 : Int32)])), (q1, .inr (1, [.ref i4, .int (0 : Int32)])), (i4, .inl (cI, r2, .inl (fun _ => 0)))] H := hP
  have hD : va_D A [(o, .inr (2, [.ref q1, .int (5 : Int32), .int (31 : Int32), .int (0 : Int32)])), (q1, .inr (1, [.ref i4, .int (0 : Int32)])), (i4, .inl (cI, r2, .inl (fun _ => 0)))] := hD
  refine lv_aload_n hx hb dX2_init_28 rfl (lv_at hl 0 rfl) ?_
  refine lv_bipush (v := (31 : Int32)) hx hb dX2_init_29 (by decide) ?_
  refine va_put (D := (dC, dI)) (ci := 2) (v := .int (31 : Int32)) (ty := .int) (C := RX2) (T := TX2) (N := 4) hx hb hts uX2 tyX2 tyX2_ok nmX2 hown hK hP hD hS 0 rfl rfl 3 (by decide) w13 (fun _ h9 => h9) rfl (by decide +kernel) rfl rfl (Nat.le_of_ble_eq_true rfl) dX2_init_31 (fun H locs hP hD hS => ?_)
  have hP : va_P (dC, dI) vwCl [(o, .inr (2, [.ref q1, .int (5 : Int32), .int (31 : Int32), .int (31 : Int32)])), (q1, .inr (1, [.ref i4, .int (0 : Int32)])), (i4, .inl (cI, r2, .inl (fun _ => 0)))] H := hP
  have hD : va_D A [(o, .inr (2, [.ref q1, .int (5 : Int32), .int (31 : Int32), .int (31 : Int32)])), (q1, .inr (1, [.ref i4, .int (0 : Int32)])), (i4, .inl (cI, r2, .inl (fun _ => 0)))] := hD
  obtain rfl := Option.some.inj hF
  exact ct_v hx hb hr hlocks hK hP hD hS (q1, i4) rfl [0, 1, 2] (by decide) rfl (Nat.le_of_ble_eq_true rfl) (Nat.le_of_ble_eq_true rfl) dX2_init_34

def fX2_restart (p0 : Int32) : Option (Int32 × Int32 × Int32) := (fX1_clear).bind (fun r1 => some (p0, (((1 : Int32) <<< (p0 &&& 31)) - (1 : Int32)), (((1 : Int32) <<< (p0 &&& 31)) - (1 : Int32))))
abbrev rmX2_restart : Room := { frames := 1, cells := 0, slots := 0, locals := 20 }
set_option maxHeartbeats 4000000 in
set_option maxRecDepth 100000 in
theorem kX2_restart (l : Launch) (dC : Nat → ClassId) (dI : Nat → Nat → Nat) (tys : List (ClassId × FieldType)) (cI : ClassId) (ht0 : tys[0]? = some (cI, .int)) (o och ocha : Nat) (obells : Int32) (obob : Int32) (osng : Int32) (ochz : Int32) (ochn : Nat) (ochf : (Nat → Int32)) (p0 : Int32) (r : (Int32 × Int32 × Int32)) (hF : fX2_restart p0 = some r) : ct l (dC, dI) tys yX2_restart wsX2_restart rmX2_restart [.ref o, .int p0] [(o, .inr (2, [.ref och, .int obells, .int obob, .int osng])), (och, .inr (1, [.ref ocha, .int ochz])), (ocha, .inl (cI, ochn, .inl ochf))] (fun _ : Unit => none) (fun _ : Unit => [(o, .inr (2, [.ref och, .int r.1, .int r.2.1, .int r.2.2])), (och, .inr (1, [.ref ocha, .int (0 : Int32)])), (ocha, .inl (cI, ochn, .inl ochf))]) := by
  refine ct_of (cc := cX2_restart) (maxL := 2) (ret := none) (by decide) rfl (Nat.le_of_ble_eq_true rfl) ?_
  intro p e s m below meth c A ls hx hb hr hml hts hown hlocks hname hE hK hP hD hA hS hl
  have hown : s.vm.findClass RX2 = some m.cls := hown
  have hl : lv_has ls 2 [(0, .ref o), (1, .int p0)] := hl
  unfold fX2_restart at hF
  have uX2 : ∀ w ∈ wsX20, w ∈ wsX2_restart := (fun _ h => (List.mem_cons_of_mem _ (List.mem_append_left _ (List.mem_append_right _ h))))
  have w1 := hts (.fieldLink RX2 14 "BellfounderTower$Method" "changes" "LBellfounderTower$Line;") (List.mem_cons_of_mem _ (List.mem_append_left _ (List.mem_append_left _ (List.mem_of_getElem? (i := 0) rfl))))
  have w2 := hts (.fieldLink RX2 20 "BellfounderTower$Method" "bells" "I") (List.mem_cons_of_mem _ (List.mem_append_left _ (List.mem_append_left _ (List.mem_of_getElem? (i := 1) rfl))))
  have w3 := hts (.fieldLink RX2 24 "BellfounderTower$Method" "bob" "I") (List.mem_cons_of_mem _ (List.mem_append_left _ (List.mem_append_left _ (List.mem_of_getElem? (i := 2) rfl))))
  have w4 := hts (.fieldLink RX2 27 "BellfounderTower$Method" "single" "I") (List.mem_cons_of_mem _ (List.mem_append_left _ (List.mem_append_left _ (List.mem_of_getElem? (i := 3) rfl))))
  refine lv_aload_n hx hb dX2_restart_0 rfl (lv_at hl 0 rfl) ?_
  refine va_get (D := (dC, dI)) (ci := 2) (v := .ref och) (C := RX2) (T := TX2) (N := 4) hx hb hts uX2 hown hK hP 0 rfl rfl 0 (by decide) w1 (fun _ h9 => h9) rfl dX2_restart_1 ?_
  obtain ⟨r1, hC2, hF⟩ := gd_b hF
  refine ct_callV (C := RX1) (As := []) (rest := []) ⟨hx, hb, hml, hown, hts⟩ (kX1_clear l dC dI tys cI ht0 och ocha ochz ochn ochf r1 hC2) (cwV 0 hts gX2_restart_X1_clear rfl rfl rfl (by decide +kernel) ⟨Nat.le_of_ble_eq_true rfl, Nat.le_of_ble_eq_true rfl⟩) hE hK hP hD hS hA [1, 2] [0] (by decide) rfl (by decide) (wr := [(o, .inr (2, [.ref och, .int obells, .int obob, .int osng]))]) rfl (by decide) (ci := 1) (T := TX1) (N := 2) (q0 := 0) rfl rfl hl.1 rfl rfl (Nat.le_of_ble_eq_true rfl) dX2_restart_4 ⟨(Nat.le_of_ble_eq_true rfl), (Nat.le_of_ble_eq_true rfl)⟩ (fun i3 H locs hP hD hS => ?_)
  have hP : va_P (dC, dI) vwCl [(o, .inr (2, [.ref och, .int obells, .int obob, .int osng])), (och, .inr (1, [.ref ocha, .int (0 : Int32)])), (ocha, .inl (cI, ochn, .inl ochf))] H := hP
  have hD : va_D A [(o, .inr (2, [.ref och, .int obells, .int obob, .int osng])), (och, .inr (1, [.ref ocha, .int (0 : Int32)])), (ocha, .inl (cI, ochn, .inl ochf))] := hD
  refine lv_aload_n hx hb dX2_restart_7 rfl (lv_at hl 0 rfl) ?_
  refine lv_iload_n hx hb dX2_restart_8 rfl (lv_at hl 1 rfl) ?_
  refine va_put (D := (dC, dI)) (ci := 2) (v := .int p0) (ty := .int) (C := RX2) (T := TX2) (N := 4) hx hb hts uX2 tyX2 tyX2_ok nmX2 hown hK hP hD hS 0 rfl rfl 1 (by decide) w2 (fun _ h9 => h9) rfl (by decide +kernel) rfl rfl (Nat.le_of_ble_eq_true rfl) dX2_restart_9 (fun H locs hP hD hS => ?_)
  have hP : va_P (dC, dI) vwCl [(o, .inr (2, [.ref och, .int p0, .int obob, .int osng])), (och, .inr (1, [.ref ocha, .int (0 : Int32)])), (ocha, .inl (cI, ochn, .inl ochf))] H := hP
  have hD : va_D A [(o, .inr (2, [.ref och, .int p0, .int obob, .int osng])), (och, .inr (1, [.ref ocha, .int (0 : Int32)])), (ocha, .inl (cI, ochn, .inl ochf))] := hD
  refine lv_aload_n hx hb dX2_restart_12 rfl (lv_at hl 0 rfl) ?_
  refine lv_iconst (v := (1 : Int32)) hx hb dX2_restart_13 (by decide) ?_
  refine lv_iload_n hx hb dX2_restart_14 rfl (lv_at hl 1 rfl) ?_
  refine lv_ishl hx hb dX2_restart_15 ?_
  refine lv_iconst (v := (1 : Int32)) hx hb dX2_restart_16 (by decide) ?_
  refine lv_isub hx hb dX2_restart_17 ?_
  refine va_put (D := (dC, dI)) (ci := 2) (v := .int (((1 : Int32) <<< (p0 &&& 31)) - (1 : Int32))) (ty := .int) (C := RX2) (T := TX2) (N := 4) hx hb hts uX2 tyX2 tyX2_ok nmX2 hown hK hP hD hS 0 rfl rfl 2 (by decide) w3 (fun _ h9 => h9) rfl (by decide +kernel) rfl rfl (Nat.le_of_ble_eq_true rfl) dX2_restart_18 (fun H locs hP hD hS => ?_)
  have hP : va_P (dC, dI) vwCl [(o, .inr (2, [.ref och, .int p0, .int (((1 : Int32) <<< (p0 &&& 31)) - (1 : Int32)), .int osng])), (och, .inr (1, [.ref ocha, .int (0 : Int32)])), (ocha, .inl (cI, ochn, .inl ochf))] H := hP
  have hD : va_D A [(o, .inr (2, [.ref och, .int p0, .int (((1 : Int32) <<< (p0 &&& 31)) - (1 : Int32)), .int osng])), (och, .inr (1, [.ref ocha, .int (0 : Int32)])), (ocha, .inl (cI, ochn, .inl ochf))] := hD
  refine lv_aload_n hx hb dX2_restart_21 rfl (lv_at hl 0 rfl) ?_
  refine lv_iconst (v := (1 : Int32)) hx hb dX2_restart_22 (by decide) ?_
  refine lv_iload_n hx hb dX2_restart_23 rfl (lv_at hl 1 rfl) ?_
  refine lv_ishl hx hb dX2_restart_24 ?_
  refine lv_iconst (v := (1 : Int32)) hx hb dX2_restart_25 (by decide) ?_
  refine lv_isub hx hb dX2_restart_26 ?_
  refine va_put (D := (dC, dI)) (ci := 2) (v := .int (((1 : Int32) <<< (p0 &&& 31)) - (1 : Int32))) (ty := .int) (C := RX2) (T := TX2) (N := 4) hx hb hts uX2 tyX2 tyX2_ok nmX2 hown hK hP hD hS 0 rfl rfl 3 (by decide) w4 (fun _ h9 => h9) rfl (by decide +kernel) rfl rfl (Nat.le_of_ble_eq_true rfl) dX2_restart_27 (fun H locs hP hD hS => ?_)
  have hP : va_P (dC, dI) vwCl [(o, .inr (2, [.ref och, .int p0, .int (((1 : Int32) <<< (p0 &&& 31)) - (1 : Int32)), .int (((1 : Int32) <<< (p0 &&& 31)) - (1 : Int32))])), (och, .inr (1, [.ref ocha, .int (0 : Int32)])), (ocha, .inl (cI, ochn, .inl ochf))] H := hP
  have hD : va_D A [(o, .inr (2, [.ref och, .int p0, .int (((1 : Int32) <<< (p0 &&& 31)) - (1 : Int32)), .int (((1 : Int32) <<< (p0 &&& 31)) - (1 : Int32))])), (och, .inr (1, [.ref ocha, .int (0 : Int32)])), (ocha, .inl (cI, ochn, .inl ochf))] := hD
  obtain rfl := Option.some.inj hF
  exact ct_v hx hb hr hlocks hK hP hD hS () rfl [0, 1, 2] (by decide) rfl (Nat.le_of_ble_eq_true rfl) (Nat.le_of_ble_eq_true rfl) dX2_restart_30

def fX2_bells (obells : Int32) : Option Int32 := some (obells)
abbrev rmX2_bells : Room := { frames := 0, cells := 0, slots := 0, locals := 0 }
set_option maxHeartbeats 4000000 in
set_option maxRecDepth 100000 in
theorem kX2_bells (l : Launch) (dC : Nat → ClassId) (dI : Nat → Nat → Nat) (tys : List (ClassId × FieldType)) (cI : ClassId) (ht0 : tys[0]? = some (cI, .int)) (o och ocha : Nat) (obells : Int32) (obob : Int32) (osng : Int32) (ochz : Int32) (ochn : Nat) (ochf : (Nat → Int32)) (r : Int32) (hF : fX2_bells obells = some r) : ct l (dC, dI) tys yX2_bells wsX2_bells rmX2_bells [.ref o] [(o, .inr (2, [.ref och, .int obells, .int obob, .int osng])), (och, .inr (1, [.ref ocha, .int ochz])), (ocha, .inl (cI, ochn, .inl ochf))] (fun _ : Unit => some (.int r)) (fun _ : Unit => [(o, .inr (2, [.ref och, .int obells, .int obob, .int osng])), (och, .inr (1, [.ref ocha, .int ochz])), (ocha, .inl (cI, ochn, .inl ochf))]) := by
  refine ct_of (cc := cX2_bells) (maxL := 1) (ret := (some .int)) (by decide) rfl (Nat.le_of_ble_eq_true rfl) ?_
  intro p e s m below meth c A ls hx hb hr hml hts hown hlocks hname hE hK hP hD hA hS hl
  have hown : s.vm.findClass RX2 = some m.cls := hown
  have hl : lv_has ls 1 [(0, .ref o)] := hl
  unfold fX2_bells at hF
  have uX2 : ∀ w ∈ wsX20, w ∈ wsX2_bells := (fun _ h => (List.mem_cons_of_mem _ (List.mem_append_right _ h)))
  have w1 := hts (.fieldLink RX2 20 "BellfounderTower$Method" "bells" "I") (List.mem_cons_of_mem _ (List.mem_append_left _ (List.mem_of_getElem? (i := 0) rfl)))
  refine lv_aload_n hx hb dX2_bells_0 rfl (lv_at hl 0 rfl) ?_
  refine va_get (D := (dC, dI)) (ci := 2) (v := .int obells) (C := RX2) (T := TX2) (N := 4) hx hb hts uX2 hown hK hP 0 rfl rfl 1 (by decide) w1 (fun _ h9 => h9) rfl dX2_bells_1 ?_
  obtain rfl := Option.some.inj hF
  exact ct_i hx hb hr hlocks hK hP hD hS () rfl [0, 1, 2] (by decide) rfl (Nat.le_of_ble_eq_true rfl) (Nat.le_of_ble_eq_true rfl) dX2_bells_4

def fX2_length (ochz : Int32) : Option Int32 := (fX1_size ochz).bind (fun r1 => some (r1))
abbrev rmX2_length : Room := { frames := 1, cells := 0, slots := 0, locals := 20 }
set_option maxHeartbeats 4000000 in
set_option maxRecDepth 100000 in
theorem kX2_length (l : Launch) (dC : Nat → ClassId) (dI : Nat → Nat → Nat) (tys : List (ClassId × FieldType)) (cI : ClassId) (ht0 : tys[0]? = some (cI, .int)) (o och ocha : Nat) (obells : Int32) (obob : Int32) (osng : Int32) (ochz : Int32) (ochn : Nat) (ochf : (Nat → Int32)) (r : Int32) (hF : fX2_length ochz = some r) : ct l (dC, dI) tys yX2_length wsX2_length rmX2_length [.ref o] [(o, .inr (2, [.ref och, .int obells, .int obob, .int osng])), (och, .inr (1, [.ref ocha, .int ochz])), (ocha, .inl (cI, ochn, .inl ochf))] (fun _ : Unit => some (.int r)) (fun _ : Unit => [(o, .inr (2, [.ref och, .int obells, .int obob, .int osng])), (och, .inr (1, [.ref ocha, .int ochz])), (ocha, .inl (cI, ochn, .inl ochf))]) := by
  refine ct_of (cc := cX2_length) (maxL := 1) (ret := (some .int)) (by decide) rfl (Nat.le_of_ble_eq_true rfl) ?_
  intro p e s m below meth c A ls hx hb hr hml hts hown hlocks hname hE hK hP hD hA hS hl
  have hown : s.vm.findClass RX2 = some m.cls := hown
  have hl : lv_has ls 1 [(0, .ref o)] := hl
  unfold fX2_length at hF
  have uX2 : ∀ w ∈ wsX20, w ∈ wsX2_length := (fun _ h => (List.mem_cons_of_mem _ (List.mem_append_left _ (List.mem_append_right _ h))))
  have w1 := hts (.fieldLink RX2 14 "BellfounderTower$Method" "changes" "LBellfounderTower$Line;") (List.mem_cons_of_mem _ (List.mem_append_left _ (List.mem_append_left _ (List.mem_of_getElem? (i := 0) rfl))))
  refine lv_aload_n hx hb dX2_length_0 rfl (lv_at hl 0 rfl) ?_
  refine va_get (D := (dC, dI)) (ci := 2) (v := .ref och) (C := RX2) (T := TX2) (N := 4) hx hb hts uX2 hown hK hP 0 rfl rfl 0 (by decide) w1 (fun _ h9 => h9) rfl dX2_length_1 ?_
  obtain ⟨r1, hC2, hF⟩ := gd_b hF
  refine ct_callV (C := RX1) (As := []) (rest := []) ⟨hx, hb, hml, hown, hts⟩ (kX1_size l dC dI tys cI ht0 och ocha ochz ochn ochf r1 hC2) (cwV 0 hts gX2_length_X1_size rfl rfl rfl (by decide +kernel) ⟨Nat.le_of_ble_eq_true rfl, Nat.le_of_ble_eq_true rfl⟩) hE hK hP hD hS hA [1, 2] [0] (by decide) rfl (by decide) (wr := [(o, .inr (2, [.ref och, .int obells, .int obob, .int osng]))]) rfl (by decide) (ci := 1) (T := TX1) (N := 2) (q0 := 0) rfl rfl hl.1 rfl rfl (Nat.le_of_ble_eq_true rfl) dX2_length_4 ⟨(Nat.le_of_ble_eq_true rfl), (Nat.le_of_ble_eq_true rfl)⟩ (fun i3 H locs hP hD hS => ?_)
  have hP : va_P (dC, dI) vwCl [(o, .inr (2, [.ref och, .int obells, .int obob, .int osng])), (och, .inr (1, [.ref ocha, .int ochz])), (ocha, .inl (cI, ochn, .inl ochf))] H := hP
  have hD : va_D A [(o, .inr (2, [.ref och, .int obells, .int obob, .int osng])), (och, .inr (1, [.ref ocha, .int ochz])), (ocha, .inl (cI, ochn, .inl ochf))] := hD
  obtain rfl := Option.some.inj hF
  exact ct_i hx hb hr hlocks hK hP hD hS () rfl [0, 1, 2] (by decide) rfl (Nat.le_of_ble_eq_true rfl) (Nat.le_of_ble_eq_true rfl) dX2_length_7

def fX2_add (ochz : Int32) (ochn : Nat) (ochf : (Nat → Int32)) (p0 : Int32) : Option (Int32 × (Nat → Int32)) := (fX1_add ochz ochn ochf p0).bind (fun r1 => some (r1.1, r1.2))
abbrev rmX2_add : Room := { frames := 1, cells := 0, slots := 0, locals := 21 }
set_option maxHeartbeats 4000000 in
set_option maxRecDepth 100000 in
theorem kX2_add (l : Launch) (dC : Nat → ClassId) (dI : Nat → Nat → Nat) (tys : List (ClassId × FieldType)) (cI : ClassId) (ht0 : tys[0]? = some (cI, .int)) (o och ocha : Nat) (obells : Int32) (obob : Int32) (osng : Int32) (ochz : Int32) (ochn : Nat) (ochf : (Nat → Int32)) (p0 : Int32) (r : (Int32 × (Nat → Int32))) (hF : fX2_add ochz ochn ochf p0 = some r) : ct l (dC, dI) tys yX2_add wsX2_add rmX2_add [.ref o, .int p0] [(o, .inr (2, [.ref och, .int obells, .int obob, .int osng])), (och, .inr (1, [.ref ocha, .int ochz])), (ocha, .inl (cI, ochn, .inl ochf))] (fun _ : Unit => none) (fun _ : Unit => [(o, .inr (2, [.ref och, .int obells, .int obob, .int osng])), (och, .inr (1, [.ref ocha, .int r.1])), (ocha, .inl (cI, ochn, .inl r.2))]) := by
  refine ct_of (cc := cX2_add) (maxL := 2) (ret := none) (by decide) rfl (Nat.le_of_ble_eq_true rfl) ?_
  intro p e s m below meth c A ls hx hb hr hml hts hown hlocks hname hE hK hP hD hA hS hl
  have hown : s.vm.findClass RX2 = some m.cls := hown
  have hl : lv_has ls 2 [(0, .ref o), (1, .int p0)] := hl
  unfold fX2_add at hF
  have uX2 : ∀ w ∈ wsX20, w ∈ wsX2_add := (fun _ h => (List.mem_cons_of_mem _ (List.mem_append_left _ (List.mem_append_right _ h))))
  have w1 := hts (.fieldLink RX2 14 "BellfounderTower$Method" "changes" "LBellfounderTower$Line;") (List.mem_cons_of_mem _ (List.mem_append_left _ (List.mem_append_left _ (List.mem_of_getElem? (i := 0) rfl))))
  refine lv_aload_n hx hb dX2_add_0 rfl (lv_at hl 0 rfl) ?_
  refine va_get (D := (dC, dI)) (ci := 2) (v := .ref och) (C := RX2) (T := TX2) (N := 4) hx hb hts uX2 hown hK hP 0 rfl rfl 0 (by decide) w1 (fun _ h9 => h9) rfl dX2_add_1 ?_
  refine lv_iload_n hx hb dX2_add_4 rfl (lv_at hl 1 rfl) ?_
  obtain ⟨r1, hC2, hF⟩ := gd_b hF
  refine ct_callV (C := RX1) (As := [.int p0]) (rest := []) ⟨hx, hb, hml, hown, hts⟩ (kX1_add l dC dI tys cI ht0 och ocha ochz ochn ochf p0 r1 hC2) (cwV 1 hts gX2_add_X1_add rfl rfl rfl (by decide +kernel) ⟨Nat.le_of_ble_eq_true rfl, Nat.le_of_ble_eq_true rfl⟩) hE hK hP hD hS hA [1, 2] [0] (by decide) rfl (by decide) (wr := [(o, .inr (2, [.ref och, .int obells, .int obob, .int osng]))]) rfl (by decide) (ci := 1) (T := TX1) (N := 2) (q0 := 0) rfl rfl hl.1 rfl rfl (Nat.le_of_ble_eq_true rfl) dX2_add_5 ⟨(Nat.le_of_ble_eq_true rfl), (Nat.le_of_ble_eq_true rfl)⟩ (fun i3 H locs hP hD hS => ?_)
  have hP : va_P (dC, dI) vwCl [(o, .inr (2, [.ref och, .int obells, .int obob, .int osng])), (och, .inr (1, [.ref ocha, .int r1.1])), (ocha, .inl (cI, ochn, .inl r1.2))] H := hP
  have hD : va_D A [(o, .inr (2, [.ref och, .int obells, .int obob, .int osng])), (och, .inr (1, [.ref ocha, .int r1.1])), (ocha, .inl (cI, ochn, .inl r1.2))] := hD
  obtain rfl := Option.some.inj hF
  exact ct_v hx hb hr hlocks hK hP hD hS () rfl [0, 1, 2] (by decide) rfl (Nat.le_of_ble_eq_true rfl) (Nat.le_of_ble_eq_true rfl) dX2_add_8

def fX2_removeLast (ochz : Int32) (ochn : Nat) (ochf : (Nat → Int32)) : Option (Int32 × Int32) := (fX1_removeLast ochz ochn ochf).bind (fun r1 => some (r1.1, r1.2))
abbrev rmX2_removeLast : Room := { frames := 2, cells := 0, slots := 0, locals := 42 }
set_option maxHeartbeats 4000000 in
set_option maxRecDepth 100000 in
theorem kX2_removeLast (l : Launch) (dC : Nat → ClassId) (dI : Nat → Nat → Nat) (tys : List (ClassId × FieldType)) (cI : ClassId) (ht0 : tys[0]? = some (cI, .int)) (o och ocha : Nat) (obells : Int32) (obob : Int32) (osng : Int32) (ochz : Int32) (ochn : Nat) (ochf : (Nat → Int32)) (r : (Int32 × Int32)) (hF : fX2_removeLast ochz ochn ochf = some r) : ct l (dC, dI) tys yX2_removeLast wsX2_removeLast rmX2_removeLast [.ref o] [(o, .inr (2, [.ref och, .int obells, .int obob, .int osng])), (och, .inr (1, [.ref ocha, .int ochz])), (ocha, .inl (cI, ochn, .inl ochf))] (fun _ : Unit => some (.int r.1)) (fun _ : Unit => [(o, .inr (2, [.ref och, .int obells, .int obob, .int osng])), (och, .inr (1, [.ref ocha, .int r.2])), (ocha, .inl (cI, ochn, .inl ochf))]) := by
  refine ct_of (cc := cX2_removeLast) (maxL := 1) (ret := (some .int)) (by decide) rfl (Nat.le_of_ble_eq_true rfl) ?_
  intro p e s m below meth c A ls hx hb hr hml hts hown hlocks hname hE hK hP hD hA hS hl
  have hown : s.vm.findClass RX2 = some m.cls := hown
  have hl : lv_has ls 1 [(0, .ref o)] := hl
  unfold fX2_removeLast at hF
  have uX2 : ∀ w ∈ wsX20, w ∈ wsX2_removeLast := (fun _ h => (List.mem_cons_of_mem _ (List.mem_append_left _ (List.mem_append_right _ h))))
  have w1 := hts (.fieldLink RX2 14 "BellfounderTower$Method" "changes" "LBellfounderTower$Line;") (List.mem_cons_of_mem _ (List.mem_append_left _ (List.mem_append_left _ (List.mem_of_getElem? (i := 0) rfl))))
  refine lv_aload_n hx hb dX2_removeLast_0 rfl (lv_at hl 0 rfl) ?_
  refine va_get (D := (dC, dI)) (ci := 2) (v := .ref och) (C := RX2) (T := TX2) (N := 4) hx hb hts uX2 hown hK hP 0 rfl rfl 0 (by decide) w1 (fun _ h9 => h9) rfl dX2_removeLast_1 ?_
  obtain ⟨r1, hC2, hF⟩ := gd_b hF
  refine ct_callV (C := RX1) (As := []) (rest := []) ⟨hx, hb, hml, hown, hts⟩ (kX1_removeLast l dC dI tys cI ht0 och ocha ochz ochn ochf r1 hC2) (cwV 0 hts gX2_removeLast_X1_removeLast rfl rfl rfl (by decide +kernel) ⟨Nat.le_of_ble_eq_true rfl, Nat.le_of_ble_eq_true rfl⟩) hE hK hP hD hS hA [1, 2] [0] (by decide) rfl (by decide) (wr := [(o, .inr (2, [.ref och, .int obells, .int obob, .int osng]))]) rfl (by decide) (ci := 1) (T := TX1) (N := 2) (q0 := 0) rfl rfl hl.1 rfl rfl (Nat.le_of_ble_eq_true rfl) dX2_removeLast_4 ⟨(Nat.le_of_ble_eq_true rfl), (Nat.le_of_ble_eq_true rfl)⟩ (fun i3 H locs hP hD hS => ?_)
  have hP : va_P (dC, dI) vwCl [(o, .inr (2, [.ref och, .int obells, .int obob, .int osng])), (och, .inr (1, [.ref ocha, .int r1.2])), (ocha, .inl (cI, ochn, .inl ochf))] H := hP
  have hD : va_D A [(o, .inr (2, [.ref och, .int obells, .int obob, .int osng])), (och, .inr (1, [.ref ocha, .int r1.2])), (ocha, .inl (cI, ochn, .inl ochf))] := hD
  obtain rfl := Option.some.inj hF
  exact ct_i hx hb hr hlocks hK hP hD hS () rfl [0, 1, 2] (by decide) rfl (Nat.le_of_ble_eq_true rfl) (Nat.le_of_ble_eq_true rfl) dX2_removeLast_7

def fX2_plainChange (ochz : Int32) (ochn : Nat) (ochf : (Nat → Int32)) (p0 : Int32) : Option Int32 := (fX1_get ochz ochn ochf p0).bind (fun r1 => some (r1))
abbrev rmX2_plainChange : Room := { frames := 1, cells := 0, slots := 0, locals := 21 }
set_option maxHeartbeats 4000000 in
set_option maxRecDepth 100000 in
theorem kX2_plainChange (l : Launch) (dC : Nat → ClassId) (dI : Nat → Nat → Nat) (tys : List (ClassId × FieldType)) (cI : ClassId) (ht0 : tys[0]? = some (cI, .int)) (o och ocha : Nat) (obells : Int32) (obob : Int32) (osng : Int32) (ochz : Int32) (ochn : Nat) (ochf : (Nat → Int32)) (p0 : Int32) (r : Int32) (hF : fX2_plainChange ochz ochn ochf p0 = some r) : ct l (dC, dI) tys yX2_plainChange wsX2_plainChange rmX2_plainChange [.ref o, .int p0] [(o, .inr (2, [.ref och, .int obells, .int obob, .int osng])), (och, .inr (1, [.ref ocha, .int ochz])), (ocha, .inl (cI, ochn, .inl ochf))] (fun _ : Unit => some (.int r)) (fun _ : Unit => [(o, .inr (2, [.ref och, .int obells, .int obob, .int osng])), (och, .inr (1, [.ref ocha, .int ochz])), (ocha, .inl (cI, ochn, .inl ochf))]) := by
  refine ct_of (cc := cX2_plainChange) (maxL := 2) (ret := (some .int)) (by decide) rfl (Nat.le_of_ble_eq_true rfl) ?_
  intro p e s m below meth c A ls hx hb hr hml hts hown hlocks hname hE hK hP hD hA hS hl
  have hown : s.vm.findClass RX2 = some m.cls := hown
  have hl : lv_has ls 2 [(0, .ref o), (1, .int p0)] := hl
  unfold fX2_plainChange at hF
  have uX2 : ∀ w ∈ wsX20, w ∈ wsX2_plainChange := (fun _ h => (List.mem_cons_of_mem _ (List.mem_append_left _ (List.mem_append_right _ h))))
  have w1 := hts (.fieldLink RX2 14 "BellfounderTower$Method" "changes" "LBellfounderTower$Line;") (List.mem_cons_of_mem _ (List.mem_append_left _ (List.mem_append_left _ (List.mem_of_getElem? (i := 0) rfl))))
  refine lv_aload_n hx hb dX2_plainChange_0 rfl (lv_at hl 0 rfl) ?_
  refine va_get (D := (dC, dI)) (ci := 2) (v := .ref och) (C := RX2) (T := TX2) (N := 4) hx hb hts uX2 hown hK hP 0 rfl rfl 0 (by decide) w1 (fun _ h9 => h9) rfl dX2_plainChange_1 ?_
  refine lv_iload_n hx hb dX2_plainChange_4 rfl (lv_at hl 1 rfl) ?_
  obtain ⟨r1, hC2, hF⟩ := gd_b hF
  refine ct_callV (C := RX1) (As := [.int p0]) (rest := []) ⟨hx, hb, hml, hown, hts⟩ (kX1_get l dC dI tys cI ht0 och ocha ochz ochn ochf p0 r1 hC2) (cwV 1 hts gX2_plainChange_X1_get rfl rfl rfl (by decide +kernel) ⟨Nat.le_of_ble_eq_true rfl, Nat.le_of_ble_eq_true rfl⟩) hE hK hP hD hS hA [1, 2] [0] (by decide) rfl (by decide) (wr := [(o, .inr (2, [.ref och, .int obells, .int obob, .int osng]))]) rfl (by decide) (ci := 1) (T := TX1) (N := 2) (q0 := 0) rfl rfl hl.1 rfl rfl (Nat.le_of_ble_eq_true rfl) dX2_plainChange_5 ⟨(Nat.le_of_ble_eq_true rfl), (Nat.le_of_ble_eq_true rfl)⟩ (fun i3 H locs hP hD hS => ?_)
  have hP : va_P (dC, dI) vwCl [(o, .inr (2, [.ref och, .int obells, .int obob, .int osng])), (och, .inr (1, [.ref ocha, .int ochz])), (ocha, .inl (cI, ochn, .inl ochf))] H := hP
  have hD : va_D A [(o, .inr (2, [.ref och, .int obells, .int obob, .int osng])), (och, .inr (1, [.ref ocha, .int ochz])), (ocha, .inl (cI, ochn, .inl ochf))] := hD
  obtain rfl := Option.some.inj hF
  exact ct_i hx hb hr hlocks hK hP hD hS () rfl [0, 1, 2] (by decide) rfl (Nat.le_of_ble_eq_true rfl) (Nat.le_of_ble_eq_true rfl) dX2_plainChange_8

def fX2_insteadOfLast (obob : Int32) (osng : Int32) (p0 : Int32) : Option Int32 := if p0 = (1 : Int32) then (some (obob)) else (some (osng))
abbrev rmX2_insteadOfLast : Room := { frames := 0, cells := 0, slots := 0, locals := 0 }
set_option maxHeartbeats 4000000 in
set_option maxRecDepth 100000 in
theorem kX2_insteadOfLast (l : Launch) (dC : Nat → ClassId) (dI : Nat → Nat → Nat) (tys : List (ClassId × FieldType)) (cI : ClassId) (ht0 : tys[0]? = some (cI, .int)) (o och ocha : Nat) (obells : Int32) (obob : Int32) (osng : Int32) (ochz : Int32) (ochn : Nat) (ochf : (Nat → Int32)) (p0 : Int32) (r : Int32) (hF : fX2_insteadOfLast obob osng p0 = some r) : ct l (dC, dI) tys yX2_insteadOfLast wsX2_insteadOfLast rmX2_insteadOfLast [.ref o, .int p0] [(o, .inr (2, [.ref och, .int obells, .int obob, .int osng])), (och, .inr (1, [.ref ocha, .int ochz])), (ocha, .inl (cI, ochn, .inl ochf))] (fun _ : Unit => some (.int r)) (fun _ : Unit => [(o, .inr (2, [.ref och, .int obells, .int obob, .int osng])), (och, .inr (1, [.ref ocha, .int ochz])), (ocha, .inl (cI, ochn, .inl ochf))]) := by
  refine ct_of (cc := cX2_insteadOfLast) (maxL := 2) (ret := (some .int)) (by decide) rfl (Nat.le_of_ble_eq_true rfl) ?_
  intro p e s m below meth c A ls hx hb hr hml hts hown hlocks hname hE hK hP hD hA hS hl
  have hown : s.vm.findClass RX2 = some m.cls := hown
  have hl : lv_has ls 2 [(0, .ref o), (1, .int p0)] := hl
  unfold fX2_insteadOfLast at hF
  have uX2 : ∀ w ∈ wsX20, w ∈ wsX2_insteadOfLast := (fun _ h => (List.mem_cons_of_mem _ (List.mem_append_right _ h)))
  have w1 := hts (.fieldLink RX2 27 "BellfounderTower$Method" "single" "I") (List.mem_cons_of_mem _ (List.mem_append_left _ (List.mem_of_getElem? (i := 1) rfl)))
  have w2 := hts (.fieldLink RX2 24 "BellfounderTower$Method" "bob" "I") (List.mem_cons_of_mem _ (List.mem_append_left _ (List.mem_of_getElem? (i := 0) rfl)))
  refine lv_iload_n hx hb dX2_insteadOfLast_0 rfl (lv_at hl 1 rfl) ?_
  refine lv_iconst (v := (1 : Int32)) hx hb dX2_insteadOfLast_1 (by decide) ?_
  refine lv_icmp_ne (tgt := 12) hx hb dX2_insteadOfLast_2 (by decide) (fun c1 => ?_) (fun c1 => ?_)
  · have hF := (if_neg c1).symm.trans hF
    refine lv_aload_n hx hb dX2_insteadOfLast_12 rfl (lv_at hl 0 rfl) ?_
    refine va_get (D := (dC, dI)) (ci := 2) (v := .int osng) (C := RX2) (T := TX2) (N := 4) hx hb hts uX2 hown hK hP 0 rfl rfl 3 (by decide) w1 (fun _ h9 => h9) rfl dX2_insteadOfLast_13 ?_
    obtain rfl := Option.some.inj hF
    exact ct_i hx hb hr hlocks hK hP hD hS () rfl [0, 1, 2] (by decide) rfl (Nat.le_of_ble_eq_true rfl) (Nat.le_of_ble_eq_true rfl) dX2_insteadOfLast_16
  · have hF := (if_pos c1).symm.trans hF
    refine lv_aload_n hx hb dX2_insteadOfLast_5 rfl (lv_at hl 0 rfl) ?_
    refine va_get (D := (dC, dI)) (ci := 2) (v := .int obob) (C := RX2) (T := TX2) (N := 4) hx hb hts uX2 hown hK hP 0 rfl rfl 2 (by decide) w2 (fun _ h9 => h9) rfl dX2_insteadOfLast_6 ?_
    refine lv_goto (tgt := 16) hx hb dX2_insteadOfLast_9 (by decide) ?_
    obtain rfl := Option.some.inj hF
    exact ct_i hx hb hr hlocks hK hP hD hS () rfl [0, 1, 2] (by decide) rfl (Nat.le_of_ble_eq_true rfl) (Nat.le_of_ble_eq_true rfl) dX2_insteadOfLast_16

def fX2_setInsteadOfLast (obob : Int32) (osng : Int32) (p0 : Int32) (p1 : Int32) : Option (Int32 × Int32) := if p0 = (1 : Int32) then (some (p1, osng)) else (some (obob, p1))
abbrev rmX2_setInsteadOfLast : Room := { frames := 0, cells := 0, slots := 0, locals := 0 }
set_option maxHeartbeats 4000000 in
set_option maxRecDepth 100000 in
theorem kX2_setInsteadOfLast (l : Launch) (dC : Nat → ClassId) (dI : Nat → Nat → Nat) (tys : List (ClassId × FieldType)) (cI : ClassId) (ht0 : tys[0]? = some (cI, .int)) (o och ocha : Nat) (obells : Int32) (obob : Int32) (osng : Int32) (ochz : Int32) (ochn : Nat) (ochf : (Nat → Int32)) (p0 : Int32) (p1 : Int32) (r : (Int32 × Int32)) (hF : fX2_setInsteadOfLast obob osng p0 p1 = some r) : ct l (dC, dI) tys yX2_setInsteadOfLast wsX2_setInsteadOfLast rmX2_setInsteadOfLast [.ref o, .int p0, .int p1] [(o, .inr (2, [.ref och, .int obells, .int obob, .int osng])), (och, .inr (1, [.ref ocha, .int ochz])), (ocha, .inl (cI, ochn, .inl ochf))] (fun _ : Unit => none) (fun _ : Unit => [(o, .inr (2, [.ref och, .int obells, .int r.1, .int r.2])), (och, .inr (1, [.ref ocha, .int ochz])), (ocha, .inl (cI, ochn, .inl ochf))]) := by
  refine ct_of (cc := cX2_setInsteadOfLast) (maxL := 3) (ret := none) (by decide) rfl (Nat.le_of_ble_eq_true rfl) ?_
  intro p e s m below meth c A ls hx hb hr hml hts hown hlocks hname hE hK hP hD hA hS hl
  have hown : s.vm.findClass RX2 = some m.cls := hown
  have hl : lv_has ls 3 [(0, .ref o), (1, .int p0), (2, .int p1)] := hl
  unfold fX2_setInsteadOfLast at hF
  have uX2 : ∀ w ∈ wsX20, w ∈ wsX2_setInsteadOfLast := (fun _ h => (List.mem_cons_of_mem _ (List.mem_append_right _ h)))
  have w1 := hts (.fieldLink RX2 27 "BellfounderTower$Method" "single" "I") (List.mem_cons_of_mem _ (List.mem_append_left _ (List.mem_of_getElem? (i := 1) rfl)))
  have w2 := hts (.fieldLink RX2 24 "BellfounderTower$Method" "bob" "I") (List.mem_cons_of_mem _ (List.mem_append_left _ (List.mem_of_getElem? (i := 0) rfl)))
  refine lv_iload_n hx hb dX2_setInsteadOfLast_0 rfl (lv_at hl 1 rfl) ?_
  refine lv_iconst (v := (1 : Int32)) hx hb dX2_setInsteadOfLast_1 (by decide) ?_
  refine lv_icmp_ne (tgt := 13) hx hb dX2_setInsteadOfLast_2 (by decide) (fun c1 => ?_) (fun c1 => ?_)
  · have hF := (if_neg c1).symm.trans hF
    refine lv_aload_n hx hb dX2_setInsteadOfLast_13 rfl (lv_at hl 0 rfl) ?_
    refine lv_iload_n hx hb dX2_setInsteadOfLast_14 rfl (lv_at hl 2 rfl) ?_
    refine va_put (D := (dC, dI)) (ci := 2) (v := .int p1) (ty := .int) (C := RX2) (T := TX2) (N := 4) hx hb hts uX2 tyX2 tyX2_ok nmX2 hown hK hP hD hS 0 rfl rfl 3 (by decide) w1 (fun _ h9 => h9) rfl (by decide +kernel) rfl rfl (Nat.le_of_ble_eq_true rfl) dX2_setInsteadOfLast_15 (fun H locs hP hD hS => ?_)
    have hP : va_P (dC, dI) vwCl [(o, .inr (2, [.ref och, .int obells, .int obob, .int p1])), (och, .inr (1, [.ref ocha, .int ochz])), (ocha, .inl (cI, ochn, .inl ochf))] H := hP
    have hD : va_D A [(o, .inr (2, [.ref och, .int obells, .int obob, .int p1])), (och, .inr (1, [.ref ocha, .int ochz])), (ocha, .inl (cI, ochn, .inl ochf))] := hD
    obtain rfl := Option.some.inj hF
    exact ct_v hx hb hr hlocks hK hP hD hS () rfl [0, 1, 2] (by decide) rfl (Nat.le_of_ble_eq_true rfl) (Nat.le_of_ble_eq_true rfl) dX2_setInsteadOfLast_18
  · have hF := (if_pos c1).symm.trans hF
    refine lv_aload_n hx hb dX2_setInsteadOfLast_5 rfl (lv_at hl 0 rfl) ?_
    refine lv_iload_n hx hb dX2_setInsteadOfLast_6 rfl (lv_at hl 2 rfl) ?_
    refine va_put (D := (dC, dI)) (ci := 2) (v := .int p1) (ty := .int) (C := RX2) (T := TX2) (N := 4) hx hb hts uX2 tyX2 tyX2_ok nmX2 hown hK hP hD hS 0 rfl rfl 2 (by decide) w2 (fun _ h9 => h9) rfl (by decide +kernel) rfl rfl (Nat.le_of_ble_eq_true rfl) dX2_setInsteadOfLast_7 (fun H locs hP hD hS => ?_)
    have hP : va_P (dC, dI) vwCl [(o, .inr (2, [.ref och, .int obells, .int p1, .int osng])), (och, .inr (1, [.ref ocha, .int ochz])), (ocha, .inl (cI, ochn, .inl ochf))] H := hP
    have hD : va_D A [(o, .inr (2, [.ref och, .int obells, .int p1, .int osng])), (och, .inr (1, [.ref ocha, .int ochz])), (ocha, .inl (cI, ochn, .inl ochf))] := hD
    refine lv_goto (tgt := 18) hx hb dX2_setInsteadOfLast_10 (by decide) ?_
    obtain rfl := Option.some.inj hF
    exact ct_v hx hb hr hlocks hK hP hD hS () rfl [0, 1, 2] (by decide) rfl (Nat.le_of_ble_eq_true rfl) (Nat.le_of_ble_eq_true rfl) dX2_setInsteadOfLast_18

def fX2_rungChange (obob : Int32) (osng : Int32) (ochz : Int32) (ochn : Nat) (ochf : (Nat → Int32)) (p0 : Int32) (p1 : Int32) : Option Int32 := if p1 = 0 then ((fX1_get ochz ochn ochf p0).bind (fun r2 => some (r2))) else ((fX1_size ochz).bind (fun r5 => if p0 = (r5 - (1 : Int32)) then ((fX2_insteadOfLast obob osng p1).bind (fun r12 => some (r12))) else ((fX1_get ochz ochn ochf p0).bind (fun r9 => some (r9)))))
abbrev rmX2_rungChange : Room := { frames := 1, cells := 0, slots := 0, locals := 21 }
set_option maxHeartbeats 4000000 in
set_option maxRecDepth 100000 in
theorem kX2_rungChange (l : Launch) (dC : Nat → ClassId) (dI : Nat → Nat → Nat) (tys : List (ClassId × FieldType)) (cI : ClassId) (ht0 : tys[0]? = some (cI, .int)) (o och ocha : Nat) (obells : Int32) (obob : Int32) (osng : Int32) (ochz : Int32) (ochn : Nat) (ochf : (Nat → Int32)) (p0 : Int32) (p1 : Int32) (r : Int32) (hF : fX2_rungChange obob osng ochz ochn ochf p0 p1 = some r) : ct l (dC, dI) tys yX2_rungChange wsX2_rungChange rmX2_rungChange [.ref o, .int p0, .int p1] [(o, .inr (2, [.ref och, .int obells, .int obob, .int osng])), (och, .inr (1, [.ref ocha, .int ochz])), (ocha, .inl (cI, ochn, .inl ochf))] (fun _ : Unit => some (.int r)) (fun _ : Unit => [(o, .inr (2, [.ref och, .int obells, .int obob, .int osng])), (och, .inr (1, [.ref ocha, .int ochz])), (ocha, .inl (cI, ochn, .inl ochf))]) := by
  refine ct_of (cc := cX2_rungChange) (maxL := 3) (ret := (some .int)) (by decide) rfl (Nat.le_of_ble_eq_true rfl) ?_
  intro p e s m below meth c A ls hx hb hr hml hts hown hlocks hname hE hK hP hD hA hS hl
  have hown : s.vm.findClass RX2 = some m.cls := hown
  have hl : lv_has ls 3 [(0, .ref o), (1, .int p0), (2, .int p1)] := hl
  unfold fX2_rungChange at hF
  have uX2 : ∀ w ∈ wsX20, w ∈ wsX2_rungChange := (fun _ h => (List.mem_cons_of_mem _ (List.mem_append_left _ (List.mem_append_right _ h))))
  have w1 := hts (.fieldLink RX2 14 "BellfounderTower$Method" "changes" "LBellfounderTower$Line;") (List.mem_cons_of_mem _ (List.mem_append_left _ (List.mem_append_left _ (List.mem_of_getElem? (i := 0) rfl))))
  refine lv_iload_n hx hb dX2_rungChange_0 rfl (lv_at hl 2 rfl) ?_
  refine lv_if_eq (tgt := 25) hx hb dX2_rungChange_1 (by decide) (fun c1 => ?_) (fun c1 => ?_)
  · have hF := (if_pos c1).symm.trans hF
    refine lv_aload_n hx hb dX2_rungChange_25 rfl (lv_at hl 0 rfl) ?_
    refine va_get (D := (dC, dI)) (ci := 2) (v := .ref och) (C := RX2) (T := TX2) (N := 4) hx hb hts uX2 hown hK hP 0 rfl rfl 0 (by decide) w1 (fun _ h9 => h9) rfl dX2_rungChange_26 ?_
    refine lv_iload_n hx hb dX2_rungChange_29 rfl (lv_at hl 1 rfl) ?_
    obtain ⟨r2, hC3, hF⟩ := gd_b hF
    refine ct_callV (C := RX1) (As := [.int p0]) (rest := []) ⟨hx, hb, hml, hown, hts⟩ (kX1_get l dC dI tys cI ht0 och ocha ochz ochn ochf p0 r2 hC3) (cwV 1 hts gX2_rungChange_X1_get rfl rfl rfl (by decide +kernel) ⟨Nat.le_of_ble_eq_true rfl, Nat.le_of_ble_eq_true rfl⟩) hE hK hP hD hS hA [1, 2] [0] (by decide) rfl (by decide) (wr := [(o, .inr (2, [.ref och, .int obells, .int obob, .int osng]))]) rfl (by decide) (ci := 1) (T := TX1) (N := 2) (q0 := 0) rfl rfl hl.1 rfl rfl (Nat.le_of_ble_eq_true rfl) dX2_rungChange_30 ⟨(Nat.le_of_ble_eq_true rfl), (Nat.le_of_ble_eq_true rfl)⟩ (fun i4 H locs hP hD hS => ?_)
    have hP : va_P (dC, dI) vwCl [(o, .inr (2, [.ref och, .int obells, .int obob, .int osng])), (och, .inr (1, [.ref ocha, .int ochz])), (ocha, .inl (cI, ochn, .inl ochf))] H := hP
    have hD : va_D A [(o, .inr (2, [.ref och, .int obells, .int obob, .int osng])), (och, .inr (1, [.ref ocha, .int ochz])), (ocha, .inl (cI, ochn, .inl ochf))] := hD
    obtain rfl := Option.some.inj hF
    exact ct_i hx hb hr hlocks hK hP hD hS () rfl [0, 1, 2] (by decide) rfl (Nat.le_of_ble_eq_true rfl) (Nat.le_of_ble_eq_true rfl) dX2_rungChange_33
  · have hF := (if_neg c1).symm.trans hF
    refine lv_iload_n hx hb dX2_rungChange_4 rfl (lv_at hl 1 rfl) ?_
    refine lv_aload_n hx hb dX2_rungChange_5 rfl (lv_at hl 0 rfl) ?_
    refine va_get (D := (dC, dI)) (ci := 2) (v := .ref och) (C := RX2) (T := TX2) (N := 4) hx hb hts uX2 hown hK hP 0 rfl rfl 0 (by decide) w1 (fun _ h9 => h9) rfl dX2_rungChange_6 ?_
    obtain ⟨r5, hC6, hF⟩ := gd_b hF
    refine ct_callV (C := RX1) (As := []) (rest := [.int p0]) ⟨hx, hb, hml, hown, hts⟩ (kX1_size l dC dI tys cI ht0 och ocha ochz ochn ochf r5 hC6) (cwV 0 hts gX2_rungChange_X1_size rfl rfl rfl (by decide +kernel) ⟨Nat.le_of_ble_eq_true rfl, Nat.le_of_ble_eq_true rfl⟩) hE hK hP hD hS hA [1, 2] [0] (by decide) rfl (by decide) (wr := [(o, .inr (2, [.ref och, .int obells, .int obob, .int osng]))]) rfl (by decide) (ci := 1) (T := TX1) (N := 2) (q0 := 0) rfl rfl hl.1 rfl rfl (Nat.le_of_ble_eq_true rfl) dX2_rungChange_9 ⟨(Nat.le_of_ble_eq_true rfl), (Nat.le_of_ble_eq_true rfl)⟩ (fun i7 H locs hP hD hS => ?_)
    have hP : va_P (dC, dI) vwCl [(o, .inr (2, [.ref och, .int obells, .int obob, .int osng])), (och, .inr (1, [.ref ocha, .int ochz])), (ocha, .inl (cI, ochn, .inl ochf))] H := hP
    have hD : va_D A [(o, .inr (2, [.ref och, .int obells, .int obob, .int osng])), (och, .inr (1, [.ref ocha, .int ochz])), (ocha, .inl (cI, ochn, .inl ochf))] := hD
    refine lv_iconst (v := (1 : Int32)) hx hb dX2_rungChange_12 (by decide) ?_
    refine lv_isub hx hb dX2_rungChange_13 ?_
    refine lv_icmp_ne (tgt := 25) hx hb dX2_rungChange_14 (by decide) (fun c8 => ?_) (fun c8 => ?_)
    · have hF := (if_neg c8).symm.trans hF
      refine lv_aload_n hx hb dX2_rungChange_25 rfl (lv_at hl 0 rfl) ?_
      refine va_get (D := (dC, dI)) (ci := 2) (v := .ref och) (C := RX2) (T := TX2) (N := 4) hx hb hts uX2 hown hK hP 0 rfl rfl 0 (by decide) w1 (fun _ h9 => h9) rfl dX2_rungChange_26 ?_
      refine lv_iload_n hx hb dX2_rungChange_29 rfl (lv_at hl 1 rfl) ?_
      obtain ⟨r9, hC10, hF⟩ := gd_b hF
      refine ct_callV (C := RX1) (As := [.int p0]) (rest := []) ⟨hx, hb, hml, hown, hts⟩ (kX1_get l dC dI tys cI ht0 och ocha ochz ochn ochf p0 r9 hC10) (cwV 1 hts gX2_rungChange_X1_get rfl rfl rfl (by decide +kernel) ⟨Nat.le_of_ble_eq_true rfl, Nat.le_of_ble_eq_true rfl⟩) hE hK hP hD hS hA [1, 2] [0] (by decide) rfl (by decide) (wr := [(o, .inr (2, [.ref och, .int obells, .int obob, .int osng]))]) rfl (by decide) (ci := 1) (T := TX1) (N := 2) (q0 := 0) rfl rfl hl.1 rfl rfl (Nat.le_of_ble_eq_true rfl) dX2_rungChange_30 ⟨(Nat.le_of_ble_eq_true rfl), (Nat.le_of_ble_eq_true rfl)⟩ (fun i11 H locs hP hD hS => ?_)
      have hP : va_P (dC, dI) vwCl [(o, .inr (2, [.ref och, .int obells, .int obob, .int osng])), (och, .inr (1, [.ref ocha, .int ochz])), (ocha, .inl (cI, ochn, .inl ochf))] H := hP
      have hD : va_D A [(o, .inr (2, [.ref och, .int obells, .int obob, .int osng])), (och, .inr (1, [.ref ocha, .int ochz])), (ocha, .inl (cI, ochn, .inl ochf))] := hD
      obtain rfl := Option.some.inj hF
      exact ct_i hx hb hr hlocks hK hP hD hS () rfl [0, 1, 2] (by decide) rfl (Nat.le_of_ble_eq_true rfl) (Nat.le_of_ble_eq_true rfl) dX2_rungChange_33
    · have hF := (if_pos c8).symm.trans hF
      refine lv_aload_n hx hb dX2_rungChange_17 rfl (lv_at hl 0 rfl) ?_
      refine lv_iload_n hx hb dX2_rungChange_18 rfl (lv_at hl 2 rfl) ?_
      obtain ⟨r12, hC13, hF⟩ := gd_b hF
      refine ct_callV (C := RX2) (As := [.int p1]) (rest := []) ⟨hx, hb, hml, hown, hts⟩ (kX2_insteadOfLast l dC dI tys cI ht0 o och ocha obells obob osng ochz ochn ochf p1 r12 hC13) (cwV 1 hts gX2_rungChange_X2_insteadOfLast rfl rfl rfl (by decide +kernel) ⟨Nat.le_of_ble_eq_true rfl, Nat.le_of_ble_eq_true rfl⟩) hE hK hP hD hS hA [0, 1, 2] [] (by decide) rfl (by decide) (wr := []) rfl (by decide) (ci := 2) (T := TX2) (N := 4) (q0 := 0) rfl rfl hl.1 rfl rfl (Nat.le_of_ble_eq_true rfl) dX2_rungChange_19 ⟨(Nat.le_of_ble_eq_true rfl), (Nat.le_of_ble_eq_true rfl)⟩ (fun i14 H locs hP hD hS => ?_)
      have hP : va_P (dC, dI) vwCl [(o, .inr (2, [.ref och, .int obells, .int obob, .int osng])), (och, .inr (1, [.ref ocha, .int ochz])), (ocha, .inl (cI, ochn, .inl ochf))] H := hP
      have hD : va_D A [(o, .inr (2, [.ref och, .int obells, .int obob, .int osng])), (och, .inr (1, [.ref ocha, .int ochz])), (ocha, .inl (cI, ochn, .inl ochf))] := hD
      refine lv_goto (tgt := 33) hx hb dX2_rungChange_22 (by decide) ?_
      obtain rfl := Option.some.inj hF
      exact ct_i hx hb hr hlocks hK hP hD hS () rfl [0, 1, 2] (by decide) rfl (Nat.le_of_ble_eq_true rfl) (Nat.le_of_ble_eq_true rfl) dX2_rungChange_33

def fX2_leadEnd_X5  (x4_5 : Int32) (x3_5 : Int32) : Option Int32 := some (x3_5)
def fX2_leadEnd_L5 (ochz : Int32) (obob : Int32) (osng : Int32) (ochn : Nat) (ochf : (Nat → Int32)) (p1 : Int32) (obells : Int32) (K5 : Int32 → Int32 → Option Int32) : Nat → Int32 → Int32 → Option Int32
  | 0, _, _ => none
  | n + 1, x4_5, x3_5 => (fX1_size ochz).bind (fun r1 => if r1 ≤ x4_5 then (K5 x4_5 x3_5) else ((fX2_rungChange obob osng ochz ochn ochf x4_5 p1).bind (fun r5 => (fX3_changed x3_5 r5 obells).bind (fun r8 => (fX2_leadEnd_L5 ochz obob osng ochn ochf p1 obells K5 n) (x4_5 + (1 : Int32)) r8))))
def fX2_leadEnd (obells : Int32) (obob : Int32) (osng : Int32) (ochz : Int32) (ochn : Nat) (ochf : (Nat → Int32)) (p0 : Int32) (p1 : Int32) : Option Int32 := fX2_leadEnd_L5 ochz obob osng ochn ochf p1 obells fX2_leadEnd_X5 1000 (0 : Int32) p0
abbrev rmX2_leadEnd : Room := { frames := 2, cells := 0, slots := 0, locals := 48 }
set_option maxHeartbeats 4000000 in
set_option maxRecDepth 100000 in
theorem kX2_leadEnd (l : Launch) (dC : Nat → ClassId) (dI : Nat → Nat → Nat) (tys : List (ClassId × FieldType)) (cI : ClassId) (ht0 : tys[0]? = some (cI, .int)) (o och ocha : Nat) (obells : Int32) (obob : Int32) (osng : Int32) (ochz : Int32) (ochn : Nat) (ochf : (Nat → Int32)) (p0 : Int32) (p1 : Int32) (r : Int32) (hF : fX2_leadEnd obells obob osng ochz ochn ochf p0 p1 = some r) : ct l (dC, dI) tys yX2_leadEnd wsX2_leadEnd rmX2_leadEnd [.ref o, .int p0, .int p1] [(o, .inr (2, [.ref och, .int obells, .int obob, .int osng])), (och, .inr (1, [.ref ocha, .int ochz])), (ocha, .inl (cI, ochn, .inl ochf))] (fun _ : Unit => some (.int r)) (fun _ : Unit => [(o, .inr (2, [.ref och, .int obells, .int obob, .int osng])), (och, .inr (1, [.ref ocha, .int ochz])), (ocha, .inl (cI, ochn, .inl ochf))]) := by
  refine ct_of (cc := cX2_leadEnd) (maxL := 5) (ret := (some .int)) (by decide) rfl (Nat.le_of_ble_eq_true rfl) ?_
  intro p e s m below meth c A ls hx hb hr hml hts hown hlocks hname hE hK hP hD hA hS hl
  have hown : s.vm.findClass RX2 = some m.cls := hown
  have hl : lv_has ls 5 [(0, .ref o), (1, .int p0), (2, .int p1)] := hl
  unfold fX2_leadEnd at hF
  have uX2 : ∀ w ∈ wsX20, w ∈ wsX2_leadEnd := (fun _ h => (List.mem_cons_of_mem _ (List.mem_append_left _ (List.mem_append_right _ h))))
  have w1 := hts (.fieldLink RX2 14 "BellfounderTower$Method" "changes" "LBellfounderTower$Line;") (List.mem_cons_of_mem _ (List.mem_append_left _ (List.mem_append_left _ (List.mem_append_left _ (List.mem_of_getElem? (i := 0) rfl)))))
  have w2 := hts (.fieldLink RX2 20 "BellfounderTower$Method" "bells" "I") (List.mem_cons_of_mem _ (List.mem_append_left _ (List.mem_append_left _ (List.mem_append_left _ (List.mem_of_getElem? (i := 1) rfl)))))
  refine lv_iload_n hx hb dX2_leadEnd_0 rfl (lv_at hl 1 rfl) ?_
  refine lv_istore_n (lv' := [(3, .int p0), (0, .ref o), (1, .int p0), (2, .int p1)]) hx hb dX2_leadEnd_1 rfl hl (by decide) rfl (fun ls hl => ?_)
  refine lv_iconst (v := (0 : Int32)) hx hb dX2_leadEnd_2 (by decide) ?_
  refine lv_istore (lv' := [(4, .int (0 : Int32)), (3, .int p0), (0, .ref o), (1, .int p0), (2, .int p1)]) hx hb dX2_leadEnd_3 hl (by decide) rfl (fun ls hl => ?_)
  have X5 : ∀ (x4_5 : Int32) (x3_5 : Int32) (H : Heap) (locs : List Loc) (ls : Array Slot), fX2_leadEnd_X5 x4_5 x3_5 = some r → va_P (dC, dI) vwCl [(o, .inr (2, [.ref och, .int obells, .int obob, .int osng])), (och, .inr (1, [.ref ocha, .int ochz])), (ocha, .inl (cI, ochn, .inl ochf))] H → va_D A [(o, .inr (2, [.ref och, .int obells, .int obob, .int osng])), (och, .inr (1, [.ref ocha, .int ochz])), (ocha, .inl (cI, ochn, .inl ochf))] → va_S A s.heap H locs → lv_has ls 5 [(4, .int x4_5), (3, .int x3_5), (0, .ref o), (1, .int p0), (2, .int p1)] → W p l e rmX2_leadEnd s m ([.ref o, .int p0, .int p1] : List Value).toArray below meth c H locs 0 0 (MQ below (ct_Q (dC, dI) tys (fun _ : Unit => some (.int r)) (fun _ : Unit => [(o, .inr (2, [.ref och, .int obells, .int obob, .int osng])), (och, .inr (1, [.ref ocha, .int ochz])), (ocha, .inl (cI, ochn, .inl ochf))]) A) ([.ref o, .int p0, .int p1] : List Value).toArray s rmX2_leadEnd.cells rmX2_leadEnd.slots A) (F0 m 39 ls []) := by
    intro x4_5 x3_5 H locs ls hF hP hD hS hl
    unfold fX2_leadEnd_X5 at hF
    refine lv_iload_n hx hb dX2_leadEnd_39 rfl (lv_at hl 1 rfl) ?_
    obtain rfl := Option.some.inj hF
    exact ct_i hx hb hr hlocks hK hP hD hS () rfl [0, 1, 2] (by decide) rfl (Nat.le_of_ble_eq_true rfl) (Nat.le_of_ble_eq_true rfl) dX2_leadEnd_40
  have L5 : ∀ (n5 : Nat) (x4_5 : Int32) (x3_5 : Int32) (H : Heap) (locs : List Loc) (ls : Array Slot), fX2_leadEnd_L5 ochz obob osng ochn ochf p1 obells fX2_leadEnd_X5 n5 x4_5 x3_5 = some r → va_P (dC, dI) vwCl [(o, .inr (2, [.ref och, .int obells, .int obob, .int osng])), (och, .inr (1, [.ref ocha, .int ochz])), (ocha, .inl (cI, ochn, .inl ochf))] H → va_D A [(o, .inr (2, [.ref och, .int obells, .int obob, .int osng])), (och, .inr (1, [.ref ocha, .int ochz])), (ocha, .inl (cI, ochn, .inl ochf))] → va_S A s.heap H locs → lv_has ls 5 [(4, .int x4_5), (3, .int x3_5), (0, .ref o), (1, .int p0), (2, .int p1)] → W p l e rmX2_leadEnd s m ([.ref o, .int p0, .int p1] : List Value).toArray below meth c H locs 0 0 (MQ below (ct_Q (dC, dI) tys (fun _ : Unit => some (.int r)) (fun _ : Unit => [(o, .inr (2, [.ref och, .int obells, .int obob, .int osng])), (och, .inr (1, [.ref ocha, .int ochz])), (ocha, .inl (cI, ochn, .inl ochf))]) A) ([.ref o, .int p0, .int p1] : List Value).toArray s rmX2_leadEnd.cells rmX2_leadEnd.slots A) (F0 m 5 ls []) := by
    intro n5
    induction n5 with
    | zero => intro x4_5 x3_5 H locs ls hF; rw [fX2_leadEnd_L5] at hF; cases hF
    | succ n5 ih5 =>
      intro x4_5 x3_5 H locs ls hF hP hD hS hl
      rw [fX2_leadEnd_L5] at hF
      refine lv_iload hx hb dX2_leadEnd_5 (lv_at hl 0 rfl) ?_
      refine lv_aload_n hx hb dX2_leadEnd_7 rfl (lv_at hl 2 rfl) ?_
      refine va_get (D := (dC, dI)) (ci := 2) (v := .ref och) (C := RX2) (T := TX2) (N := 4) hx hb hts uX2 hown hK hP 0 rfl rfl 0 (by decide) w1 (fun _ h9 => h9) rfl dX2_leadEnd_8 ?_
      obtain ⟨r1, hC2, hF⟩ := gd_b hF
      refine ct_callV (C := RX1) (As := []) (rest := [.int x4_5]) ⟨hx, hb, hml, hown, hts⟩ (kX1_size l dC dI tys cI ht0 och ocha ochz ochn ochf r1 hC2) (cwV 0 hts gX2_leadEnd_X1_size rfl rfl rfl (by decide +kernel) ⟨Nat.le_of_ble_eq_true rfl, Nat.le_of_ble_eq_true rfl⟩) hE hK hP hD hS hA [1, 2] [0] (by decide) rfl (by decide) (wr := [(o, .inr (2, [.ref och, .int obells, .int obob, .int osng]))]) rfl (by decide) (ci := 1) (T := TX1) (N := 2) (q0 := 0) rfl rfl hl.1 rfl rfl (Nat.le_of_ble_eq_true rfl) dX2_leadEnd_11 ⟨(Nat.le_of_ble_eq_true rfl), (Nat.le_of_ble_eq_true rfl)⟩ (fun i3 H locs hP hD hS => ?_)
      have hP : va_P (dC, dI) vwCl [(o, .inr (2, [.ref och, .int obells, .int obob, .int osng])), (och, .inr (1, [.ref ocha, .int ochz])), (ocha, .inl (cI, ochn, .inl ochf))] H := hP
      have hD : va_D A [(o, .inr (2, [.ref och, .int obells, .int obob, .int osng])), (och, .inr (1, [.ref ocha, .int ochz])), (ocha, .inl (cI, ochn, .inl ochf))] := hD
      refine lv_icmp_ge (tgt := 39) hx hb dX2_leadEnd_14 (by decide) (fun c4 => ?_) (fun c4 => ?_)
      · have hF := (if_pos c4).symm.trans hF
        exact X5 x4_5 x3_5 _ _ _ hF (hP.sub [0, 1, 2] rfl) (hD.sub [0, 1, 2] (by decide) rfl) hS (lv_sub hl [0, 1, 2, 3, 4] rfl)
      · have hF := (if_neg c4).symm.trans hF
        refine lv_iload_n hx hb dX2_leadEnd_17 rfl (lv_at hl 1 rfl) ?_
        refine lv_aload_n hx hb dX2_leadEnd_18 rfl (lv_at hl 2 rfl) ?_
        refine lv_iload hx hb dX2_leadEnd_19 (lv_at hl 0 rfl) ?_
        refine lv_iload_n hx hb dX2_leadEnd_21 rfl (lv_at hl 4 rfl) ?_
        obtain ⟨r5, hC6, hF⟩ := gd_b hF
        refine ct_callV (C := RX2) (As := [.int x4_5, .int p1]) (rest := [.int x3_5]) ⟨hx, hb, hml, hown, hts⟩ (kX2_rungChange l dC dI tys cI ht0 o och ocha obells obob osng ochz ochn ochf x4_5 p1 r5 hC6) (cwV 2 hts gX2_leadEnd_X2_rungChange rfl rfl rfl (by decide +kernel) ⟨Nat.le_of_ble_eq_true rfl, Nat.le_of_ble_eq_true rfl⟩) hE hK hP hD hS hA [0, 1, 2] [] (by decide) rfl (by decide) (wr := []) rfl (by decide) (ci := 2) (T := TX2) (N := 4) (q0 := 0) rfl rfl hl.1 rfl rfl (Nat.le_of_ble_eq_true rfl) dX2_leadEnd_22 ⟨(Nat.le_of_ble_eq_true rfl), (Nat.le_of_ble_eq_true rfl)⟩ (fun i7 H locs hP hD hS => ?_)
        have hP : va_P (dC, dI) vwCl [(o, .inr (2, [.ref och, .int obells, .int obob, .int osng])), (och, .inr (1, [.ref ocha, .int ochz])), (ocha, .inl (cI, ochn, .inl ochf))] H := hP
        have hD : va_D A [(o, .inr (2, [.ref och, .int obells, .int obob, .int osng])), (och, .inr (1, [.ref ocha, .int ochz])), (ocha, .inl (cI, ochn, .inl ochf))] := hD
        refine lv_aload_n hx hb dX2_leadEnd_25 rfl (lv_at hl 2 rfl) ?_
        refine va_get (D := (dC, dI)) (ci := 2) (v := .int obells) (C := RX2) (T := TX2) (N := 4) hx hb hts uX2 hown hK hP 0 rfl rfl 1 (by decide) w2 (fun _ h9 => h9) rfl dX2_leadEnd_26 ?_
        obtain ⟨r8, hC9, hF⟩ := gd_b hF
        refine ct_callS (As := [.int x3_5, .int r5, .int obells]) (rest := []) ⟨hx, hb, hml, hown, hts⟩ (kX3_changed l dC dI tys cI ht0 x3_5 r5 obells r8 hC9) (va_cwS 3 hts gX2_leadEnd_X3_changed rfl rfl rfl (by decide +kernel) ⟨Nat.le_of_ble_eq_true rfl, Nat.le_of_ble_eq_true rfl⟩) hE hK hP hD hS hA [] [0, 1, 2] (by decide) rfl (by decide) (wr := [(o, .inr (2, [.ref och, .int obells, .int obob, .int osng])), (och, .inr (1, [.ref ocha, .int ochz])), (ocha, .inl (cI, ochn, .inl ochf))]) rfl (by decide) hl.1 rfl rfl (Nat.le_of_ble_eq_true rfl) dX2_leadEnd_29 ⟨(Nat.le_of_ble_eq_true rfl), (Nat.le_of_ble_eq_true rfl)⟩ (fun i10 H locs hP hD hS => ?_)
        have hP : va_P (dC, dI) vwCl [(o, .inr (2, [.ref och, .int obells, .int obob, .int osng])), (och, .inr (1, [.ref ocha, .int ochz])), (ocha, .inl (cI, ochn, .inl ochf))] H := hP
        have hD : va_D A [(o, .inr (2, [.ref och, .int obells, .int obob, .int osng])), (och, .inr (1, [.ref ocha, .int ochz])), (ocha, .inl (cI, ochn, .inl ochf))] := hD
        refine lv_istore_n (lv' := [(3, .int r8), (4, .int x4_5), (0, .ref o), (1, .int p0), (2, .int p1)]) hx hb dX2_leadEnd_32 rfl hl (by decide) rfl (fun ls hl => ?_)
        refine lv_iinc (v := x4_5 + (1 : Int32)) (lv' := [(4, .int (x4_5 + (1 : Int32))), (3, .int r8), (0, .ref o), (1, .int p0), (2, .int p1)]) hx hb dX2_leadEnd_33 hl (k := 1) rfl rfl (by decide) rfl (fun ls hl => ?_)
        refine lv_goto (tgt := 5) hx hb dX2_leadEnd_36 (by decide) ?_
        exact ih5 (x4_5 + (1 : Int32)) r8 _ _ _ hF (hP.sub [0, 1, 2] rfl) (hD.sub [0, 1, 2] (by decide) rfl) hS (lv_sub hl [0, 1, 2, 3, 4] rfl)
  exact L5 1000 (0 : Int32) p0 _ _ _ hF (hP.sub [0, 1, 2] rfl) (hD.sub [0, 1, 2] (by decide) rfl) hS (lv_sub hl [0, 1, 2, 3, 4] rfl)

def fX2_huntBells_X36  (x6_36 : Int32) (x5_36 : Int32) : Option Int32 := some (x5_36)
def fX2_huntBells_L36 (obells : Int32) (r4 : Int32) (r7 : Int32) (r10 : Int32) (K36 : Int32 → Int32 → Option Int32) : Nat → Int32 → Int32 → Option Int32
  | 0, _, _ => none
  | n + 1, x6_36, x5_36 => if obells < x6_36 then (K36 x6_36 x5_36) else ((fX3_bellAt r4 x6_36).bind (fun r14 => if r14 = x6_36 then ((fX3_bellAt r7 x6_36).bind (fun r18 => if r18 = x6_36 then ((fX3_bellAt r10 x6_36).bind (fun r22 => if r22 = x6_36 then ((fX2_huntBells_L36 obells r4 r7 r10 K36 n) (x6_36 + (1 : Int32)) (x5_36 + (1 : Int32))) else ((fX2_huntBells_L36 obells r4 r7 r10 K36 n) (x6_36 + (1 : Int32)) x5_36))) else ((fX2_huntBells_L36 obells r4 r7 r10 K36 n) (x6_36 + (1 : Int32)) x5_36))) else ((fX2_huntBells_L36 obells r4 r7 r10 K36 n) (x6_36 + (1 : Int32)) x5_36)))
def fX2_huntBells (obells : Int32) (obob : Int32) (osng : Int32) (ochz : Int32) (ochn : Nat) (ochf : (Nat → Int32)) : Option Int32 := (fX3_rounds obells).bind (fun r1 => (fX2_leadEnd obells obob osng ochz ochn ochf r1 (0 : Int32)).bind (fun r4 => (fX2_leadEnd obells obob osng ochz ochn ochf r1 (1 : Int32)).bind (fun r7 => (fX2_leadEnd obells obob osng ochz ochn ochf r1 (2 : Int32)).bind (fun r10 => fX2_huntBells_L36 obells r4 r7 r10 fX2_huntBells_X36 1000 (1 : Int32) (0 : Int32)))))
abbrev rmX2_huntBells : Room := { frames := 3, cells := 0, slots := 0, locals := 72 }
set_option maxHeartbeats 4000000 in
set_option maxRecDepth 100000 in
theorem kX2_huntBells (l : Launch) (dC : Nat → ClassId) (dI : Nat → Nat → Nat) (tys : List (ClassId × FieldType)) (cI : ClassId) (ht0 : tys[0]? = some (cI, .int)) (o och ocha : Nat) (obells : Int32) (obob : Int32) (osng : Int32) (ochz : Int32) (ochn : Nat) (ochf : (Nat → Int32)) (r : Int32) (hF : fX2_huntBells obells obob osng ochz ochn ochf = some r) : ct l (dC, dI) tys yX2_huntBells wsX2_huntBells rmX2_huntBells [.ref o] [(o, .inr (2, [.ref och, .int obells, .int obob, .int osng])), (och, .inr (1, [.ref ocha, .int ochz])), (ocha, .inl (cI, ochn, .inl ochf))] (fun _ : Unit => some (.int r)) (fun _ : Unit => [(o, .inr (2, [.ref och, .int obells, .int obob, .int osng])), (och, .inr (1, [.ref ocha, .int ochz])), (ocha, .inl (cI, ochn, .inl ochf))]) := by
  refine ct_of (cc := cX2_huntBells) (maxL := 7) (ret := (some .int)) (by decide) rfl (Nat.le_of_ble_eq_true rfl) ?_
  intro p e s m below meth c A ls hx hb hr hml hts hown hlocks hname hE hK hP hD hA hS hl
  have hown : s.vm.findClass RX2 = some m.cls := hown
  have hl : lv_has ls 7 [(0, .ref o)] := hl
  unfold fX2_huntBells at hF
  have uX2 : ∀ w ∈ wsX20, w ∈ wsX2_huntBells := (fun _ h => (List.mem_cons_of_mem _ (List.mem_append_left _ (List.mem_append_right _ h))))
  have w1 := hts (.fieldLink RX2 20 "BellfounderTower$Method" "bells" "I") (List.mem_cons_of_mem _ (List.mem_append_left _ (List.mem_append_left _ (List.mem_append_left _ (List.mem_of_getElem? (i := 0) rfl)))))
  refine lv_aload_n hx hb dX2_huntBells_0 rfl (lv_at hl 0 rfl) ?_
  refine va_get (D := (dC, dI)) (ci := 2) (v := .int obells) (C := RX2) (T := TX2) (N := 4) hx hb hts uX2 hown hK hP 0 rfl rfl 1 (by decide) w1 (fun _ h9 => h9) rfl dX2_huntBells_1 ?_
  obtain ⟨r1, hC2, hF⟩ := gd_b hF
  refine ct_callS (As := [.int obells]) (rest := []) ⟨hx, hb, hml, hown, hts⟩ (kX3_rounds l dC dI tys cI ht0 obells r1 hC2) (va_cwS 1 hts gX2_huntBells_X3_rounds rfl rfl rfl (by decide +kernel) ⟨Nat.le_of_ble_eq_true rfl, Nat.le_of_ble_eq_true rfl⟩) hE hK hP hD hS hA [] [0, 1, 2] (by decide) rfl (by decide) (wr := [(o, .inr (2, [.ref och, .int obells, .int obob, .int osng])), (och, .inr (1, [.ref ocha, .int ochz])), (ocha, .inl (cI, ochn, .inl ochf))]) rfl (by decide) hl.1 rfl rfl (Nat.le_of_ble_eq_true rfl) dX2_huntBells_4 ⟨(Nat.le_of_ble_eq_true rfl), (Nat.le_of_ble_eq_true rfl)⟩ (fun i3 H locs hP hD hS => ?_)
  have hP : va_P (dC, dI) vwCl [(o, .inr (2, [.ref och, .int obells, .int obob, .int osng])), (och, .inr (1, [.ref ocha, .int ochz])), (ocha, .inl (cI, ochn, .inl ochf))] H := hP
  have hD : va_D A [(o, .inr (2, [.ref och, .int obells, .int obob, .int osng])), (och, .inr (1, [.ref ocha, .int ochz])), (ocha, .inl (cI, ochn, .inl ochf))] := hD
  refine lv_istore_n (lv' := [(1, .int r1), (0, .ref o)]) hx hb dX2_huntBells_7 rfl hl (by decide) rfl (fun ls hl => ?_)
  refine lv_aload_n hx hb dX2_huntBells_8 rfl (lv_at hl 1 rfl) ?_
  refine lv_iload_n hx hb dX2_huntBells_9 rfl (lv_at hl 0 rfl) ?_
  refine lv_iconst (v := (0 : Int32)) hx hb dX2_huntBells_10 (by decide) ?_
  obtain ⟨r4, hC5, hF⟩ := gd_b hF
  refine ct_callV (C := RX2) (As := [.int r1, .int (0 : Int32)]) (rest := []) ⟨hx, hb, hml, hown, hts⟩ (kX2_leadEnd l dC dI tys cI ht0 o och ocha obells obob osng ochz ochn ochf r1 (0 : Int32) r4 hC5) (cwV 2 hts gX2_huntBells_X2_leadEnd rfl rfl rfl (by decide +kernel) ⟨Nat.le_of_ble_eq_true rfl, Nat.le_of_ble_eq_true rfl⟩) hE hK hP hD hS hA [0, 1, 2] [] (by decide) rfl (by decide) (wr := []) rfl (by decide) (ci := 2) (T := TX2) (N := 4) (q0 := 0) rfl rfl hl.1 rfl rfl (Nat.le_of_ble_eq_true rfl) dX2_huntBells_11 ⟨(Nat.le_of_ble_eq_true rfl), (Nat.le_of_ble_eq_true rfl)⟩ (fun i6 H locs hP hD hS => ?_)
  have hP : va_P (dC, dI) vwCl [(o, .inr (2, [.ref och, .int obells, .int obob, .int osng])), (och, .inr (1, [.ref ocha, .int ochz])), (ocha, .inl (cI, ochn, .inl ochf))] H := hP
  have hD : va_D A [(o, .inr (2, [.ref och, .int obells, .int obob, .int osng])), (och, .inr (1, [.ref ocha, .int ochz])), (ocha, .inl (cI, ochn, .inl ochf))] := hD
  refine lv_istore_n (lv' := [(2, .int r4), (1, .int r1), (0, .ref o)]) hx hb dX2_huntBells_14 rfl hl (by decide) rfl (fun ls hl => ?_)
  refine lv_aload_n hx hb dX2_huntBells_15 rfl (lv_at hl 2 rfl) ?_
  refine lv_iload_n hx hb dX2_huntBells_16 rfl (lv_at hl 1 rfl) ?_
  refine lv_iconst (v := (1 : Int32)) hx hb dX2_huntBells_17 (by decide) ?_
  obtain ⟨r7, hC8, hF⟩ := gd_b hF
  refine ct_callV (C := RX2) (As := [.int r1, .int (1 : Int32)]) (rest := []) ⟨hx, hb, hml, hown, hts⟩ (kX2_leadEnd l dC dI tys cI ht0 o och ocha obells obob osng ochz ochn ochf r1 (1 : Int32) r7 hC8) (cwV 2 hts gX2_huntBells_X2_leadEnd rfl rfl rfl (by decide +kernel) ⟨Nat.le_of_ble_eq_true rfl, Nat.le_of_ble_eq_true rfl⟩) hE hK hP hD hS hA [0, 1, 2] [] (by decide) rfl (by decide) (wr := []) rfl (by decide) (ci := 2) (T := TX2) (N := 4) (q0 := 0) rfl rfl hl.1 rfl rfl (Nat.le_of_ble_eq_true rfl) dX2_huntBells_18 ⟨(Nat.le_of_ble_eq_true rfl), (Nat.le_of_ble_eq_true rfl)⟩ (fun i9 H locs hP hD hS => ?_)
  have hP : va_P (dC, dI) vwCl [(o, .inr (2, [.ref och, .int obells, .int obob, .int osng])), (och, .inr (1, [.ref ocha, .int ochz])), (ocha, .inl (cI, ochn, .inl ochf))] H := hP
  have hD : va_D A [(o, .inr (2, [.ref och, .int obells, .int obob, .int osng])), (och, .inr (1, [.ref ocha, .int ochz])), (ocha, .inl (cI, ochn, .inl ochf))] := hD
  refine lv_istore_n (lv' := [(3, .int r7), (2, .int r4), (1, .int r1), (0, .ref o)]) hx hb dX2_huntBells_21 rfl hl (by decide) rfl (fun ls hl => ?_)
  refine lv_aload_n hx hb dX2_huntBells_22 rfl (lv_at hl 3 rfl) ?_
  refine lv_iload_n hx hb dX2_huntBells_23 rfl (lv_at hl 2 rfl) ?_
  refine lv_iconst (v := (2 : Int32)) hx hb dX2_huntBells_24 (by decide) ?_
  obtain ⟨r10, hC11, hF⟩ := gd_b hF
  refine ct_callV (C := RX2) (As := [.int r1, .int (2 : Int32)]) (rest := []) ⟨hx, hb, hml, hown, hts⟩ (kX2_leadEnd l dC dI tys cI ht0 o och ocha obells obob osng ochz ochn ochf r1 (2 : Int32) r10 hC11) (cwV 2 hts gX2_huntBells_X2_leadEnd rfl rfl rfl (by decide +kernel) ⟨Nat.le_of_ble_eq_true rfl, Nat.le_of_ble_eq_true rfl⟩) hE hK hP hD hS hA [0, 1, 2] [] (by decide) rfl (by decide) (wr := []) rfl (by decide) (ci := 2) (T := TX2) (N := 4) (q0 := 0) rfl rfl hl.1 rfl rfl (Nat.le_of_ble_eq_true rfl) dX2_huntBells_25 ⟨(Nat.le_of_ble_eq_true rfl), (Nat.le_of_ble_eq_true rfl)⟩ (fun i12 H locs hP hD hS => ?_)
  have hP : va_P (dC, dI) vwCl [(o, .inr (2, [.ref och, .int obells, .int obob, .int osng])), (och, .inr (1, [.ref ocha, .int ochz])), (ocha, .inl (cI, ochn, .inl ochf))] H := hP
  have hD : va_D A [(o, .inr (2, [.ref och, .int obells, .int obob, .int osng])), (och, .inr (1, [.ref ocha, .int ochz])), (ocha, .inl (cI, ochn, .inl ochf))] := hD
  refine lv_istore (lv' := [(4, .int r10), (3, .int r7), (2, .int r4), (1, .int r1), (0, .ref o)]) hx hb dX2_huntBells_28 hl (by decide) rfl (fun ls hl => ?_)
  refine lv_iconst (v := (0 : Int32)) hx hb dX2_huntBells_30 (by decide) ?_
  refine lv_istore (lv' := [(5, .int (0 : Int32)), (4, .int r10), (3, .int r7), (2, .int r4), (1, .int r1), (0, .ref o)]) hx hb dX2_huntBells_31 hl (by decide) rfl (fun ls hl => ?_)
  refine lv_iconst (v := (1 : Int32)) hx hb dX2_huntBells_33 (by decide) ?_
  refine lv_istore (lv' := [(6, .int (1 : Int32)), (5, .int (0 : Int32)), (4, .int r10), (3, .int r7), (2, .int r4), (1, .int r1), (0, .ref o)]) hx hb dX2_huntBells_34 hl (by decide) rfl (fun ls hl => ?_)
  have X36 : ∀ (x6_36 : Int32) (x5_36 : Int32) (H : Heap) (locs : List Loc) (ls : Array Slot), fX2_huntBells_X36 x6_36 x5_36 = some r → va_P (dC, dI) vwCl [(o, .inr (2, [.ref och, .int obells, .int obob, .int osng])), (och, .inr (1, [.ref ocha, .int ochz])), (ocha, .inl (cI, ochn, .inl ochf))] H → va_D A [(o, .inr (2, [.ref och, .int obells, .int obob, .int osng])), (och, .inr (1, [.ref ocha, .int ochz])), (ocha, .inl (cI, ochn, .inl ochf))] → va_S A s.heap H locs → lv_has ls 7 [(6, .int x6_36), (5, .int x5_36), (4, .int r10), (3, .int r7), (2, .int r4), (1, .int r1), (0, .ref o)] → W p l e rmX2_huntBells s m ([.ref o] : List Value).toArray below meth c H locs 0 0 (MQ below (ct_Q (dC, dI) tys (fun _ : Unit => some (.int r)) (fun _ : Unit => [(o, .inr (2, [.ref och, .int obells, .int obob, .int osng])), (och, .inr (1, [.ref ocha, .int ochz])), (ocha, .inl (cI, ochn, .inl ochf))]) A) ([.ref o] : List Value).toArray s rmX2_huntBells.cells rmX2_huntBells.slots A) (F0 m 88 ls []) := by
    intro x6_36 x5_36 H locs ls hF hP hD hS hl
    unfold fX2_huntBells_X36 at hF
    refine lv_iload hx hb dX2_huntBells_88 (lv_at hl 1 rfl) ?_
    obtain rfl := Option.some.inj hF
    exact ct_i hx hb hr hlocks hK hP hD hS () rfl [0, 1, 2] (by decide) rfl (Nat.le_of_ble_eq_true rfl) (Nat.le_of_ble_eq_true rfl) dX2_huntBells_90
  have L36 : ∀ (n36 : Nat) (x6_36 : Int32) (x5_36 : Int32) (H : Heap) (locs : List Loc) (ls : Array Slot), fX2_huntBells_L36 obells r4 r7 r10 fX2_huntBells_X36 n36 x6_36 x5_36 = some r → va_P (dC, dI) vwCl [(o, .inr (2, [.ref och, .int obells, .int obob, .int osng])), (och, .inr (1, [.ref ocha, .int ochz])), (ocha, .inl (cI, ochn, .inl ochf))] H → va_D A [(o, .inr (2, [.ref och, .int obells, .int obob, .int osng])), (och, .inr (1, [.ref ocha, .int ochz])), (ocha, .inl (cI, ochn, .inl ochf))] → va_S A s.heap H locs → lv_has ls 7 [(6, .int x6_36), (5, .int x5_36), (4, .int r10), (3, .int r7), (2, .int r4), (1, .int r1), (0, .ref o)] → W p l e rmX2_huntBells s m ([.ref o] : List Value).toArray below meth c H locs 0 0 (MQ below (ct_Q (dC, dI) tys (fun _ : Unit => some (.int r)) (fun _ : Unit => [(o, .inr (2, [.ref och, .int obells, .int obob, .int osng])), (och, .inr (1, [.ref ocha, .int ochz])), (ocha, .inl (cI, ochn, .inl ochf))]) A) ([.ref o] : List Value).toArray s rmX2_huntBells.cells rmX2_huntBells.slots A) (F0 m 36 ls []) := by
    intro n36
    induction n36 with
    | zero => intro x6_36 x5_36 H locs ls hF; rw [fX2_huntBells_L36] at hF; cases hF
    | succ n36 ih36 =>
      intro x6_36 x5_36 H locs ls hF hP hD hS hl
      rw [fX2_huntBells_L36] at hF
      refine lv_iload hx hb dX2_huntBells_36 (lv_at hl 0 rfl) ?_
      refine lv_aload_n hx hb dX2_huntBells_38 rfl (lv_at hl 6 rfl) ?_
      refine va_get (D := (dC, dI)) (ci := 2) (v := .int obells) (C := RX2) (T := TX2) (N := 4) hx hb hts uX2 hown hK hP 0 rfl rfl 1 (by decide) w1 (fun _ h9 => h9) rfl dX2_huntBells_39 ?_
      refine lv_icmp_gt (tgt := 88) hx hb dX2_huntBells_42 (by decide) (fun c13 => ?_) (fun c13 => ?_)
      · have hF := (if_pos c13).symm.trans hF
        exact X36 x6_36 x5_36 _ _ _ hF (hP.sub [0, 1, 2] rfl) (hD.sub [0, 1, 2] (by decide) rfl) hS (lv_sub hl [0, 1, 2, 3, 4, 5, 6] rfl)
      · have hF := (if_neg c13).symm.trans hF
        refine lv_iload_n hx hb dX2_huntBells_45 rfl (lv_at hl 4 rfl) ?_
        refine lv_iload hx hb dX2_huntBells_46 (lv_at hl 0 rfl) ?_
        obtain ⟨r14, hC15, hF⟩ := gd_b hF
        refine ct_callS (As := [.int r4, .int x6_36]) (rest := []) ⟨hx, hb, hml, hown, hts⟩ (kX3_bellAt l dC dI tys cI ht0 r4 x6_36 r14 hC15) (va_cwS 2 hts gX2_huntBells_X3_bellAt rfl rfl rfl (by decide +kernel) ⟨Nat.le_of_ble_eq_true rfl, Nat.le_of_ble_eq_true rfl⟩) hE hK hP hD hS hA [] [0, 1, 2] (by decide) rfl (by decide) (wr := [(o, .inr (2, [.ref och, .int obells, .int obob, .int osng])), (och, .inr (1, [.ref ocha, .int ochz])), (ocha, .inl (cI, ochn, .inl ochf))]) rfl (by decide) hl.1 rfl rfl (Nat.le_of_ble_eq_true rfl) dX2_huntBells_48 ⟨(Nat.le_of_ble_eq_true rfl), (Nat.le_of_ble_eq_true rfl)⟩ (fun i16 H locs hP hD hS => ?_)
        have hP : va_P (dC, dI) vwCl [(o, .inr (2, [.ref och, .int obells, .int obob, .int osng])), (och, .inr (1, [.ref ocha, .int ochz])), (ocha, .inl (cI, ochn, .inl ochf))] H := hP
        have hD : va_D A [(o, .inr (2, [.ref och, .int obells, .int obob, .int osng])), (och, .inr (1, [.ref ocha, .int ochz])), (ocha, .inl (cI, ochn, .inl ochf))] := hD
        refine lv_iload hx hb dX2_huntBells_51 (lv_at hl 0 rfl) ?_
        refine lv_icmp_ne (tgt := 82) hx hb dX2_huntBells_53 (by decide) (fun c17 => ?_) (fun c17 => ?_)
        · have hF := (if_neg c17).symm.trans hF
          refine lv_iinc (v := x6_36 + (1 : Int32)) (lv' := [(6, .int (x6_36 + (1 : Int32))), (5, .int x5_36), (4, .int r10), (3, .int r7), (2, .int r4), (1, .int r1), (0, .ref o)]) hx hb dX2_huntBells_82 hl (k := 0) rfl rfl (by decide) rfl (fun ls hl => ?_)
          refine lv_goto (tgt := 36) hx hb dX2_huntBells_85 (by decide) ?_
          exact ih36 (x6_36 + (1 : Int32)) x5_36 _ _ _ hF (hP.sub [0, 1, 2] rfl) (hD.sub [0, 1, 2] (by decide) rfl) hS (lv_sub hl [0, 1, 2, 3, 4, 5, 6] rfl)
        · have hF := (if_pos c17).symm.trans hF
          refine lv_iload_n hx hb dX2_huntBells_56 rfl (lv_at hl 3 rfl) ?_
          refine lv_iload hx hb dX2_huntBells_57 (lv_at hl 0 rfl) ?_
          obtain ⟨r18, hC19, hF⟩ := gd_b hF
          refine ct_callS (As := [.int r7, .int x6_36]) (rest := []) ⟨hx, hb, hml, hown, hts⟩ (kX3_bellAt l dC dI tys cI ht0 r7 x6_36 r18 hC19) (va_cwS 2 hts gX2_huntBells_X3_bellAt rfl rfl rfl (by decide +kernel) ⟨Nat.le_of_ble_eq_true rfl, Nat.le_of_ble_eq_true rfl⟩) hE hK hP hD hS hA [] [0, 1, 2] (by decide) rfl (by decide) (wr := [(o, .inr (2, [.ref och, .int obells, .int obob, .int osng])), (och, .inr (1, [.ref ocha, .int ochz])), (ocha, .inl (cI, ochn, .inl ochf))]) rfl (by decide) hl.1 rfl rfl (Nat.le_of_ble_eq_true rfl) dX2_huntBells_59 ⟨(Nat.le_of_ble_eq_true rfl), (Nat.le_of_ble_eq_true rfl)⟩ (fun i20 H locs hP hD hS => ?_)
          have hP : va_P (dC, dI) vwCl [(o, .inr (2, [.ref och, .int obells, .int obob, .int osng])), (och, .inr (1, [.ref ocha, .int ochz])), (ocha, .inl (cI, ochn, .inl ochf))] H := hP
          have hD : va_D A [(o, .inr (2, [.ref och, .int obells, .int obob, .int osng])), (och, .inr (1, [.ref ocha, .int ochz])), (ocha, .inl (cI, ochn, .inl ochf))] := hD
          refine lv_iload hx hb dX2_huntBells_62 (lv_at hl 0 rfl) ?_
          refine lv_icmp_ne (tgt := 82) hx hb dX2_huntBells_64 (by decide) (fun c21 => ?_) (fun c21 => ?_)
          · have hF := (if_neg c21).symm.trans hF
            refine lv_iinc (v := x6_36 + (1 : Int32)) (lv' := [(6, .int (x6_36 + (1 : Int32))), (5, .int x5_36), (4, .int r10), (3, .int r7), (2, .int r4), (1, .int r1), (0, .ref o)]) hx hb dX2_huntBells_82 hl (k := 0) rfl rfl (by decide) rfl (fun ls hl => ?_)
            refine lv_goto (tgt := 36) hx hb dX2_huntBells_85 (by decide) ?_
            exact ih36 (x6_36 + (1 : Int32)) x5_36 _ _ _ hF (hP.sub [0, 1, 2] rfl) (hD.sub [0, 1, 2] (by decide) rfl) hS (lv_sub hl [0, 1, 2, 3, 4, 5, 6] rfl)
          · have hF := (if_pos c21).symm.trans hF
            refine lv_iload hx hb dX2_huntBells_67 (lv_at hl 2 rfl) ?_
            refine lv_iload hx hb dX2_huntBells_69 (lv_at hl 0 rfl) ?_
            obtain ⟨r22, hC23, hF⟩ := gd_b hF
            refine ct_callS (As := [.int r10, .int x6_36]) (rest := []) ⟨hx, hb, hml, hown, hts⟩ (kX3_bellAt l dC dI tys cI ht0 r10 x6_36 r22 hC23) (va_cwS 2 hts gX2_huntBells_X3_bellAt rfl rfl rfl (by decide +kernel) ⟨Nat.le_of_ble_eq_true rfl, Nat.le_of_ble_eq_true rfl⟩) hE hK hP hD hS hA [] [0, 1, 2] (by decide) rfl (by decide) (wr := [(o, .inr (2, [.ref och, .int obells, .int obob, .int osng])), (och, .inr (1, [.ref ocha, .int ochz])), (ocha, .inl (cI, ochn, .inl ochf))]) rfl (by decide) hl.1 rfl rfl (Nat.le_of_ble_eq_true rfl) dX2_huntBells_71 ⟨(Nat.le_of_ble_eq_true rfl), (Nat.le_of_ble_eq_true rfl)⟩ (fun i24 H locs hP hD hS => ?_)
            have hP : va_P (dC, dI) vwCl [(o, .inr (2, [.ref och, .int obells, .int obob, .int osng])), (och, .inr (1, [.ref ocha, .int ochz])), (ocha, .inl (cI, ochn, .inl ochf))] H := hP
            have hD : va_D A [(o, .inr (2, [.ref och, .int obells, .int obob, .int osng])), (och, .inr (1, [.ref ocha, .int ochz])), (ocha, .inl (cI, ochn, .inl ochf))] := hD
            refine lv_iload hx hb dX2_huntBells_74 (lv_at hl 0 rfl) ?_
            refine lv_icmp_ne (tgt := 82) hx hb dX2_huntBells_76 (by decide) (fun c25 => ?_) (fun c25 => ?_)
            · have hF := (if_neg c25).symm.trans hF
              refine lv_iinc (v := x6_36 + (1 : Int32)) (lv' := [(6, .int (x6_36 + (1 : Int32))), (5, .int x5_36), (4, .int r10), (3, .int r7), (2, .int r4), (1, .int r1), (0, .ref o)]) hx hb dX2_huntBells_82 hl (k := 0) rfl rfl (by decide) rfl (fun ls hl => ?_)
              refine lv_goto (tgt := 36) hx hb dX2_huntBells_85 (by decide) ?_
              exact ih36 (x6_36 + (1 : Int32)) x5_36 _ _ _ hF (hP.sub [0, 1, 2] rfl) (hD.sub [0, 1, 2] (by decide) rfl) hS (lv_sub hl [0, 1, 2, 3, 4, 5, 6] rfl)
            · have hF := (if_pos c25).symm.trans hF
              refine lv_iinc (v := x5_36 + (1 : Int32)) (lv' := [(5, .int (x5_36 + (1 : Int32))), (6, .int x6_36), (4, .int r10), (3, .int r7), (2, .int r4), (1, .int r1), (0, .ref o)]) hx hb dX2_huntBells_79 hl (k := 1) rfl rfl (by decide) rfl (fun ls hl => ?_)
              refine lv_iinc (v := x6_36 + (1 : Int32)) (lv' := [(6, .int (x6_36 + (1 : Int32))), (5, .int (x5_36 + (1 : Int32))), (4, .int r10), (3, .int r7), (2, .int r4), (1, .int r1), (0, .ref o)]) hx hb dX2_huntBells_82 hl (k := 1) rfl rfl (by decide) rfl (fun ls hl => ?_)
              refine lv_goto (tgt := 36) hx hb dX2_huntBells_85 (by decide) ?_
              exact ih36 (x6_36 + (1 : Int32)) (x5_36 + (1 : Int32)) _ _ _ hF (hP.sub [0, 1, 2] rfl) (hD.sub [0, 1, 2] (by decide) rfl) hS (lv_sub hl [0, 1, 2, 3, 4, 5, 6] rfl)
  exact L36 1000 (1 : Int32) (0 : Int32) _ _ _ hF (hP.sub [0, 1, 2] rfl) (hD.sub [0, 1, 2] (by decide) rfl) hS (lv_sub hl [0, 1, 2, 3, 4, 5, 6] rfl)
