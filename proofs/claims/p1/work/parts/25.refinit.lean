def fX7_init  : Option (Int32 × (Nat → Int32)) := (fX7_reset (fun _ => 0) (5 : Int32)).bind (fun r13 => some (r13.1, r13.2))
abbrev rmX7_init : Room := { frames := 1, cells := 4, slots := 41, locals := 21 }
set_option maxHeartbeats 4000000 in
set_option maxRecDepth 100000 in
theorem kX7_init (l : Launch) (dC : Nat → ClassId) (dI : Nat → Nat → Nat) (tys : List (ClassId × FieldType)) (cI : ClassId) (ht0 : tys[0]? = some (cI, .int)) (o : Nat)  (r : (Int32 × (Nat → Int32))) (hF : fX7_init  = some r) : ct l (dC, dI) tys yX7_init wsX7_init rmX7_init [.ref o] [(o, .inr (6, [.int (0 : Int32), .int (0 : Int32), .int (0 : Int32), .null, .null, .int (0 : Int32), .null, .int (0 : Int32), .int (0 : Int32), .null]))] (fun _ : (Nat × Nat × Nat × Nat) => none) (fun i : (Nat × Nat × Nat × Nat) => [(o, .inr (6, [.int (0 : Int32), .int r.1, .int (0 : Int32), .ref i.1, .ref i.2.1, .int (0 : Int32), .ref i.2.2.1, .int (0 : Int32), .int (0 : Int32), .ref i.2.2.2])), (i.1, .inl (cI, 14, .inl (fun _ => 0))), (i.2.1, .inl (cI, 3, .inl r.2)), (i.2.2.1, .inl (cI, 24, .inl (fun _ => 0))), (i.2.2.2, .inl (cI, 0, .inl (fun _ => 0)))]) := by
  refine ct_of (cc := cX7_init) (maxL := 1) (ret := none) (by decide) rfl (Nat.le_of_ble_eq_true rfl) ?_
  intro p e s m below meth c A ls hx hb hr hml hts hown hlocks hname hE hK hP hD hA hS hl
  have hown : s.vm.findClass RX7 = some m.cls := hown
  have hl : lv_has ls 1 [(0, .ref o)] := hl
  unfold fX7_init at hF
  have w0 := hts (.methodLink RX7 1 objectInit) (List.mem_cons_of_mem _ (List.mem_append_left _ (List.mem_of_getElem? (i := 0) rfl)))
  have w1 := hts (.instanceMethod objectInit) (List.mem_cons_of_mem _ (List.mem_append_left _ (List.mem_of_getElem? (i := 1) rfl)))
  have w2 := hts (.code objectInit ⟨#[0xb1]⟩ 1 none) (List.mem_cons_of_mem _ (List.mem_append_left _ (List.mem_of_getElem? (i := 2) rfl)))
  have w3 := hts (.arrayClass .int) (List.mem_cons_of_mem _ (List.mem_append_left _ (List.mem_of_getElem? (i := 3) rfl)))
  have uX7 : ∀ w ∈ wsX70, w ∈ wsX7_init := (fun _ h => (List.mem_cons_of_mem _ (List.mem_append_right _ h)))
  have w5 := hts (.fieldLink RX7 9 "BellfounderTowerModel" "change" "[I") (List.mem_cons_of_mem _ (List.mem_append_left _ (List.mem_of_getElem? (i := 4) rfl)))
  have w6 := hts (.fieldLink RX7 13 "BellfounderTowerModel" "instead" "[I") (List.mem_cons_of_mem _ (List.mem_append_left _ (List.mem_of_getElem? (i := 5) rfl)))
  have w7 := hts (.fieldLink RX7 16 "BellfounderTowerModel" "call" "[I") (List.mem_cons_of_mem _ (List.mem_append_left _ (List.mem_of_getElem? (i := 6) rfl)))
  have w8 := hts (.fieldLink RX7 19 "BellfounderTowerModel" "best" "[I") (List.mem_cons_of_mem _ (List.mem_append_left _ (List.mem_of_getElem? (i := 7) rfl)))
  refine lv_aload_n hx hb dX7_init_0 rfl (lv_at hl 0 rfl) ?_
  refine W.objInit hx hb hown w0 w1 w2 rfl (by rw [hml]; exact hl.1) rfl dX7_init_1 (Nat.le_of_ble_eq_true rfl) (Nat.le_of_ble_eq_true rfl) ?_
  refine W.eq (g2 := F0 m 4 ls []) rfl ?_
  refine lv_aload_n hx hb dX7_init_4 rfl (lv_at hl 0 rfl) ?_
  refine lv_bipush (v := (14 : Int32)) hx hb dX7_init_5 (by decide) ?_
  refine ct_newi hx hb w3 ht0 hK hP hD hS hA (N' := 14) (by decide) (by decide) (Nat.le_of_ble_eq_true rfl) (Nat.le_of_ble_eq_true rfl) (Nat.le_of_ble_eq_true rfl) dX7_init_7 (fun q3 H hP hD hS => ?_)
  have hP : va_P (dC, dI) vwCl [(o, .inr (6, [.int (0 : Int32), .int (0 : Int32), .int (0 : Int32), .null, .null, .int (0 : Int32), .null, .int (0 : Int32), .int (0 : Int32), .null])), (q3, .inl (cI, 14, .inl (fun _ => 0)))] H := hP
  have hD : va_D A [(o, .inr (6, [.int (0 : Int32), .int (0 : Int32), .int (0 : Int32), .null, .null, .int (0 : Int32), .null, .int (0 : Int32), .int (0 : Int32), .null])), (q3, .inl (cI, 14, .inl (fun _ => 0)))] := hD
  refine va_putF (D := (dC, dI)) (ci := 6) (v := .ref q3) (ty := .array .int) (C := RX7) (T := TX7) (N := 10) hx hb hts uX7 tyX7 tyX7_ok nmX7 hown hK hP hD hS 0 rfl rfl 3 (by decide) w5 (fun _ h9 => h9) rfl hname rfl (by decide +kernel) rfl rfl (Nat.le_of_ble_eq_true rfl) dX7_init_9 (fun H locs hP hD hS => ?_)
  have hP : va_P (dC, dI) vwCl [(o, .inr (6, [.int (0 : Int32), .int (0 : Int32), .int (0 : Int32), .ref q3, .null, .int (0 : Int32), .null, .int (0 : Int32), .int (0 : Int32), .null])), (q3, .inl (cI, 14, .inl (fun _ => 0)))] H := hP
  have hD : va_D A [(o, .inr (6, [.int (0 : Int32), .int (0 : Int32), .int (0 : Int32), .ref q3, .null, .int (0 : Int32), .null, .int (0 : Int32), .int (0 : Int32), .null])), (q3, .inl (cI, 14, .inl (fun _ => 0)))] := hD
  refine lv_aload_n hx hb dX7_init_12 rfl (lv_at hl 0 rfl) ?_
  refine lv_iconst (v := (3 : Int32)) hx hb dX7_init_13 (by decide) ?_
  refine ct_newi hx hb w3 ht0 hK hP hD hS hA (N' := 3) (by decide) (by decide) (Nat.le_of_ble_eq_true rfl) (Nat.le_of_ble_eq_true rfl) (Nat.le_of_ble_eq_true rfl) dX7_init_14 (fun q6 H hP hD hS => ?_)
  have hP : va_P (dC, dI) vwCl [(o, .inr (6, [.int (0 : Int32), .int (0 : Int32), .int (0 : Int32), .ref q3, .null, .int (0 : Int32), .null, .int (0 : Int32), .int (0 : Int32), .null])), (q3, .inl (cI, 14, .inl (fun _ => 0))), (q6, .inl (cI, 3, .inl (fun _ => 0)))] H := hP
  have hD : va_D A [(o, .inr (6, [.int (0 : Int32), .int (0 : Int32), .int (0 : Int32), .ref q3, .null, .int (0 : Int32), .null, .int (0 : Int32), .int (0 : Int32), .null])), (q3, .inl (cI, 14, .inl (fun _ => 0))), (q6, .inl (cI, 3, .inl (fun _ => 0)))] := hD
  refine va_putF (D := (dC, dI)) (ci := 6) (v := .ref q6) (ty := .array .int) (C := RX7) (T := TX7) (N := 10) hx hb hts uX7 tyX7 tyX7_ok nmX7 hown hK hP hD hS 0 rfl rfl 4 (by decide) w6 (fun _ h9 => h9) rfl hname rfl (by decide +kernel) rfl rfl (Nat.le_of_ble_eq_true rfl) dX7_init_16 (fun H locs hP hD hS => ?_)
  have hP : va_P (dC, dI) vwCl [(o, .inr (6, [.int (0 : Int32), .int (0 : Int32), .int (0 : Int32), .ref q3, .ref q6, .int (0 : Int32), .null, .int (0 : Int32), .int (0 : Int32), .null])), (q3, .inl (cI, 14, .inl (fun _ => 0))), (q6, .inl (cI, 3, .inl (fun _ => 0)))] H := hP
  have hD : va_D A [(o, .inr (6, [.int (0 : Int32), .int (0 : Int32), .int (0 : Int32), .ref q3, .ref q6, .int (0 : Int32), .null, .int (0 : Int32), .int (0 : Int32), .null])), (q3, .inl (cI, 14, .inl (fun _ => 0))), (q6, .inl (cI, 3, .inl (fun _ => 0)))] := hD
  refine lv_aload_n hx hb dX7_init_19 rfl (lv_at hl 0 rfl) ?_
  refine lv_bipush (v := (24 : Int32)) hx hb dX7_init_20 (by decide) ?_
  refine ct_newi hx hb w3 ht0 hK hP hD hS hA (N' := 24) (by decide) (by decide) (Nat.le_of_ble_eq_true rfl) (Nat.le_of_ble_eq_true rfl) (Nat.le_of_ble_eq_true rfl) dX7_init_22 (fun q9 H hP hD hS => ?_)
  have hP : va_P (dC, dI) vwCl [(o, .inr (6, [.int (0 : Int32), .int (0 : Int32), .int (0 : Int32), .ref q3, .ref q6, .int (0 : Int32), .null, .int (0 : Int32), .int (0 : Int32), .null])), (q3, .inl (cI, 14, .inl (fun _ => 0))), (q6, .inl (cI, 3, .inl (fun _ => 0))), (q9, .inl (cI, 24, .inl (fun _ => 0)))] H := hP
  have hD : va_D A [(o, .inr (6, [.int (0 : Int32), .int (0 : Int32), .int (0 : Int32), .ref q3, .ref q6, .int (0 : Int32), .null, .int (0 : Int32), .int (0 : Int32), .null])), (q3, .inl (cI, 14, .inl (fun _ => 0))), (q6, .inl (cI, 3, .inl (fun _ => 0))), (q9, .inl (cI, 24, .inl (fun _ => 0)))] := hD
  refine va_putF (D := (dC, dI)) (ci := 6) (v := .ref q9) (ty := .array .int) (C := RX7) (T := TX7) (N := 10) hx hb hts uX7 tyX7 tyX7_ok nmX7 hown hK hP hD hS 0 rfl rfl 6 (by decide) w7 (fun _ h9 => h9) rfl hname rfl (by decide +kernel) rfl rfl (Nat.le_of_ble_eq_true rfl) dX7_init_24 (fun H locs hP hD hS => ?_)
  have hP : va_P (dC, dI) vwCl [(o, .inr (6, [.int (0 : Int32), .int (0 : Int32), .int (0 : Int32), .ref q3, .ref q6, .int (0 : Int32), .ref q9, .int (0 : Int32), .int (0 : Int32), .null])), (q3, .inl (cI, 14, .inl (fun _ => 0))), (q6, .inl (cI, 3, .inl (fun _ => 0))), (q9, .inl (cI, 24, .inl (fun _ => 0)))] H := hP
  have hD : va_D A [(o, .inr (6, [.int (0 : Int32), .int (0 : Int32), .int (0 : Int32), .ref q3, .ref q6, .int (0 : Int32), .ref q9, .int (0 : Int32), .int (0 : Int32), .null])), (q3, .inl (cI, 14, .inl (fun _ => 0))), (q6, .inl (cI, 3, .inl (fun _ => 0))), (q9, .inl (cI, 24, .inl (fun _ => 0)))] := hD
  refine lv_aload_n hx hb dX7_init_27 rfl (lv_at hl 0 rfl) ?_
  refine lv_iconst (v := (0 : Int32)) hx hb dX7_init_28 (by decide) ?_
  refine ct_newi hx hb w3 ht0 hK hP hD hS hA (N' := 0) (by decide) (by decide) (Nat.le_of_ble_eq_true rfl) (Nat.le_of_ble_eq_true rfl) (Nat.le_of_ble_eq_true rfl) dX7_init_29 (fun q12 H hP hD hS => ?_)
  have hP : va_P (dC, dI) vwCl [(o, .inr (6, [.int (0 : Int32), .int (0 : Int32), .int (0 : Int32), .ref q3, .ref q6, .int (0 : Int32), .ref q9, .int (0 : Int32), .int (0 : Int32), .null])), (q3, .inl (cI, 14, .inl (fun _ => 0))), (q6, .inl (cI, 3, .inl (fun _ => 0))), (q9, .inl (cI, 24, .inl (fun _ => 0))), (q12, .inl (cI, 0, .inl (fun _ => 0)))] H := hP
  have hD : va_D A [(o, .inr (6, [.int (0 : Int32), .int (0 : Int32), .int (0 : Int32), .ref q3, .ref q6, .int (0 : Int32), .ref q9, .int (0 : Int32), .int (0 : Int32), .null])), (q3, .inl (cI, 14, .inl (fun _ => 0))), (q6, .inl (cI, 3, .inl (fun _ => 0))), (q9, .inl (cI, 24, .inl (fun _ => 0))), (q12, .inl (cI, 0, .inl (fun _ => 0)))] := hD
  refine va_put (D := (dC, dI)) (ci := 6) (v := .ref q12) (ty := .array .int) (C := RX7) (T := TX7) (N := 10) hx hb hts uX7 tyX7 tyX7_ok nmX7 hown hK hP hD hS 0 rfl rfl 9 (by decide) w8 (fun _ h9 => h9) rfl (by decide +kernel) rfl rfl (Nat.le_of_ble_eq_true rfl) dX7_init_31 (fun H locs hP hD hS => ?_)
  have hP : va_P (dC, dI) vwCl [(o, .inr (6, [.int (0 : Int32), .int (0 : Int32), .int (0 : Int32), .ref q3, .ref q6, .int (0 : Int32), .ref q9, .int (0 : Int32), .int (0 : Int32), .ref q12])), (q3, .inl (cI, 14, .inl (fun _ => 0))), (q6, .inl (cI, 3, .inl (fun _ => 0))), (q9, .inl (cI, 24, .inl (fun _ => 0))), (q12, .inl (cI, 0, .inl (fun _ => 0)))] H := hP
  have hD : va_D A [(o, .inr (6, [.int (0 : Int32), .int (0 : Int32), .int (0 : Int32), .ref q3, .ref q6, .int (0 : Int32), .ref q9, .int (0 : Int32), .int (0 : Int32), .ref q12])), (q3, .inl (cI, 14, .inl (fun _ => 0))), (q6, .inl (cI, 3, .inl (fun _ => 0))), (q9, .inl (cI, 24, .inl (fun _ => 0))), (q12, .inl (cI, 0, .inl (fun _ => 0)))] := hD
  refine lv_aload_n hx hb dX7_init_34 rfl (lv_at hl 0 rfl) ?_
  refine lv_iconst (v := (5 : Int32)) hx hb dX7_init_35 (by decide) ?_
  obtain ⟨r13, hC14, hF⟩ := gd_b hF
  refine ct_callV (C := RX7) (As := [.int (5 : Int32)]) (rest := []) ⟨hx, hb, hml, hown, hts⟩ (kX7_reset l dC dI tys cI ht0 o q3 q6 q9 q12 (0 : Int32) (0 : Int32) (0 : Int32) (0 : Int32) (0 : Int32) (0 : Int32) (fun _ => 0) (fun _ => 0) (fun _ => 0) 0 (fun _ => 0) (5 : Int32) r13 hC14) (cwV 1 hts gX7_init_X7_reset rfl rfl rfl (by decide +kernel) ⟨Nat.le_of_ble_eq_true rfl, Nat.le_of_ble_eq_true rfl⟩) hE hK hP hD hS hA [0, 1, 2, 3, 4] [] (by decide) rfl (by decide) (wr := []) rfl (by decide) (ci := 6) (T := TX7) (N := 10) (q0 := 0) rfl rfl hl.1 rfl rfl (Nat.le_of_ble_eq_true rfl) dX7_init_36 ⟨(Nat.le_of_ble_eq_true rfl), (Nat.le_of_ble_eq_true rfl)⟩ (fun i15 H locs hP hD hS => ?_)
  have hP : va_P (dC, dI) vwCl [(o, .inr (6, [.int (0 : Int32), .int r13.1, .int (0 : Int32), .ref q3, .ref q6, .int (0 : Int32), .ref q9, .int (0 : Int32), .int (0 : Int32), .ref q12])), (q3, .inl (cI, 14, .inl (fun _ => 0))), (q6, .inl (cI, 3, .inl r13.2)), (q9, .inl (cI, 24, .inl (fun _ => 0))), (q12, .inl (cI, 0, .inl (fun _ => 0)))] H := hP
  have hD : va_D A [(o, .inr (6, [.int (0 : Int32), .int r13.1, .int (0 : Int32), .ref q3, .ref q6, .int (0 : Int32), .ref q9, .int (0 : Int32), .int (0 : Int32), .ref q12])), (q3, .inl (cI, 14, .inl (fun _ => 0))), (q6, .inl (cI, 3, .inl r13.2)), (q9, .inl (cI, 24, .inl (fun _ => 0))), (q12, .inl (cI, 0, .inl (fun _ => 0)))] := hD
  obtain rfl := Option.some.inj hF
  exact ct_v hx hb hr hlocks hK hP hD hS (q3, q6, q9, q12) rfl [0, 1, 2, 3, 4] (by decide) rfl (Nat.le_of_ble_eq_true rfl) (Nat.le_of_ble_eq_true rfl) dX7_init_39
