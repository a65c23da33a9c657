def fJ6_bitCount_0f7a4 (p0 : Int32) : Option Int32 := some ((((((((p0 - (((p0.toUInt32 >>> ((1 : Int32).toUInt32 &&& Int32.toUInt32 31)).toInt32) &&& (1431655765 : Int32))) &&& (858993459 : Int32)) + ((((p0 - (((p0.toUInt32 >>> ((1 : Int32).toUInt32 &&& Int32.toUInt32 31)).toInt32) &&& (1431655765 : Int32))).toUInt32 >>> ((2 : Int32).toUInt32 &&& Int32.toUInt32 31)).toInt32) &&& (858993459 : Int32))) + (((((p0 - (((p0.toUInt32 >>> ((1 : Int32).toUInt32 &&& Int32.toUInt32 31)).toInt32) &&& (1431655765 : Int32))) &&& (858993459 : Int32)) + ((((p0 - (((p0.toUInt32 >>> ((1 : Int32).toUInt32 &&& Int32.toUInt32 31)).toInt32) &&& (1431655765 : Int32))).toUInt32 >>> ((2 : Int32).toUInt32 &&& Int32.toUInt32 31)).toInt32) &&& (858993459 : Int32))).toUInt32 >>> ((4 : Int32).toUInt32 &&& Int32.toUInt32 31)).toInt32)) &&& (252645135 : Int32)) + (((((((p0 - (((p0.toUInt32 >>> ((1 : Int32).toUInt32 &&& Int32.toUInt32 31)).toInt32) &&& (1431655765 : Int32))) &&& (858993459 : Int32)) + ((((p0 - (((p0.toUInt32 >>> ((1 : Int32).toUInt32 &&& Int32.toUInt32 31)).toInt32) &&& (1431655765 : Int32))).toUInt32 >>> ((2 : Int32).toUInt32 &&& Int32.toUInt32 31)).toInt32) &&& (858993459 : Int32))) + (((((p0 - (((p0.toUInt32 >>> ((1 : Int32).toUInt32 &&& Int32.toUInt32 31)).toInt32) &&& (1431655765 : Int32))) &&& (858993459 : Int32)) + ((((p0 - (((p0.toUInt32 >>> ((1 : Int32).toUInt32 &&& Int32.toUInt32 31)).toInt32) &&& (1431655765 : Int32))).toUInt32 >>> ((2 : Int32).toUInt32 &&& Int32.toUInt32 31)).toInt32) &&& (858993459 : Int32))).toUInt32 >>> ((4 : Int32).toUInt32 &&& Int32.toUInt32 31)).toInt32)) &&& (252645135 : Int32)).toUInt32 >>> ((8 : Int32).toUInt32 &&& Int32.toUInt32 31)).toInt32)) + ((((((((p0 - (((p0.toUInt32 >>> ((1 : Int32).toUInt32 &&& Int32.toUInt32 31)).toInt32) &&& (1431655765 : Int32))) &&& (858993459 : Int32)) + ((((p0 - (((p0.toUInt32 >>> ((1 : Int32).toUInt32 &&& Int32.toUInt32 31)).toInt32) &&& (1431655765 : Int32))).toUInt32 >>> ((2 : Int32).toUInt32 &&& Int32.toUInt32 31)).toInt32) &&& (858993459 : Int32))) + (((((p0 - (((p0.toUInt32 >>> ((1 : Int32).toUInt32 &&& Int32.toUInt32 31)).toInt32) &&& (1431655765 : Int32))) &&& (858993459 : Int32)) + ((((p0 - (((p0.toUInt32 >>> ((1 : Int32).toUInt32 &&& Int32.toUInt32 31)).toInt32) &&& (1431655765 : Int32))).toUInt32 >>> ((2 : Int32).toUInt32 &&& Int32.toUInt32 31)).toInt32) &&& (858993459 : Int32))).toUInt32 >>> ((4 : Int32).toUInt32 &&& Int32.toUInt32 31)).toInt32)) &&& (252645135 : Int32)) + (((((((p0 - (((p0.toUInt32 >>> ((1 : Int32).toUInt32 &&& Int32.toUInt32 31)).toInt32) &&& (1431655765 : Int32))) &&& (858993459 : Int32)) + ((((p0 - (((p0.toUInt32 >>> ((1 : Int32).toUInt32 &&& Int32.toUInt32 31)).toInt32) &&& (1431655765 : Int32))).toUInt32 >>> ((2 : Int32).toUInt32 &&& Int32.toUInt32 31)).toInt32) &&& (858993459 : Int32))) + (((((p0 - (((p0.toUInt32 >>> ((1 : Int32).toUInt32 &&& Int32.toUInt32 31)).toInt32) &&& (1431655765 : Int32))) &&& (858993459 : Int32)) + ((((p0 - (((p0.toUInt32 >>> ((1 : Int32).toUInt32 &&& Int32.toUInt32 31)).toInt32) &&& (1431655765 : Int32))).toUInt32 >>> ((2 : Int32).toUInt32 &&& Int32.toUInt32 31)).toInt32) &&& (858993459 : Int32))).toUInt32 >>> ((4 : Int32).toUInt32 &&& Int32.toUInt32 31)).toInt32)) &&& (252645135 : Int32)).toUInt32 >>> ((8 : Int32).toUInt32 &&& Int32.toUInt32 31)).toInt32)).toUInt32 >>> ((16 : Int32).toUInt32 &&& Int32.toUInt32 31)).toInt32)) &&& (63 : Int32))
abbrev rmJ6_bitCount_0f7a4 : Room := { frames := 0, cells := 0, slots := 0, locals := 0 }
set_option maxHeartbeats 4000000 in
set_option maxRecDepth 100000 in
theorem kJ6_bitCount_0f7a4 (l : Launch) (dC : Nat → ClassId) (dI : Nat → Nat → Nat) (tys : List (ClassId × FieldType)) (cI : ClassId) (ht0 : tys[0]? = some (cI, .int))  (p0 : Int32) (r : Int32) (hF : fJ6_bitCount_0f7a4 p0 = some r) : ct l (dC, dI) tys yJ6_bitCount_0f7a4 wsJ6_bitCount_0f7a4 rmJ6_bitCount_0f7a4 [.int p0] [] (fun _ : Unit => some (.int r)) (fun _ : Unit => []) := by
  refine ct_of (cc := cJ6_bitCount_0f7a4) (maxL := 1) (ret := (some .int)) (by decide) rfl (Nat.le_of_ble_eq_true rfl) ?_
  intro p e s m below meth c A ls hx hb hr hml hts hown hlocks hname hE hK hP hD hA hS hl
  have hown : s.vm.findClass RJ6 = some m.cls := hown
  have hl : lv_has ls 1 [(0, .int p0)] := hl
  unfold fJ6_bitCount_0f7a4 at hF
  have w0 := hts (.constant RJ6 265 (1431655765)) (List.mem_cons_of_mem _ (List.mem_of_getElem? (i := 0) rfl))
  have w1 := hts (.constant RJ6 266 (858993459)) (List.mem_cons_of_mem _ (List.mem_of_getElem? (i := 1) rfl))
  have w2 := hts (.constant RJ6 267 (252645135)) (List.mem_cons_of_mem _ (List.mem_of_getElem? (i := 2) rfl))
  refine lv_iload_n hx hb dJ6_bitCount_0f7a4_0 rfl (lv_at hl 0 rfl) ?_
  refine lv_iload_n hx hb dJ6_bitCount_0f7a4_1 rfl (lv_at hl 0 rfl) ?_
  refine lv_iconst (v := (1 : Int32)) hx hb dJ6_bitCount_0f7a4_2 (by decide) ?_
  refine lv_iushr (v := (p0.toUInt32 >>> ((1 : Int32).toUInt32 &&& Int32.toUInt32 31)).toInt32) hx hb dJ6_bitCount_0f7a4_3 rfl ?_
  refine lv_ldcw hx hb hown w0 dJ6_bitCount_0f7a4_4 ?_
  refine lv_iand hx hb dJ6_bitCount_0f7a4_7 ?_
  refine lv_isub hx hb dJ6_bitCount_0f7a4_8 ?_
  refine lv_istore_n (lv' := [(0, .int (p0 - (((p0.toUInt32 >>> ((1 : Int32).toUInt32 &&& Int32.toUInt32 31)).toInt32) &&& (1431655765 : Int32))))]) hx hb dJ6_bitCount_0f7a4_9 rfl hl (by decide) rfl (fun ls hl => ?_)
  refine lv_iload_n hx hb dJ6_bitCount_0f7a4_10 rfl (lv_at hl 0 rfl) ?_
  refine lv_ldcw hx hb hown w1 dJ6_bitCount_0f7a4_11 ?_
  refine lv_iand hx hb dJ6_bitCount_0f7a4_14 ?_
  refine lv_iload_n hx hb dJ6_bitCount_0f7a4_15 rfl (lv_at hl 0 rfl) ?_
  refine lv_iconst (v := (2 : Int32)) hx hb dJ6_bitCount_0f7a4_16 (by decide) ?_
  refine lv_iushr (v := ((p0 - (((p0.toUInt32 >>> ((1 : Int32).toUInt32 &&& Int32.toUInt32 31)).toInt32) &&& (1431655765 : Int32))).toUInt32 >>> ((2 : Int32).toUInt32 &&& Int32.toUInt32 31)).toInt32) hx hb dJ6_bitCount_0f7a4_17 rfl ?_
  refine lv_ldcw hx hb hown w1 dJ6_bitCount_0f7a4_18 ?_
  refine lv_iand hx hb dJ6_bitCount_0f7a4_21 ?_
  refine lv_iadd hx hb dJ6_bitCount_0f7a4_22 ?_
  refine lv_istore_n (lv' := [(0, .int (((p0 - (((p0.toUInt32 >>> ((1 : Int32).toUInt32 &&& Int32.toUInt32 31)).toInt32) &&& (1431655765 : Int32))) &&& (858993459 : Int32)) + ((((p0 - (((p0.toUInt32 >>> ((1 : Int32).toUInt32 &&& Int32.toUInt32 31)).toInt32) &&& (1431655765 : Int32))).toUInt32 >>> ((2 : Int32).toUInt32 &&& Int32.toUInt32 31)).toInt32) &&& (858993459 : Int32))))]) hx hb dJ6_bitCount_0f7a4_23 rfl hl (by decide) rfl (fun ls hl => ?_)
  refine lv_iload_n hx hb dJ6_bitCount_0f7a4_24 rfl (lv_at hl 0 rfl) ?_
  refine lv_iload_n hx hb dJ6_bitCount_0f7a4_25 rfl (lv_at hl 0 rfl) ?_
  refine lv_iconst (v := (4 : Int32)) hx hb dJ6_bitCount_0f7a4_26 (by decide) ?_
  refine lv_iushr (v := ((((p0 - (((p0.toUInt32 >>> ((1 : Int32).toUInt32 &&& Int32.toUInt32 31)).toInt32) &&& (1431655765 : Int32))) &&& (858993459 : Int32)) + ((((p0 - (((p0.toUInt32 >>> ((1 : Int32).toUInt32 &&& Int32.toUInt32 31)).toInt32) &&& (1431655765 : Int32))).toUInt32 >>> ((2 : Int32).toUInt32 &&& Int32.toUInt32 31)).toInt32) &&& (858993459 : Int32))).toUInt32 >>> ((4 : Int32).toUInt32 &&& Int32.toUInt32 31)).toInt32) hx hb dJ6_bitCount_0f7a4_27 rfl ?_
  refine lv_iadd hx hb dJ6_bitCount_0f7a4_28 ?_
  refine lv_ldcw hx hb hown w2 dJ6_bitCount_0f7a4_29 ?_
  refine lv_iand hx hb dJ6_bitCount_0f7a4_32 ?_
  refine lv_istore_n (lv' := [(0, .int (((((p0 - (((p0.toUInt32 >>> ((1 : Int32).toUInt32 &&& Int32.toUInt32 31)).toInt32) &&& (1431655765 : Int32))) &&& (858993459 : Int32)) + ((((p0 - (((p0.toUInt32 >>> ((1 : Int32).toUInt32 &&& Int32.toUInt32 31)).toInt32) &&& (1431655765 : Int32))).toUInt32 >>> ((2 : Int32).toUInt32 &&& Int32.toUInt32 31)).toInt32) &&& (858993459 : Int32))) + (((((p0 - (((p0.toUInt32 >>> ((1 : Int32).toUInt32 &&& Int32.toUInt32 31)).toInt32) &&& (1431655765 : Int32))) &&& (858993459 : Int32)) + ((((p0 - (((p0.toUInt32 >>> ((1 : Int32).toUInt32 &&& Int32.toUInt32 31)).toInt32) &&& (1431655765 : Int32))).toUInt32 >>> ((2 : Int32).toUInt32 &&& Int32.toUInt32 31)).toInt32) &&& (858993459 : Int32))).toUInt32 >>> ((4 : Int32).toUInt32 &&& Int32.toUInt32 31)).toInt32)) &&& (252645135 : Int32)))]) hx hb dJ6_bitCount_0f7a4_33 rfl hl (by decide) rfl (fun ls hl => ?_)
  refine lv_iload_n hx hb dJ6_bitCount_0f7a4_34 rfl (lv_at hl 0 rfl) ?_
  refine lv_iload_n hx hb dJ6_bitCount_0f7a4_35 rfl (lv_at hl 0 rfl) ?_
  refine lv_bipush (v := (8 : Int32)) hx hb dJ6_bitCount_0f7a4_36 (by decide) ?_
  refine lv_iushr (v := ((((((p0 - (((p0.toUInt32 >>> ((1 : Int32).toUInt32 &&& Int32.toUInt32 31)).toInt32) &&& (1431655765 : Int32))) &&& (858993459 : Int32)) + ((((p0 - (((p0.toUInt32 >>> ((1 : Int32).toUInt32 &&& Int32.toUInt32 31)).toInt32) &&& (1431655765 : Int32))).toUInt32 >>> ((2 : Int32).toUInt32 &&& Int32.toUInt32 31)).toInt32) &&& (858993459 : Int32))) + (((((p0 - (((p0.toUInt32 >>> ((1 : Int32).toUInt32 &&& Int32.toUInt32 31)).toInt32) &&& (1431655765 : Int32))) &&& (858993459 : Int32)) + ((((p0 - (((p0.toUInt32 >>> ((1 : Int32).toUInt32 &&& Int32.toUInt32 31)).toInt32) &&& (1431655765 : Int32))).toUInt32 >>> ((2 : Int32).toUInt32 &&& Int32.toUInt32 31)).toInt32) &&& (858993459 : Int32))).toUInt32 >>> ((4 : Int32).toUInt32 &&& Int32.toUInt32 31)).toInt32)) &&& (252645135 : Int32)).toUInt32 >>> ((8 : Int32).toUInt32 &&& Int32.toUInt32 31)).toInt32) hx hb dJ6_bitCount_0f7a4_38 rfl ?_
  refine lv_iadd hx hb dJ6_bitCount_0f7a4_39 ?_
  refine lv_istore_n (lv' := [(0, .int ((((((p0 - (((p0.toUInt32 >>> ((1 : Int32).toUInt32 &&& Int32.toUInt32 31)).toInt32) &&& (1431655765 : Int32))) &&& (858993459 : Int32)) + ((((p0 - (((p0.toUInt32 >>> ((1 : Int32).toUInt32 &&& Int32.toUInt32 31)).toInt32) &&& (1431655765 : Int32))).toUInt32 >>> ((2 : Int32).toUInt32 &&& Int32.toUInt32 31)).toInt32) &&& (858993459 : Int32))) + (((((p0 - (((p0.toUInt32 >>> ((1 : Int32).toUInt32 &&& Int32.toUInt32 31)).toInt32) &&& (1431655765 : Int32))) &&& (858993459 : Int32)) + ((((p0 - (((p0.toUInt32 >>> ((1 : Int32).toUInt32 &&& Int32.toUInt32 31)).toInt32) &&& (1431655765 : Int32))).toUInt32 >>> ((2 : Int32).toUInt32 &&& Int32.toUInt32 31)).toInt32) &&& (858993459 : Int32))).toUInt32 >>> ((4 : Int32).toUInt32 &&& Int32.toUInt32 31)).toInt32)) &&& (252645135 : Int32)) + (((((((p0 - (((p0.toUInt32 >>> ((1 : Int32).toUInt32 &&& Int32.toUInt32 31)).toInt32) &&& (1431655765 : Int32))) &&& (858993459 : Int32)) + ((((p0 - (((p0.toUInt32 >>> ((1 : Int32).toUInt32 &&& Int32.toUInt32 31)).toInt32) &&& (1431655765 : Int32))).toUInt32 >>> ((2 : Int32).toUInt32 &&& Int32.toUInt32 31)).toInt32) &&& (858993459 : Int32))) + (((((p0 - (((p0.toUInt32 >>> ((1 : Int32).toUInt32 &&& Int32.toUInt32 31)).toInt32) &&& (1431655765 : Int32))) &&& (858993459 : Int32)) + ((((p0 - (((p0.toUInt32 >>> ((1 : Int32).toUInt32 &&& Int32.toUInt32 31)).toInt32) &&& (1431655765 : Int32))).toUInt32 >>> ((2 : Int32).toUInt32 &&& Int32.toUInt32 31)).toInt32) &&& (858993459 : Int32))).toUInt32 >>> ((4 : Int32).toUInt32 &&& Int32.toUInt32 31)).toInt32)) &&& (252645135 : Int32)).toUInt32 >>> ((8 : Int32).toUInt32 &&& Int32.toUInt32 31)).toInt32)))]) hx hb dJ6_bitCount_0f7a4_40 rfl hl (by decide) rfl (fun ls hl => ?_)
  refine lv_iload_n hx hb dJ6_bitCount_0f7a4_41 rfl (lv_at hl 0 rfl) ?_
  refine lv_iload_n hx hb dJ6_bitCount_0f7a4_42 rfl (lv_at hl 0 rfl) ?_
  refine lv_bipush (v := (16 : Int32)) hx hb dJ6_bitCount_0f7a4_43 (by decide) ?_
  refine lv_iushr (v := (((((((p0 - (((p0.toUInt32 >>> ((1 : Int32).toUInt32 &&& Int32.toUInt32 31)).toInt32) &&& (1431655765 : Int32))) &&& (858993459 : Int32)) + ((((p0 - (((p0.toUInt32 >>> ((1 : Int32).toUInt32 &&& Int32.toUInt32 31)).toInt32) &&& (1431655765 : Int32))).toUInt32 >>> ((2 : Int32).toUInt32 &&& Int32.toUInt32 31)).toInt32) &&& (858993459 : Int32))) + (((((p0 - (((p0.toUInt32 >>> ((1 : Int32).toUInt32 &&& Int32.toUInt32 31)).toInt32) &&& (1431655765 : Int32))) &&& (858993459 : Int32)) + ((((p0 - (((p0.toUInt32 >>> ((1 : Int32).toUInt32 &&& Int32.toUInt32 31)).toInt32) &&& (1431655765 : Int32))).toUInt32 >>> ((2 : Int32).toUInt32 &&& Int32.toUInt32 31)).toInt32) &&& (858993459 : Int32))).toUInt32 >>> ((4 : Int32).toUInt32 &&& Int32.toUInt32 31)).toInt32)) &&& (252645135 : Int32)) + (((((((p0 - (((p0.toUInt32 >>> ((1 : Int32).toUInt32 &&& Int32.toUInt32 31)).toInt32) &&& (1431655765 : Int32))) &&& (858993459 : Int32)) + ((((p0 - (((p0.toUInt32 >>> ((1 : Int32).toUInt32 &&& Int32.toUInt32 31)).toInt32) &&& (1431655765 : Int32))).toUInt32 >>> ((2 : Int32).toUInt32 &&& Int32.toUInt32 31)).toInt32) &&& (858993459 : Int32))) + (((((p0 - (((p0.toUInt32 >>> ((1 : Int32).toUInt32 &&& Int32.toUInt32 31)).toInt32) &&& (1431655765 : Int32))) &&& (858993459 : Int32)) + ((((p0 - (((p0.toUInt32 >>> ((1 : Int32).toUInt32 &&& Int32.toUInt32 31)).toInt32) &&& (1431655765 : Int32))).toUInt32 >>> ((2 : Int32).toUInt32 &&& Int32.toUInt32 31)).toInt32) &&& (858993459 : Int32))).toUInt32 >>> ((4 : Int32).toUInt32 &&& Int32.toUInt32 31)).toInt32)) &&& (252645135 : Int32)).toUInt32 >>> ((8 : Int32).toUInt32 &&& Int32.toUInt32 31)).toInt32)).toUInt32 >>> ((16 : Int32).toUInt32 &&& Int32.toUInt32 31)).toInt32) hx hb dJ6_bitCount_0f7a4_45 rfl ?_
  refine lv_iadd hx hb dJ6_bitCount_0f7a4_46 ?_
  refine lv_istore_n (lv' := [(0, .int (((((((p0 - (((p0.toUInt32 >>> ((1 : Int32).toUInt32 &&& Int32.toUInt32 31)).toInt32) &&& (1431655765 : Int32))) &&& (858993459 : Int32)) + ((((p0 - (((p0.toUInt32 >>> ((1 : Int32).toUInt32 &&& Int32.toUInt32 31)).toInt32) &&& (1431655765 : Int32))).toUInt32 >>> ((2 : Int32).toUInt32 &&& Int32.toUInt32 31)).toInt32) &&& (858993459 : Int32))) + (((((p0 - (((p0.toUInt32 >>> ((1 : Int32).toUInt32 &&& Int32.toUInt32 31)).toInt32) &&& (1431655765 : Int32))) &&& (858993459 : Int32)) + ((((p0 - (((p0.toUInt32 >>> ((1 : Int32).toUInt32 &&& Int32.toUInt32 31)).toInt32) &&& (1431655765 : Int32))).toUInt32 >>> ((2 : Int32).toUInt32 &&& Int32.toUInt32 31)).toInt32) &&& (858993459 : Int32))).toUInt32 >>> ((4 : Int32).toUInt32 &&& Int32.toUInt32 31)).toInt32)) &&& (252645135 : Int32)) + (((((((p0 - (((p0.toUInt32 >>> ((1 : Int32).toUInt32 &&& Int32.toUInt32 31)).toInt32) &&& (1431655765 : Int32))) &&& (858993459 : Int32)) + ((((p0 - (((p0.toUInt32 >>> ((1 : Int32).toUInt32 &&& Int32.toUInt32 31)).toInt32) &&& (1431655765 : Int32))).toUInt32 >>> ((2 : Int32).toUInt32 &&& Int32.toUInt32 31)).toInt32) &&& (858993459 : Int32))) + (((((p0 - (((p0.toUInt32 >>> ((1 : Int32).toUInt32 &&& Int32.toUInt32 31)).toInt32) &&& (1431655765 : Int32))) &&& (858993459 : Int32)) + ((((p0 - (((p0.toUInt32 >>> ((1 : Int32).toUInt32 &&& Int32.toUInt32 31)).toInt32) &&& (1431655765 : Int32))).toUInt32 >>> ((2 : Int32).toUInt32 &&& Int32.toUInt32 31)).toInt32) &&& (858993459 : Int32))).toUInt32 >>> ((4 : Int32).toUInt32 &&& Int32.toUInt32 31)).toInt32)) &&& (252645135 : Int32)).toUInt32 >>> ((8 : Int32).toUInt32 &&& Int32.toUInt32 31)).toInt32)) + ((((((((p0 - (((p0.toUInt32 >>> ((1 : Int32).toUInt32 &&& Int32.toUInt32 31)).toInt32) &&& (1431655765 : Int32))) &&& (858993459 : Int32)) + ((((p0 - (((p0.toUInt32 >>> ((1 : Int32).toUInt32 &&& Int32.toUInt32 31)).toInt32) &&& (1431655765 : Int32))).toUInt32 >>> ((2 : Int32).toUInt32 &&& Int32.toUInt32 31)).toInt32) &&& (858993459 : Int32))) + (((((p0 - (((p0.toUInt32 >>> ((1 : Int32).toUInt32 &&& Int32.toUInt32 31)).toInt32) &&& (1431655765 : Int32))) &&& (858993459 : Int32)) + ((((p0 - (((p0.toUInt32 >>> ((1 : Int32).toUInt32 &&& Int32.toUInt32 31)).toInt32) &&& (1431655765 : Int32))).toUInt32 >>> ((2 : Int32).toUInt32 &&& Int32.toUInt32 31)).toInt32) &&& (858993459 : Int32))).toUInt32 >>> ((4 : Int32).toUInt32 &&& Int32.toUInt32 31)).toInt32)) &&& (252645135 : Int32)) + (((((((p0 - (((p0.toUInt32 >>> ((1 : Int32).toUInt32 &&& Int32.toUInt32 31)).toInt32) &&& (1431655765 : Int32))) &&& (858993459 : Int32)) + ((((p0 - (((p0.toUInt32 >>> ((1 : Int32).toUInt32 &&& Int32.toUInt32 31)).toInt32) &&& (1431655765 : Int32))).toUInt32 >>> ((2 : Int32).toUInt32 &&& Int32.toUInt32 31)).toInt32) &&& (858993459 : Int32))) + (((((p0 - (((p0.toUInt32 >>> ((1 : Int32).toUInt32 &&& Int32.toUInt32 31)).toInt32) &&& (1431655765 : Int32))) &&& (858993459 : Int32)) + ((((p0 - (((p0.toUInt32 >>> ((1 : Int32).toUInt32 &&& Int32.toUInt32 31)).toInt32) &&& (1431655765 : Int32))).toUInt32 >>> ((2 : Int32).toUInt32 &&& Int32.toUInt32 31)).toInt32) &&& (858993459 : Int32))).toUInt32 >>> ((4 : Int32).toUInt32 &&& Int32.toUInt32 31)).toInt32)) &&& (252645135 : Int32)).toUInt32 >>> ((8 : Int32).toUInt32 &&& Int32.toUInt32 31)).toInt32)).toUInt32 >>> ((16 : Int32).toUInt32 &&& Int32.toUInt32 31)).toInt32)))]) hx hb dJ6_bitCount_0f7a4_47 rfl hl (by decide) rfl (fun ls hl => ?_)
  refine lv_iload_n hx hb dJ6_bitCount_0f7a4_48 rfl (lv_at hl 0 rfl) ?_
  refine lv_bipush (v := (63 : Int32)) hx hb dJ6_bitCount_0f7a4_49 (by decide) ?_
  refine lv_iand hx hb dJ6_bitCount_0f7a4_51 ?_
  obtain rfl := Option.some.inj hF
  exact ct_i hx hb hr hlocks hK hP hD hS () rfl [] (by decide) rfl (Nat.le_of_ble_eq_true rfl) (Nat.le_of_ble_eq_true rfl) dJ6_bitCount_0f7a4_52

def fX3_shift (p0 : Int32) : Option Int32 := some ((4 : Int32) * (p0 - (1 : Int32)))
abbrev rmX3_shift : Room := { frames := 0, cells := 0, slots := 0, locals := 0 }
set_option maxHeartbeats 4000000 in
set_option maxRecDepth 100000 in
theorem kX3_shift (l : Launch) (dC : Nat → ClassId) (dI : Nat → Nat → Nat) (tys : List (ClassId × FieldType)) (cI : ClassId) (ht0 : tys[0]? = some (cI, .int))  (p0 : Int32) (r : Int32) (hF : fX3_shift p0 = some r) : ct l (dC, dI) tys yX3_shift wsX3_shift rmX3_shift [.int p0] [] (fun _ : Unit => some (.int r)) (fun _ : Unit => []) := by
  refine ct_of (cc := cX3_shift) (maxL := 1) (ret := (some .int)) (by decide) rfl (Nat.le_of_ble_eq_true rfl) ?_
  intro p e s m below meth c A ls hx hb hr hml hts hown hlocks hname hE hK hP hD hA hS hl
  have hown : s.vm.findClass RX3 = some m.cls := hown
  have hl : lv_has ls 1 [(0, .int p0)] := hl
  unfold fX3_shift at hF
  refine lv_iconst (v := (4 : Int32)) hx hb dX3_shift_0 (by decide) ?_
  refine lv_iload_n hx hb dX3_shift_1 rfl (lv_at hl 0 rfl) ?_
  refine lv_iconst (v := (1 : Int32)) hx hb dX3_shift_2 (by decide) ?_
  refine lv_isub hx hb dX3_shift_3 ?_
  refine lv_imul hx hb dX3_shift_4 ?_
  obtain rfl := Option.some.inj hF
  exact ct_i hx hb hr hlocks hK hP hD hS () rfl [] (by decide) rfl (Nat.le_of_ble_eq_true rfl) (Nat.le_of_ble_eq_true rfl) dX3_shift_5

def fX3_bellAt (p0 : Int32) (p1 : Int32) : Option Int32 := some ((p0 >>> (((4 : Int32) * (p1 - (1 : Int32))) &&& 31)) &&& (15 : Int32))
abbrev rmX3_bellAt : Room := { frames := 0, cells := 0, slots := 0, locals := 0 }
set_option maxHeartbeats 4000000 in
set_option maxRecDepth 100000 in
theorem kX3_bellAt (l : Launch) (dC : Nat → ClassId) (dI : Nat → Nat → Nat) (tys : List (ClassId × FieldType)) (cI : ClassId) (ht0 : tys[0]? = some (cI, .int))  (p0 : Int32) (p1 : Int32) (r : Int32) (hF : fX3_bellAt p0 p1 = some r) : ct l (dC, dI) tys yX3_bellAt wsX3_bellAt rmX3_bellAt [.int p0, .int p1] [] (fun _ : Unit => some (.int r)) (fun _ : Unit => []) := by
  refine ct_of (cc := cX3_bellAt) (maxL := 2) (ret := (some .int)) (by decide) rfl (Nat.le_of_ble_eq_true rfl) ?_
  intro p e s m below meth c A ls hx hb hr hml hts hown hlocks hname hE hK hP hD hA hS hl
  have hown : s.vm.findClass RX3 = some m.cls := hown
  have hl : lv_has ls 2 [(0, .int p0), (1, .int p1)] := hl
  unfold fX3_bellAt at hF
  refine lv_iload_n hx hb dX3_bellAt_0 rfl (lv_at hl 0 rfl) ?_
  refine lv_iconst (v := (4 : Int32)) hx hb dX3_bellAt_1 (by decide) ?_
  refine lv_iload_n hx hb dX3_bellAt_2 rfl (lv_at hl 1 rfl) ?_
  refine lv_iconst (v := (1 : Int32)) hx hb dX3_bellAt_3 (by decide) ?_
  refine lv_isub hx hb dX3_bellAt_4 ?_
  refine lv_imul hx hb dX3_bellAt_5 ?_
  refine lv_ishr hx hb dX3_bellAt_6 ?_
  refine lv_bipush (v := (15 : Int32)) hx hb dX3_bellAt_7 (by decide) ?_
  refine lv_iand hx hb dX3_bellAt_9 ?_
  obtain rfl := Option.some.inj hF
  exact ct_i hx hb hr hlocks hK hP hD hS () rfl [] (by decide) rfl (Nat.le_of_ble_eq_true rfl) (Nat.le_of_ble_eq_true rfl) dX3_bellAt_10

def fX3_rounds_X4  (x2_4 : Int32) (x1_4 : Int32) : Option Int32 := some (x1_4)
def fX3_rounds_L4 (p0 : Int32) (K4 : Int32 → Int32 → Option Int32) : Nat → Int32 → Int32 → Option Int32
  | 0, _, _ => none
  | n + 1, x2_4, x1_4 => if p0 < x2_4 then (K4 x2_4 x1_4) else ((fX3_shift x2_4).bind (fun r2 => (fX3_rounds_L4 p0 K4 n) (x2_4 + (1 : Int32)) (x1_4 ||| (x2_4 <<< (r2 &&& 31)))))
def fX3_rounds (p0 : Int32) : Option Int32 := fX3_rounds_L4 p0 fX3_rounds_X4 1000 (1 : Int32) (0 : Int32)
abbrev rmX3_rounds : Room := { frames := 1, cells := 0, slots := 0, locals := 20 }
set_option maxHeartbeats 4000000 in
set_option maxRecDepth 100000 in
theorem kX3_rounds (l : Launch) (dC : Nat → ClassId) (dI : Nat → Nat → Nat) (tys : List (ClassId × FieldType)) (cI : ClassId) (ht0 : tys[0]? = some (cI, .int))  (p0 : Int32) (r : Int32) (hF : fX3_rounds p0 = some r) : ct l (dC, dI) tys yX3_rounds wsX3_rounds rmX3_rounds [.int p0] [] (fun _ : Unit => some (.int r)) (fun _ : Unit => []) := by
  refine ct_of (cc := cX3_rounds) (maxL := 3) (ret := (some .int)) (by decide) rfl (Nat.le_of_ble_eq_true rfl) ?_
  intro p e s m below meth c A ls hx hb hr hml hts hown hlocks hname hE hK hP hD hA hS hl
  have hown : s.vm.findClass RX3 = some m.cls := hown
  have hl : lv_has ls 3 [(0, .int p0)] := hl
  unfold fX3_rounds at hF
  refine lv_iconst (v := (0 : Int32)) hx hb dX3_rounds_0 (by decide) ?_
  refine lv_istore_n (lv' := [(1, .int (0 : Int32)), (0, .int p0)]) hx hb dX3_rounds_1 rfl hl (by decide) rfl (fun ls hl => ?_)
  refine lv_iconst (v := (1 : Int32)) hx hb dX3_rounds_2 (by decide) ?_
  refine lv_istore_n (lv' := [(2, .int (1 : Int32)), (1, .int (0 : Int32)), (0, .int p0)]) hx hb dX3_rounds_3 rfl hl (by decide) rfl (fun ls hl => ?_)
  have X4 : ∀ (x2_4 : Int32) (x1_4 : Int32) (H : Heap) (locs : List Loc) (ls : Array Slot), fX3_rounds_X4 x2_4 x1_4 = some r → va_P (dC, dI) vwCl [] H → va_D A [] → va_S A s.heap H locs → lv_has ls 3 [(2, .int x2_4), (1, .int x1_4), (0, .int p0)] → W p l e rmX3_rounds s m ([.int p0] : List Value).toArray below meth c H locs 0 0 (MQ below (ct_Q (dC, dI) tys (fun _ : Unit => some (.int r)) (fun _ : Unit => []) A) ([.int p0] : List Value).toArray s rmX3_rounds.cells rmX3_rounds.slots A) (F0 m 24 ls []) := by
    intro x2_4 x1_4 H locs ls hF hP hD hS hl
    unfold fX3_rounds_X4 at hF
    refine lv_iload_n hx hb dX3_rounds_24 rfl (lv_at hl 1 rfl) ?_
    obtain rfl := Option.some.inj hF
    exact ct_i hx hb hr hlocks hK hP hD hS () rfl [] (by decide) rfl (Nat.le_of_ble_eq_true rfl) (Nat.le_of_ble_eq_true rfl) dX3_rounds_25
  have L4 : ∀ (n4 : Nat) (x2_4 : Int32) (x1_4 : Int32) (H : Heap) (locs : List Loc) (ls : Array Slot), fX3_rounds_L4 p0 fX3_rounds_X4 n4 x2_4 x1_4 = some r → va_P (dC, dI) vwCl [] H → va_D A [] → va_S A s.heap H locs → lv_has ls 3 [(2, .int x2_4), (1, .int x1_4), (0, .int p0)] → W p l e rmX3_rounds s m ([.int p0] : List Value).toArray below meth c H locs 0 0 (MQ below (ct_Q (dC, dI) tys (fun _ : Unit => some (.int r)) (fun _ : Unit => []) A) ([.int p0] : List Value).toArray s rmX3_rounds.cells rmX3_rounds.slots A) (F0 m 4 ls []) := by
    intro n4
    induction n4 with
    | zero => intro x2_4 x1_4 H locs ls hF; rw [fX3_rounds_L4] at hF; cases hF
    | succ n4 ih4 =>
      intro x2_4 x1_4 H locs ls hF hP hD hS hl
      rw [fX3_rounds_L4] at hF
      refine lv_iload_n hx hb dX3_rounds_4 rfl (lv_at hl 0 rfl) ?_
      refine lv_iload_n hx hb dX3_rounds_5 rfl (lv_at hl 2 rfl) ?_
      refine lv_icmp_gt (tgt := 24) hx hb dX3_rounds_6 (by decide) (fun c1 => ?_) (fun c1 => ?_)
      · have hF := (if_pos c1).symm.trans hF
        exact X4 x2_4 x1_4 _ _ _ hF (hP.sub [] rfl) (hD.sub [] (by decide) rfl) hS (lv_sub hl [0, 1, 2] rfl)
      · have hF := (if_neg c1).symm.trans hF
        refine lv_iload_n hx hb dX3_rounds_9 rfl (lv_at hl 1 rfl) ?_
        refine lv_iload_n hx hb dX3_rounds_10 rfl (lv_at hl 0 rfl) ?_
        refine lv_iload_n hx hb dX3_rounds_11 rfl (lv_at hl 0 rfl) ?_
        obtain ⟨r2, hC3, hF⟩ := gd_b hF
        refine ct_callS (As := [.int x2_4]) (rest := [.int x2_4, .int x1_4]) ⟨hx, hb, hml, hown, hts⟩ (kX3_shift l dC dI tys cI ht0 x2_4 r2 hC3) (va_cwS 1 hts gX3_rounds_X3_shift rfl rfl rfl (by decide +kernel) ⟨Nat.le_of_ble_eq_true rfl, Nat.le_of_ble_eq_true rfl⟩) hE hK hP hD hS hA [] [] (by decide) rfl (by decide) (wr := []) rfl (by decide) hl.1 rfl rfl (Nat.le_of_ble_eq_true rfl) dX3_rounds_12 ⟨(Nat.le_of_ble_eq_true rfl), (Nat.le_of_ble_eq_true rfl)⟩ (fun i4 H locs hP hD hS => ?_)
        have hP : va_P (dC, dI) vwCl [] H := hP
        have hD : va_D A [] := hD
        refine lv_ishl hx hb dX3_rounds_15 ?_
        refine lv_ior hx hb dX3_rounds_16 ?_
        refine lv_istore_n (lv' := [(1, .int (x1_4 ||| (x2_4 <<< (r2 &&& 31)))), (2, .int x2_4), (0, .int p0)]) hx hb dX3_rounds_17 rfl hl (by decide) rfl (fun ls hl => ?_)
        refine lv_iinc (v := x2_4 + (1 : Int32)) (lv' := [(2, .int (x2_4 + (1 : Int32))), (1, .int (x1_4 ||| (x2_4 <<< (r2 &&& 31)))), (0, .int p0)]) hx hb dX3_rounds_18 hl (k := 1) rfl rfl (by decide) rfl (fun ls hl => ?_)
        refine lv_goto (tgt := 4) hx hb dX3_rounds_21 (by decide) ?_
        exact ih4 (x2_4 + (1 : Int32)) (x1_4 ||| (x2_4 <<< (r2 &&& 31))) _ _ _ hF (hP.sub [] rfl) (hD.sub [] (by decide) rfl) hS (lv_sub hl [0, 1, 2] rfl)
  exact L4 1000 (1 : Int32) (0 : Int32) _ _ _ hF (hP.sub [] rfl) (hD.sub [] (by decide) rfl) hS (lv_sub hl [0, 1, 2] rfl)

def fX3_placeOf_X2  (x3_2 : Int32) : Option Int32 := some ((-1 : Int32))
def fX3_placeOf_L2 (p2 : Int32) (p0 : Int32) (p1 : Int32) (K2 : Int32 → Option Int32) : Nat → Int32 → Option Int32
  | 0, _ => none
  | n + 1, x3_2 => if p2 < x3_2 then (K2 x3_2) else ((fX3_bellAt p0 x3_2).bind (fun r2 => if r2 = p1 then (some (x3_2)) else ((fX3_placeOf_L2 p2 p0 p1 K2 n) (x3_2 + (1 : Int32)))))
def fX3_placeOf (p0 : Int32) (p1 : Int32) (p2 : Int32) : Option Int32 := fX3_placeOf_L2 p2 p0 p1 fX3_placeOf_X2 1000 (1 : Int32)
abbrev rmX3_placeOf : Room := { frames := 1, cells := 0, slots := 0, locals := 21 }
set_option maxHeartbeats 4000000 in
set_option maxRecDepth 100000 in
theorem kX3_placeOf (l : Launch) (dC : Nat → ClassId) (dI : Nat → Nat → Nat) (tys : List (ClassId × FieldType)) (cI : ClassId) (ht0 : tys[0]? = some (cI, .int))  (p0 : Int32) (p1 : Int32) (p2 : Int32) (r : Int32) (hF : fX3_placeOf p0 p1 p2 = some r) : ct l (dC, dI) tys yX3_placeOf wsX3_placeOf rmX3_placeOf [.int p0, .int p1, .int p2] [] (fun _ : Unit => some (.int r)) (fun _ : Unit => []) := by
  refine ct_of (cc := cX3_placeOf) (maxL := 4) (ret := (some .int)) (by decide) rfl (Nat.le_of_ble_eq_true rfl) ?_
  intro p e s m below meth c A ls hx hb hr hml hts hown hlocks hname hE hK hP hD hA hS hl
  have hown : s.vm.findClass RX3 = some m.cls := hown
  have hl : lv_has ls 4 [(0, .int p0), (1, .int p1), (2, .int p2)] := hl
  unfold fX3_placeOf at hF
  refine lv_iconst (v := (1 : Int32)) hx hb dX3_placeOf_0 (by decide) ?_
  refine lv_istore_n (lv' := [(3, .int (1 : Int32)), (0, .int p0), (1, .int p1), (2, .int p2)]) hx hb dX3_placeOf_1 rfl hl (by decide) rfl (fun ls hl => ?_)
  have X2 : ∀ (x3_2 : Int32) (H : Heap) (locs : List Loc) (ls : Array Slot), fX3_placeOf_X2 x3_2 = some r → va_P (dC, dI) vwCl [] H → va_D A [] → va_S A s.heap H locs → lv_has ls 4 [(3, .int x3_2), (0, .int p0), (1, .int p1), (2, .int p2)] → W p l e rmX3_placeOf s m ([.int p0, .int p1, .int p2] : List Value).toArray below meth c H locs 0 0 (MQ below (ct_Q (dC, dI) tys (fun _ : Unit => some (.int r)) (fun _ : Unit => []) A) ([.int p0, .int p1, .int p2] : List Value).toArray s rmX3_placeOf.cells rmX3_placeOf.slots A) (F0 m 24 ls []) := by
    intro x3_2 H locs ls hF hP hD hS hl
    unfold fX3_placeOf_X2 at hF
    refine lv_iconst (v := (-1 : Int32)) hx hb dX3_placeOf_24 (by decide) ?_
    obtain rfl := Option.some.inj hF
    exact ct_i hx hb hr hlocks hK hP hD hS () rfl [] (by decide) rfl (Nat.le_of_ble_eq_true rfl) (Nat.le_of_ble_eq_true rfl) dX3_placeOf_25
  have L2 : ∀ (n2 : Nat) (x3_2 : Int32) (H : Heap) (locs : List Loc) (ls : Array Slot), fX3_placeOf_L2 p2 p0 p1 fX3_placeOf_X2 n2 x3_2 = some r → va_P (dC, dI) vwCl [] H → va_D A [] → va_S A s.heap H locs → lv_has ls 4 [(3, .int x3_2), (0, .int p0), (1, .int p1), (2, .int p2)] → W p l e rmX3_placeOf s m ([.int p0, .int p1, .int p2] : List Value).toArray below meth c H locs 0 0 (MQ below (ct_Q (dC, dI) tys (fun _ : Unit => some (.int r)) (fun _ : Unit => []) A) ([.int p0, .int p1, .int p2] : List Value).toArray s rmX3_placeOf.cells rmX3_placeOf.slots A) (F0 m 2 ls []) := by
    intro n2
    induction n2 with
    | zero => intro x3_2 H locs ls hF; rw [fX3_placeOf_L2] at hF; cases hF
    | succ n2 ih2 =>
      intro x3_2 H locs ls hF hP hD hS hl
      rw [fX3_placeOf_L2] at hF
      refine lv_iload_n hx hb dX3_placeOf_2 rfl (lv_at hl 0 rfl) ?_
      refine lv_iload_n hx hb dX3_placeOf_3 rfl (lv_at hl 3 rfl) ?_
      refine lv_icmp_gt (tgt := 24) hx hb dX3_placeOf_4 (by decide) (fun c1 => ?_) (fun c1 => ?_)
      · have hF := (if_pos c1).symm.trans hF
        exact X2 x3_2 _ _ _ hF (hP.sub [] rfl) (hD.sub [] (by decide) rfl) hS (lv_sub hl [0, 1, 2, 3] rfl)
      · have hF := (if_neg c1).symm.trans hF
        refine lv_iload_n hx hb dX3_placeOf_7 rfl (lv_at hl 1 rfl) ?_
        refine lv_iload_n hx hb dX3_placeOf_8 rfl (lv_at hl 0 rfl) ?_
        obtain ⟨r2, hC3, hF⟩ := gd_b hF
        refine ct_callS (As := [.int p0, .int x3_2]) (rest := []) ⟨hx, hb, hml, hown, hts⟩ (kX3_bellAt l dC dI tys cI ht0 p0 x3_2 r2 hC3) (va_cwS 2 hts gX3_placeOf_X3_bellAt rfl rfl rfl (by decide +kernel) ⟨Nat.le_of_ble_eq_true rfl, Nat.le_of_ble_eq_true rfl⟩) hE hK hP hD hS hA [] [] (by decide) rfl (by decide) (wr := []) rfl (by decide) hl.1 rfl rfl (Nat.le_of_ble_eq_true rfl) dX3_placeOf_9 ⟨(Nat.le_of_ble_eq_true rfl), (Nat.le_of_ble_eq_true rfl)⟩ (fun i4 H locs hP hD hS => ?_)
        have hP : va_P (dC, dI) vwCl [] H := hP
        have hD : va_D A [] := hD
        refine lv_iload_n hx hb dX3_placeOf_12 rfl (lv_at hl 2 rfl) ?_
        refine lv_icmp_ne (tgt := 18) hx hb dX3_placeOf_13 (by decide) (fun c5 => ?_) (fun c5 => ?_)
        · have hF := (if_neg c5).symm.trans hF
          refine lv_iinc (v := x3_2 + (1 : Int32)) (lv' := [(3, .int (x3_2 + (1 : Int32))), (0, .int p0), (1, .int p1), (2, .int p2)]) hx hb dX3_placeOf_18 hl (k := 0) rfl rfl (by decide) rfl (fun ls hl => ?_)
          refine lv_goto (tgt := 2) hx hb dX3_placeOf_21 (by decide) ?_
          exact ih2 (x3_2 + (1 : Int32)) _ _ _ hF (hP.sub [] rfl) (hD.sub [] (by decide) rfl) hS (lv_sub hl [0, 1, 2, 3] rfl)
        · have hF := (if_pos c5).symm.trans hF
          refine lv_iload_n hx hb dX3_placeOf_16 rfl (lv_at hl 0 rfl) ?_
          obtain rfl := Option.some.inj hF
          exact ct_i hx hb hr hlocks hK hP hD hS () rfl [] (by decide) rfl (Nat.le_of_ble_eq_true rfl) (Nat.le_of_ble_eq_true rfl) dX3_placeOf_17
  exact L2 1000 (1 : Int32) _ _ _ hF (hP.sub [] rfl) (hD.sub [] (by decide) rfl) hS (lv_sub hl [0, 1, 2, 3] rfl)

def fX3_packed_X10  (x5_10 : Int32) (x4_10 : Int32) (x3_10 : Int32) (x2_10 : Int32) : Option Int32 := if x4_10 = 0 then (some (x2_10)) else (some ((-1 : Int32)))
def fX3_packed_L10 (p1 : Int32) (K10 : Int32 → Int32 → Int32 → Int32 → Option Int32) : Nat → Int32 → Int32 → Int32 → Int32 → Option Int32
  | 0, _, _, _, _ => none
  | n + 1, x5_10, x4_10, x3_10, x2_10 => if x5_10 < (1 : Int32) then (K10 x5_10 x4_10 x3_10 x2_10) else (if (x4_10 - x4_10 / (10 : Int32) * (10 : Int32)) < (1 : Int32) then (some ((-1 : Int32))) else (if p1 < (x4_10 - x4_10 / (10 : Int32) * (10 : Int32)) then (some ((-1 : Int32))) else (if (x3_10 &&& ((1 : Int32) <<< ((x4_10 - x4_10 / (10 : Int32) * (10 : Int32)) &&& 31))) = 0 then ((fX3_shift x5_10).bind (fun r6 => (fX3_packed_L10 p1 K10 n) (x5_10 + (-1 : Int32)) (x4_10 / (10 : Int32)) (x3_10 ||| ((1 : Int32) <<< ((x4_10 - x4_10 / (10 : Int32) * (10 : Int32)) &&& 31))) (x2_10 ||| ((x4_10 - x4_10 / (10 : Int32) * (10 : Int32)) <<< (r6 &&& 31))))) else (some ((-1 : Int32))))))
def fX3_packed (p0 : Int32) (p1 : Int32) : Option Int32 := fX3_packed_L10 p1 fX3_packed_X10 1000 p1 p0 (0 : Int32) (0 : Int32)
abbrev rmX3_packed : Room := { frames := 1, cells := 0, slots := 0, locals := 20 }
set_option maxHeartbeats 4000000 in
set_option maxRecDepth 100000 in
theorem kX3_packed (l : Launch) (dC : Nat → ClassId) (dI : Nat → Nat → Nat) (tys : List (ClassId × FieldType)) (cI : ClassId) (ht0 : tys[0]? = some (cI, .int))  (p0 : Int32) (p1 : Int32) (r : Int32) (hF : fX3_packed p0 p1 = some r) : ct l (dC, dI) tys yX3_packed wsX3_packed rmX3_packed [.int p0, .int p1] [] (fun _ : Unit => some (.int r)) (fun _ : Unit => []) := by
  refine ct_of (cc := cX3_packed) (maxL := 7) (ret := (some .int)) (by decide) rfl (Nat.le_of_ble_eq_true rfl) ?_
  intro p e s m below meth c A ls hx hb hr hml hts hown hlocks hname hE hK hP hD hA hS hl
  have hown : s.vm.findClass RX3 = some m.cls := hown
  have hl : lv_has ls 7 [(0, .int p0), (1, .int p1)] := hl
  unfold fX3_packed at hF
  refine lv_iconst (v := (0 : Int32)) hx hb dX3_packed_0 (by decide) ?_
  refine lv_istore_n (lv' := [(2, .int (0 : Int32)), (0, .int p0), (1, .int p1)]) hx hb dX3_packed_1 rfl hl (by decide) rfl (fun ls hl => ?_)
  refine lv_iconst (v := (0 : Int32)) hx hb dX3_packed_2 (by decide) ?_
  refine lv_istore_n (lv' := [(3, .int (0 : Int32)), (2, .int (0 : Int32)), (0, .int p0), (1, .int p1)]) hx hb dX3_packed_3 rfl hl (by decide) rfl (fun ls hl => ?_)
  refine lv_iload_n hx hb dX3_packed_4 rfl (lv_at hl 2 rfl) ?_
  refine lv_istore (lv' := [(4, .int p0), (3, .int (0 : Int32)), (2, .int (0 : Int32)), (0, .int p0), (1, .int p1)]) hx hb dX3_packed_5 hl (by decide) rfl (fun ls hl => ?_)
  refine lv_iload_n hx hb dX3_packed_7 rfl (lv_at hl 4 rfl) ?_
  refine lv_istore (lv' := [(5, .int p1), (4, .int p0), (3, .int (0 : Int32)), (2, .int (0 : Int32)), (0, .int p0), (1, .int p1)]) hx hb dX3_packed_8 hl (by decide) rfl (fun ls hl => ?_)
  have X10 : ∀ (x5_10 : Int32) (x4_10 : Int32) (x3_10 : Int32) (x2_10 : Int32) (H : Heap) (locs : List Loc) (ls : Array Slot), fX3_packed_X10 x5_10 x4_10 x3_10 x2_10 = some r → va_P (dC, dI) vwCl [] H → va_D A [] → va_S A s.heap H locs → lv_has ls 7 [(5, .int x5_10), (4, .int x4_10), (3, .int x3_10), (2, .int x2_10), (0, .int p0), (1, .int p1)] → W p l e rmX3_packed s m ([.int p0, .int p1] : List Value).toArray below meth c H locs 0 0 (MQ below (ct_Q (dC, dI) tys (fun _ : Unit => some (.int r)) (fun _ : Unit => []) A) ([.int p0, .int p1] : List Value).toArray s rmX3_packed.cells rmX3_packed.slots A) (F0 m 77 ls []) := by
    intro x5_10 x4_10 x3_10 x2_10 H locs ls hF hP hD hS hl
    unfold fX3_packed_X10 at hF
    refine lv_iload hx hb dX3_packed_77 (lv_at hl 1 rfl) ?_
    refine lv_if_ne (tgt := 86) hx hb dX3_packed_79 (by decide) (fun c1 => ?_) (fun c1 => ?_)
    · have hF := (if_neg c1).symm.trans hF
      refine lv_iconst (v := (-1 : Int32)) hx hb dX3_packed_86 (by decide) ?_
      obtain rfl := Option.some.inj hF
      exact ct_i hx hb hr hlocks hK hP hD hS () rfl [] (by decide) rfl (Nat.le_of_ble_eq_true rfl) (Nat.le_of_ble_eq_true rfl) dX3_packed_87
    · have hF := (if_pos c1).symm.trans hF
      refine lv_iload_n hx hb dX3_packed_82 rfl (lv_at hl 3 rfl) ?_
      refine lv_goto (tgt := 87) hx hb dX3_packed_83 (by decide) ?_
      obtain rfl := Option.some.inj hF
      exact ct_i hx hb hr hlocks hK hP hD hS () rfl [] (by decide) rfl (Nat.le_of_ble_eq_true rfl) (Nat.le_of_ble_eq_true rfl) dX3_packed_87
  have L10 : ∀ (n10 : Nat) (x5_10 : Int32) (x4_10 : Int32) (x3_10 : Int32) (x2_10 : Int32) (H : Heap) (locs : List Loc) (ls : Array Slot), fX3_packed_L10 p1 fX3_packed_X10 n10 x5_10 x4_10 x3_10 x2_10 = some r → va_P (dC, dI) vwCl [] H → va_D A [] → va_S A s.heap H locs → lv_has ls 7 [(5, .int x5_10), (4, .int x4_10), (3, .int x3_10), (2, .int x2_10), (0, .int p0), (1, .int p1)] → W p l e rmX3_packed s m ([.int p0, .int p1] : List Value).toArray below meth c H locs 0 0 (MQ below (ct_Q (dC, dI) tys (fun _ : Unit => some (.int r)) (fun _ : Unit => []) A) ([.int p0, .int p1] : List Value).toArray s rmX3_packed.cells rmX3_packed.slots A) (F0 m 10 ls []) := by
    intro n10
    induction n10 with
    | zero => intro x5_10 x4_10 x3_10 x2_10 H locs ls hF; rw [fX3_packed_L10] at hF; cases hF
    | succ n10 ih10 =>
      intro x5_10 x4_10 x3_10 x2_10 H locs ls hF hP hD hS hl
      rw [fX3_packed_L10] at hF
      refine lv_iload hx hb dX3_packed_10 (lv_at hl 0 rfl) ?_
      refine lv_iconst (v := (1 : Int32)) hx hb dX3_packed_12 (by decide) ?_
      refine lv_icmp_lt (tgt := 77) hx hb dX3_packed_13 (by decide) (fun c2 => ?_) (fun c2 => ?_)
      · have hF := (if_pos c2).symm.trans hF
        exact X10 x5_10 x4_10 x3_10 x2_10 _ _ _ hF (hP.sub [] rfl) (hD.sub [] (by decide) rfl) hS (lv_sub hl [0, 1, 2, 3, 4, 5] rfl)
      · have hF := (if_neg c2).symm.trans hF
        refine lv_iload hx hb dX3_packed_16 (lv_at hl 1 rfl) ?_
        refine lv_bipush (v := (10 : Int32)) hx hb dX3_packed_18 (by decide) ?_
        refine lv_irem hx hb dX3_packed_20 (by decide) ?_
        refine lv_istore (lv' := [(6, .int (x4_10 - x4_10 / (10 : Int32) * (10 : Int32))), (5, .int x5_10), (4, .int x4_10), (3, .int x3_10), (2, .int x2_10), (0, .int p0), (1, .int p1)]) hx hb dX3_packed_21 hl (by decide) rfl (fun ls hl => ?_)
        refine lv_iload hx hb dX3_packed_23 (lv_at hl 2 rfl) ?_
        refine lv_bipush (v := (10 : Int32)) hx hb dX3_packed_25 (by decide) ?_
        refine lv_idiv hx hb dX3_packed_27 (by decide) ?_
        refine lv_istore (lv' := [(4, .int (x4_10 / (10 : Int32))), (6, .int (x4_10 - x4_10 / (10 : Int32) * (10 : Int32))), (5, .int x5_10), (3, .int x3_10), (2, .int x2_10), (0, .int p0), (1, .int p1)]) hx hb dX3_packed_28 hl (by decide) rfl (fun ls hl => ?_)
        refine lv_iload hx hb dX3_packed_30 (lv_at hl 1 rfl) ?_
        refine lv_iconst (v := (1 : Int32)) hx hb dX3_packed_32 (by decide) ?_
        refine lv_icmp_lt (tgt := 51) hx hb dX3_packed_33 (by decide) (fun c3 => ?_) (fun c3 => ?_)
        · have hF := (if_pos c3).symm.trans hF
          refine lv_iconst (v := (-1 : Int32)) hx hb dX3_packed_51 (by decide) ?_
          obtain rfl := Option.some.inj hF
          exact ct_i hx hb hr hlocks hK hP hD hS () rfl [] (by decide) rfl (Nat.le_of_ble_eq_true rfl) (Nat.le_of_ble_eq_true rfl) dX3_packed_52
        · have hF := (if_neg c3).symm.trans hF
          refine lv_iload hx hb dX3_packed_36 (lv_at hl 1 rfl) ?_
          refine lv_iload_n hx hb dX3_packed_38 rfl (lv_at hl 6 rfl) ?_
          refine lv_icmp_gt (tgt := 51) hx hb dX3_packed_39 (by decide) (fun c4 => ?_) (fun c4 => ?_)
          · have hF := (if_pos c4).symm.trans hF
            refine lv_iconst (v := (-1 : Int32)) hx hb dX3_packed_51 (by decide) ?_
            obtain rfl := Option.some.inj hF
            exact ct_i hx hb hr hlocks hK hP hD hS () rfl [] (by decide) rfl (Nat.le_of_ble_eq_true rfl) (Nat.le_of_ble_eq_true rfl) dX3_packed_52
          · have hF := (if_neg c4).symm.trans hF
            refine lv_iload_n hx hb dX3_packed_42 rfl (lv_at hl 3 rfl) ?_
            refine lv_iconst (v := (1 : Int32)) hx hb dX3_packed_43 (by decide) ?_
            refine lv_iload hx hb dX3_packed_44 (lv_at hl 1 rfl) ?_
            refine lv_ishl hx hb dX3_packed_46 ?_
            refine lv_iand hx hb dX3_packed_47 ?_
            refine lv_if_eq (tgt := 53) hx hb dX3_packed_48 (by decide) (fun c5 => ?_) (fun c5 => ?_)
            · have hF := (if_pos c5).symm.trans hF
              refine lv_iload_n hx hb dX3_packed_53 rfl (lv_at hl 3 rfl) ?_
              refine lv_iconst (v := (1 : Int32)) hx hb dX3_packed_54 (by decide) ?_
              refine lv_iload hx hb dX3_packed_55 (lv_at hl 1 rfl) ?_
              refine lv_ishl hx hb dX3_packed_57 ?_
              refine lv_ior hx hb dX3_packed_58 ?_
              refine lv_istore_n (lv' := [(3, .int (x3_10 ||| ((1 : Int32) <<< ((x4_10 - x4_10 / (10 : Int32) * (10 : Int32)) &&& 31)))), (4, .int (x4_10 / (10 : Int32))), (6, .int (x4_10 - x4_10 / (10 : Int32) * (10 : Int32))), (5, .int x5_10), (2, .int x2_10), (0, .int p0), (1, .int p1)]) hx hb dX3_packed_59 rfl hl (by decide) rfl (fun ls hl => ?_)
              refine lv_iload_n hx hb dX3_packed_60 rfl (lv_at hl 4 rfl) ?_
              refine lv_iload hx hb dX3_packed_61 (lv_at hl 2 rfl) ?_
              refine lv_iload hx hb dX3_packed_63 (lv_at hl 3 rfl) ?_
              obtain ⟨r6, hC7, hF⟩ := gd_b hF
              refine ct_callS (As := [.int x5_10]) (rest := [.int (x4_10 - x4_10 / (10 : Int32) * (10 : Int32)), .int x2_10]) ⟨hx, hb, hml, hown, hts⟩ (kX3_shift l dC dI tys cI ht0 x5_10 r6 hC7) (va_cwS 1 hts gX3_packed_X3_shift rfl rfl rfl (by decide +kernel) ⟨Nat.le_of_ble_eq_true rfl, Nat.le_of_ble_eq_true rfl⟩) hE hK hP hD hS hA [] [] (by decide) rfl (by decide) (wr := []) rfl (by decide) hl.1 rfl rfl (Nat.le_of_ble_eq_true rfl) dX3_packed_65 ⟨(Nat.le_of_ble_eq_true rfl), (Nat.le_of_ble_eq_true rfl)⟩ (fun i8 H locs hP hD hS => ?_)
              have hP : va_P (dC, dI) vwCl [] H := hP
              have hD : va_D A [] := hD
              refine lv_ishl hx hb dX3_packed_68 ?_
              refine lv_ior hx hb dX3_packed_69 ?_
              refine lv_istore_n (lv' := [(2, .int (x2_10 ||| ((x4_10 - x4_10 / (10 : Int32) * (10 : Int32)) <<< (r6 &&& 31)))), (3, .int (x3_10 ||| ((1 : Int32) <<< ((x4_10 - x4_10 / (10 : Int32) * (10 : Int32)) &&& 31)))), (4, .int (x4_10 / (10 : Int32))), (6, .int (x4_10 - x4_10 / (10 : Int32) * (10 : Int32))), (5, .int x5_10), (0, .int p0), (1, .int p1)]) hx hb dX3_packed_70 rfl hl (by decide) rfl (fun ls hl => ?_)
              refine lv_iinc (v := x5_10 + (-1 : Int32)) (lv' := [(5, .int (x5_10 + (-1 : Int32))), (2, .int (x2_10 ||| ((x4_10 - x4_10 / (10 : Int32) * (10 : Int32)) <<< (r6 &&& 31)))), (3, .int (x3_10 ||| ((1 : Int32) <<< ((x4_10 - x4_10 / (10 : Int32) * (10 : Int32)) &&& 31)))), (4, .int (x4_10 / (10 : Int32))), (6, .int (x4_10 - x4_10 / (10 : Int32) * (10 : Int32))), (0, .int p0), (1, .int p1)]) hx hb dX3_packed_71 hl (k := 4) rfl rfl (by decide) rfl (fun ls hl => ?_)
              refine lv_goto (tgt := 10) hx hb dX3_packed_74 (by decide) ?_
              exact ih10 (x5_10 + (-1 : Int32)) (x4_10 / (10 : Int32)) (x3_10 ||| ((1 : Int32) <<< ((x4_10 - x4_10 / (10 : Int32) * (10 : Int32)) &&& 31))) (x2_10 ||| ((x4_10 - x4_10 / (10 : Int32) * (10 : Int32)) <<< (r6 &&& 31))) _ _ _ hF (hP.sub [] rfl) (hD.sub [] (by decide) rfl) hS (lv_sub hl [0, 3, 2, 1, 5, 6] rfl)
            · have hF := (if_neg c5).symm.trans hF
              refine lv_iconst (v := (-1 : Int32)) hx hb dX3_packed_51 (by decide) ?_
              obtain rfl := Option.some.inj hF
              exact ct_i hx hb hr hlocks hK hP hD hS () rfl [] (by decide) rfl (Nat.le_of_ble_eq_true rfl) (Nat.le_of_ble_eq_true rfl) dX3_packed_52
  exact L10 1000 p1 p0 (0 : Int32) (0 : Int32) _ _ _ hF (hP.sub [] rfl) (hD.sub [] (by decide) rfl) hS (lv_sub hl [0, 1, 2, 3, 4, 5] rfl)

def fX3_number_X4  (x3_4 : Int32) (x2_4 : Int32) : Option Int32 := some (x2_4)
def fX3_number_L4 (p1 : Int32) (p0 : Int32) (K4 : Int32 → Int32 → Option Int32) : Nat → Int32 → Int32 → Option Int32
  | 0, _, _ => none
  | n + 1, x3_4, x2_4 => if p1 < x3_4 then (K4 x3_4 x2_4) else ((fX3_bellAt p0 x3_4).bind (fun r2 => (fX3_number_L4 p1 p0 K4 n) (x3_4 + (1 : Int32)) ((x2_4 * (10 : Int32)) + r2)))
def fX3_number (p0 : Int32) (p1 : Int32) : Option Int32 := fX3_number_L4 p1 p0 fX3_number_X4 1000 (1 : Int32) (0 : Int32)
abbrev rmX3_number : Room := { frames := 1, cells := 0, slots := 0, locals := 21 }
set_option maxHeartbeats 4000000 in
set_option maxRecDepth 100000 in
theorem kX3_number (l : Launch) (dC : Nat → ClassId) (dI : Nat → Nat → Nat) (tys : List (ClassId × FieldType)) (cI : ClassId) (ht0 : tys[0]? = some (cI, .int))  (p0 : Int32) (p1 : Int32) (r : Int32) (hF : fX3_number p0 p1 = some r) : ct l (dC, dI) tys yX3_number wsX3_number rmX3_number [.int p0, .int p1] [] (fun _ : Unit => some (.int r)) (fun _ : Unit => []) := by
  refine ct_of (cc := cX3_number) (maxL := 4) (ret := (some .int)) (by decide) rfl (Nat.le_of_ble_eq_true rfl) ?_
  intro p e s m below meth c A ls hx hb hr hml hts hown hlocks hname hE hK hP hD hA hS hl
  have hown : s.vm.findClass RX3 = some m.cls := hown
  have hl : lv_has ls 4 [(0, .int p0), (1, .int p1)] := hl
  unfold fX3_number at hF
  refine lv_iconst (v := (0 : Int32)) hx hb dX3_number_0 (by decide) ?_
  refine lv_istore_n (lv' := [(2, .int (0 : Int32)), (0, .int p0), (1, .int p1)]) hx hb dX3_number_1 rfl hl (by decide) rfl (fun ls hl => ?_)
  refine lv_iconst (v := (1 : Int32)) hx hb dX3_number_2 (by decide) ?_
  refine lv_istore_n (lv' := [(3, .int (1 : Int32)), (2, .int (0 : Int32)), (0, .int p0), (1, .int p1)]) hx hb dX3_number_3 rfl hl (by decide) rfl (fun ls hl => ?_)
  have X4 : ∀ (x3_4 : Int32) (x2_4 : Int32) (H : Heap) (locs : List Loc) (ls : Array Slot), fX3_number_X4 x3_4 x2_4 = some r → va_P (dC, dI) vwCl [] H → va_D A [] → va_S A s.heap H locs → lv_has ls 4 [(3, .int x3_4), (2, .int x2_4), (0, .int p0), (1, .int p1)] → W p l e rmX3_number s m ([.int p0, .int p1] : List Value).toArray below meth c H locs 0 0 (MQ below (ct_Q (dC, dI) tys (fun _ : Unit => some (.int r)) (fun _ : Unit => []) A) ([.int p0, .int p1] : List Value).toArray s rmX3_number.cells rmX3_number.slots A) (F0 m 26 ls []) := by
    intro x3_4 x2_4 H locs ls hF hP hD hS hl
    unfold fX3_number_X4 at hF
    refine lv_iload_n hx hb dX3_number_26 rfl (lv_at hl 1 rfl) ?_
    obtain rfl := Option.some.inj hF
    exact ct_i hx hb hr hlocks hK hP hD hS () rfl [] (by decide) rfl (Nat.le_of_ble_eq_true rfl) (Nat.le_of_ble_eq_true rfl) dX3_number_27
  have L4 : ∀ (n4 : Nat) (x3_4 : Int32) (x2_4 : Int32) (H : Heap) (locs : List Loc) (ls : Array Slot), fX3_number_L4 p1 p0 fX3_number_X4 n4 x3_4 x2_4 = some r → va_P (dC, dI) vwCl [] H → va_D A [] → va_S A s.heap H locs → lv_has ls 4 [(3, .int x3_4), (2, .int x2_4), (0, .int p0), (1, .int p1)] → W p l e rmX3_number s m ([.int p0, .int p1] : List Value).toArray below meth c H locs 0 0 (MQ below (ct_Q (dC, dI) tys (fun _ : Unit => some (.int r)) (fun _ : Unit => []) A) ([.int p0, .int p1] : List Value).toArray s rmX3_number.cells rmX3_number.slots A) (F0 m 4 ls []) := by
    intro n4
    induction n4 with
    | zero => intro x3_4 x2_4 H locs ls hF; rw [fX3_number_L4] at hF; cases hF
    | succ n4 ih4 =>
      intro x3_4 x2_4 H locs ls hF hP hD hS hl
      rw [fX3_number_L4] at hF
      refine lv_iload_n hx hb dX3_number_4 rfl (lv_at hl 0 rfl) ?_
      refine lv_iload_n hx hb dX3_number_5 rfl (lv_at hl 3 rfl) ?_
      refine lv_icmp_gt (tgt := 26) hx hb dX3_number_6 (by decide) (fun c1 => ?_) (fun c1 => ?_)
      · have hF := (if_pos c1).symm.trans hF
        exact X4 x3_4 x2_4 _ _ _ hF (hP.sub [] rfl) (hD.sub [] (by decide) rfl) hS (lv_sub hl [0, 1, 2, 3] rfl)
      · have hF := (if_neg c1).symm.trans hF
        refine lv_iload_n hx hb dX3_number_9 rfl (lv_at hl 1 rfl) ?_
        refine lv_bipush (v := (10 : Int32)) hx hb dX3_number_10 (by decide) ?_
        refine lv_imul hx hb dX3_number_12 ?_
        refine lv_iload_n hx hb dX3_number_13 rfl (lv_at hl 2 rfl) ?_
        refine lv_iload_n hx hb dX3_number_14 rfl (lv_at hl 0 rfl) ?_
        obtain ⟨r2, hC3, hF⟩ := gd_b hF
        refine ct_callS (As := [.int p0, .int x3_4]) (rest := [.int (x2_4 * (10 : Int32))]) ⟨hx, hb, hml, hown, hts⟩ (kX3_bellAt l dC dI tys cI ht0 p0 x3_4 r2 hC3) (va_cwS 2 hts gX3_number_X3_bellAt rfl rfl rfl (by decide +kernel) ⟨Nat.le_of_ble_eq_true rfl, Nat.le_of_ble_eq_true rfl⟩) hE hK hP hD hS hA [] [] (by decide) rfl (by decide) (wr := []) rfl (by decide) hl.1 rfl rfl (Nat.le_of_ble_eq_true rfl) dX3_number_15 ⟨(Nat.le_of_ble_eq_true rfl), (Nat.le_of_ble_eq_true rfl)⟩ (fun i4 H locs hP hD hS => ?_)
        have hP : va_P (dC, dI) vwCl [] H := hP
        have hD : va_D A [] := hD
        refine lv_iadd hx hb dX3_number_18 ?_
        refine lv_istore_n (lv' := [(2, .int ((x2_4 * (10 : Int32)) + r2)), (3, .int x3_4), (0, .int p0), (1, .int p1)]) hx hb dX3_number_19 rfl hl (by decide) rfl (fun ls hl => ?_)
        refine lv_iinc (v := x3_4 + (1 : Int32)) (lv' := [(3, .int (x3_4 + (1 : Int32))), (2, .int ((x2_4 * (10 : Int32)) + r2)), (0, .int p0), (1, .int p1)]) hx hb dX3_number_20 hl (k := 1) rfl rfl (by decide) rfl (fun ls hl => ?_)
        refine lv_goto (tgt := 4) hx hb dX3_number_23 (by decide) ?_
        exact ih4 (x3_4 + (1 : Int32)) ((x2_4 * (10 : Int32)) + r2) _ _ _ hF (hP.sub [] rfl) (hD.sub [] (by decide) rfl) hS (lv_sub hl [0, 1, 2, 3] rfl)
  exact L4 1000 (1 : Int32) (0 : Int32) _ _ _ hF (hP.sub [] rfl) (hD.sub [] (by decide) rfl) hS (lv_sub hl [0, 1, 2, 3] rfl)

def fX3_stays (p0 : Int32) (p1 : Int32) : Option Int32 := if (p0 &&& ((1 : Int32) <<< ((p1 - (1 : Int32)) &&& 31))) = 0 then (some ((0 : Int32))) else (some ((1 : Int32)))
abbrev rmX3_stays : Room := { frames := 0, cells := 0, slots := 0, locals := 0 }
set_option maxHeartbeats 4000000 in
set_option maxRecDepth 100000 in
theorem kX3_stays (l : Launch) (dC : Nat → ClassId) (dI : Nat → Nat → Nat) (tys : List (ClassId × FieldType)) (cI : ClassId) (ht0 : tys[0]? = some (cI, .int))  (p0 : Int32) (p1 : Int32) (r : Int32) (hF : fX3_stays p0 p1 = some r) : ct l (dC, dI) tys yX3_stays wsX3_stays rmX3_stays [.int p0, .int p1] [] (fun _ : Unit => some (.int r)) (fun _ : Unit => []) := by
  refine ct_of (cc := cX3_stays) (maxL := 2) (ret := (some .boolean)) (by decide) rfl (Nat.le_of_ble_eq_true rfl) ?_
  intro p e s m below meth c A ls hx hb hr hml hts hown hlocks hname hE hK hP hD hA hS hl
  have hown : s.vm.findClass RX3 = some m.cls := hown
  have hl : lv_has ls 2 [(0, .int p0), (1, .int p1)] := hl
  unfold fX3_stays at hF
  refine lv_iload_n hx hb dX3_stays_0 rfl (lv_at hl 0 rfl) ?_
  refine lv_iconst (v := (1 : Int32)) hx hb dX3_stays_1 (by decide) ?_
  refine lv_iload_n hx hb dX3_stays_2 rfl (lv_at hl 1 rfl) ?_
  refine lv_iconst (v := (1 : Int32)) hx hb dX3_stays_3 (by decide) ?_
  refine lv_isub hx hb dX3_stays_4 ?_
  refine lv_ishl hx hb dX3_stays_5 ?_
  refine lv_iand hx hb dX3_stays_6 ?_
  refine lv_if_eq (tgt := 14) hx hb dX3_stays_7 (by decide) (fun c1 => ?_) (fun c1 => ?_)
  · have hF := (if_pos c1).symm.trans hF
    refine lv_iconst (v := (0 : Int32)) hx hb dX3_stays_14 (by decide) ?_
    obtain rfl := Option.some.inj hF
    exact ct_z hx hb hr hlocks hK hP hD hS () (gd_z (by decide)) rfl [] (by decide) rfl (Nat.le_of_ble_eq_true rfl) (Nat.le_of_ble_eq_true rfl) dX3_stays_15
  · have hF := (if_neg c1).symm.trans hF
    refine lv_iconst (v := (1 : Int32)) hx hb dX3_stays_10 (by decide) ?_
    refine lv_goto (tgt := 15) hx hb dX3_stays_11 (by decide) ?_
    obtain rfl := Option.some.inj hF
    exact ct_z hx hb hr hlocks hK hP hD hS () (gd_z (by decide)) rfl [] (by decide) rfl (Nat.le_of_ble_eq_true rfl) (Nat.le_of_ble_eq_true rfl) dX3_stays_15

def fX3_canBeRung_X15  (x2_15 : Int32) : Option Int32 := some ((0 : Int32))
def fX3_canBeRung_L15 (p1 : Int32) (p0 : Int32) (K15 : Int32 → Option Int32) : Nat → Int32 → Option Int32
  | 0, _ => none
  | n + 1, x2_15 => if p1 < x2_15 then (some ((1 : Int32))) else ((fX3_stays p0 x2_15).bind (fun r4 => if r4 = 0 then (if p1 ≤ x2_15 then (K15 x2_15) else ((fX3_stays p0 (x2_15 + (1 : Int32))).bind (fun r9 => if r9 = 0 then ((fX3_canBeRung_L15 p1 p0 K15 n) (x2_15 + (2 : Int32))) else (K15 x2_15)))) else ((fX3_canBeRung_L15 p1 p0 K15 n) (x2_15 + (1 : Int32)))))
def fX3_canBeRung (p0 : Int32) (p1 : Int32) : Option Int32 := if p0 < 0 then (some ((0 : Int32))) else (if p0 < ((1 : Int32) <<< (p1 &&& 31)) then (fX3_canBeRung_L15 p1 p0 fX3_canBeRung_X15 1000 (1 : Int32)) else (some ((0 : Int32))))
abbrev rmX3_canBeRung : Room := { frames := 1, cells := 0, slots := 0, locals := 21 }
set_option maxHeartbeats 4000000 in
set_option maxRecDepth 100000 in
theorem kX3_canBeRung (l : Launch) (dC : Nat → ClassId) (dI : Nat → Nat → Nat) (tys : List (ClassId × FieldType)) (cI : ClassId) (ht0 : tys[0]? = some (cI, .int))  (p0 : Int32) (p1 : Int32) (r : Int32) (hF : fX3_canBeRung p0 p1 = some r) : ct l (dC, dI) tys yX3_canBeRung wsX3_canBeRung rmX3_canBeRung [.int p0, .int p1] [] (fun _ : Unit => some (.int r)) (fun _ : Unit => []) := by
  refine ct_of (cc := cX3_canBeRung) (maxL := 3) (ret := (some .boolean)) (by decide) rfl (Nat.le_of_ble_eq_true rfl) ?_
  intro p e s m below meth c A ls hx hb hr hml hts hown hlocks hname hE hK hP hD hA hS hl
  have hown : s.vm.findClass RX3 = some m.cls := hown
  have hl : lv_has ls 3 [(0, .int p0), (1, .int p1)] := hl
  unfold fX3_canBeRung at hF
  refine lv_iload_n hx hb dX3_canBeRung_0 rfl (lv_at hl 0 rfl) ?_
  refine lv_if_lt (tgt := 11) hx hb dX3_canBeRung_1 (by decide) (fun c1 => ?_) (fun c1 => ?_)
  · have hF := (if_pos c1).symm.trans hF
    refine lv_iconst (v := (0 : Int32)) hx hb dX3_canBeRung_11 (by decide) ?_
    obtain rfl := Option.some.inj hF
    exact ct_z hx hb hr hlocks hK hP hD hS () (gd_z (by decide)) rfl [] (by decide) rfl (Nat.le_of_ble_eq_true rfl) (Nat.le_of_ble_eq_true rfl) dX3_canBeRung_12
  · have hF := (if_neg c1).symm.trans hF
    refine lv_iload_n hx hb dX3_canBeRung_4 rfl (lv_at hl 0 rfl) ?_
    refine lv_iconst (v := (1 : Int32)) hx hb dX3_canBeRung_5 (by decide) ?_
    refine lv_iload_n hx hb dX3_canBeRung_6 rfl (lv_at hl 1 rfl) ?_
    refine lv_ishl hx hb dX3_canBeRung_7 ?_
    refine lv_icmp_lt (tgt := 13) hx hb dX3_canBeRung_8 (by decide) (fun c2 => ?_) (fun c2 => ?_)
    · have hF := (if_pos c2).symm.trans hF
      refine lv_iconst (v := (1 : Int32)) hx hb dX3_canBeRung_13 (by decide) ?_
      refine lv_istore_n (lv' := [(2, .int (1 : Int32)), (0, .int p0), (1, .int p1)]) hx hb dX3_canBeRung_14 rfl hl (by decide) rfl (fun ls hl => ?_)
      have X15 : ∀ (x2_15 : Int32) (H : Heap) (locs : List Loc) (ls : Array Slot), fX3_canBeRung_X15 x2_15 = some r → va_P (dC, dI) vwCl [] H → va_D A [] → va_S A s.heap H locs → lv_has ls 3 [(2, .int x2_15), (0, .int p0), (1, .int p1)] → W p l e rmX3_canBeRung s m ([.int p0, .int p1] : List Value).toArray below meth c H locs 0 0 (MQ below (ct_Q (dC, dI) tys (fun _ : Unit => some (.int r)) (fun _ : Unit => []) A) ([.int p0, .int p1] : List Value).toArray s rmX3_canBeRung.cells rmX3_canBeRung.slots A) (F0 m 55 ls []) := by
        intro x2_15 H locs ls hF hP hD hS hl
        unfold fX3_canBeRung_X15 at hF
        refine lv_iconst (v := (0 : Int32)) hx hb dX3_canBeRung_55 (by decide) ?_
        obtain rfl := Option.some.inj hF
        exact ct_z hx hb hr hlocks hK hP hD hS () (gd_z (by decide)) rfl [] (by decide) rfl (Nat.le_of_ble_eq_true rfl) (Nat.le_of_ble_eq_true rfl) dX3_canBeRung_56
      have L15 : ∀ (n15 : Nat) (x2_15 : Int32) (H : Heap) (locs : List Loc) (ls : Array Slot), fX3_canBeRung_L15 p1 p0 fX3_canBeRung_X15 n15 x2_15 = some r → va_P (dC, dI) vwCl [] H → va_D A [] → va_S A s.heap H locs → lv_has ls 3 [(2, .int x2_15), (0, .int p0), (1, .int p1)] → W p l e rmX3_canBeRung s m ([.int p0, .int p1] : List Value).toArray below meth c H locs 0 0 (MQ below (ct_Q (dC, dI) tys (fun _ : Unit => some (.int r)) (fun _ : Unit => []) A) ([.int p0, .int p1] : List Value).toArray s rmX3_canBeRung.cells rmX3_canBeRung.slots A) (F0 m 15 ls []) := by
        intro n15
        induction n15 with
        | zero => intro x2_15 H locs ls hF; rw [fX3_canBeRung_L15] at hF; cases hF
        | succ n15 ih15 =>
          intro x2_15 H locs ls hF hP hD hS hl
          rw [fX3_canBeRung_L15] at hF
          refine lv_iload_n hx hb dX3_canBeRung_15 rfl (lv_at hl 0 rfl) ?_
          refine lv_iload_n hx hb dX3_canBeRung_16 rfl (lv_at hl 2 rfl) ?_
          refine lv_icmp_gt (tgt := 57) hx hb dX3_canBeRung_17 (by decide) (fun c3 => ?_) (fun c3 => ?_)
          · have hF := (if_pos c3).symm.trans hF
            refine lv_iconst (v := (1 : Int32)) hx hb dX3_canBeRung_57 (by decide) ?_
            obtain rfl := Option.some.inj hF
            exact ct_z hx hb hr hlocks hK hP hD hS () (gd_z (by decide)) rfl [] (by decide) rfl (Nat.le_of_ble_eq_true rfl) (Nat.le_of_ble_eq_true rfl) dX3_canBeRung_58
          · have hF := (if_neg c3).symm.trans hF
            refine lv_iload_n hx hb dX3_canBeRung_20 rfl (lv_at hl 1 rfl) ?_
            refine lv_iload_n hx hb dX3_canBeRung_21 rfl (lv_at hl 0 rfl) ?_
            obtain ⟨r4, hC5, hF⟩ := gd_b hF
            refine ct_callS (As := [.int p0, .int x2_15]) (rest := []) ⟨hx, hb, hml, hown, hts⟩ (kX3_stays l dC dI tys cI ht0 p0 x2_15 r4 hC5) (va_cwS 2 hts gX3_canBeRung_X3_stays rfl rfl rfl (by decide +kernel) ⟨Nat.le_of_ble_eq_true rfl, Nat.le_of_ble_eq_true rfl⟩) hE hK hP hD hS hA [] [] (by decide) rfl (by decide) (wr := []) rfl (by decide) hl.1 rfl rfl (Nat.le_of_ble_eq_true rfl) dX3_canBeRung_22 ⟨(Nat.le_of_ble_eq_true rfl), (Nat.le_of_ble_eq_true rfl)⟩ (fun i6 H locs hP hD hS => ?_)
            have hP : va_P (dC, dI) vwCl [] H := hP
            have hD : va_D A [] := hD
            refine lv_if_eq (tgt := 34) hx hb dX3_canBeRung_25 (by decide) (fun c7 => ?_) (fun c7 => ?_)
            · have hF := (if_pos c7).symm.trans hF
              refine lv_iload_n hx hb dX3_canBeRung_34 rfl (lv_at hl 0 rfl) ?_
              refine lv_iload_n hx hb dX3_canBeRung_35 rfl (lv_at hl 2 rfl) ?_
              refine lv_icmp_ge (tgt := 55) hx hb dX3_canBeRung_36 (by decide) (fun c8 => ?_) (fun c8 => ?_)
              · have hF := (if_pos c8).symm.trans hF
                exact X15 x2_15 _ _ _ hF (hP.sub [] rfl) (hD.sub [] (by decide) rfl) hS (lv_sub hl [0, 1, 2] rfl)
              · have hF := (if_neg c8).symm.trans hF
                refine lv_iload_n hx hb dX3_canBeRung_39 rfl (lv_at hl 1 rfl) ?_
                refine lv_iload_n hx hb dX3_canBeRung_40 rfl (lv_at hl 0 rfl) ?_
                refine lv_iconst (v := (1 : Int32)) hx hb dX3_canBeRung_41 (by decide) ?_
                refine lv_iadd hx hb dX3_canBeRung_42 ?_
                obtain ⟨r9, hC10, hF⟩ := gd_b hF
                refine ct_callS (As := [.int p0, .int (x2_15 + (1 : Int32))]) (rest := []) ⟨hx, hb, hml, hown, hts⟩ (kX3_stays l dC dI tys cI ht0 p0 (x2_15 + (1 : Int32)) r9 hC10) (va_cwS 2 hts gX3_canBeRung_X3_stays rfl rfl rfl (by decide +kernel) ⟨Nat.le_of_ble_eq_true rfl, Nat.le_of_ble_eq_true rfl⟩) hE hK hP hD hS hA [] [] (by decide) rfl (by decide) (wr := []) rfl (by decide) hl.1 rfl rfl (Nat.le_of_ble_eq_true rfl) dX3_canBeRung_43 ⟨(Nat.le_of_ble_eq_true rfl), (Nat.le_of_ble_eq_true rfl)⟩ (fun i11 H locs hP hD hS => ?_)
                have hP : va_P (dC, dI) vwCl [] H := hP
                have hD : va_D A [] := hD
                refine lv_if_ne (tgt := 55) hx hb dX3_canBeRung_46 (by decide) (fun c12 => ?_) (fun c12 => ?_)
                · have hF := (if_neg c12).symm.trans hF
                  exact X15 x2_15 _ _ _ hF (hP.sub [] rfl) (hD.sub [] (by decide) rfl) hS (lv_sub hl [0, 1, 2] rfl)
                · have hF := (if_pos c12).symm.trans hF
                  refine lv_iinc (v := x2_15 + (2 : Int32)) (lv' := [(2, .int (x2_15 + (2 : Int32))), (0, .int p0), (1, .int p1)]) hx hb dX3_canBeRung_49 hl (k := 0) rfl rfl (by decide) rfl (fun ls hl => ?_)
                  refine lv_goto (tgt := 15) hx hb dX3_canBeRung_52 (by decide) ?_
                  exact ih15 (x2_15 + (2 : Int32)) _ _ _ hF (hP.sub [] rfl) (hD.sub [] (by decide) rfl) hS (lv_sub hl [0, 1, 2] rfl)
            · have hF := (if_neg c7).symm.trans hF
              refine lv_iinc (v := x2_15 + (1 : Int32)) (lv' := [(2, .int (x2_15 + (1 : Int32))), (0, .int p0), (1, .int p1)]) hx hb dX3_canBeRung_28 hl (k := 0) rfl rfl (by decide) rfl (fun ls hl => ?_)
              refine lv_goto (tgt := 15) hx hb dX3_canBeRung_31 (by decide) ?_
              exact ih15 (x2_15 + (1 : Int32)) _ _ _ hF (hP.sub [] rfl) (hD.sub [] (by decide) rfl) hS (lv_sub hl [0, 1, 2] rfl)
      exact L15 1000 (1 : Int32) _ _ _ hF (hP.sub [] rfl) (hD.sub [] (by decide) rfl) hS (lv_sub hl [0, 1, 2] rfl)
    · have hF := (if_neg c2).symm.trans hF
      refine lv_iconst (v := (0 : Int32)) hx hb dX3_canBeRung_11 (by decide) ?_
      obtain rfl := Option.some.inj hF
      exact ct_z hx hb hr hlocks hK hP hD hS () (gd_z (by decide)) rfl [] (by decide) rfl (Nat.le_of_ble_eq_true rfl) (Nat.le_of_ble_eq_true rfl) dX3_canBeRung_12

def fX3_swapped (p0 : Int32) (p1 : Int32) : Option Int32 := some ((p0 ^^^ ((((p0 >>> (((4 : Int32) * (p1 - (1 : Int32))) &&& 31)) ^^^ (p0 >>> ((((4 : Int32) * (p1 - (1 : Int32))) + (4 : Int32)) &&& 31))) &&& (15 : Int32)) <<< (((4 : Int32) * (p1 - (1 : Int32))) &&& 31))) ^^^ ((((p0 >>> (((4 : Int32) * (p1 - (1 : Int32))) &&& 31)) ^^^ (p0 >>> ((((4 : Int32) * (p1 - (1 : Int32))) + (4 : Int32)) &&& 31))) &&& (15 : Int32)) <<< ((((4 : Int32) * (p1 - (1 : Int32))) + (4 : Int32)) &&& 31)))
abbrev rmX3_swapped : Room := { frames := 0, cells := 0, slots := 0, locals := 0 }
set_option maxHeartbeats 4000000 in
set_option maxRecDepth 100000 in
theorem kX3_swapped (l : Launch) (dC : Nat → ClassId) (dI : Nat → Nat → Nat) (tys : List (ClassId × FieldType)) (cI : ClassId) (ht0 : tys[0]? = some (cI, .int))  (p0 : Int32) (p1 : Int32) (r : Int32) (hF : fX3_swapped p0 p1 = some r) : ct l (dC, dI) tys yX3_swapped wsX3_swapped rmX3_swapped [.int p0, .int p1] [] (fun _ : Unit => some (.int r)) (fun _ : Unit => []) := by
  refine ct_of (cc := cX3_swapped) (maxL := 5) (ret := (some .int)) (by decide) rfl (Nat.le_of_ble_eq_true rfl) ?_
  intro p e s m below meth c A ls hx hb hr hml hts hown hlocks hname hE hK hP hD hA hS hl
  have hown : s.vm.findClass RX3 = some m.cls := hown
  have hl : lv_has ls 5 [(0, .int p0), (1, .int p1)] := hl
  unfold fX3_swapped at hF
  refine lv_iconst (v := (4 : Int32)) hx hb dX3_swapped_0 (by decide) ?_
  refine lv_iload_n hx hb dX3_swapped_1 rfl (lv_at hl 1 rfl) ?_
  refine lv_iconst (v := (1 : Int32)) hx hb dX3_swapped_2 (by decide) ?_
  refine lv_isub hx hb dX3_swapped_3 ?_
  refine lv_imul hx hb dX3_swapped_4 ?_
  refine lv_istore_n (lv' := [(2, .int ((4 : Int32) * (p1 - (1 : Int32)))), (0, .int p0), (1, .int p1)]) hx hb dX3_swapped_5 rfl hl (by decide) rfl (fun ls hl => ?_)
  refine lv_iload_n hx hb dX3_swapped_6 rfl (lv_at hl 0 rfl) ?_
  refine lv_iconst (v := (4 : Int32)) hx hb dX3_swapped_7 (by decide) ?_
  refine lv_iadd hx hb dX3_swapped_8 ?_
  refine lv_istore_n (lv' := [(3, .int (((4 : Int32) * (p1 - (1 : Int32))) + (4 : Int32))), (2, .int ((4 : Int32) * (p1 - (1 : Int32)))), (0, .int p0), (1, .int p1)]) hx hb dX3_swapped_9 rfl hl (by decide) rfl (fun ls hl => ?_)
  refine lv_iload_n hx hb dX3_swapped_10 rfl (lv_at hl 2 rfl) ?_
  refine lv_iload_n hx hb dX3_swapped_11 rfl (lv_at hl 1 rfl) ?_
  refine lv_ishr hx hb dX3_swapped_12 ?_
  refine lv_iload_n hx hb dX3_swapped_13 rfl (lv_at hl 2 rfl) ?_
  refine lv_iload_n hx hb dX3_swapped_14 rfl (lv_at hl 0 rfl) ?_
  refine lv_ishr hx hb dX3_swapped_15 ?_
  refine lv_ixor hx hb dX3_swapped_16 ?_
  refine lv_bipush (v := (15 : Int32)) hx hb dX3_swapped_17 (by decide) ?_
  refine lv_iand hx hb dX3_swapped_19 ?_
  refine lv_istore (lv' := [(4, .int (((p0 >>> (((4 : Int32) * (p1 - (1 : Int32))) &&& 31)) ^^^ (p0 >>> ((((4 : Int32) * (p1 - (1 : Int32))) + (4 : Int32)) &&& 31))) &&& (15 : Int32))), (3, .int (((4 : Int32) * (p1 - (1 : Int32))) + (4 : Int32))), (2, .int ((4 : Int32) * (p1 - (1 : Int32)))), (0, .int p0), (1, .int p1)]) hx hb dX3_swapped_20 hl (by decide) rfl (fun ls hl => ?_)
  refine lv_iload_n hx hb dX3_swapped_22 rfl (lv_at hl 3 rfl) ?_
  refine lv_iload hx hb dX3_swapped_23 (lv_at hl 0 rfl) ?_
  refine lv_iload_n hx hb dX3_swapped_25 rfl (lv_at hl 2 rfl) ?_
  refine lv_ishl hx hb dX3_swapped_26 ?_
  refine lv_ixor hx hb dX3_swapped_27 ?_
  refine lv_iload hx hb dX3_swapped_28 (lv_at hl 0 rfl) ?_
  refine lv_iload_n hx hb dX3_swapped_30 rfl (lv_at hl 1 rfl) ?_
  refine lv_ishl hx hb dX3_swapped_31 ?_
  refine lv_ixor hx hb dX3_swapped_32 ?_
  obtain rfl := Option.some.inj hF
  exact ct_i hx hb hr hlocks hK hP hD hS () rfl [] (by decide) rfl (Nat.le_of_ble_eq_true rfl) (Nat.le_of_ble_eq_true rfl) dX3_swapped_33

def fX3_changed_X5  (x4_5 : Int32) (x3_5 : Int32) : Option Int32 := some (x3_5)
def fX3_changed_L5 (p2 : Int32) (p1 : Int32) (K5 : Int32 → Int32 → Option Int32) : Nat → Int32 → Int32 → Option Int32
  | 0, _, _ => none
  | n + 1, x4_5, x3_5 => if p2 ≤ x4_5 then (K5 x4_5 x3_5) else ((fX3_stays p1 x4_5).bind (fun r2 => if r2 = 0 then ((fX3_swapped x3_5 x4_5).bind (fun r6 => (fX3_changed_L5 p2 p1 K5 n) (x4_5 + (2 : Int32)) r6)) else ((fX3_changed_L5 p2 p1 K5 n) (x4_5 + (1 : Int32)) x3_5)))
def fX3_changed (p0 : Int32) (p1 : Int32) (p2 : Int32) : Option Int32 := fX3_changed_L5 p2 p1 fX3_changed_X5 1000 (1 : Int32) p0
abbrev rmX3_changed : Room := { frames := 1, cells := 0, slots := 0, locals := 24 }
set_option maxHeartbeats 4000000 in
set_option maxRecDepth 100000 in
theorem kX3_changed (l : Launch) (dC : Nat → ClassId) (dI : Nat → Nat → Nat) (tys : List (ClassId × FieldType)) (cI : ClassId) (ht0 : tys[0]? = some (cI, .int))  (p0 : Int32) (p1 : Int32) (p2 : Int32) (r : Int32) (hF : fX3_changed p0 p1 p2 = some r) : ct l (dC, dI) tys yX3_changed wsX3_changed rmX3_changed [.int p0, .int p1, .int p2] [] (fun _ : Unit => some (.int r)) (fun _ : Unit => []) := by
  refine ct_of (cc := cX3_changed) (maxL := 5) (ret := (some .int)) (by decide) rfl (Nat.le_of_ble_eq_true rfl) ?_
  intro p e s m below meth c A ls hx hb hr hml hts hown hlocks hname hE hK hP hD hA hS hl
  have hown : s.vm.findClass RX3 = some m.cls := hown
  have hl : lv_has ls 5 [(0, .int p0), (1, .int p1), (2, .int p2)] := hl
  unfold fX3_changed at hF
  refine lv_iload_n hx hb dX3_changed_0 rfl (lv_at hl 0 rfl) ?_
  refine lv_istore_n (lv' := [(3, .int p0), (0, .int p0), (1, .int p1), (2, .int p2)]) hx hb dX3_changed_1 rfl hl (by decide) rfl (fun ls hl => ?_)
  refine lv_iconst (v := (1 : Int32)) hx hb dX3_changed_2 (by decide) ?_
  refine lv_istore (lv' := [(4, .int (1 : Int32)), (3, .int p0), (0, .int p0), (1, .int p1), (2, .int p2)]) hx hb dX3_changed_3 hl (by decide) rfl (fun ls hl => ?_)
  have X5 : ∀ (x4_5 : Int32) (x3_5 : Int32) (H : Heap) (locs : List Loc) (ls : Array Slot), fX3_changed_X5 x4_5 x3_5 = some r → va_P (dC, dI) vwCl [] H → va_D A [] → va_S A s.heap H locs → lv_has ls 5 [(4, .int x4_5), (3, .int x3_5), (0, .int p0), (1, .int p1), (2, .int p2)] → W p l e rmX3_changed s m ([.int p0, .int p1, .int p2] : List Value).toArray below meth c H locs 0 0 (MQ below (ct_Q (dC, dI) tys (fun _ : Unit => some (.int r)) (fun _ : Unit => []) A) ([.int p0, .int p1, .int p2] : List Value).toArray s rmX3_changed.cells rmX3_changed.slots A) (F0 m 39 ls []) := by
    intro x4_5 x3_5 H locs ls hF hP hD hS hl
    unfold fX3_changed_X5 at hF
    refine lv_iload_n hx hb dX3_changed_39 rfl (lv_at hl 1 rfl) ?_
    obtain rfl := Option.some.inj hF
    exact ct_i hx hb hr hlocks hK hP hD hS () rfl [] (by decide) rfl (Nat.le_of_ble_eq_true rfl) (Nat.le_of_ble_eq_true rfl) dX3_changed_40
  have L5 : ∀ (n5 : Nat) (x4_5 : Int32) (x3_5 : Int32) (H : Heap) (locs : List Loc) (ls : Array Slot), fX3_changed_L5 p2 p1 fX3_changed_X5 n5 x4_5 x3_5 = some r → va_P (dC, dI) vwCl [] H → va_D A [] → va_S A s.heap H locs → lv_has ls 5 [(4, .int x4_5), (3, .int x3_5), (0, .int p0), (1, .int p1), (2, .int p2)] → W p l e rmX3_changed s m ([.int p0, .int p1, .int p2] : List Value).toArray below meth c H locs 0 0 (MQ below (ct_Q (dC, dI) tys (fun _ : Unit => some (.int r)) (fun _ : Unit => []) A) ([.int p0, .int p1, .int p2] : List Value).toArray s rmX3_changed.cells rmX3_changed.slots A) (F0 m 5 ls []) := by
    intro n5
    induction n5 with
    | zero => intro x4_5 x3_5 H locs ls hF; rw [fX3_changed_L5] at hF; cases hF
    | succ n5 ih5 =>
      intro x4_5 x3_5 H locs ls hF hP hD hS hl
      rw [fX3_changed_L5] at hF
      refine lv_iload hx hb dX3_changed_5 (lv_at hl 0 rfl) ?_
      refine lv_iload_n hx hb dX3_changed_7 rfl (lv_at hl 4 rfl) ?_
      refine lv_icmp_ge (tgt := 39) hx hb dX3_changed_8 (by decide) (fun c1 => ?_) (fun c1 => ?_)
      · have hF := (if_pos c1).symm.trans hF
        exact X5 x4_5 x3_5 _ _ _ hF (hP.sub [] rfl) (hD.sub [] (by decide) rfl) hS (lv_sub hl [0, 1, 2, 3, 4] rfl)
      · have hF := (if_neg c1).symm.trans hF
        refine lv_iload_n hx hb dX3_changed_11 rfl (lv_at hl 3 rfl) ?_
        refine lv_iload hx hb dX3_changed_12 (lv_at hl 0 rfl) ?_
        obtain ⟨r2, hC3, hF⟩ := gd_b hF
        refine ct_callS (As := [.int p1, .int x4_5]) (rest := []) ⟨hx, hb, hml, hown, hts⟩ (kX3_stays l dC dI tys cI ht0 p1 x4_5 r2 hC3) (va_cwS 2 hts gX3_changed_X3_stays rfl rfl rfl (by decide +kernel) ⟨Nat.le_of_ble_eq_true rfl, Nat.le_of_ble_eq_true rfl⟩) hE hK hP hD hS hA [] [] (by decide) rfl (by decide) (wr := []) rfl (by decide) hl.1 rfl rfl (Nat.le_of_ble_eq_true rfl) dX3_changed_14 ⟨(Nat.le_of_ble_eq_true rfl), (Nat.le_of_ble_eq_true rfl)⟩ (fun i4 H locs hP hD hS => ?_)
        have hP : va_P (dC, dI) vwCl [] H := hP
        have hD : va_D A [] := hD
        refine lv_if_eq (tgt := 26) hx hb dX3_changed_17 (by decide) (fun c5 => ?_) (fun c5 => ?_)
        · have hF := (if_pos c5).symm.trans hF
          refine lv_iload_n hx hb dX3_changed_26 rfl (lv_at hl 1 rfl) ?_
          refine lv_iload hx hb dX3_changed_27 (lv_at hl 0 rfl) ?_
          obtain ⟨r6, hC7, hF⟩ := gd_b hF
          refine ct_callS (As := [.int x3_5, .int x4_5]) (rest := []) ⟨hx, hb, hml, hown, hts⟩ (kX3_swapped l dC dI tys cI ht0 x3_5 x4_5 r6 hC7) (va_cwS 2 hts gX3_changed_X3_swapped rfl rfl rfl (by decide +kernel) ⟨Nat.le_of_ble_eq_true rfl, Nat.le_of_ble_eq_true rfl⟩) hE hK hP hD hS hA [] [] (by decide) rfl (by decide) (wr := []) rfl (by decide) hl.1 rfl rfl (Nat.le_of_ble_eq_true rfl) dX3_changed_29 ⟨(Nat.le_of_ble_eq_true rfl), (Nat.le_of_ble_eq_true rfl)⟩ (fun i8 H locs hP hD hS => ?_)
          have hP : va_P (dC, dI) vwCl [] H := hP
          have hD : va_D A [] := hD
          refine lv_istore_n (lv' := [(3, .int r6), (4, .int x4_5), (0, .int p0), (1, .int p1), (2, .int p2)]) hx hb dX3_changed_32 rfl hl (by decide) rfl (fun ls hl => ?_)
          refine lv_iinc (v := x4_5 + (2 : Int32)) (lv' := [(4, .int (x4_5 + (2 : Int32))), (3, .int r6), (0, .int p0), (1, .int p1), (2, .int p2)]) hx hb dX3_changed_33 hl (k := 1) rfl rfl (by decide) rfl (fun ls hl => ?_)
          refine lv_goto (tgt := 5) hx hb dX3_changed_36 (by decide) ?_
          exact ih5 (x4_5 + (2 : Int32)) r6 _ _ _ hF (hP.sub [] rfl) (hD.sub [] (by decide) rfl) hS (lv_sub hl [0, 1, 2, 3, 4] rfl)
        · have hF := (if_neg c5).symm.trans hF
          refine lv_iinc (v := x4_5 + (1 : Int32)) (lv' := [(4, .int (x4_5 + (1 : Int32))), (3, .int x3_5), (0, .int p0), (1, .int p1), (2, .int p2)]) hx hb dX3_changed_20 hl (k := 0) rfl rfl (by decide) rfl (fun ls hl => ?_)
          refine lv_goto (tgt := 5) hx hb dX3_changed_23 (by decide) ?_
          exact ih5 (x4_5 + (1 : Int32)) x3_5 _ _ _ hF (hP.sub [] rfl) (hD.sub [] (by decide) rfl) hS (lv_sub hl [0, 1, 2, 3, 4] rfl)
  exact L5 1000 (1 : Int32) p0 _ _ _ hF (hP.sub [] rfl) (hD.sub [] (by decide) rfl) hS (lv_sub hl [0, 1, 2, 3, 4] rfl)

def fX3_composed_X5  (x4_5 : Int32) (x3_5 : Int32) : Option Int32 := some (x3_5)
def fX3_composed_L5 (p2 : Int32) (p1 : Int32) (p0 : Int32) (K5 : Int32 → Int32 → Option Int32) : Nat → Int32 → Int32 → Option Int32
  | 0, _, _ => none
  | n + 1, x4_5, x3_5 => if p2 < x4_5 then (K5 x4_5 x3_5) else ((fX3_bellAt p1 x4_5).bind (fun r2 => (fX3_bellAt p0 r2).bind (fun r5 => (fX3_shift x4_5).bind (fun r8 => (fX3_composed_L5 p2 p1 p0 K5 n) (x4_5 + (1 : Int32)) (x3_5 ||| (r5 <<< (r8 &&& 31)))))))
def fX3_composed (p0 : Int32) (p1 : Int32) (p2 : Int32) : Option Int32 := fX3_composed_L5 p2 p1 p0 fX3_composed_X5 1000 (1 : Int32) (0 : Int32)
abbrev rmX3_composed : Room := { frames := 1, cells := 0, slots := 0, locals := 21 }
set_option maxHeartbeats 4000000 in
set_option maxRecDepth 100000 in
theorem kX3_composed (l : Launch) (dC : Nat → ClassId) (dI : Nat → Nat → Nat) (tys : List (ClassId × FieldType)) (cI : ClassId) (ht0 : tys[0]? = some (cI, .int))  (p0 : Int32) (p1 : Int32) (p2 : Int32) (r : Int32) (hF : fX3_composed p0 p1 p2 = some r) : ct l (dC, dI) tys yX3_composed wsX3_composed rmX3_composed [.int p0, .int p1, .int p2] [] (fun _ : Unit => some (.int r)) (fun _ : Unit => []) := by
  refine ct_of (cc := cX3_composed) (maxL := 5) (ret := (some .int)) (by decide) rfl (Nat.le_of_ble_eq_true rfl) ?_
  intro p e s m below meth c A ls hx hb hr hml hts hown hlocks hname hE hK hP hD hA hS hl
  have hown : s.vm.findClass RX3 = some m.cls := hown
  have hl : lv_has ls 5 [(0, .int p0), (1, .int p1), (2, .int p2)] := hl
  unfold fX3_composed at hF
  refine lv_iconst (v := (0 : Int32)) hx hb dX3_composed_0 (by decide) ?_
  refine lv_istore_n (lv' := [(3, .int (0 : Int32)), (0, .int p0), (1, .int p1), (2, .int p2)]) hx hb dX3_composed_1 rfl hl (by decide) rfl (fun ls hl => ?_)
  refine lv_iconst (v := (1 : Int32)) hx hb dX3_composed_2 (by decide) ?_
  refine lv_istore (lv' := [(4, .int (1 : Int32)), (3, .int (0 : Int32)), (0, .int p0), (1, .int p1), (2, .int p2)]) hx hb dX3_composed_3 hl (by decide) rfl (fun ls hl => ?_)
  have X5 : ∀ (x4_5 : Int32) (x3_5 : Int32) (H : Heap) (locs : List Loc) (ls : Array Slot), fX3_composed_X5 x4_5 x3_5 = some r → va_P (dC, dI) vwCl [] H → va_D A [] → va_S A s.heap H locs → lv_has ls 5 [(4, .int x4_5), (3, .int x3_5), (0, .int p0), (1, .int p1), (2, .int p2)] → W p l e rmX3_composed s m ([.int p0, .int p1, .int p2] : List Value).toArray below meth c H locs 0 0 (MQ below (ct_Q (dC, dI) tys (fun _ : Unit => some (.int r)) (fun _ : Unit => []) A) ([.int p0, .int p1, .int p2] : List Value).toArray s rmX3_composed.cells rmX3_composed.slots A) (F0 m 36 ls []) := by
    intro x4_5 x3_5 H locs ls hF hP hD hS hl
    unfold fX3_composed_X5 at hF
    refine lv_iload_n hx hb dX3_composed_36 rfl (lv_at hl 1 rfl) ?_
    obtain rfl := Option.some.inj hF
    exact ct_i hx hb hr hlocks hK hP hD hS () rfl [] (by decide) rfl (Nat.le_of_ble_eq_true rfl) (Nat.le_of_ble_eq_true rfl) dX3_composed_37
  have L5 : ∀ (n5 : Nat) (x4_5 : Int32) (x3_5 : Int32) (H : Heap) (locs : List Loc) (ls : Array Slot), fX3_composed_L5 p2 p1 p0 fX3_composed_X5 n5 x4_5 x3_5 = some r → va_P (dC, dI) vwCl [] H → va_D A [] → va_S A s.heap H locs → lv_has ls 5 [(4, .int x4_5), (3, .int x3_5), (0, .int p0), (1, .int p1), (2, .int p2)] → W p l e rmX3_composed s m ([.int p0, .int p1, .int p2] : List Value).toArray below meth c H locs 0 0 (MQ below (ct_Q (dC, dI) tys (fun _ : Unit => some (.int r)) (fun _ : Unit => []) A) ([.int p0, .int p1, .int p2] : List Value).toArray s rmX3_composed.cells rmX3_composed.slots A) (F0 m 5 ls []) := by
    intro n5
    induction n5 with
    | zero => intro x4_5 x3_5 H locs ls hF; rw [fX3_composed_L5] at hF; cases hF
    | succ n5 ih5 =>
      intro x4_5 x3_5 H locs ls hF hP hD hS hl
      rw [fX3_composed_L5] at hF
      refine lv_iload hx hb dX3_composed_5 (lv_at hl 0 rfl) ?_
      refine lv_iload_n hx hb dX3_composed_7 rfl (lv_at hl 4 rfl) ?_
      refine lv_icmp_gt (tgt := 36) hx hb dX3_composed_8 (by decide) (fun c1 => ?_) (fun c1 => ?_)
      · have hF := (if_pos c1).symm.trans hF
        exact X5 x4_5 x3_5 _ _ _ hF (hP.sub [] rfl) (hD.sub [] (by decide) rfl) hS (lv_sub hl [0, 1, 2, 3, 4] rfl)
      · have hF := (if_neg c1).symm.trans hF
        refine lv_iload_n hx hb dX3_composed_11 rfl (lv_at hl 1 rfl) ?_
        refine lv_iload_n hx hb dX3_composed_12 rfl (lv_at hl 2 rfl) ?_
        refine lv_iload_n hx hb dX3_composed_13 rfl (lv_at hl 3 rfl) ?_
        refine lv_iload hx hb dX3_composed_14 (lv_at hl 0 rfl) ?_
        obtain ⟨r2, hC3, hF⟩ := gd_b hF
        refine ct_callS (As := [.int p1, .int x4_5]) (rest := [.int p0, .int x3_5]) ⟨hx, hb, hml, hown, hts⟩ (kX3_bellAt l dC dI tys cI ht0 p1 x4_5 r2 hC3) (va_cwS 2 hts gX3_composed_X3_bellAt rfl rfl rfl (by decide +kernel) ⟨Nat.le_of_ble_eq_true rfl, Nat.le_of_ble_eq_true rfl⟩) hE hK hP hD hS hA [] [] (by decide) rfl (by decide) (wr := []) rfl (by decide) hl.1 rfl rfl (Nat.le_of_ble_eq_true rfl) dX3_composed_16 ⟨(Nat.le_of_ble_eq_true rfl), (Nat.le_of_ble_eq_true rfl)⟩ (fun i4 H locs hP hD hS => ?_)
        have hP : va_P (dC, dI) vwCl [] H := hP
        have hD : va_D A [] := hD
        obtain ⟨r5, hC6, hF⟩ := gd_b hF
        refine ct_callS (As := [.int p0, .int r2]) (rest := [.int x3_5]) ⟨hx, hb, hml, hown, hts⟩ (kX3_bellAt l dC dI tys cI ht0 p0 r2 r5 hC6) (va_cwS 2 hts gX3_composed_X3_bellAt rfl rfl rfl (by decide +kernel) ⟨Nat.le_of_ble_eq_true rfl, Nat.le_of_ble_eq_true rfl⟩) hE hK hP hD hS hA [] [] (by decide) rfl (by decide) (wr := []) rfl (by decide) hl.1 rfl rfl (Nat.le_of_ble_eq_true rfl) dX3_composed_19 ⟨(Nat.le_of_ble_eq_true rfl), (Nat.le_of_ble_eq_true rfl)⟩ (fun i7 H locs hP hD hS => ?_)
        have hP : va_P (dC, dI) vwCl [] H := hP
        have hD : va_D A [] := hD
        refine lv_iload hx hb dX3_composed_22 (lv_at hl 0 rfl) ?_
        obtain ⟨r8, hC9, hF⟩ := gd_b hF
        refine ct_callS (As := [.int x4_5]) (rest := [.int r5, .int x3_5]) ⟨hx, hb, hml, hown, hts⟩ (kX3_shift l dC dI tys cI ht0 x4_5 r8 hC9) (va_cwS 1 hts gX3_composed_X3_shift rfl rfl rfl (by decide +kernel) ⟨Nat.le_of_ble_eq_true rfl, Nat.le_of_ble_eq_true rfl⟩) hE hK hP hD hS hA [] [] (by decide) rfl (by decide) (wr := []) rfl (by decide) hl.1 rfl rfl (Nat.le_of_ble_eq_true rfl) dX3_composed_24 ⟨(Nat.le_of_ble_eq_true rfl), (Nat.le_of_ble_eq_true rfl)⟩ (fun i10 H locs hP hD hS => ?_)
        have hP : va_P (dC, dI) vwCl [] H := hP
        have hD : va_D A [] := hD
        refine lv_ishl hx hb dX3_composed_27 ?_
        refine lv_ior hx hb dX3_composed_28 ?_
        refine lv_istore_n (lv' := [(3, .int (x3_5 ||| (r5 <<< (r8 &&& 31)))), (4, .int x4_5), (0, .int p0), (1, .int p1), (2, .int p2)]) hx hb dX3_composed_29 rfl hl (by decide) rfl (fun ls hl => ?_)
        refine lv_iinc (v := x4_5 + (1 : Int32)) (lv' := [(4, .int (x4_5 + (1 : Int32))), (3, .int (x3_5 ||| (r5 <<< (r8 &&& 31)))), (0, .int p0), (1, .int p1), (2, .int p2)]) hx hb dX3_composed_30 hl (k := 1) rfl rfl (by decide) rfl (fun ls hl => ?_)
        refine lv_goto (tgt := 5) hx hb dX3_composed_33 (by decide) ?_
        exact ih5 (x4_5 + (1 : Int32)) (x3_5 ||| (r5 <<< (r8 &&& 31))) _ _ _ hF (hP.sub [] rfl) (hD.sub [] (by decide) rfl) hS (lv_sub hl [0, 1, 2, 3, 4] rfl)
  exact L5 1000 (1 : Int32) (0 : Int32) _ _ _ hF (hP.sub [] rfl) (hD.sub [] (by decide) rfl) hS (lv_sub hl [0, 1, 2, 3, 4] rfl)

def fX3_crossedPairs_X4  (x3_4 : Int32) (x2_4 : Int32) : Option Int32 := some (x2_4)
def fX3_crossedPairs_X14 (rec4 : Int32 → Int32 → Option Int32) (x3_4 : Int32) (x4_14 : Int32) (x2_14 : Int32) : Option Int32 := rec4 (x3_4 + (1 : Int32)) x2_14
def fX3_crossedPairs_L14 (p1 : Int32) (p0 : Int32) (x3_4 : Int32) (K14 : Int32 → Int32 → Option Int32) : Nat → Int32 → Int32 → Option Int32
  | 0, _, _ => none
  | n + 1, x4_14, x2_14 => if p1 < x4_14 then (K14 x4_14 x2_14) else ((fX3_bellAt p0 x3_4).bind (fun r3 => (fX3_bellAt p0 x4_14).bind (fun r6 => if r3 ≤ r6 then ((fX3_crossedPairs_L14 p1 p0 x3_4 K14 n) (x4_14 + (1 : Int32)) x2_14) else ((fX3_crossedPairs_L14 p1 p0 x3_4 K14 n) (x4_14 + (1 : Int32)) (x2_14 + (1 : Int32))))))
def fX3_crossedPairs_L4 (p1 : Int32) (p0 : Int32) (K4 : Int32 → Int32 → Option Int32) : Nat → Int32 → Int32 → Option Int32
  | 0, _, _ => none
  | n + 1, x3_4, x2_4 => if p1 < x3_4 then (K4 x3_4 x2_4) else (fX3_crossedPairs_L14 p1 p0 x3_4 (fX3_crossedPairs_X14 (fX3_crossedPairs_L4 p1 p0 K4 n) x3_4) 1000 (x3_4 + (1 : Int32)) x2_4)
def fX3_crossedPairs (p0 : Int32) (p1 : Int32) : Option Int32 := fX3_crossedPairs_L4 p1 p0 fX3_crossedPairs_X4 1000 (1 : Int32) (0 : Int32)
abbrev rmX3_crossedPairs : Room := { frames := 1, cells := 0, slots := 0, locals := 21 }
set_option maxHeartbeats 4000000 in
set_option maxRecDepth 100000 in
theorem kX3_crossedPairs (l : Launch) (dC : Nat → ClassId) (dI : Nat → Nat → Nat) (tys : List (ClassId × FieldType)) (cI : ClassId) (ht0 : tys[0]? = some (cI, .int))  (p0 : Int32) (p1 : Int32) (r : Int32) (hF : fX3_crossedPairs p0 p1 = some r) : ct l (dC, dI) tys yX3_crossedPairs wsX3_crossedPairs rmX3_crossedPairs [.int p0, .int p1] [] (fun _ : Unit => some (.int r)) (fun _ : Unit => []) := by
  refine ct_of (cc := cX3_crossedPairs) (maxL := 5) (ret := (some .int)) (by decide) rfl (Nat.le_of_ble_eq_true rfl) ?_
  intro p e s m below meth c A ls hx hb hr hml hts hown hlocks hname hE hK hP hD hA hS hl
  have hown : s.vm.findClass RX3 = some m.cls := hown
  have hl : lv_has ls 5 [(0, .int p0), (1, .int p1)] := hl
  unfold fX3_crossedPairs at hF
  refine lv_iconst (v := (0 : Int32)) hx hb dX3_crossedPairs_0 (by decide) ?_
  refine lv_istore_n (lv' := [(2, .int (0 : Int32)), (0, .int p0), (1, .int p1)]) hx hb dX3_crossedPairs_1 rfl hl (by decide) rfl (fun ls hl => ?_)
  refine lv_iconst (v := (1 : Int32)) hx hb dX3_crossedPairs_2 (by decide) ?_
  refine lv_istore_n (lv' := [(3, .int (1 : Int32)), (2, .int (0 : Int32)), (0, .int p0), (1, .int p1)]) hx hb dX3_crossedPairs_3 rfl hl (by decide) rfl (fun ls hl => ?_)
  have X4 : ∀ (x3_4 : Int32) (x2_4 : Int32) (H : Heap) (locs : List Loc) (ls : Array Slot), fX3_crossedPairs_X4 x3_4 x2_4 = some r → va_P (dC, dI) vwCl [] H → va_D A [] → va_S A s.heap H locs → lv_has ls 5 [(3, .int x3_4), (2, .int x2_4), (0, .int p0), (1, .int p1)] → W p l e rmX3_crossedPairs s m ([.int p0, .int p1] : List Value).toArray below meth c H locs 0 0 (MQ below (ct_Q (dC, dI) tys (fun _ : Unit => some (.int r)) (fun _ : Unit => []) A) ([.int p0, .int p1] : List Value).toArray s rmX3_crossedPairs.cells rmX3_crossedPairs.slots A) (F0 m 49 ls []) := by
    intro x3_4 x2_4 H locs ls hF hP hD hS hl
    unfold fX3_crossedPairs_X4 at hF
    refine lv_iload_n hx hb dX3_crossedPairs_49 rfl (lv_at hl 1 rfl) ?_
    obtain rfl := Option.some.inj hF
    exact ct_i hx hb hr hlocks hK hP hD hS () rfl [] (by decide) rfl (Nat.le_of_ble_eq_true rfl) (Nat.le_of_ble_eq_true rfl) dX3_crossedPairs_50
  have L4 : ∀ (n4 : Nat) (x3_4 : Int32) (x2_4 : Int32) (H : Heap) (locs : List Loc) (ls : Array Slot), fX3_crossedPairs_L4 p1 p0 fX3_crossedPairs_X4 n4 x3_4 x2_4 = some r → va_P (dC, dI) vwCl [] H → va_D A [] → va_S A s.heap H locs → lv_has ls 5 [(3, .int x3_4), (2, .int x2_4), (0, .int p0), (1, .int p1)] → W p l e rmX3_crossedPairs s m ([.int p0, .int p1] : List Value).toArray below meth c H locs 0 0 (MQ below (ct_Q (dC, dI) tys (fun _ : Unit => some (.int r)) (fun _ : Unit => []) A) ([.int p0, .int p1] : List Value).toArray s rmX3_crossedPairs.cells rmX3_crossedPairs.slots A) (F0 m 4 ls []) := by
    intro n4
    induction n4 with
    | zero => intro x3_4 x2_4 H locs ls hF; rw [fX3_crossedPairs_L4] at hF; cases hF
    | succ n4 ih4 =>
      intro x3_4 x2_4 H locs ls hF hP hD hS hl
      rw [fX3_crossedPairs_L4] at hF
      refine lv_iload_n hx hb dX3_crossedPairs_4 rfl (lv_at hl 0 rfl) ?_
      refine lv_iload_n hx hb dX3_crossedPairs_5 rfl (lv_at hl 3 rfl) ?_
      refine lv_icmp_gt (tgt := 49) hx hb dX3_crossedPairs_6 (by decide) (fun c1 => ?_) (fun c1 => ?_)
      · have hF := (if_pos c1).symm.trans hF
        exact X4 x3_4 x2_4 _ _ _ hF (hP.sub [] rfl) (hD.sub [] (by decide) rfl) hS (lv_sub hl [0, 1, 2, 3] rfl)
      · have hF := (if_neg c1).symm.trans hF
        refine lv_iload_n hx hb dX3_crossedPairs_9 rfl (lv_at hl 0 rfl) ?_
        refine lv_iconst (v := (1 : Int32)) hx hb dX3_crossedPairs_10 (by decide) ?_
        refine lv_iadd hx hb dX3_crossedPairs_11 ?_
        refine lv_istore (lv' := [(4, .int (x3_4 + (1 : Int32))), (3, .int x3_4), (2, .int x2_4), (0, .int p0), (1, .int p1)]) hx hb dX3_crossedPairs_12 hl (by decide) rfl (fun ls hl => ?_)
        have X14 : ∀ (x4_14 : Int32) (x2_14 : Int32) (H : Heap) (locs : List Loc) (ls : Array Slot), fX3_crossedPairs_X14 (fX3_crossedPairs_L4 p1 p0 fX3_crossedPairs_X4 n4) x3_4 x4_14 x2_14 = some r → va_P (dC, dI) vwCl [] H → va_D A [] → va_S A s.heap H locs → lv_has ls 5 [(4, .int x4_14), (3, .int x3_4), (2, .int x2_14), (0, .int p0), (1, .int p1)] → W p l e rmX3_crossedPairs s m ([.int p0, .int p1] : List Value).toArray below meth c H locs 0 0 (MQ below (ct_Q (dC, dI) tys (fun _ : Unit => some (.int r)) (fun _ : Unit => []) A) ([.int p0, .int p1] : List Value).toArray s rmX3_crossedPairs.cells rmX3_crossedPairs.slots A) (F0 m 43 ls []) := by
          intro x4_14 x2_14 H locs ls hF hP hD hS hl
          unfold fX3_crossedPairs_X14 at hF
          refine lv_iinc (v := x3_4 + (1 : Int32)) (lv' := [(3, .int (x3_4 + (1 : Int32))), (4, .int x4_14), (2, .int x2_14), (0, .int p0), (1, .int p1)]) hx hb dX3_crossedPairs_43 hl (k := 1) rfl rfl (by decide) rfl (fun ls hl => ?_)
          refine lv_goto (tgt := 4) hx hb dX3_crossedPairs_46 (by decide) ?_
          exact ih4 (x3_4 + (1 : Int32)) x2_14 _ _ _ hF (hP.sub [] rfl) (hD.sub [] (by decide) rfl) hS (lv_sub hl [0, 2, 3, 4] rfl)
        have L14 : ∀ (n14 : Nat) (x4_14 : Int32) (x2_14 : Int32) (H : Heap) (locs : List Loc) (ls : Array Slot), fX3_crossedPairs_L14 p1 p0 x3_4 (fX3_crossedPairs_X14 (fX3_crossedPairs_L4 p1 p0 fX3_crossedPairs_X4 n4) x3_4) n14 x4_14 x2_14 = some r → va_P (dC, dI) vwCl [] H → va_D A [] → va_S A s.heap H locs → lv_has ls 5 [(4, .int x4_14), (3, .int x3_4), (2, .int x2_14), (0, .int p0), (1, .int p1)] → W p l e rmX3_crossedPairs s m ([.int p0, .int p1] : List Value).toArray below meth c H locs 0 0 (MQ below (ct_Q (dC, dI) tys (fun _ : Unit => some (.int r)) (fun _ : Unit => []) A) ([.int p0, .int p1] : List Value).toArray s rmX3_crossedPairs.cells rmX3_crossedPairs.slots A) (F0 m 14 ls []) := by
          intro n14
          induction n14 with
          | zero => intro x4_14 x2_14 H locs ls hF; rw [fX3_crossedPairs_L14] at hF; cases hF
          | succ n14 ih14 =>
            intro x4_14 x2_14 H locs ls hF hP hD hS hl
            rw [fX3_crossedPairs_L14] at hF
            refine lv_iload hx hb dX3_crossedPairs_14 (lv_at hl 0 rfl) ?_
            refine lv_iload_n hx hb dX3_crossedPairs_16 rfl (lv_at hl 4 rfl) ?_
            refine lv_icmp_gt (tgt := 43) hx hb dX3_crossedPairs_17 (by decide) (fun c2 => ?_) (fun c2 => ?_)
            · have hF := (if_pos c2).symm.trans hF
              exact X14 x4_14 x2_14 _ _ _ hF (hP.sub [] rfl) (hD.sub [] (by decide) rfl) hS (lv_sub hl [0, 1, 2, 3, 4] rfl)
            · have hF := (if_neg c2).symm.trans hF
              refine lv_iload_n hx hb dX3_crossedPairs_20 rfl (lv_at hl 3 rfl) ?_
              refine lv_iload_n hx hb dX3_crossedPairs_21 rfl (lv_at hl 1 rfl) ?_
              obtain ⟨r3, hC4, hF⟩ := gd_b hF
              refine ct_callS (As := [.int p0, .int x3_4]) (rest := []) ⟨hx, hb, hml, hown, hts⟩ (kX3_bellAt l dC dI tys cI ht0 p0 x3_4 r3 hC4) (va_cwS 2 hts gX3_crossedPairs_X3_bellAt rfl rfl rfl (by decide +kernel) ⟨Nat.le_of_ble_eq_true rfl, Nat.le_of_ble_eq_true rfl⟩) hE hK hP hD hS hA [] [] (by decide) rfl (by decide) (wr := []) rfl (by decide) hl.1 rfl rfl (Nat.le_of_ble_eq_true rfl) dX3_crossedPairs_22 ⟨(Nat.le_of_ble_eq_true rfl), (Nat.le_of_ble_eq_true rfl)⟩ (fun i5 H locs hP hD hS => ?_)
              have hP : va_P (dC, dI) vwCl [] H := hP
              have hD : va_D A [] := hD
              refine lv_iload_n hx hb dX3_crossedPairs_25 rfl (lv_at hl 3 rfl) ?_
              refine lv_iload hx hb dX3_crossedPairs_26 (lv_at hl 0 rfl) ?_
              obtain ⟨r6, hC7, hF⟩ := gd_b hF
              refine ct_callS (As := [.int p0, .int x4_14]) (rest := [.int r3]) ⟨hx, hb, hml, hown, hts⟩ (kX3_bellAt l dC dI tys cI ht0 p0 x4_14 r6 hC7) (va_cwS 2 hts gX3_crossedPairs_X3_bellAt rfl rfl rfl (by decide +kernel) ⟨Nat.le_of_ble_eq_true rfl, Nat.le_of_ble_eq_true rfl⟩) hE hK hP hD hS hA [] [] (by decide) rfl (by decide) (wr := []) rfl (by decide) hl.1 rfl rfl (Nat.le_of_ble_eq_true rfl) dX3_crossedPairs_28 ⟨(Nat.le_of_ble_eq_true rfl), (Nat.le_of_ble_eq_true rfl)⟩ (fun i8 H locs hP hD hS => ?_)
              have hP : va_P (dC, dI) vwCl [] H := hP
              have hD : va_D A [] := hD
              refine lv_icmp_le (tgt := 37) hx hb dX3_crossedPairs_31 (by decide) (fun c9 => ?_) (fun c9 => ?_)
              · have hF := (if_pos c9).symm.trans hF
                refine lv_iinc (v := x4_14 + (1 : Int32)) (lv' := [(4, .int (x4_14 + (1 : Int32))), (3, .int x3_4), (2, .int x2_14), (0, .int p0), (1, .int p1)]) hx hb dX3_crossedPairs_37 hl (k := 0) rfl rfl (by decide) rfl (fun ls hl => ?_)
                refine lv_goto (tgt := 14) hx hb dX3_crossedPairs_40 (by decide) ?_
                exact ih14 (x4_14 + (1 : Int32)) x2_14 _ _ _ hF (hP.sub [] rfl) (hD.sub [] (by decide) rfl) hS (lv_sub hl [0, 1, 2, 3, 4] rfl)
              · have hF := (if_neg c9).symm.trans hF
                refine lv_iinc (v := x2_14 + (1 : Int32)) (lv' := [(2, .int (x2_14 + (1 : Int32))), (4, .int x4_14), (3, .int x3_4), (0, .int p0), (1, .int p1)]) hx hb dX3_crossedPairs_34 hl (k := 2) rfl rfl (by decide) rfl (fun ls hl => ?_)
                refine lv_iinc (v := x4_14 + (1 : Int32)) (lv' := [(4, .int (x4_14 + (1 : Int32))), (2, .int (x2_14 + (1 : Int32))), (3, .int x3_4), (0, .int p0), (1, .int p1)]) hx hb dX3_crossedPairs_37 hl (k := 1) rfl rfl (by decide) rfl (fun ls hl => ?_)
                refine lv_goto (tgt := 14) hx hb dX3_crossedPairs_40 (by decide) ?_
                exact ih14 (x4_14 + (1 : Int32)) (x2_14 + (1 : Int32)) _ _ _ hF (hP.sub [] rfl) (hD.sub [] (by decide) rfl) hS (lv_sub hl [0, 2, 1, 3, 4] rfl)
        exact L14 1000 (x3_4 + (1 : Int32)) x2_4 _ _ _ hF (hP.sub [] rfl) (hD.sub [] (by decide) rfl) hS (lv_sub hl [0, 1, 2, 3, 4] rfl)
  exact L4 1000 (1 : Int32) (0 : Int32) _ _ _ hF (hP.sub [] rfl) (hD.sub [] (by decide) rfl) hS (lv_sub hl [0, 1, 2, 3] rfl)

def fX3_runLength_X32  (x5_32 : Int32) : Option Int32 := if x5_32 < (3 : Int32) then (some ((0 : Int32))) else (some (x5_32))
def fX3_runLength_L32 (p3 : Int32) (p0 : Int32) (p1 : Int32) (p2 : Int32) (r1 : Int32) (r4 : Int32) (K32 : Int32 → Option Int32) : Nat → Int32 → Option Int32
  | 0, _ => none
  | n + 1, x5_32 => if p3 ≤ x5_32 then (K32 x5_32) else ((fX3_bellAt p0 (p1 + (x5_32 * p2))).bind (fun r10 => (fX3_bellAt p0 (p1 + ((x5_32 - (1 : Int32)) * p2))).bind (fun r13 => if (r10 - r13) = (r1 - r4) then ((fX3_runLength_L32 p3 p0 p1 p2 r1 r4 K32 n) (x5_32 + (1 : Int32))) else (K32 x5_32))))
def fX3_runLength_X32b  (x5_32 : Int32) : Option Int32 := if x5_32 < (3 : Int32) then (some ((0 : Int32))) else (some (x5_32))
def fX3_runLength_L32b (p3 : Int32) (p0 : Int32) (p1 : Int32) (p2 : Int32) (r1 : Int32) (r4 : Int32) (K32 : Int32 → Option Int32) : Nat → Int32 → Option Int32
  | 0, _ => none
  | n + 1, x5_32 => if p3 ≤ x5_32 then (K32 x5_32) else ((fX3_bellAt p0 (p1 + (x5_32 * p2))).bind (fun r20 => (fX3_bellAt p0 (p1 + ((x5_32 - (1 : Int32)) * p2))).bind (fun r23 => if (r20 - r23) = (r1 - r4) then ((fX3_runLength_L32b p3 p0 p1 p2 r1 r4 K32 n) (x5_32 + (1 : Int32))) else (K32 x5_32))))
def fX3_runLength (p0 : Int32) (p1 : Int32) (p2 : Int32) (p3 : Int32) : Option Int32 := (fX3_bellAt p0 (p1 + p2)).bind (fun r1 => (fX3_bellAt p0 p1).bind (fun r4 => if (r1 - r4) = (1 : Int32) then (fX3_runLength_L32 p3 p0 p1 p2 r1 r4 fX3_runLength_X32 1000 (2 : Int32)) else (if (r1 - r4) = (-1 : Int32) then (fX3_runLength_L32b p3 p0 p1 p2 r1 r4 fX3_runLength_X32b 1000 (2 : Int32)) else (some ((0 : Int32))))))
abbrev rmX3_runLength : Room := { frames := 1, cells := 0, slots := 0, locals := 21 }
set_option maxHeartbeats 4000000 in
set_option maxRecDepth 100000 in
theorem kX3_runLength (l : Launch) (dC : Nat → ClassId) (dI : Nat → Nat → Nat) (tys : List (ClassId × FieldType)) (cI : ClassId) (ht0 : tys[0]? = some (cI, .int))  (p0 : Int32) (p1 : Int32) (p2 : Int32) (p3 : Int32) (r : Int32) (hF : fX3_runLength p0 p1 p2 p3 = some r) : ct l (dC, dI) tys yX3_runLength wsX3_runLength rmX3_runLength [.int p0, .int p1, .int p2, .int p3] [] (fun _ : Unit => some (.int r)) (fun _ : Unit => []) := by
  refine ct_of (cc := cX3_runLength) (maxL := 6) (ret := (some .int)) (by decide) rfl (Nat.le_of_ble_eq_true rfl) ?_
  intro p e s m below meth c A ls hx hb hr hml hts hown hlocks hname hE hK hP hD hA hS hl
  have hown : s.vm.findClass RX3 = some m.cls := hown
  have hl : lv_has ls 6 [(0, .int p0), (1, .int p1), (2, .int p2), (3, .int p3)] := hl
  unfold fX3_runLength at hF
  refine lv_iload_n hx hb dX3_runLength_0 rfl (lv_at hl 0 rfl) ?_
  refine lv_iload_n hx hb dX3_runLength_1 rfl (lv_at hl 1 rfl) ?_
  refine lv_iload_n hx hb dX3_runLength_2 rfl (lv_at hl 2 rfl) ?_
  refine lv_iadd hx hb dX3_runLength_3 ?_
  obtain ⟨r1, hC2, hF⟩ := gd_b hF
  refine ct_callS (As := [.int p0, .int (p1 + p2)]) (rest := []) ⟨hx, hb, hml, hown, hts⟩ (kX3_bellAt l dC dI tys cI ht0 p0 (p1 + p2) r1 hC2) (va_cwS 2 hts gX3_runLength_X3_bellAt rfl rfl rfl (by decide +kernel) ⟨Nat.le_of_ble_eq_true rfl, Nat.le_of_ble_eq_true rfl⟩) hE hK hP hD hS hA [] [] (by decide) rfl (by decide) (wr := []) rfl (by decide) hl.1 rfl rfl (Nat.le_of_ble_eq_true rfl) dX3_runLength_4 ⟨(Nat.le_of_ble_eq_true rfl), (Nat.le_of_ble_eq_true rfl)⟩ (fun i3 H locs hP hD hS => ?_)
  have hP : va_P (dC, dI) vwCl [] H := hP
  have hD : va_D A [] := hD
  refine lv_iload_n hx hb dX3_runLength_7 rfl (lv_at hl 0 rfl) ?_
  refine lv_iload_n hx hb dX3_runLength_8 rfl (lv_at hl 1 rfl) ?_
  obtain ⟨r4, hC5, hF⟩ := gd_b hF
  refine ct_callS (As := [.int p0, .int p1]) (rest := [.int r1]) ⟨hx, hb, hml, hown, hts⟩ (kX3_bellAt l dC dI tys cI ht0 p0 p1 r4 hC5) (va_cwS 2 hts gX3_runLength_X3_bellAt rfl rfl rfl (by decide +kernel) ⟨Nat.le_of_ble_eq_true rfl, Nat.le_of_ble_eq_true rfl⟩) hE hK hP hD hS hA [] [] (by decide) rfl (by decide) (wr := []) rfl (by decide) hl.1 rfl rfl (Nat.le_of_ble_eq_true rfl) dX3_runLength_9 ⟨(Nat.le_of_ble_eq_true rfl), (Nat.le_of_ble_eq_true rfl)⟩ (fun i6 H locs hP hD hS => ?_)
  have hP : va_P (dC, dI) vwCl [] H := hP
  have hD : va_D A [] := hD
  refine lv_isub hx hb dX3_runLength_12 ?_
  refine lv_istore (lv' := [(4, .int (r1 - r4)), (0, .int p0), (1, .int p1), (2, .int p2), (3, .int p3)]) hx hb dX3_runLength_13 hl (by decide) rfl (fun ls hl => ?_)
  refine lv_iload hx hb dX3_runLength_15 (lv_at hl 0 rfl) ?_
  refine lv_iconst (v := (1 : Int32)) hx hb dX3_runLength_17 (by decide) ?_
  refine lv_icmp_eq (tgt := 29) hx hb dX3_runLength_18 (by decide) (fun c7 => ?_) (fun c7 => ?_)
  · have hF := (if_pos c7).symm.trans hF
    refine lv_iconst (v := (2 : Int32)) hx hb dX3_runLength_29 (by decide) ?_
    refine lv_istore (lv' := [(5, .int (2 : Int32)), (4, .int (r1 - r4)), (0, .int p0), (1, .int p1), (2, .int p2), (3, .int p3)]) hx hb dX3_runLength_30 hl (by decide) rfl (fun ls hl => ?_)
    have X32 : ∀ (x5_32 : Int32) (H : Heap) (locs : List Loc) (ls : Array Slot), fX3_runLength_X32 x5_32 = some r → va_P (dC, dI) vwCl [] H → va_D A [] → va_S A s.heap H locs → lv_has ls 6 [(5, .int x5_32), (4, .int (r1 - r4)), (0, .int p0), (1, .int p1), (2, .int p2), (3, .int p3)] → W p l e rmX3_runLength s m ([.int p0, .int p1, .int p2, .int p3] : List Value).toArray below meth c H locs 0 0 (MQ below (ct_Q (dC, dI) tys (fun _ : Unit => some (.int r)) (fun _ : Unit => []) A) ([.int p0, .int p1, .int p2, .int p3] : List Value).toArray s rmX3_runLength.cells rmX3_runLength.slots A) (F0 m 72 ls []) := by
      intro x5_32 H locs ls hF hP hD hS hl
      unfold fX3_runLength_X32 at hF
      refine lv_iload hx hb dX3_runLength_72 (lv_at hl 0 rfl) ?_
      refine lv_iconst (v := (3 : Int32)) hx hb dX3_runLength_74 (by decide) ?_
      refine lv_icmp_lt (tgt := 83) hx hb dX3_runLength_75 (by decide) (fun c8 => ?_) (fun c8 => ?_)
      · have hF := (if_pos c8).symm.trans hF
        refine lv_iconst (v := (0 : Int32)) hx hb dX3_runLength_83 (by decide) ?_
        obtain rfl := Option.some.inj hF
        exact ct_i hx hb hr hlocks hK hP hD hS () rfl [] (by decide) rfl (Nat.le_of_ble_eq_true rfl) (Nat.le_of_ble_eq_true rfl) dX3_runLength_84
      · have hF := (if_neg c8).symm.trans hF
        refine lv_iload hx hb dX3_runLength_78 (lv_at hl 0 rfl) ?_
        refine lv_goto (tgt := 84) hx hb dX3_runLength_80 (by decide) ?_
        obtain rfl := Option.some.inj hF
        exact ct_i hx hb hr hlocks hK hP hD hS () rfl [] (by decide) rfl (Nat.le_of_ble_eq_true rfl) (Nat.le_of_ble_eq_true rfl) dX3_runLength_84
    have L32 : ∀ (n32 : Nat) (x5_32 : Int32) (H : Heap) (locs : List Loc) (ls : Array Slot), fX3_runLength_L32 p3 p0 p1 p2 r1 r4 fX3_runLength_X32 n32 x5_32 = some r → va_P (dC, dI) vwCl [] H → va_D A [] → va_S A s.heap H locs → lv_has ls 6 [(5, .int x5_32), (4, .int (r1 - r4)), (0, .int p0), (1, .int p1), (2, .int p2), (3, .int p3)] → W p l e rmX3_runLength s m ([.int p0, .int p1, .int p2, .int p3] : List Value).toArray below meth c H locs 0 0 (MQ below (ct_Q (dC, dI) tys (fun _ : Unit => some (.int r)) (fun _ : Unit => []) A) ([.int p0, .int p1, .int p2, .int p3] : List Value).toArray s rmX3_runLength.cells rmX3_runLength.slots A) (F0 m 32 ls []) := by
      intro n32
      induction n32 with
      | zero => intro x5_32 H locs ls hF; rw [fX3_runLength_L32] at hF; cases hF
      | succ n32 ih32 =>
        intro x5_32 H locs ls hF hP hD hS hl
        rw [fX3_runLength_L32] at hF
        refine lv_iload hx hb dX3_runLength_32 (lv_at hl 0 rfl) ?_
        refine lv_iload_n hx hb dX3_runLength_34 rfl (lv_at hl 5 rfl) ?_
        refine lv_icmp_ge (tgt := 72) hx hb dX3_runLength_35 (by decide) (fun c9 => ?_) (fun c9 => ?_)
        · have hF := (if_pos c9).symm.trans hF
          exact X32 x5_32 _ _ _ hF (hP.sub [] rfl) (hD.sub [] (by decide) rfl) hS (lv_sub hl [0, 1, 2, 3, 4, 5] rfl)
        · have hF := (if_neg c9).symm.trans hF
          refine lv_iload_n hx hb dX3_runLength_38 rfl (lv_at hl 2 rfl) ?_
          refine lv_iload_n hx hb dX3_runLength_39 rfl (lv_at hl 3 rfl) ?_
          refine lv_iload hx hb dX3_runLength_40 (lv_at hl 0 rfl) ?_
          refine lv_iload_n hx hb dX3_runLength_42 rfl (lv_at hl 4 rfl) ?_
          refine lv_imul hx hb dX3_runLength_43 ?_
          refine lv_iadd hx hb dX3_runLength_44 ?_
          obtain ⟨r10, hC11, hF⟩ := gd_b hF
          refine ct_callS (As := [.int p0, .int (p1 + (x5_32 * p2))]) (rest := []) ⟨hx, hb, hml, hown, hts⟩ (kX3_bellAt l dC dI tys cI ht0 p0 (p1 + (x5_32 * p2)) r10 hC11) (va_cwS 2 hts gX3_runLength_X3_bellAt rfl rfl rfl (by decide +kernel) ⟨Nat.le_of_ble_eq_true rfl, Nat.le_of_ble_eq_true rfl⟩) hE hK hP hD hS hA [] [] (by decide) rfl (by decide) (wr := []) rfl (by decide) hl.1 rfl rfl (Nat.le_of_ble_eq_true rfl) dX3_runLength_45 ⟨(Nat.le_of_ble_eq_true rfl), (Nat.le_of_ble_eq_true rfl)⟩ (fun i12 H locs hP hD hS => ?_)
          have hP : va_P (dC, dI) vwCl [] H := hP
          have hD : va_D A [] := hD
          refine lv_iload_n hx hb dX3_runLength_48 rfl (lv_at hl 2 rfl) ?_
          refine lv_iload_n hx hb dX3_runLength_49 rfl (lv_at hl 3 rfl) ?_
          refine lv_iload hx hb dX3_runLength_50 (lv_at hl 0 rfl) ?_
          refine lv_iconst (v := (1 : Int32)) hx hb dX3_runLength_52 (by decide) ?_
          refine lv_isub hx hb dX3_runLength_53 ?_
          refine lv_iload_n hx hb dX3_runLength_54 rfl (lv_at hl 4 rfl) ?_
          refine lv_imul hx hb dX3_runLength_55 ?_
          refine lv_iadd hx hb dX3_runLength_56 ?_
          obtain ⟨r13, hC14, hF⟩ := gd_b hF
          refine ct_callS (As := [.int p0, .int (p1 + ((x5_32 - (1 : Int32)) * p2))]) (rest := [.int r10]) ⟨hx, hb, hml, hown, hts⟩ (kX3_bellAt l dC dI tys cI ht0 p0 (p1 + ((x5_32 - (1 : Int32)) * p2)) r13 hC14) (va_cwS 2 hts gX3_runLength_X3_bellAt rfl rfl rfl (by decide +kernel) ⟨Nat.le_of_ble_eq_true rfl, Nat.le_of_ble_eq_true rfl⟩) hE hK hP hD hS hA [] [] (by decide) rfl (by decide) (wr := []) rfl (by decide) hl.1 rfl rfl (Nat.le_of_ble_eq_true rfl) dX3_runLength_57 ⟨(Nat.le_of_ble_eq_true rfl), (Nat.le_of_ble_eq_true rfl)⟩ (fun i15 H locs hP hD hS => ?_)
          have hP : va_P (dC, dI) vwCl [] H := hP
          have hD : va_D A [] := hD
          refine lv_isub hx hb dX3_runLength_60 ?_
          refine lv_iload hx hb dX3_runLength_61 (lv_at hl 1 rfl) ?_
          refine lv_icmp_ne (tgt := 72) hx hb dX3_runLength_63 (by decide) (fun c16 => ?_) (fun c16 => ?_)
          · have hF := (if_neg c16).symm.trans hF
            exact X32 x5_32 _ _ _ hF (hP.sub [] rfl) (hD.sub [] (by decide) rfl) hS (lv_sub hl [0, 1, 2, 3, 4, 5] rfl)
          · have hF := (if_pos c16).symm.trans hF
            refine lv_iinc (v := x5_32 + (1 : Int32)) (lv' := [(5, .int (x5_32 + (1 : Int32))), (4, .int (r1 - r4)), (0, .int p0), (1, .int p1), (2, .int p2), (3, .int p3)]) hx hb dX3_runLength_66 hl (k := 0) rfl rfl (by decide) rfl (fun ls hl => ?_)
            refine lv_goto (tgt := 32) hx hb dX3_runLength_69 (by decide) ?_
            exact ih32 (x5_32 + (1 : Int32)) _ _ _ hF (hP.sub [] rfl) (hD.sub [] (by decide) rfl) hS (lv_sub hl [0, 1, 2, 3, 4, 5] rfl)
    exact L32 1000 (2 : Int32) _ _ _ hF (hP.sub [] rfl) (hD.sub [] (by decide) rfl) hS (lv_sub hl [0, 1, 2, 3, 4, 5] rfl)
  · have hF := (if_neg c7).symm.trans hF
    refine lv_iload hx hb dX3_runLength_21 (lv_at hl 0 rfl) ?_
    refine lv_iconst (v := (-1 : Int32)) hx hb dX3_runLength_23 (by decide) ?_
    refine lv_icmp_eq (tgt := 29) hx hb dX3_runLength_24 (by decide) (fun c17 => ?_) (fun c17 => ?_)
    · have hF := (if_pos c17).symm.trans hF
      refine lv_iconst (v := (2 : Int32)) hx hb dX3_runLength_29 (by decide) ?_
      refine lv_istore (lv' := [(5, .int (2 : Int32)), (4, .int (r1 - r4)), (0, .int p0), (1, .int p1), (2, .int p2), (3, .int p3)]) hx hb dX3_runLength_30 hl (by decide) rfl (fun ls hl => ?_)
      have X32 : ∀ (x5_32 : Int32) (H : Heap) (locs : List Loc) (ls : Array Slot), fX3_runLength_X32b x5_32 = some r → va_P (dC, dI) vwCl [] H → va_D A [] → va_S A s.heap H locs → lv_has ls 6 [(5, .int x5_32), (4, .int (r1 - r4)), (0, .int p0), (1, .int p1), (2, .int p2), (3, .int p3)] → W p l e rmX3_runLength s m ([.int p0, .int p1, .int p2, .int p3] : List Value).toArray below meth c H locs 0 0 (MQ below (ct_Q (dC, dI) tys (fun _ : Unit => some (.int r)) (fun _ : Unit => []) A) ([.int p0, .int p1, .int p2, .int p3] : List Value).toArray s rmX3_runLength.cells rmX3_runLength.slots A) (F0 m 72 ls []) := by
        intro x5_32 H locs ls hF hP hD hS hl
        unfold fX3_runLength_X32b at hF
        refine lv_iload hx hb dX3_runLength_72 (lv_at hl 0 rfl) ?_
        refine lv_iconst (v := (3 : Int32)) hx hb dX3_runLength_74 (by decide) ?_
        refine lv_icmp_lt (tgt := 83) hx hb dX3_runLength_75 (by decide) (fun c18 => ?_) (fun c18 => ?_)
        · have hF := (if_pos c18).symm.trans hF
          refine lv_iconst (v := (0 : Int32)) hx hb dX3_runLength_83 (by decide) ?_
          obtain rfl := Option.some.inj hF
          exact ct_i hx hb hr hlocks hK hP hD hS () rfl [] (by decide) rfl (Nat.le_of_ble_eq_true rfl) (Nat.le_of_ble_eq_true rfl) dX3_runLength_84
        · have hF := (if_neg c18).symm.trans hF
          refine lv_iload hx hb dX3_runLength_78 (lv_at hl 0 rfl) ?_
          refine lv_goto (tgt := 84) hx hb dX3_runLength_80 (by decide) ?_
          obtain rfl := Option.some.inj hF
          exact ct_i hx hb hr hlocks hK hP hD hS () rfl [] (by decide) rfl (Nat.le_of_ble_eq_true rfl) (Nat.le_of_ble_eq_true rfl) dX3_runLength_84
      have L32 : ∀ (n32 : Nat) (x5_32 : Int32) (H : Heap) (locs : List Loc) (ls : Array Slot), fX3_runLength_L32b p3 p0 p1 p2 r1 r4 fX3_runLength_X32b n32 x5_32 = some r → va_P (dC, dI) vwCl [] H → va_D A [] → va_S A s.heap H locs → lv_has ls 6 [(5, .int x5_32), (4, .int (r1 - r4)), (0, .int p0), (1, .int p1), (2, .int p2), (3, .int p3)] → W p l e rmX3_runLength s m ([.int p0, .int p1, .int p2, .int p3] : List Value).toArray below meth c H locs 0 0 (MQ below (ct_Q (dC, dI) tys (fun _ : Unit => some (.int r)) (fun _ : Unit => []) A) ([.int p0, .int p1, .int p2, .int p3] : List Value).toArray s rmX3_runLength.cells rmX3_runLength.slots A) (F0 m 32 ls []) := by
        intro n32
        induction n32 with
        | zero => intro x5_32 H locs ls hF; rw [fX3_runLength_L32b] at hF; cases hF
        | succ n32 ih32 =>
          intro x5_32 H locs ls hF hP hD hS hl
          rw [fX3_runLength_L32b] at hF
          refine lv_iload hx hb dX3_runLength_32 (lv_at hl 0 rfl) ?_
          refine lv_iload_n hx hb dX3_runLength_34 rfl (lv_at hl 5 rfl) ?_
          refine lv_icmp_ge (tgt := 72) hx hb dX3_runLength_35 (by decide) (fun c19 => ?_) (fun c19 => ?_)
          · have hF := (if_pos c19).symm.trans hF
            exact X32 x5_32 _ _ _ hF (hP.sub [] rfl) (hD.sub [] (by decide) rfl) hS (lv_sub hl [0, 1, 2, 3, 4, 5] rfl)
          · have hF := (if_neg c19).symm.trans hF
            refine lv_iload_n hx hb dX3_runLength_38 rfl (lv_at hl 2 rfl) ?_
            refine lv_iload_n hx hb dX3_runLength_39 rfl (lv_at hl 3 rfl) ?_
            refine lv_iload hx hb dX3_runLength_40 (lv_at hl 0 rfl) ?_
            refine lv_iload_n hx hb dX3_runLength_42 rfl (lv_at hl 4 rfl) ?_
            refine lv_imul hx hb dX3_runLength_43 ?_
            refine lv_iadd hx hb dX3_runLength_44 ?_
            obtain ⟨r20, hC21, hF⟩ := gd_b hF
            refine ct_callS (As := [.int p0, .int (p1 + (x5_32 * p2))]) (rest := []) ⟨hx, hb, hml, hown, hts⟩ (kX3_bellAt l dC dI tys cI ht0 p0 (p1 + (x5_32 * p2)) r20 hC21) (va_cwS 2 hts gX3_runLength_X3_bellAt rfl rfl rfl (by decide +kernel) ⟨Nat.le_of_ble_eq_true rfl, Nat.le_of_ble_eq_true rfl⟩) hE hK hP hD hS hA [] [] (by decide) rfl (by decide) (wr := []) rfl (by decide) hl.1 rfl rfl (Nat.le_of_ble_eq_true rfl) dX3_runLength_45 ⟨(Nat.le_of_ble_eq_true rfl), (Nat.le_of_ble_eq_true rfl)⟩ (fun i22 H locs hP hD hS => ?_)
            have hP : va_P (dC, dI) vwCl [] H := hP
            have hD : va_D A [] := hD
            refine lv_iload_n hx hb dX3_runLength_48 rfl (lv_at hl 2 rfl) ?_
            refine lv_iload_n hx hb dX3_runLength_49 rfl (lv_at hl 3 rfl) ?_
            refine lv_iload hx hb dX3_runLength_50 (lv_at hl 0 rfl) ?_
            refine lv_iconst (v := (1 : Int32)) hx hb dX3_runLength_52 (by decide) ?_
            refine lv_isub hx hb dX3_runLength_53 ?_
            refine lv_iload_n hx hb dX3_runLength_54 rfl (lv_at hl 4 rfl) ?_
            refine lv_imul hx hb dX3_runLength_55 ?_
            refine lv_iadd hx hb dX3_runLength_56 ?_
            obtain ⟨r23, hC24, hF⟩ := gd_b hF
            refine ct_callS (As := [.int p0, .int (p1 + ((x5_32 - (1 : Int32)) * p2))]) (rest := [.int r20]) ⟨hx, hb, hml, hown, hts⟩ (kX3_bellAt l dC dI tys cI ht0 p0 (p1 + ((x5_32 - (1 : Int32)) * p2)) r23 hC24) (va_cwS 2 hts gX3_runLength_X3_bellAt rfl rfl rfl (by decide +kernel) ⟨Nat.le_of_ble_eq_true rfl, Nat.le_of_ble_eq_true rfl⟩) hE hK hP hD hS hA [] [] (by decide) rfl (by decide) (wr := []) rfl (by decide) hl.1 rfl rfl (Nat.le_of_ble_eq_true rfl) dX3_runLength_57 ⟨(Nat.le_of_ble_eq_true rfl), (Nat.le_of_ble_eq_true rfl)⟩ (fun i25 H locs hP hD hS => ?_)
            have hP : va_P (dC, dI) vwCl [] H := hP
            have hD : va_D A [] := hD
            refine lv_isub hx hb dX3_runLength_60 ?_
            refine lv_iload hx hb dX3_runLength_61 (lv_at hl 1 rfl) ?_
            refine lv_icmp_ne (tgt := 72) hx hb dX3_runLength_63 (by decide) (fun c26 => ?_) (fun c26 => ?_)
            · have hF := (if_neg c26).symm.trans hF
              exact X32 x5_32 _ _ _ hF (hP.sub [] rfl) (hD.sub [] (by decide) rfl) hS (lv_sub hl [0, 1, 2, 3, 4, 5] rfl)
            · have hF := (if_pos c26).symm.trans hF
              refine lv_iinc (v := x5_32 + (1 : Int32)) (lv' := [(5, .int (x5_32 + (1 : Int32))), (4, .int (r1 - r4)), (0, .int p0), (1, .int p1), (2, .int p2), (3, .int p3)]) hx hb dX3_runLength_66 hl (k := 0) rfl rfl (by decide) rfl (fun ls hl => ?_)
              refine lv_goto (tgt := 32) hx hb dX3_runLength_69 (by decide) ?_
              exact ih32 (x5_32 + (1 : Int32)) _ _ _ hF (hP.sub [] rfl) (hD.sub [] (by decide) rfl) hS (lv_sub hl [0, 1, 2, 3, 4, 5] rfl)
      exact L32 1000 (2 : Int32) _ _ _ hF (hP.sub [] rfl) (hD.sub [] (by decide) rfl) hS (lv_sub hl [0, 1, 2, 3, 4, 5] rfl)
    · have hF := (if_neg c17).symm.trans hF
      refine lv_iconst (v := (0 : Int32)) hx hb dX3_runLength_27 (by decide) ?_
      obtain rfl := Option.some.inj hF
      exact ct_i hx hb hr hlocks hK hP hD hS () rfl [] (by decide) rfl (Nat.le_of_ble_eq_true rfl) (Nat.le_of_ble_eq_true rfl) dX3_runLength_28

def fX3_musicOf (p0 : Int32) (p1 : Int32) : Option Int32 := (fX3_runLength p0 (1 : Int32) (1 : Int32) p1).bind (fun r1 => (fX3_runLength p0 p1 (-1 : Int32) p1).bind (fun r4 => some (r1 + r4)))
abbrev rmX3_musicOf : Room := { frames := 2, cells := 0, slots := 0, locals := 46 }
set_option maxHeartbeats 4000000 in
set_option maxRecDepth 100000 in
theorem kX3_musicOf (l : Launch) (dC : Nat → ClassId) (dI : Nat → Nat → Nat) (tys : List (ClassId × FieldType)) (cI : ClassId) (ht0 : tys[0]? = some (cI, .int))  (p0 : Int32) (p1 : Int32) (r : Int32) (hF : fX3_musicOf p0 p1 = some r) : ct l (dC, dI) tys yX3_musicOf wsX3_musicOf rmX3_musicOf [.int p0, .int p1] [] (fun _ : Unit => some (.int r)) (fun _ : Unit => []) := by
  refine ct_of (cc := cX3_musicOf) (maxL := 2) (ret := (some .int)) (by decide) rfl (Nat.le_of_ble_eq_true rfl) ?_
  intro p e s m below meth c A ls hx hb hr hml hts hown hlocks hname hE hK hP hD hA hS hl
  have hown : s.vm.findClass RX3 = some m.cls := hown
  have hl : lv_has ls 2 [(0, .int p0), (1, .int p1)] := hl
  unfold fX3_musicOf at hF
  refine lv_iload_n hx hb dX3_musicOf_0 rfl (lv_at hl 0 rfl) ?_
  refine lv_iconst (v := (1 : Int32)) hx hb dX3_musicOf_1 (by decide) ?_
  refine lv_iconst (v := (1 : Int32)) hx hb dX3_musicOf_2 (by decide) ?_
  refine lv_iload_n hx hb dX3_musicOf_3 rfl (lv_at hl 1 rfl) ?_
  obtain ⟨r1, hC2, hF⟩ := gd_b hF
  refine ct_callS (As := [.int p0, .int (1 : Int32), .int (1 : Int32), .int p1]) (rest := []) ⟨hx, hb, hml, hown, hts⟩ (kX3_runLength l dC dI tys cI ht0 p0 (1 : Int32) (1 : Int32) p1 r1 hC2) (va_cwS 4 hts gX3_musicOf_X3_runLength rfl rfl rfl (by decide +kernel) ⟨Nat.le_of_ble_eq_true rfl, Nat.le_of_ble_eq_true rfl⟩) hE hK hP hD hS hA [] [] (by decide) rfl (by decide) (wr := []) rfl (by decide) hl.1 rfl rfl (Nat.le_of_ble_eq_true rfl) dX3_musicOf_4 ⟨(Nat.le_of_ble_eq_true rfl), (Nat.le_of_ble_eq_true rfl)⟩ (fun i3 H locs hP hD hS => ?_)
  have hP : va_P (dC, dI) vwCl [] H := hP
  have hD : va_D A [] := hD
  refine lv_iload_n hx hb dX3_musicOf_7 rfl (lv_at hl 0 rfl) ?_
  refine lv_iload_n hx hb dX3_musicOf_8 rfl (lv_at hl 1 rfl) ?_
  refine lv_iconst (v := (-1 : Int32)) hx hb dX3_musicOf_9 (by decide) ?_
  refine lv_iload_n hx hb dX3_musicOf_10 rfl (lv_at hl 1 rfl) ?_
  obtain ⟨r4, hC5, hF⟩ := gd_b hF
  refine ct_callS (As := [.int p0, .int p1, .int (-1 : Int32), .int p1]) (rest := [.int r1]) ⟨hx, hb, hml, hown, hts⟩ (kX3_runLength l dC dI tys cI ht0 p0 p1 (-1 : Int32) p1 r4 hC5) (va_cwS 4 hts gX3_musicOf_X3_runLength rfl rfl rfl (by decide +kernel) ⟨Nat.le_of_ble_eq_true rfl, Nat.le_of_ble_eq_true rfl⟩) hE hK hP hD hS hA [] [] (by decide) rfl (by decide) (wr := []) rfl (by decide) hl.1 rfl rfl (Nat.le_of_ble_eq_true rfl) dX3_musicOf_11 ⟨(Nat.le_of_ble_eq_true rfl), (Nat.le_of_ble_eq_true rfl)⟩ (fun i6 H locs hP hD hS => ?_)
  have hP : va_P (dC, dI) vwCl [] H := hP
  have hD : va_D A [] := hD
  refine lv_iadd hx hb dX3_musicOf_14 ?_
  obtain rfl := Option.some.inj hF
  exact ct_i hx hb hr hlocks hK hP hD hS () rfl [] (by decide) rfl (Nat.le_of_ble_eq_true rfl) (Nat.le_of_ble_eq_true rfl) dX3_musicOf_15

def fX3_rank_X10  (x5_10 : Int32) (x4_10 : Int32) (x3_10 : Int32) (x2_10 : Int32) : Option Int32 := some (x2_10)
def fX3_rank_L10  (K10 : Int32 → Int32 → Int32 → Int32 → Option Int32) : Nat → Int32 → Int32 → Int32 → Int32 → Option Int32
  | 0, _, _, _, _ => none
  | n + 1, x5_10, x4_10, x3_10, x2_10 => if x5_10 < (1 : Int32) then (K10 x5_10 x4_10 x3_10 x2_10) else ((fJ6_bitCount_0f7a4 (x3_10 &&& (((1 : Int32) <<< ((x4_10 &&& (15 : Int32)) &&& 31)) - (1 : Int32)))).bind (fun r2 => (fX3_rank_L10 K10 n) (x5_10 + (-1 : Int32)) (x4_10 >>> ((4 : Int32) &&& 31)) (x3_10 ||| ((1 : Int32) <<< ((x4_10 &&& (15 : Int32)) &&& 31))) ((((x2_10 * x5_10) + (x4_10 &&& (15 : Int32))) - (1 : Int32)) - r2)))
def fX3_rank (p0 : Int32) (p1 : Int32) : Option Int32 := fX3_rank_L10 fX3_rank_X10 1000 p1 p0 (0 : Int32) (0 : Int32)
abbrev rmX3_rank : Room := { frames := 1, cells := 0, slots := 0, locals := 20 }
set_option maxHeartbeats 4000000 in
set_option maxRecDepth 100000 in
theorem kX3_rank (l : Launch) (dC : Nat → ClassId) (dI : Nat → Nat → Nat) (tys : List (ClassId × FieldType)) (cI : ClassId) (ht0 : tys[0]? = some (cI, .int))  (p0 : Int32) (p1 : Int32) (r : Int32) (hF : fX3_rank p0 p1 = some r) : ct l (dC, dI) tys yX3_rank wsX3_rank rmX3_rank [.int p0, .int p1] [] (fun _ : Unit => some (.int r)) (fun _ : Unit => []) := by
  refine ct_of (cc := cX3_rank) (maxL := 8) (ret := (some .int)) (by decide) rfl (Nat.le_of_ble_eq_true rfl) ?_
  intro p e s m below meth c A ls hx hb hr hml hts hown hlocks hname hE hK hP hD hA hS hl
  have hown : s.vm.findClass RX3 = some m.cls := hown
  have hl : lv_has ls 8 [(0, .int p0), (1, .int p1)] := hl
  unfold fX3_rank at hF
  refine lv_iconst (v := (0 : Int32)) hx hb dX3_rank_0 (by decide) ?_
  refine lv_istore_n (lv' := [(2, .int (0 : Int32)), (0, .int p0), (1, .int p1)]) hx hb dX3_rank_1 rfl hl (by decide) rfl (fun ls hl => ?_)
  refine lv_iconst (v := (0 : Int32)) hx hb dX3_rank_2 (by decide) ?_
  refine lv_istore_n (lv' := [(3, .int (0 : Int32)), (2, .int (0 : Int32)), (0, .int p0), (1, .int p1)]) hx hb dX3_rank_3 rfl hl (by decide) rfl (fun ls hl => ?_)
  refine lv_iload_n hx hb dX3_rank_4 rfl (lv_at hl 2 rfl) ?_
  refine lv_istore (lv' := [(4, .int p0), (3, .int (0 : Int32)), (2, .int (0 : Int32)), (0, .int p0), (1, .int p1)]) hx hb dX3_rank_5 hl (by decide) rfl (fun ls hl => ?_)
  refine lv_iload_n hx hb dX3_rank_7 rfl (lv_at hl 4 rfl) ?_
  refine lv_istore (lv' := [(5, .int p1), (4, .int p0), (3, .int (0 : Int32)), (2, .int (0 : Int32)), (0, .int p0), (1, .int p1)]) hx hb dX3_rank_8 hl (by decide) rfl (fun ls hl => ?_)
  have X10 : ∀ (x5_10 : Int32) (x4_10 : Int32) (x3_10 : Int32) (x2_10 : Int32) (H : Heap) (locs : List Loc) (ls : Array Slot), fX3_rank_X10 x5_10 x4_10 x3_10 x2_10 = some r → va_P (dC, dI) vwCl [] H → va_D A [] → va_S A s.heap H locs → lv_has ls 8 [(5, .int x5_10), (4, .int x4_10), (3, .int x3_10), (2, .int x2_10), (0, .int p0), (1, .int p1)] → W p l e rmX3_rank s m ([.int p0, .int p1] : List Value).toArray below meth c H locs 0 0 (MQ below (ct_Q (dC, dI) tys (fun _ : Unit => some (.int r)) (fun _ : Unit => []) A) ([.int p0, .int p1] : List Value).toArray s rmX3_rank.cells rmX3_rank.slots A) (F0 m 68 ls []) := by
    intro x5_10 x4_10 x3_10 x2_10 H locs ls hF hP hD hS hl
    unfold fX3_rank_X10 at hF
    refine lv_iload_n hx hb dX3_rank_68 rfl (lv_at hl 3 rfl) ?_
    obtain rfl := Option.some.inj hF
    exact ct_i hx hb hr hlocks hK hP hD hS () rfl [] (by decide) rfl (Nat.le_of_ble_eq_true rfl) (Nat.le_of_ble_eq_true rfl) dX3_rank_69
  have L10 : ∀ (n10 : Nat) (x5_10 : Int32) (x4_10 : Int32) (x3_10 : Int32) (x2_10 : Int32) (H : Heap) (locs : List Loc) (ls : Array Slot), fX3_rank_L10 fX3_rank_X10 n10 x5_10 x4_10 x3_10 x2_10 = some r → va_P (dC, dI) vwCl [] H → va_D A [] → va_S A s.heap H locs → lv_has ls 8 [(5, .int x5_10), (4, .int x4_10), (3, .int x3_10), (2, .int x2_10), (0, .int p0), (1, .int p1)] → W p l e rmX3_rank s m ([.int p0, .int p1] : List Value).toArray below meth c H locs 0 0 (MQ below (ct_Q (dC, dI) tys (fun _ : Unit => some (.int r)) (fun _ : Unit => []) A) ([.int p0, .int p1] : List Value).toArray s rmX3_rank.cells rmX3_rank.slots A) (F0 m 10 ls []) := by
    intro n10
    induction n10 with
    | zero => intro x5_10 x4_10 x3_10 x2_10 H locs ls hF; rw [fX3_rank_L10] at hF; cases hF
    | succ n10 ih10 =>
      intro x5_10 x4_10 x3_10 x2_10 H locs ls hF hP hD hS hl
      rw [fX3_rank_L10] at hF
      refine lv_iload hx hb dX3_rank_10 (lv_at hl 0 rfl) ?_
      refine lv_iconst (v := (1 : Int32)) hx hb dX3_rank_12 (by decide) ?_
      refine lv_icmp_lt (tgt := 68) hx hb dX3_rank_13 (by decide) (fun c1 => ?_) (fun c1 => ?_)
      · have hF := (if_pos c1).symm.trans hF
        exact X10 x5_10 x4_10 x3_10 x2_10 _ _ _ hF (hP.sub [] rfl) (hD.sub [] (by decide) rfl) hS (lv_sub hl [0, 1, 2, 3, 4, 5] rfl)
      · have hF := (if_neg c1).symm.trans hF
        refine lv_iload hx hb dX3_rank_16 (lv_at hl 1 rfl) ?_
        refine lv_bipush (v := (15 : Int32)) hx hb dX3_rank_18 (by decide) ?_
        refine lv_iand hx hb dX3_rank_20 ?_
        refine lv_istore (lv' := [(6, .int (x4_10 &&& (15 : Int32))), (5, .int x5_10), (4, .int x4_10), (3, .int x3_10), (2, .int x2_10), (0, .int p0), (1, .int p1)]) hx hb dX3_rank_21 hl (by decide) rfl (fun ls hl => ?_)
        refine lv_iload hx hb dX3_rank_23 (lv_at hl 2 rfl) ?_
        refine lv_iconst (v := (4 : Int32)) hx hb dX3_rank_25 (by decide) ?_
        refine lv_ishr hx hb dX3_rank_26 ?_
        refine lv_istore (lv' := [(4, .int (x4_10 >>> ((4 : Int32) &&& 31))), (6, .int (x4_10 &&& (15 : Int32))), (5, .int x5_10), (3, .int x3_10), (2, .int x2_10), (0, .int p0), (1, .int p1)]) hx hb dX3_rank_27 hl (by decide) rfl (fun ls hl => ?_)
        refine lv_iload_n hx hb dX3_rank_29 rfl (lv_at hl 3 rfl) ?_
        refine lv_iconst (v := (1 : Int32)) hx hb dX3_rank_30 (by decide) ?_
        refine lv_iload hx hb dX3_rank_31 (lv_at hl 1 rfl) ?_
        refine lv_ishl hx hb dX3_rank_33 ?_
        refine lv_iconst (v := (1 : Int32)) hx hb dX3_rank_34 (by decide) ?_
        refine lv_isub hx hb dX3_rank_35 ?_
        refine lv_iand hx hb dX3_rank_36 ?_
        obtain ⟨r2, hC3, hF⟩ := gd_b hF
        refine ct_callS (As := [.int (x3_10 &&& (((1 : Int32) <<< ((x4_10 &&& (15 : Int32)) &&& 31)) - (1 : Int32)))]) (rest := []) ⟨hx, hb, hml, hown, hts⟩ (kJ6_bitCount_0f7a4 l dC dI tys cI ht0 (x3_10 &&& (((1 : Int32) <<< ((x4_10 &&& (15 : Int32)) &&& 31)) - (1 : Int32))) r2 hC3) (va_cwS 1 hts gX3_rank_J6_bitCount_0f7a4 rfl rfl rfl (by decide +kernel) ⟨Nat.le_of_ble_eq_true rfl, Nat.le_of_ble_eq_true rfl⟩) hE hK hP hD hS hA [] [] (by decide) rfl (by decide) (wr := []) rfl (by decide) hl.1 rfl rfl (Nat.le_of_ble_eq_true rfl) dX3_rank_37 ⟨(Nat.le_of_ble_eq_true rfl), (Nat.le_of_ble_eq_true rfl)⟩ (fun i4 H locs hP hD hS => ?_)
        have hP : va_P (dC, dI) vwCl [] H := hP
        have hD : va_D A [] := hD
        refine lv_istore (lv' := [(7, .int r2), (4, .int (x4_10 >>> ((4 : Int32) &&& 31))), (6, .int (x4_10 &&& (15 : Int32))), (5, .int x5_10), (3, .int x3_10), (2, .int x2_10), (0, .int p0), (1, .int p1)]) hx hb dX3_rank_40 hl (by decide) rfl (fun ls hl => ?_)
        refine lv_iload_n hx hb dX3_rank_42 rfl (lv_at hl 5 rfl) ?_
        refine lv_iload hx hb dX3_rank_43 (lv_at hl 3 rfl) ?_
        refine lv_imul hx hb dX3_rank_45 ?_
        refine lv_iload hx hb dX3_rank_46 (lv_at hl 2 rfl) ?_
        refine lv_iadd hx hb dX3_rank_48 ?_
        refine lv_iconst (v := (1 : Int32)) hx hb dX3_rank_49 (by decide) ?_
        refine lv_isub hx hb dX3_rank_50 ?_
        refine lv_iload hx hb dX3_rank_51 (lv_at hl 0 rfl) ?_
        refine lv_isub hx hb dX3_rank_53 ?_
        refine lv_istore_n (lv' := [(2, .int ((((x2_10 * x5_10) + (x4_10 &&& (15 : Int32))) - (1 : Int32)) - r2)), (7, .int r2), (4, .int (x4_10 >>> ((4 : Int32) &&& 31))), (6, .int (x4_10 &&& (15 : Int32))), (5, .int x5_10), (3, .int x3_10), (0, .int p0), (1, .int p1)]) hx hb dX3_rank_54 rfl hl (by decide) rfl (fun ls hl => ?_)
        refine lv_iload_n hx hb dX3_rank_55 rfl (lv_at hl 5 rfl) ?_
        refine lv_iconst (v := (1 : Int32)) hx hb dX3_rank_56 (by decide) ?_
        refine lv_iload hx hb dX3_rank_57 (lv_at hl 3 rfl) ?_
        refine lv_ishl hx hb dX3_rank_59 ?_
        refine lv_ior hx hb dX3_rank_60 ?_
        refine lv_istore_n (lv' := [(3, .int (x3_10 ||| ((1 : Int32) <<< ((x4_10 &&& (15 : Int32)) &&& 31)))), (2, .int ((((x2_10 * x5_10) + (x4_10 &&& (15 : Int32))) - (1 : Int32)) - r2)), (7, .int r2), (4, .int (x4_10 >>> ((4 : Int32) &&& 31))), (6, .int (x4_10 &&& (15 : Int32))), (5, .int x5_10), (0, .int p0), (1, .int p1)]) hx hb dX3_rank_61 rfl hl (by decide) rfl (fun ls hl => ?_)
        refine lv_iinc (v := x5_10 + (-1 : Int32)) (lv' := [(5, .int (x5_10 + (-1 : Int32))), (3, .int (x3_10 ||| ((1 : Int32) <<< ((x4_10 &&& (15 : Int32)) &&& 31)))), (2, .int ((((x2_10 * x5_10) + (x4_10 &&& (15 : Int32))) - (1 : Int32)) - r2)), (7, .int r2), (4, .int (x4_10 >>> ((4 : Int32) &&& 31))), (6, .int (x4_10 &&& (15 : Int32))), (0, .int p0), (1, .int p1)]) hx hb dX3_rank_62 hl (k := 5) rfl rfl (by decide) rfl (fun ls hl => ?_)
        refine lv_goto (tgt := 10) hx hb dX3_rank_65 (by decide) ?_
        exact ih10 (x5_10 + (-1 : Int32)) (x4_10 >>> ((4 : Int32) &&& 31)) (x3_10 ||| ((1 : Int32) <<< ((x4_10 &&& (15 : Int32)) &&& 31))) ((((x2_10 * x5_10) + (x4_10 &&& (15 : Int32))) - (1 : Int32)) - r2) _ _ _ hF (hP.sub [] rfl) (hD.sub [] (by decide) rfl) hS (lv_sub hl [0, 4, 1, 2, 6, 7] rfl)
  exact L10 1000 p1 p0 (0 : Int32) (0 : Int32) _ _ _ hF (hP.sub [] rfl) (hD.sub [] (by decide) rfl) hS (lv_sub hl [0, 1, 2, 3, 4, 5] rfl)
