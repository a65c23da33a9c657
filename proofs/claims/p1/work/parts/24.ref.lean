def fX7_digest_X205 (mn : Int32) (mch : Int32) (mcf : (Nat → Int32)) (mif : (Nat → Int32)) (x4_205 : Int32) (x1_205 : Int64) : Option Int64 := (fX7_goodNow mn mch mcf mif (3 : Int32)).bind (fun r4 => (fX7_bestNow mn mch mcf mif (3 : Int32)).bind (fun r7 => some ((((x1_205 * (31 : Int64)) + r4.toInt64) * (31 : Int64)) + r7.toInt64)))
def fX7_digest_L205 (mn : Int32) (mch : Int32) (mcl : Int32) (mcf : (Nat → Int32)) (mif : (Nat → Int32)) (mlf : (Nat → Int32)) (K205 : Int32 → Int64 → Option Int64) : Nat → Int32 → Int64 → Option Int64
  | 0, _, _ => none
  | n + 1, x4_205, x1_205 => if (3 : Int32) ≤ x4_205 then (K205 x4_205 x1_205) else ((fX7_clashesNow mn mch mcl mcf mif mlf x4_205).bind (fun r11 => (fX7_digest_L205 mn mch mcl mcf mif mlf K205 n) (x4_205 + (1 : Int32)) ((x1_205 * (31 : Int64)) + r11.toInt64)))
def fX7_digest_X172 (mn : Int32) (mch : Int32) (mcl : Int32) (mcf : (Nat → Int32)) (mif : (Nat → Int32)) (mlf : (Nat → Int32)) (x4_172 : Int32) (x1_172 : Int64) : Option Int64 := fX7_digest_L205 mn mch mcl mcf mif mlf (fX7_digest_X205 mn mch mcf mif) 9 (0 : Int32) x1_172
def fX7_digest_L172 (mn : Int32) (r1 : ((Nat → Int32) × Nat)) (K172 : Int32 → Int64 → Option Int64) : Nat → Int32 → Int64 → Option Int64
  | 0, _, _ => none
  | n + 1, x4_172, x1_172 => if mn < x4_172 then (K172 x4_172 x1_172) else ((fX7_longestNow mn r1.2 r1.1 x4_172).bind (fun r15 => (fX7_digest_L172 mn r1 K172 n) (x4_172 + (1 : Int32)) ((x1_172 * (31 : Int64)) + r15.toInt64)))
def fX7_digest_X139 (mn : Int32) (r1 : ((Nat → Int32) × Nat)) (mch : Int32) (mcl : Int32) (mcf : (Nat → Int32)) (mif : (Nat → Int32)) (mlf : (Nat → Int32)) (x6_139 : Int32) (x1_139 : Int64) : Option Int64 := fX7_digest_L172 mn r1 (fX7_digest_X172 mn mch mcl mcf mif mlf) 1000 (1 : Int32) x1_139
def fX7_digest_L139 (r1 : ((Nat → Int32) × Nat)) (K139 : Int32 → Int64 → Option Int64) : Nat → Int32 → Int64 → Option Int64
  | 0, _, _ => none
  | n + 1, x6_139, x1_139 => if (Int32.ofNat r1.2) ≤ x6_139 then (K139 x6_139 x1_139) else (if (x6_139 < 0 ∨ r1.2 ≤ x6_139.toNatClampNeg) then none else ((fX7_digest_L139 r1 K139 n) (x6_139 + (1 : Int32)) ((x1_139 * (31 : Int64)) + ((r1.1 x6_139.toNatClampNeg).toInt64))))
def fX7_digest_X98 (mn : Int32) (mch : Int32) (mcl : Int32) (mcf : (Nat → Int32)) (mif : (Nat → Int32)) (mlf : (Nat → Int32)) (x3_98 : Int32) (x1_98 : Int64) : Option Int64 := (fX7_rows_ mn mch mcl mcf mif mlf).bind (fun r1 => fX7_digest_L139 r1 (fX7_digest_X139 mn r1 mch mcl mcf mif mlf) 1000 (0 : Int32) x1_98)
def fX7_digest_L98 (mn : Int32) (mch : Int32) (mcl : Int32) (mcf : (Nat → Int32)) (mif : (Nat → Int32)) (mlf : (Nat → Int32)) (K98 : Int32 → Int64 → Option Int64) : Nat → Int32 → Int64 → Option Int64
  | 0, _, _ => none
  | n + 1, x3_98, x1_98 => if (8 : Int32) ≤ x3_98 then (K98 x3_98 x1_98) else ((fX7_touchNow mn mch mcl mcf mif mlf x3_98).bind (fun r21 => (fX7_digest_L98 mn mch mcl mcf mif mlf K98 n) (x3_98 + (1 : Int32)) ((x1_98 * (31 : Int64)) + r21.toInt64)))
def fX7_digest_X68 (mn : Int32) (mch : Int32) (mcl : Int32) (mcf : (Nat → Int32)) (mif : (Nat → Int32)) (mlf : (Nat → Int32)) (x3_68 : Int32) (x1_68 : Int64) : Option Int64 := fX7_digest_L98 mn mch mcl mcf mif mlf (fX7_digest_X98 mn mch mcl mcf mif mlf) 9 (0 : Int32) x1_68
def fX7_digest_L68 (mcl : Int32) (mlf : (Nat → Int32)) (K68 : Int32 → Int64 → Option Int64) : Nat → Int32 → Int64 → Option Int64
  | 0, _, _ => none
  | n + 1, x3_68, x1_68 => if mcl ≤ x3_68 then (K68 x3_68 x1_68) else (if (x3_68 < 0 ∨ 24 ≤ x3_68.toNatClampNeg) then none else ((fX7_digest_L68 mcl mlf K68 n) (x3_68 + (1 : Int32)) ((x1_68 * (31 : Int64)) + ((mlf x3_68.toNatClampNeg).toInt64))))
def fX7_digest_X38 (mcl : Int32) (mlf : (Nat → Int32)) (mn : Int32) (mch : Int32) (mcf : (Nat → Int32)) (mif : (Nat → Int32)) (x3_38 : Int32) (x1_38 : Int64) : Option Int64 := fX7_digest_L68 mcl mlf (fX7_digest_X68 mn mch mcl mcf mif mlf) 1000 (0 : Int32) x1_38
def fX7_digest_L38 (mch : Int32) (mcf : (Nat → Int32)) (K38 : Int32 → Int64 → Option Int64) : Nat → Int32 → Int64 → Option Int64
  | 0, _, _ => none
  | n + 1, x3_38, x1_38 => if mch ≤ x3_38 then (K38 x3_38 x1_38) else (if (x3_38 < 0 ∨ 14 ≤ x3_38.toNatClampNeg) then none else ((fX7_digest_L38 mch mcf K38 n) (x3_38 + (1 : Int32)) ((x1_38 * (31 : Int64)) + ((mcf x3_38.toNatClampNeg).toInt64))))
def fX7_digest_X11 (mch : Int32) (mcf : (Nat → Int32)) (mcl : Int32) (mlf : (Nat → Int32)) (mn : Int32) (mif : (Nat → Int32)) (x3_11 : Int32) (x1_11 : Int64) : Option Int64 := fX7_digest_L38 mch mcf (fX7_digest_X38 mcl mlf mn mch mcf mif) 1000 (0 : Int32) x1_11
def fX7_digest_L11 (mn : Int32) (mch : Int32) (mcl : Int32) (mcf : (Nat → Int32)) (mif : (Nat → Int32)) (K11 : Int32 → Int64 → Option Int64) : Nat → Int32 → Int64 → Option Int64
  | 0, _, _ => none
  | n + 1, x3_11, x1_11 => if (6 : Int32) ≤ x3_11 then (K11 x3_11 x1_11) else ((fX7_toldNow mn mch mcl mcf mif x3_11).bind (fun r29 => (fX7_digest_L11 mn mch mcl mcf mif K11 n) (x3_11 + (1 : Int32)) ((x1_11 * (31 : Int64)) + r29.toInt64)))
def fX7_digest (mn : Int32) (mch : Int32) (mcl : Int32) (mcf : (Nat → Int32)) (mif : (Nat → Int32)) (mlf : (Nat → Int32)) : Option Int64 := fX7_digest_L11 mn mch mcl mcf mif (fX7_digest_X11 mch mcf mcl mlf mn mif) 9 (0 : Int32) (1045 : Int64)
abbrev rmX7_digest : Room := { frames := 8, cells := 39789, slots := 287655, locals := 182 }
set_option maxHeartbeats 4000000 in
set_option maxRecDepth 100000 in
theorem kX7_digest (l : Launch) (dC : Nat → ClassId) (dI : Nat → Nat → Nat) (tys : List (ClassId × FieldType)) (cI : ClassId) (ht0 : tys[0]? = some (cI, .int)) (cR : ClassId) (ht3 : tys[3]? = some (cR, .array .int)) (o oc oi ol ob : Nat) (mth : Int32) (mn : Int32) (mch : Int32) (mcl : Int32) (mgo : Int32) (mmo : Int32) (mcf : (Nat → Int32)) (mif : (Nat → Int32)) (mlf : (Nat → Int32)) (mbn : Nat) (mbf : (Nat → Int32)) (r : Int64) (hF : fX7_digest mn mch mcl mcf mif mlf = some r) : ct l (dC, dI) tys yX7_digest wsX7_digest rmX7_digest [.ref o] [(o, .inr (6, [.int mth, .int mn, .int mch, .ref oc, .ref oi, .int mcl, .ref ol, .int mgo, .int mmo, .ref ob])), (oc, .inl (cI, 14, .inl mcf)), (oi, .inl (cI, 3, .inl mif)), (ol, .inl (cI, 24, .inl mlf)), (ob, .inl (cI, mbn, .inl mbf))] (fun _ : Nat => some (.long r)) (fun i : Nat => [(o, .inr (6, [.int (0 : Int32), .int mn, .int mch, .ref oc, .ref oi, .int mcl, .ref ol, .int (0 : Int32), .int (-1 : Int32), .ref i])), (oc, .inl (cI, 14, .inl mcf)), (oi, .inl (cI, 3, .inl mif)), (ol, .inl (cI, 24, .inl mlf)), (i, .inl (cI, 0, .inl (fun _ => 0)))]) := by
  refine ct_of (cc := cX7_digest) (maxL := 8) (ret := (some .long)) (by decide) rfl (Nat.le_of_ble_eq_true rfl) ?_
  intro p e s m below meth c A ls hx hb hr hml hts hown hlocks hname hE hK hP hD hA hS hl
  have hown : s.vm.findClass RX7 = some m.cls := hown
  have hl : lv_has ls 8 [(0, .ref o)] := hl
  unfold fX7_digest at hF
  have uX7 : ∀ w ∈ wsX70, w ∈ wsX7_digest := (fun _ h => (List.mem_cons_of_mem _ (List.mem_append_right _ h)))
  have w1 := hts (.fieldLink RX7 36 "BellfounderTowerModel" "thrown" "I") (List.mem_cons_of_mem _ (List.mem_append_left _ (List.mem_append_left _ (List.mem_of_getElem? (i := 0) rfl))))
  have w2 := hts (.constantLong RX7 177 (1045)) (List.mem_cons_of_mem _ (List.mem_append_left _ (List.mem_append_left _ (List.mem_of_getElem? (i := 1) rfl))))
  have w3 := hts (.constantLong RX7 179 (31)) (List.mem_cons_of_mem _ (List.mem_append_left _ (List.mem_append_left _ (List.mem_of_getElem? (i := 2) rfl))))
  have w4 := hts (.fieldLink RX7 30 "BellfounderTowerModel" "changes" "I") (List.mem_cons_of_mem _ (List.mem_append_left _ (List.mem_append_left _ (List.mem_of_getElem? (i := 3) rfl))))
  have w5 := hts (.fieldLink RX7 9 "BellfounderTowerModel" "change" "[I") (List.mem_cons_of_mem _ (List.mem_append_left _ (List.mem_append_left _ (List.mem_of_getElem? (i := 4) rfl))))
  have w6 := hts (.fieldLink RX7 33 "BellfounderTowerModel" "calls" "I") (List.mem_cons_of_mem _ (List.mem_append_left _ (List.mem_append_left _ (List.mem_of_getElem? (i := 5) rfl))))
  have w7 := hts (.fieldLink RX7 16 "BellfounderTowerModel" "call" "[I") (List.mem_cons_of_mem _ (List.mem_append_left _ (List.mem_append_left _ (List.mem_of_getElem? (i := 6) rfl))))
  have w8 := hts (.fieldLink RX7 26 "BellfounderTowerModel" "n" "I") (List.mem_cons_of_mem _ (List.mem_append_left _ (List.mem_append_left _ (List.mem_of_getElem? (i := 7) rfl))))
  refine lv_aload_n hx hb dX7_digest_0 rfl (lv_at hl 0 rfl) ?_
  refine lv_iconst (v := (0 : Int32)) hx hb dX7_digest_1 (by decide) ?_
  refine va_put (D := (dC, dI)) (ci := 6) (v := .int (0 : Int32)) (ty := .int) (C := RX7) (T := TX7) (N := 10) hx hb hts uX7 tyX7 tyX7_ok nmX7 hown hK hP hD hS 0 rfl rfl 0 (by decide) w1 (fun _ h9 => h9) rfl (by decide +kernel) rfl rfl (Nat.le_of_ble_eq_true rfl) dX7_digest_2 (fun H locs hP hD hS => ?_)
  have hP : va_P (dC, dI) vwCl [(o, .inr (6, [.int (0 : Int32), .int mn, .int mch, .ref oc, .ref oi, .int mcl, .ref ol, .int mgo, .int mmo, .ref ob])), (oc, .inl (cI, 14, .inl mcf)), (oi, .inl (cI, 3, .inl mif)), (ol, .inl (cI, 24, .inl mlf)), (ob, .inl (cI, mbn, .inl mbf))] H := hP
  have hD : va_D A [(o, .inr (6, [.int (0 : Int32), .int mn, .int mch, .ref oc, .ref oi, .int mcl, .ref ol, .int mgo, .int mmo, .ref ob])), (oc, .inl (cI, 14, .inl mcf)), (oi, .inl (cI, 3, .inl mif)), (ol, .inl (cI, 24, .inl mlf)), (ob, .inl (cI, mbn, .inl mbf))] := hD
  refine lv_ldc2 hx hb hown w2 dX7_digest_5 ?_
  refine lv_lstore_n (lv' := [(1, .long (1045 : Int64)), (0, .ref o)]) hx hb dX7_digest_8 rfl hl (by decide) rfl (fun ls hl => ?_)
  refine lv_iconst (v := (0 : Int32)) hx hb dX7_digest_9 (by decide) ?_
  refine lv_istore_n (lv' := [(3, .int (0 : Int32)), (1, .long (1045 : Int64)), (0, .ref o)]) hx hb dX7_digest_10 rfl hl (by decide) rfl (fun ls hl => ?_)
  have X11 : ∀ (x3_11 : Int32) (x1_11 : Int64) (H : Heap) (locs : List Loc) (ls : Array Slot), fX7_digest_X11 mch mcf mcl mlf mn mif x3_11 x1_11 = some r → va_P (dC, dI) vwCl [(o, .inr (6, [.int (0 : Int32), .int mn, .int mch, .ref oc, .ref oi, .int mcl, .ref ol, .int mgo, .int mmo, .ref ob])), (oc, .inl (cI, 14, .inl mcf)), (oi, .inl (cI, 3, .inl mif)), (ol, .inl (cI, 24, .inl mlf)), (ob, .inl (cI, mbn, .inl mbf))] H → va_D A [(o, .inr (6, [.int (0 : Int32), .int mn, .int mch, .ref oc, .ref oi, .int mcl, .ref ol, .int mgo, .int mmo, .ref ob])), (oc, .inl (cI, 14, .inl mcf)), (oi, .inl (cI, 3, .inl mif)), (ol, .inl (cI, 24, .inl mlf)), (ob, .inl (cI, mbn, .inl mbf))] → va_S A s.heap H locs → lv_has ls 8 [(3, .int x3_11), (1, .long x1_11), (0, .ref o)] → W p l e rmX7_digest s m ([.ref o] : List Value).toArray below meth c H locs 17856 124992 (MQ below (ct_Q (dC, dI) tys (fun _ : Nat => some (.long r)) (fun i : Nat => [(o, .inr (6, [.int (0 : Int32), .int mn, .int mch, .ref oc, .ref oi, .int mcl, .ref ol, .int (0 : Int32), .int (-1 : Int32), .ref i])), (oc, .inl (cI, 14, .inl mcf)), (oi, .inl (cI, 3, .inl mif)), (ol, .inl (cI, 24, .inl mlf)), (i, .inl (cI, 0, .inl (fun _ => 0)))]) A) ([.ref o] : List Value).toArray s rmX7_digest.cells rmX7_digest.slots A) (F0 m 36 ls []) := by
    intro x3_11 x1_11 H locs ls hF hP hD hS hl
    unfold fX7_digest_X11 at hF
    refine lv_iconst (v := (0 : Int32)) hx hb dX7_digest_36 (by decide) ?_
    refine lv_istore_n (lv' := [(3, .int (0 : Int32)), (1, .long x1_11), (0, .ref o)]) hx hb dX7_digest_37 rfl hl (by decide) rfl (fun ls hl => ?_)
    have X38 : ∀ (x3_38 : Int32) (x1_38 : Int64) (H : Heap) (locs : List Loc) (ls : Array Slot), fX7_digest_X38 mcl mlf mn mch mcf mif x3_38 x1_38 = some r → va_P (dC, dI) vwCl [(o, .inr (6, [.int (0 : Int32), .int mn, .int mch, .ref oc, .ref oi, .int mcl, .ref ol, .int mgo, .int mmo, .ref ob])), (oc, .inl (cI, 14, .inl mcf)), (oi, .inl (cI, 3, .inl mif)), (ol, .inl (cI, 24, .inl mlf)), (ob, .inl (cI, mbn, .inl mbf))] H → va_D A [(o, .inr (6, [.int (0 : Int32), .int mn, .int mch, .ref oc, .ref oi, .int mcl, .ref ol, .int mgo, .int mmo, .ref ob])), (oc, .inl (cI, 14, .inl mcf)), (oi, .inl (cI, 3, .inl mif)), (ol, .inl (cI, 24, .inl mlf)), (ob, .inl (cI, mbn, .inl mbf))] → va_S A s.heap H locs → lv_has ls 8 [(3, .int x3_38), (1, .long x1_38), (0, .ref o)] → W p l e rmX7_digest s m ([.ref o] : List Value).toArray below meth c H locs 17856 124992 (MQ below (ct_Q (dC, dI) tys (fun _ : Nat => some (.long r)) (fun i : Nat => [(o, .inr (6, [.int (0 : Int32), .int mn, .int mch, .ref oc, .ref oi, .int mcl, .ref ol, .int (0 : Int32), .int (-1 : Int32), .ref i])), (oc, .inl (cI, 14, .inl mcf)), (oi, .inl (cI, 3, .inl mif)), (ol, .inl (cI, 24, .inl mlf)), (i, .inl (cI, 0, .inl (fun _ => 0)))]) A) ([.ref o] : List Value).toArray s rmX7_digest.cells rmX7_digest.slots A) (F0 m 66 ls []) := by
      intro x3_38 x1_38 H locs ls hF hP hD hS hl
      unfold fX7_digest_X38 at hF
      refine lv_iconst (v := (0 : Int32)) hx hb dX7_digest_66 (by decide) ?_
      refine lv_istore_n (lv' := [(3, .int (0 : Int32)), (1, .long x1_38), (0, .ref o)]) hx hb dX7_digest_67 rfl hl (by decide) rfl (fun ls hl => ?_)
      have X68 : ∀ (x3_68 : Int32) (x1_68 : Int64) (H : Heap) (locs : List Loc) (ls : Array Slot), fX7_digest_X68 mn mch mcl mcf mif mlf x3_68 x1_68 = some r → va_P (dC, dI) vwCl [(o, .inr (6, [.int (0 : Int32), .int mn, .int mch, .ref oc, .ref oi, .int mcl, .ref ol, .int mgo, .int mmo, .ref ob])), (oc, .inl (cI, 14, .inl mcf)), (oi, .inl (cI, 3, .inl mif)), (ol, .inl (cI, 24, .inl mlf)), (ob, .inl (cI, mbn, .inl mbf))] H → va_D A [(o, .inr (6, [.int (0 : Int32), .int mn, .int mch, .ref oc, .ref oi, .int mcl, .ref ol, .int mgo, .int mmo, .ref ob])), (oc, .inl (cI, 14, .inl mcf)), (oi, .inl (cI, 3, .inl mif)), (ol, .inl (cI, 24, .inl mlf)), (ob, .inl (cI, mbn, .inl mbf))] → va_S A s.heap H locs → lv_has ls 8 [(3, .int x3_68), (1, .long x1_68), (0, .ref o)] → W p l e rmX7_digest s m ([.ref o] : List Value).toArray below meth c H locs 17856 124992 (MQ below (ct_Q (dC, dI) tys (fun _ : Nat => some (.long r)) (fun i : Nat => [(o, .inr (6, [.int (0 : Int32), .int mn, .int mch, .ref oc, .ref oi, .int mcl, .ref ol, .int (0 : Int32), .int (-1 : Int32), .ref i])), (oc, .inl (cI, 14, .inl mcf)), (oi, .inl (cI, 3, .inl mif)), (ol, .inl (cI, 24, .inl mlf)), (i, .inl (cI, 0, .inl (fun _ => 0)))]) A) ([.ref o] : List Value).toArray s rmX7_digest.cells rmX7_digest.slots A) (F0 m 96 ls []) := by
        intro x3_68 x1_68 H locs ls hF hP hD hS hl
        unfold fX7_digest_X68 at hF
        refine lv_iconst (v := (0 : Int32)) hx hb dX7_digest_96 (by decide) ?_
        refine lv_istore_n (lv' := [(3, .int (0 : Int32)), (1, .long x1_68), (0, .ref o)]) hx hb dX7_digest_97 rfl hl (by decide) rfl (fun ls hl => ?_)
        have X98 : ∀ (x3_98 : Int32) (x1_98 : Int64) (H : Heap) (locs : List Loc) (ls : Array Slot), fX7_digest_X98 mn mch mcl mcf mif mlf x3_98 x1_98 = some r → va_P (dC, dI) vwCl [(o, .inr (6, [.int (0 : Int32), .int mn, .int mch, .ref oc, .ref oi, .int mcl, .ref ol, .int mgo, .int mmo, .ref ob])), (oc, .inl (cI, 14, .inl mcf)), (oi, .inl (cI, 3, .inl mif)), (ol, .inl (cI, 24, .inl mlf)), (ob, .inl (cI, mbn, .inl mbf))] H → va_D A [(o, .inr (6, [.int (0 : Int32), .int mn, .int mch, .ref oc, .ref oi, .int mcl, .ref ol, .int mgo, .int mmo, .ref ob])), (oc, .inl (cI, 14, .inl mcf)), (oi, .inl (cI, 3, .inl mif)), (ol, .inl (cI, 24, .inl mlf)), (ob, .inl (cI, mbn, .inl mbf))] → va_S A s.heap H locs → lv_has ls 8 [(3, .int x3_98), (1, .long x1_98), (0, .ref o)] → W p l e rmX7_digest s m ([.ref o] : List Value).toArray below meth c H locs 32310 229131 (MQ below (ct_Q (dC, dI) tys (fun _ : Nat => some (.long r)) (fun i : Nat => [(o, .inr (6, [.int (0 : Int32), .int mn, .int mch, .ref oc, .ref oi, .int mcl, .ref ol, .int (0 : Int32), .int (-1 : Int32), .ref i])), (oc, .inl (cI, 14, .inl mcf)), (oi, .inl (cI, 3, .inl mif)), (ol, .inl (cI, 24, .inl mlf)), (i, .inl (cI, 0, .inl (fun _ => 0)))]) A) ([.ref o] : List Value).toArray s rmX7_digest.cells rmX7_digest.slots A) (F0 m 123 ls []) := by
          intro x3_98 x1_98 H locs ls hF hP hD hS hl
          unfold fX7_digest_X98 at hF
          refine lv_aload_n hx hb dX7_digest_123 rfl (lv_at hl 2 rfl) ?_
          obtain ⟨r1, hC2, hF⟩ := gd_b hF
          refine ct_callV (C := RX7) (As := []) (rest := []) ⟨hx, hb, hml, hown, hts⟩ (kX7_rows_ l dC dI tys cI ht0 o oc oi ol ob (0 : Int32) mn mch mcl mgo mmo mcf mif mlf mbn mbf r1 hC2) (cwV 0 hts gX7_digest_X7_rows_ rfl rfl rfl (by decide +kernel) ⟨Nat.le_of_ble_eq_true rfl, Nat.le_of_ble_eq_true rfl⟩) hE hK hP hD hS hA [0, 1, 2, 3, 4] [] (by decide) rfl (by decide) (wr := []) rfl (by decide) (ci := 6) (T := TX7) (N := 10) (q0 := 0) rfl rfl hl.1 rfl rfl (Nat.le_of_ble_eq_true rfl) dX7_digest_124 ⟨(Nat.le_of_ble_eq_true rfl), (Nat.le_of_ble_eq_true rfl)⟩ (fun i3 H locs hP hD hS => ?_)
          have hP : va_P (dC, dI) vwCl [(o, .inr (6, [.int (0 : Int32), .int mn, .int mch, .ref oc, .ref oi, .int mcl, .ref ol, .int mgo, .int mmo, .ref ob])), (oc, .inl (cI, 14, .inl mcf)), (oi, .inl (cI, 3, .inl mif)), (ol, .inl (cI, 24, .inl mlf)), (ob, .inl (cI, mbn, .inl mbf)), (i3, .inl (cI, r1.2, .inl r1.1))] H := hP
          have hD : va_D A [(o, .inr (6, [.int (0 : Int32), .int mn, .int mch, .ref oc, .ref oi, .int mcl, .ref ol, .int mgo, .int mmo, .ref ob])), (oc, .inl (cI, 14, .inl mcf)), (oi, .inl (cI, 3, .inl mif)), (ol, .inl (cI, 24, .inl mlf)), (ob, .inl (cI, mbn, .inl mbf)), (i3, .inl (cI, r1.2, .inl r1.1))] := hD
          refine lv_astore_n (lv' := [(3, .ref i3), (1, .long x1_98), (0, .ref o)]) hx hb dX7_digest_127 rfl hl (by decide) rfl (fun ls hl => ?_)
          refine lv_aload_n hx hb dX7_digest_128 rfl (lv_at hl 0 rfl) ?_
          refine lv_astore (lv' := [(4, .ref i3), (3, .ref i3), (1, .long x1_98), (0, .ref o)]) hx hb dX7_digest_129 hl (by decide) rfl (fun ls hl => ?_)
          refine lv_aload hx hb dX7_digest_131 (lv_at hl 0 rfl) ?_
          refine va_alen hx hb hK hP 5 0 rfl ht0 (v := Int32.ofNat r1.2) rfl dX7_digest_133 ?_
          refine lv_istore (lv' := [(5, .int (Int32.ofNat r1.2)), (4, .ref i3), (3, .ref i3), (1, .long x1_98), (0, .ref o)]) hx hb dX7_digest_134 hl (by decide) rfl (fun ls hl => ?_)
          refine lv_iconst (v := (0 : Int32)) hx hb dX7_digest_136 (by decide) ?_
          refine lv_istore (lv' := [(6, .int (0 : Int32)), (5, .int (Int32.ofNat r1.2)), (4, .ref i3), (3, .ref i3), (1, .long x1_98), (0, .ref o)]) hx hb dX7_digest_137 hl (by decide) rfl (fun ls hl => ?_)
          have X139 : ∀ (x6_139 : Int32) (x1_139 : Int64) (H : Heap) (locs : List Loc) (ls : Array Slot), fX7_digest_X139 mn r1 mch mcl mcf mif mlf x6_139 x1_139 = some r → va_P (dC, dI) vwCl [(o, .inr (6, [.int (0 : Int32), .int mn, .int mch, .ref oc, .ref oi, .int mcl, .ref ol, .int mgo, .int mmo, .ref ob])), (oc, .inl (cI, 14, .inl mcf)), (oi, .inl (cI, 3, .inl mif)), (ol, .inl (cI, 24, .inl mlf)), (ob, .inl (cI, mbn, .inl mbf)), (i3, .inl (cI, r1.2, .inl r1.1))] H → va_D A [(o, .inr (6, [.int (0 : Int32), .int mn, .int mch, .ref oc, .ref oi, .int mcl, .ref ol, .int mgo, .int mmo, .ref ob])), (oc, .inl (cI, 14, .inl mcf)), (oi, .inl (cI, 3, .inl mif)), (ol, .inl (cI, 24, .inl mlf)), (ob, .inl (cI, mbn, .inl mbf)), (i3, .inl (cI, r1.2, .inl r1.1))] → va_S A s.heap H locs → lv_has ls 8 [(6, .int x6_139), (5, .int (Int32.ofNat r1.2)), (4, .ref i3), (3, .ref i3), (1, .long x1_139), (0, .ref o)] → W p l e rmX7_digest s m ([.ref o] : List Value).toArray below meth c H locs 32314 229488 (MQ below (ct_Q (dC, dI) tys (fun _ : Nat => some (.long r)) (fun i : Nat => [(o, .inr (6, [.int (0 : Int32), .int mn, .int mch, .ref oc, .ref oi, .int mcl, .ref ol, .int (0 : Int32), .int (-1 : Int32), .ref i])), (oc, .inl (cI, 14, .inl mcf)), (oi, .inl (cI, 3, .inl mif)), (ol, .inl (cI, 24, .inl mlf)), (i, .inl (cI, 0, .inl (fun _ => 0)))]) A) ([.ref o] : List Value).toArray s rmX7_digest.cells rmX7_digest.slots A) (F0 m 169 ls []) := by
            intro x6_139 x1_139 H locs ls hF hP hD hS hl
            unfold fX7_digest_X139 at hF
            refine lv_iconst (v := (1 : Int32)) hx hb dX7_digest_169 (by decide) ?_
            refine lv_istore (lv' := [(4, .int (1 : Int32)), (6, .int x6_139), (5, .int (Int32.ofNat r1.2)), (3, .ref i3), (1, .long x1_139), (0, .ref o)]) hx hb dX7_digest_170 hl (by decide) rfl (fun ls hl => ?_)
            have X172 : ∀ (x4_172 : Int32) (x1_172 : Int64) (H : Heap) (locs : List Loc) (ls : Array Slot), fX7_digest_X172 mn mch mcl mcf mif mlf x4_172 x1_172 = some r → va_P (dC, dI) vwCl [(o, .inr (6, [.int (0 : Int32), .int mn, .int mch, .ref oc, .ref oi, .int mcl, .ref ol, .int mgo, .int mmo, .ref ob])), (oc, .inl (cI, 14, .inl mcf)), (oi, .inl (cI, 3, .inl mif)), (ol, .inl (cI, 24, .inl mlf)), (ob, .inl (cI, mbn, .inl mbf)), (i3, .inl (cI, r1.2, .inl r1.1))] H → va_D A [(o, .inr (6, [.int (0 : Int32), .int mn, .int mch, .ref oc, .ref oi, .int mcl, .ref ol, .int mgo, .int mmo, .ref ob])), (oc, .inl (cI, 14, .inl mcf)), (oi, .inl (cI, 3, .inl mif)), (ol, .inl (cI, 24, .inl mlf)), (ob, .inl (cI, mbn, .inl mbf)), (i3, .inl (cI, r1.2, .inl r1.1))] → va_S A s.heap H locs → lv_has ls 8 [(4, .int x4_172), (6, .int x6_139), (5, .int (Int32.ofNat r1.2)), (3, .ref i3), (1, .long x1_172), (0, .ref o)] → W p l e rmX7_digest s m ([.ref o] : List Value).toArray below meth c H locs 32314 229488 (MQ below (ct_Q (dC, dI) tys (fun _ : Nat => some (.long r)) (fun i : Nat => [(o, .inr (6, [.int (0 : Int32), .int mn, .int mch, .ref oc, .ref oi, .int mcl, .ref ol, .int (0 : Int32), .int (-1 : Int32), .ref i])), (oc, .inl (cI, 14, .inl mcf)), (oi, .inl (cI, 3, .inl mif)), (ol, .inl (cI, 24, .inl mlf)), (i, .inl (cI, 0, .inl (fun _ => 0)))]) A) ([.ref o] : List Value).toArray s rmX7_digest.cells rmX7_digest.slots A) (F0 m 202 ls []) := by
              intro x4_172 x1_172 H locs ls hF hP hD hS hl
              unfold fX7_digest_X172 at hF
              refine lv_iconst (v := (0 : Int32)) hx hb dX7_digest_202 (by decide) ?_
              refine lv_istore (lv' := [(4, .int (0 : Int32)), (6, .int x6_139), (5, .int (Int32.ofNat r1.2)), (3, .ref i3), (1, .long x1_172), (0, .ref o)]) hx hb dX7_digest_203 hl (by decide) rfl (fun ls hl => ?_)
              have X205 : ∀ (x4_205 : Int32) (x1_205 : Int64) (H : Heap) (locs : List Loc) (ls : Array Slot), fX7_digest_X205 mn mch mcf mif x4_205 x1_205 = some r → va_P (dC, dI) vwCl [(o, .inr (6, [.int (0 : Int32), .int mn, .int mch, .ref oc, .ref oi, .int mcl, .ref ol, .int mgo, .int mmo, .ref ob])), (oc, .inl (cI, 14, .inl mcf)), (oi, .inl (cI, 3, .inl mif)), (ol, .inl (cI, 24, .inl mlf)), (ob, .inl (cI, mbn, .inl mbf)), (i3, .inl (cI, r1.2, .inl r1.1))] H → va_D A [(o, .inr (6, [.int (0 : Int32), .int mn, .int mch, .ref oc, .ref oi, .int mcl, .ref ol, .int mgo, .int mmo, .ref ob])), (oc, .inl (cI, 14, .inl mcf)), (oi, .inl (cI, 3, .inl mif)), (ol, .inl (cI, 24, .inl mlf)), (ob, .inl (cI, mbn, .inl mbf)), (i3, .inl (cI, r1.2, .inl r1.1))] → va_S A s.heap H locs → lv_has ls 8 [(4, .int x4_205), (6, .int x6_139), (5, .int (Int32.ofNat r1.2)), (3, .ref i3), (1, .long x1_205), (0, .ref o)] → W p l e rmX7_digest s m ([.ref o] : List Value).toArray below meth c H locs 39595 286323 (MQ below (ct_Q (dC, dI) tys (fun _ : Nat => some (.long r)) (fun i : Nat => [(o, .inr (6, [.int (0 : Int32), .int mn, .int mch, .ref oc, .ref oi, .int mcl, .ref ol, .int (0 : Int32), .int (-1 : Int32), .ref i])), (oc, .inl (cI, 14, .inl mcf)), (oi, .inl (cI, 3, .inl mif)), (ol, .inl (cI, 24, .inl mlf)), (i, .inl (cI, 0, .inl (fun _ => 0)))]) A) ([.ref o] : List Value).toArray s rmX7_digest.cells rmX7_digest.slots A) (F0 m 231 ls []) := by
                intro x4_205 x1_205 H locs ls hF hP hD hS hl
                unfold fX7_digest_X205 at hF
                refine lv_lload_n hx hb dX7_digest_231 rfl (lv_at hl 4 rfl) ?_
                refine lv_ldc2 hx hb hown w3 dX7_digest_232 ?_
                refine lv_lmul hx hb dX7_digest_235 ?_
                refine lv_aload_n hx hb dX7_digest_236 rfl (lv_at hl 5 rfl) ?_
                refine lv_iconst (v := (3 : Int32)) hx hb dX7_digest_237 (by decide) ?_
                obtain ⟨r4, hC5, hF⟩ := gd_b hF
                refine ct_callV (C := RX7) (As := [.int (3 : Int32)]) (rest := [.long (x1_205 * (31 : Int64))]) ⟨hx, hb, hml, hown, hts⟩ (kX7_goodNow l dC dI tys cI ht0 cR ht3 o oc oi ol ob (0 : Int32) mn mch mcl mgo mmo mcf mif mlf mbn mbf (3 : Int32) r4 hC5) (cwV 1 hts gX7_digest_X7_goodNow rfl rfl rfl (by decide +kernel) ⟨Nat.le_of_ble_eq_true rfl, Nat.le_of_ble_eq_true rfl⟩) hE hK hP hD hS hA [0, 1, 2, 3, 4] [5] (by decide) rfl (by decide) (wr := [(i3, .inl (cI, r1.2, .inl r1.1))]) rfl (by decide) (ci := 6) (T := TX7) (N := 10) (q0 := 0) rfl rfl hl.1 rfl rfl (Nat.le_of_ble_eq_true rfl) dX7_digest_238 ⟨(Nat.le_of_ble_eq_true rfl), (Nat.le_of_ble_eq_true rfl)⟩ (fun i6 H locs hP hD hS => ?_)
                have hP : va_P (dC, dI) vwCl [(i3, .inl (cI, r1.2, .inl r1.1)), (o, .inr (6, [.int (0 : Int32), .int mn, .int mch, .ref oc, .ref oi, .int mcl, .ref ol, .int (0 : Int32), .int (-1 : Int32), .ref i6])), (oc, .inl (cI, 14, .inl mcf)), (oi, .inl (cI, 3, .inl mif)), (ol, .inl (cI, 24, .inl mlf)), (i6, .inl (cI, 0, .inl (fun _ => 0)))] H := hP
                have hD : va_D A [(i3, .inl (cI, r1.2, .inl r1.1)), (o, .inr (6, [.int (0 : Int32), .int mn, .int mch, .ref oc, .ref oi, .int mcl, .ref ol, .int (0 : Int32), .int (-1 : Int32), .ref i6])), (oc, .inl (cI, 14, .inl mcf)), (oi, .inl (cI, 3, .inl mif)), (ol, .inl (cI, 24, .inl mlf)), (i6, .inl (cI, 0, .inl (fun _ => 0)))] := hD
                refine lv_i2l (v := r4.toInt64) hx hb dX7_digest_241 rfl ?_
                refine lv_ladd hx hb dX7_digest_242 ?_
                refine lv_ldc2 hx hb hown w3 dX7_digest_243 ?_
                refine lv_lmul hx hb dX7_digest_246 ?_
                refine lv_aload_n hx hb dX7_digest_247 rfl (lv_at hl 5 rfl) ?_
                refine lv_iconst (v := (3 : Int32)) hx hb dX7_digest_248 (by decide) ?_
                obtain ⟨r7, hC8, hF⟩ := gd_b hF
                refine ct_callV (C := RX7) (As := [.int (3 : Int32)]) (rest := [.long (((x1_205 * (31 : Int64)) + r4.toInt64) * (31 : Int64))]) ⟨hx, hb, hml, hown, hts⟩ (kX7_bestNow l dC dI tys cI ht0 cR ht3 o oc oi ol i6 (0 : Int32) mn mch mcl (0 : Int32) (-1 : Int32) mcf mif mlf 0 (fun _ => 0) (3 : Int32) r7 hC8) (cwV 1 hts gX7_digest_X7_bestNow rfl rfl rfl (by decide +kernel) ⟨Nat.le_of_ble_eq_true rfl, Nat.le_of_ble_eq_true rfl⟩) hE hK hP hD hS hA [1, 2, 3, 4, 5] [0] (by decide) rfl (by decide) (wr := [(i3, .inl (cI, r1.2, .inl r1.1))]) rfl (by decide) (ci := 6) (T := TX7) (N := 10) (q0 := 0) rfl rfl hl.1 rfl rfl (Nat.le_of_ble_eq_true rfl) dX7_digest_249 ⟨(Nat.le_of_ble_eq_true rfl), (Nat.le_of_ble_eq_true rfl)⟩ (fun i9 H locs hP hD hS => ?_)
                have hP : va_P (dC, dI) vwCl [(i3, .inl (cI, r1.2, .inl r1.1)), (o, .inr (6, [.int (0 : Int32), .int mn, .int mch, .ref oc, .ref oi, .int mcl, .ref ol, .int (0 : Int32), .int (-1 : Int32), .ref i9])), (oc, .inl (cI, 14, .inl mcf)), (oi, .inl (cI, 3, .inl mif)), (ol, .inl (cI, 24, .inl mlf)), (i9, .inl (cI, 0, .inl (fun _ => 0)))] H := hP
                have hD : va_D A [(i3, .inl (cI, r1.2, .inl r1.1)), (o, .inr (6, [.int (0 : Int32), .int mn, .int mch, .ref oc, .ref oi, .int mcl, .ref ol, .int (0 : Int32), .int (-1 : Int32), .ref i9])), (oc, .inl (cI, 14, .inl mcf)), (oi, .inl (cI, 3, .inl mif)), (ol, .inl (cI, 24, .inl mlf)), (i9, .inl (cI, 0, .inl (fun _ => 0)))] := hD
                refine lv_i2l (v := r7.toInt64) hx hb dX7_digest_252 rfl ?_
                refine lv_ladd hx hb dX7_digest_253 ?_
                obtain rfl := Option.some.inj hF
                exact ct_l hx hb hr hlocks hK hP hD hS i9 rfl [1, 2, 3, 4, 5] (by decide) rfl (Nat.le_of_ble_eq_true rfl) (Nat.le_of_ble_eq_true rfl) dX7_digest_254
              have L205 : ∀ (n205 : Nat) (x4_205 : Int32) (x1_205 : Int64) (H : Heap) (locs : List Loc) (ls : Array Slot) (cc205 ss205 : Nat), cc205 + n205 * 809 ≤ 39595 → ss205 + n205 * 6315 ≤ 286323 → fX7_digest_L205 mn mch mcl mcf mif mlf (fX7_digest_X205 mn mch mcf mif) n205 x4_205 x1_205 = some r → va_P (dC, dI) vwCl [(o, .inr (6, [.int (0 : Int32), .int mn, .int mch, .ref oc, .ref oi, .int mcl, .ref ol, .int mgo, .int mmo, .ref ob])), (oc, .inl (cI, 14, .inl mcf)), (oi, .inl (cI, 3, .inl mif)), (ol, .inl (cI, 24, .inl mlf)), (ob, .inl (cI, mbn, .inl mbf)), (i3, .inl (cI, r1.2, .inl r1.1))] H → va_D A [(o, .inr (6, [.int (0 : Int32), .int mn, .int mch, .ref oc, .ref oi, .int mcl, .ref ol, .int mgo, .int mmo, .ref ob])), (oc, .inl (cI, 14, .inl mcf)), (oi, .inl (cI, 3, .inl mif)), (ol, .inl (cI, 24, .inl mlf)), (ob, .inl (cI, mbn, .inl mbf)), (i3, .inl (cI, r1.2, .inl r1.1))] → va_S A s.heap H locs → lv_has ls 8 [(4, .int x4_205), (6, .int x6_139), (5, .int (Int32.ofNat r1.2)), (3, .ref i3), (1, .long x1_205), (0, .ref o)] → W p l e rmX7_digest s m ([.ref o] : List Value).toArray below meth c H locs cc205 ss205 (MQ below (ct_Q (dC, dI) tys (fun _ : Nat => some (.long r)) (fun i : Nat => [(o, .inr (6, [.int (0 : Int32), .int mn, .int mch, .ref oc, .ref oi, .int mcl, .ref ol, .int (0 : Int32), .int (-1 : Int32), .ref i])), (oc, .inl (cI, 14, .inl mcf)), (oi, .inl (cI, 3, .inl mif)), (ol, .inl (cI, 24, .inl mlf)), (i, .inl (cI, 0, .inl (fun _ => 0)))]) A) ([.ref o] : List Value).toArray s rmX7_digest.cells rmX7_digest.slots A) (F0 m 205 ls []) := by
                intro n205
                induction n205 with
                | zero => intro x4_205 x1_205 H locs ls cc205 ss205 hcc205 hss205 hF; rw [fX7_digest_L205] at hF; cases hF
                | succ n205 ih205 =>
                  intro x4_205 x1_205 H locs ls cc205 ss205 hcc205 hss205 hF hP hD hS hl
                  rw [fX7_digest_L205] at hF
                  refine lv_iload hx hb dX7_digest_205 (lv_at hl 0 rfl) ?_
                  refine lv_iconst (v := (3 : Int32)) hx hb dX7_digest_207 (by decide) ?_
                  refine lv_icmp_ge (tgt := 231) hx hb dX7_digest_208 (by decide) (fun c10 => ?_) (fun c10 => ?_)
                  · have hF := (if_pos c10).symm.trans hF
                    refine W.widen (k := 39595) (n := 286323) (al_le (k := 0) (c1 := 809) hcc205 (Nat.le_refl _) (Nat.le_of_ble_eq_true rfl)) (al_le (k := 0) (c1 := 6315) hss205 (Nat.le_refl _) (Nat.le_of_ble_eq_true rfl)) ?_
                    exact X205 x4_205 x1_205 _ _ _ hF (hP.sub [0, 1, 2, 3, 4, 5] rfl) (hD.sub [0, 1, 2, 3, 4, 5] (by decide) rfl) hS (lv_sub hl [0, 1, 2, 3, 4, 5] rfl)
                  · have hF := (if_neg c10).symm.trans hF
                    refine lv_lload_n hx hb dX7_digest_211 rfl (lv_at hl 4 rfl) ?_
                    refine lv_ldc2 hx hb hown w3 dX7_digest_212 ?_
                    refine lv_lmul hx hb dX7_digest_215 ?_
                    refine lv_aload_n hx hb dX7_digest_216 rfl (lv_at hl 5 rfl) ?_
                    refine lv_iload hx hb dX7_digest_217 (lv_at hl 0 rfl) ?_
                    obtain ⟨r11, hC12, hF⟩ := gd_b hF
                    refine ct_callV (C := RX7) (As := [.int x4_205]) (rest := [.long (x1_205 * (31 : Int64))]) ⟨hx, hb, hml, hown, hts⟩ (kX7_clashesNow l dC dI tys cI ht0 o oc oi ol ob (0 : Int32) mn mch mcl mgo mmo mcf mif mlf mbn mbf x4_205 r11 hC12) (cwV 1 hts gX7_digest_X7_clashesNow rfl rfl rfl (by decide +kernel) ⟨Nat.le_of_ble_eq_true rfl, Nat.le_of_ble_eq_true rfl⟩) hE hK hP hD hS hA [0, 1, 2, 3, 4] [5] (by decide) rfl (by decide) (wr := [(i3, .inl (cI, r1.2, .inl r1.1))]) rfl (by decide) (ci := 6) (T := TX7) (N := 10) (q0 := 0) rfl rfl hl.1 rfl rfl (Nat.le_of_ble_eq_true rfl) dX7_digest_219 ⟨(show cc205 + 809 ≤ 39789 from (al_le (k := 809) (c1 := 809) hcc205 (Nat.le_of_ble_eq_true rfl) (Nat.le_of_ble_eq_true rfl))), (show ss205 + 6315 ≤ 287655 from (al_le (k := 6315) (c1 := 6315) hss205 (Nat.le_of_ble_eq_true rfl) (Nat.le_of_ble_eq_true rfl)))⟩ (fun i13 H locs hP hD hS => ?_)
                    refine W.widen (k := cc205 + 809) (n := ss205 + 6315) (show cc205 + 809 ≤ cc205 + 809 from Nat.le_refl _) (show ss205 + 6315 ≤ ss205 + 6315 from Nat.le_refl _) ?_
                    have hP : va_P (dC, dI) vwCl [(i3, .inl (cI, r1.2, .inl r1.1)), (o, .inr (6, [.int (0 : Int32), .int mn, .int mch, .ref oc, .ref oi, .int mcl, .ref ol, .int mgo, .int mmo, .ref ob])), (oc, .inl (cI, 14, .inl mcf)), (oi, .inl (cI, 3, .inl mif)), (ol, .inl (cI, 24, .inl mlf)), (ob, .inl (cI, mbn, .inl mbf))] H := hP
                    have hD : va_D A [(i3, .inl (cI, r1.2, .inl r1.1)), (o, .inr (6, [.int (0 : Int32), .int mn, .int mch, .ref oc, .ref oi, .int mcl, .ref ol, .int mgo, .int mmo, .ref ob])), (oc, .inl (cI, 14, .inl mcf)), (oi, .inl (cI, 3, .inl mif)), (ol, .inl (cI, 24, .inl mlf)), (ob, .inl (cI, mbn, .inl mbf))] := hD
                    refine lv_i2l (v := r11.toInt64) hx hb dX7_digest_222 rfl ?_
                    refine lv_ladd hx hb dX7_digest_223 ?_
                    refine lv_lstore_n (lv' := [(1, .long ((x1_205 * (31 : Int64)) + r11.toInt64)), (4, .int x4_205), (6, .int x6_139), (5, .int (Int32.ofNat r1.2)), (3, .ref i3), (0, .ref o)]) hx hb dX7_digest_224 rfl hl (by decide) rfl (fun ls hl => ?_)
                    refine lv_iinc (v := x4_205 + (1 : Int32)) (lv' := [(4, .int (x4_205 + (1 : Int32))), (1, .long ((x1_205 * (31 : Int64)) + r11.toInt64)), (6, .int x6_139), (5, .int (Int32.ofNat r1.2)), (3, .ref i3), (0, .ref o)]) hx hb dX7_digest_225 hl (k := 1) rfl rfl (by decide) rfl (fun ls hl => ?_)
                    refine lv_goto (tgt := 205) hx hb dX7_digest_228 (by decide) ?_
                    exact ih205 (x4_205 + (1 : Int32)) ((x1_205 * (31 : Int64)) + r11.toInt64) _ _ _ (cc205 + 809) (ss205 + 6315) (al_back (k := 809) hcc205 (Nat.le_of_ble_eq_true rfl)) (al_back (k := 6315) hss205 (Nat.le_of_ble_eq_true rfl)) hF (hP.sub [1, 2, 3, 4, 5, 0] rfl) (hD.sub [1, 2, 3, 4, 5, 0] (by decide) rfl) hS (lv_sub hl [0, 2, 3, 4, 1, 5] rfl)
              exact L205 9 (0 : Int32) x1_172 _ _ _ (32314) (229488) (Nat.le_refl _) (Nat.le_refl _) hF (hP.sub [0, 1, 2, 3, 4, 5] rfl) (hD.sub [0, 1, 2, 3, 4, 5] (by decide) rfl) hS (lv_sub hl [0, 1, 2, 3, 4, 5] rfl)
            have L172 : ∀ (n172 : Nat) (x4_172 : Int32) (x1_172 : Int64) (H : Heap) (locs : List Loc) (ls : Array Slot), fX7_digest_L172 mn r1 (fX7_digest_X172 mn mch mcl mcf mif mlf) n172 x4_172 x1_172 = some r → va_P (dC, dI) vwCl [(o, .inr (6, [.int (0 : Int32), .int mn, .int mch, .ref oc, .ref oi, .int mcl, .ref ol, .int mgo, .int mmo, .ref ob])), (oc, .inl (cI, 14, .inl mcf)), (oi, .inl (cI, 3, .inl mif)), (ol, .inl (cI, 24, .inl mlf)), (ob, .inl (cI, mbn, .inl mbf)), (i3, .inl (cI, r1.2, .inl r1.1))] H → va_D A [(o, .inr (6, [.int (0 : Int32), .int mn, .int mch, .ref oc, .ref oi, .int mcl, .ref ol, .int mgo, .int mmo, .ref ob])), (oc, .inl (cI, 14, .inl mcf)), (oi, .inl (cI, 3, .inl mif)), (ol, .inl (cI, 24, .inl mlf)), (ob, .inl (cI, mbn, .inl mbf)), (i3, .inl (cI, r1.2, .inl r1.1))] → va_S A s.heap H locs → lv_has ls 8 [(4, .int x4_172), (6, .int x6_139), (5, .int (Int32.ofNat r1.2)), (3, .ref i3), (1, .long x1_172), (0, .ref o)] → W p l e rmX7_digest s m ([.ref o] : List Value).toArray below meth c H locs 32314 229488 (MQ below (ct_Q (dC, dI) tys (fun _ : Nat => some (.long r)) (fun i : Nat => [(o, .inr (6, [.int (0 : Int32), .int mn, .int mch, .ref oc, .ref oi, .int mcl, .ref ol, .int (0 : Int32), .int (-1 : Int32), .ref i])), (oc, .inl (cI, 14, .inl mcf)), (oi, .inl (cI, 3, .inl mif)), (ol, .inl (cI, 24, .inl mlf)), (i, .inl (cI, 0, .inl (fun _ => 0)))]) A) ([.ref o] : List Value).toArray s rmX7_digest.cells rmX7_digest.slots A) (F0 m 172 ls []) := by
              intro n172
              induction n172 with
              | zero => intro x4_172 x1_172 H locs ls hF; rw [fX7_digest_L172] at hF; cases hF
              | succ n172 ih172 =>
                intro x4_172 x1_172 H locs ls hF hP hD hS hl
                rw [fX7_digest_L172] at hF
                refine lv_iload hx hb dX7_digest_172 (lv_at hl 0 rfl) ?_
                refine lv_aload_n hx hb dX7_digest_174 rfl (lv_at hl 5 rfl) ?_
                refine va_get (D := (dC, dI)) (ci := 6) (v := .int mn) (C := RX7) (T := TX7) (N := 10) hx hb hts uX7 hown hK hP 0 rfl rfl 1 (by decide) w8 (fun _ h9 => h9) rfl dX7_digest_175 ?_
                refine lv_icmp_gt (tgt := 202) hx hb dX7_digest_178 (by decide) (fun c14 => ?_) (fun c14 => ?_)
                · have hF := (if_pos c14).symm.trans hF
                  exact X172 x4_172 x1_172 _ _ _ hF (hP.sub [0, 1, 2, 3, 4, 5] rfl) (hD.sub [0, 1, 2, 3, 4, 5] (by decide) rfl) hS (lv_sub hl [0, 1, 2, 3, 4, 5] rfl)
                · have hF := (if_neg c14).symm.trans hF
                  refine lv_lload_n hx hb dX7_digest_181 rfl (lv_at hl 4 rfl) ?_
                  refine lv_ldc2 hx hb hown w3 dX7_digest_182 ?_
                  refine lv_lmul hx hb dX7_digest_185 ?_
                  refine lv_aload_n hx hb dX7_digest_186 rfl (lv_at hl 5 rfl) ?_
                  refine lv_iload hx hb dX7_digest_187 (lv_at hl 0 rfl) ?_
                  refine lv_aload_n hx hb dX7_digest_189 rfl (lv_at hl 3 rfl) ?_
                  obtain ⟨r15, hC16, hF⟩ := gd_b hF
                  refine ct_callV (C := RX7) (As := [.int x4_172, .ref i3]) (rest := [.long (x1_172 * (31 : Int64))]) ⟨hx, hb, hml, hown, hts⟩ (kX7_longestNow l dC dI tys cI ht0 o oc oi ol ob i3 (0 : Int32) mn mch mcl mgo mmo mcf mif mlf mbn mbf r1.2 r1.1 x4_172 r15 hC16) (cwV 2 hts gX7_digest_X7_longestNow rfl rfl rfl (by decide +kernel) ⟨Nat.le_of_ble_eq_true rfl, Nat.le_of_ble_eq_true rfl⟩) hE hK hP hD hS hA [0, 1, 2, 3, 4, 5] [] (by decide) rfl (by decide) (wr := []) rfl (by decide) (ci := 6) (T := TX7) (N := 10) (q0 := 0) rfl rfl hl.1 rfl rfl (Nat.le_of_ble_eq_true rfl) dX7_digest_190 ⟨(Nat.le_of_ble_eq_true rfl), (Nat.le_of_ble_eq_true rfl)⟩ (fun i17 H locs hP hD hS => ?_)
                  have hP : va_P (dC, dI) vwCl [(o, .inr (6, [.int (0 : Int32), .int mn, .int mch, .ref oc, .ref oi, .int mcl, .ref ol, .int mgo, .int mmo, .ref ob])), (oc, .inl (cI, 14, .inl mcf)), (oi, .inl (cI, 3, .inl mif)), (ol, .inl (cI, 24, .inl mlf)), (ob, .inl (cI, mbn, .inl mbf)), (i3, .inl (cI, r1.2, .inl r1.1))] H := hP
                  have hD : va_D A [(o, .inr (6, [.int (0 : Int32), .int mn, .int mch, .ref oc, .ref oi, .int mcl, .ref ol, .int mgo, .int mmo, .ref ob])), (oc, .inl (cI, 14, .inl mcf)), (oi, .inl (cI, 3, .inl mif)), (ol, .inl (cI, 24, .inl mlf)), (ob, .inl (cI, mbn, .inl mbf)), (i3, .inl (cI, r1.2, .inl r1.1))] := hD
                  refine lv_i2l (v := r15.toInt64) hx hb dX7_digest_193 rfl ?_
                  refine lv_ladd hx hb dX7_digest_194 ?_
                  refine lv_lstore_n (lv' := [(1, .long ((x1_172 * (31 : Int64)) + r15.toInt64)), (4, .int x4_172), (6, .int x6_139), (5, .int (Int32.ofNat r1.2)), (3, .ref i3), (0, .ref o)]) hx hb dX7_digest_195 rfl hl (by decide) rfl (fun ls hl => ?_)
                  refine lv_iinc (v := x4_172 + (1 : Int32)) (lv' := [(4, .int (x4_172 + (1 : Int32))), (1, .long ((x1_172 * (31 : Int64)) + r15.toInt64)), (6, .int x6_139), (5, .int (Int32.ofNat r1.2)), (3, .ref i3), (0, .ref o)]) hx hb dX7_digest_196 hl (k := 1) rfl rfl (by decide) rfl (fun ls hl => ?_)
                  refine lv_goto (tgt := 172) hx hb dX7_digest_199 (by decide) ?_
                  exact ih172 (x4_172 + (1 : Int32)) ((x1_172 * (31 : Int64)) + r15.toInt64) _ _ _ hF (hP.sub [0, 1, 2, 3, 4, 5] rfl) (hD.sub [0, 1, 2, 3, 4, 5] (by decide) rfl) hS (lv_sub hl [0, 2, 3, 4, 1, 5] rfl)
            exact L172 1000 (1 : Int32) x1_139 _ _ _ hF (hP.sub [0, 1, 2, 3, 4, 5] rfl) (hD.sub [0, 1, 2, 3, 4, 5] (by decide) rfl) hS (lv_sub hl [0, 1, 2, 3, 4, 5] rfl)
          have L139 : ∀ (n139 : Nat) (x6_139 : Int32) (x1_139 : Int64) (H : Heap) (locs : List Loc) (ls : Array Slot), fX7_digest_L139 r1 (fX7_digest_X139 mn r1 mch mcl mcf mif mlf) n139 x6_139 x1_139 = some r → va_P (dC, dI) vwCl [(o, .inr (6, [.int (0 : Int32), .int mn, .int mch, .ref oc, .ref oi, .int mcl, .ref ol, .int mgo, .int mmo, .ref ob])), (oc, .inl (cI, 14, .inl mcf)), (oi, .inl (cI, 3, .inl mif)), (ol, .inl (cI, 24, .inl mlf)), (ob, .inl (cI, mbn, .inl mbf)), (i3, .inl (cI, r1.2, .inl r1.1))] H → va_D A [(o, .inr (6, [.int (0 : Int32), .int mn, .int mch, .ref oc, .ref oi, .int mcl, .ref ol, .int mgo, .int mmo, .ref ob])), (oc, .inl (cI, 14, .inl mcf)), (oi, .inl (cI, 3, .inl mif)), (ol, .inl (cI, 24, .inl mlf)), (ob, .inl (cI, mbn, .inl mbf)), (i3, .inl (cI, r1.2, .inl r1.1))] → va_S A s.heap H locs → lv_has ls 8 [(6, .int x6_139), (5, .int (Int32.ofNat r1.2)), (4, .ref i3), (3, .ref i3), (1, .long x1_139), (0, .ref o)] → W p l e rmX7_digest s m ([.ref o] : List Value).toArray below meth c H locs 32314 229488 (MQ below (ct_Q (dC, dI) tys (fun _ : Nat => some (.long r)) (fun i : Nat => [(o, .inr (6, [.int (0 : Int32), .int mn, .int mch, .ref oc, .ref oi, .int mcl, .ref ol, .int (0 : Int32), .int (-1 : Int32), .ref i])), (oc, .inl (cI, 14, .inl mcf)), (oi, .inl (cI, 3, .inl mif)), (ol, .inl (cI, 24, .inl mlf)), (i, .inl (cI, 0, .inl (fun _ => 0)))]) A) ([.ref o] : List Value).toArray s rmX7_digest.cells rmX7_digest.slots A) (F0 m 139 ls []) := by
            intro n139
            induction n139 with
            | zero => intro x6_139 x1_139 H locs ls hF; rw [fX7_digest_L139] at hF; cases hF
            | succ n139 ih139 =>
              intro x6_139 x1_139 H locs ls hF hP hD hS hl
              rw [fX7_digest_L139] at hF
              refine lv_iload hx hb dX7_digest_139 (lv_at hl 0 rfl) ?_
              refine lv_iload hx hb dX7_digest_141 (lv_at hl 1 rfl) ?_
              refine lv_icmp_ge (tgt := 169) hx hb dX7_digest_143 (by decide) (fun c18 => ?_) (fun c18 => ?_)
              · have hF := (if_pos c18).symm.trans hF
                exact X139 x6_139 x1_139 _ _ _ hF (hP.sub [0, 1, 2, 3, 4, 5] rfl) (hD.sub [0, 1, 2, 3, 4, 5] (by decide) rfl) hS (lv_sub hl [0, 1, 2, 3, 4, 5] rfl)
              · have hF := (if_neg c18).symm.trans hF
                refine lv_aload hx hb dX7_digest_146 (lv_at hl 2 rfl) ?_
                refine lv_iload hx hb dX7_digest_148 (lv_at hl 0 rfl) ?_
                obtain ⟨g19, hF⟩ := gd_n hF
                refine va_iald hx hb hK hP 5 0 rfl ht0 g19 dX7_digest_150 ?_
                refine lv_istore (lv' := [(7, .int (r1.1 x6_139.toNatClampNeg)), (6, .int x6_139), (5, .int (Int32.ofNat r1.2)), (4, .ref i3), (3, .ref i3), (1, .long x1_139), (0, .ref o)]) hx hb dX7_digest_151 hl (by decide) rfl (fun ls hl => ?_)
                refine lv_lload_n hx hb dX7_digest_153 rfl (lv_at hl 5 rfl) ?_
                refine lv_ldc2 hx hb hown w3 dX7_digest_154 ?_
                refine lv_lmul hx hb dX7_digest_157 ?_
                refine lv_iload hx hb dX7_digest_158 (lv_at hl 0 rfl) ?_
                refine lv_i2l (v := (r1.1 x6_139.toNatClampNeg).toInt64) hx hb dX7_digest_160 rfl ?_
                refine lv_ladd hx hb dX7_digest_161 ?_
                refine lv_lstore_n (lv' := [(1, .long ((x1_139 * (31 : Int64)) + ((r1.1 x6_139.toNatClampNeg).toInt64))), (7, .int (r1.1 x6_139.toNatClampNeg)), (6, .int x6_139), (5, .int (Int32.ofNat r1.2)), (4, .ref i3), (3, .ref i3), (0, .ref o)]) hx hb dX7_digest_162 rfl hl (by decide) rfl (fun ls hl => ?_)
                refine lv_iinc (v := x6_139 + (1 : Int32)) (lv' := [(6, .int (x6_139 + (1 : Int32))), (1, .long ((x1_139 * (31 : Int64)) + ((r1.1 x6_139.toNatClampNeg).toInt64))), (7, .int (r1.1 x6_139.toNatClampNeg)), (5, .int (Int32.ofNat r1.2)), (4, .ref i3), (3, .ref i3), (0, .ref o)]) hx hb dX7_digest_163 hl (k := 2) rfl rfl (by decide) rfl (fun ls hl => ?_)
                refine lv_goto (tgt := 139) hx hb dX7_digest_166 (by decide) ?_
                exact ih139 (x6_139 + (1 : Int32)) ((x1_139 * (31 : Int64)) + ((r1.1 x6_139.toNatClampNeg).toInt64)) _ _ _ hF (hP.sub [0, 1, 2, 3, 4, 5] rfl) (hD.sub [0, 1, 2, 3, 4, 5] (by decide) rfl) hS (lv_sub hl [0, 3, 4, 5, 1, 6] rfl)
          exact L139 1000 (0 : Int32) x1_98 _ _ _ hF (hP.sub [0, 1, 2, 3, 4, 5] rfl) (hD.sub [0, 1, 2, 3, 4, 5] (by decide) rfl) hS (lv_sub hl [0, 1, 2, 3, 4, 5] rfl)
        have L98 : ∀ (n98 : Nat) (x3_98 : Int32) (x1_98 : Int64) (H : Heap) (locs : List Loc) (ls : Array Slot) (cc98 ss98 : Nat), cc98 + n98 * 1606 ≤ 32310 → ss98 + n98 * 11571 ≤ 229131 → fX7_digest_L98 mn mch mcl mcf mif mlf (fX7_digest_X98 mn mch mcl mcf mif mlf) n98 x3_98 x1_98 = some r → va_P (dC, dI) vwCl [(o, .inr (6, [.int (0 : Int32), .int mn, .int mch, .ref oc, .ref oi, .int mcl, .ref ol, .int mgo, .int mmo, .ref ob])), (oc, .inl (cI, 14, .inl mcf)), (oi, .inl (cI, 3, .inl mif)), (ol, .inl (cI, 24, .inl mlf)), (ob, .inl (cI, mbn, .inl mbf))] H → va_D A [(o, .inr (6, [.int (0 : Int32), .int mn, .int mch, .ref oc, .ref oi, .int mcl, .ref ol, .int mgo, .int mmo, .ref ob])), (oc, .inl (cI, 14, .inl mcf)), (oi, .inl (cI, 3, .inl mif)), (ol, .inl (cI, 24, .inl mlf)), (ob, .inl (cI, mbn, .inl mbf))] → va_S A s.heap H locs → lv_has ls 8 [(3, .int x3_98), (1, .long x1_98), (0, .ref o)] → W p l e rmX7_digest s m ([.ref o] : List Value).toArray below meth c H locs cc98 ss98 (MQ below (ct_Q (dC, dI) tys (fun _ : Nat => some (.long r)) (fun i : Nat => [(o, .inr (6, [.int (0 : Int32), .int mn, .int mch, .ref oc, .ref oi, .int mcl, .ref ol, .int (0 : Int32), .int (-1 : Int32), .ref i])), (oc, .inl (cI, 14, .inl mcf)), (oi, .inl (cI, 3, .inl mif)), (ol, .inl (cI, 24, .inl mlf)), (i, .inl (cI, 0, .inl (fun _ => 0)))]) A) ([.ref o] : List Value).toArray s rmX7_digest.cells rmX7_digest.slots A) (F0 m 98 ls []) := by
          intro n98
          induction n98 with
          | zero => intro x3_98 x1_98 H locs ls cc98 ss98 hcc98 hss98 hF; rw [fX7_digest_L98] at hF; cases hF
          | succ n98 ih98 =>
            intro x3_98 x1_98 H locs ls cc98 ss98 hcc98 hss98 hF hP hD hS hl
            rw [fX7_digest_L98] at hF
            refine lv_iload_n hx hb dX7_digest_98 rfl (lv_at hl 0 rfl) ?_
            refine lv_bipush (v := (8 : Int32)) hx hb dX7_digest_99 (by decide) ?_
            refine lv_icmp_ge (tgt := 123) hx hb dX7_digest_101 (by decide) (fun c20 => ?_) (fun c20 => ?_)
            · have hF := (if_pos c20).symm.trans hF
              refine W.widen (k := 32310) (n := 229131) (al_le (k := 0) (c1 := 1606) hcc98 (Nat.le_refl _) (Nat.le_of_ble_eq_true rfl)) (al_le (k := 0) (c1 := 11571) hss98 (Nat.le_refl _) (Nat.le_of_ble_eq_true rfl)) ?_
              exact X98 x3_98 x1_98 _ _ _ hF (hP.sub [0, 1, 2, 3, 4] rfl) (hD.sub [0, 1, 2, 3, 4] (by decide) rfl) hS (lv_sub hl [0, 1, 2] rfl)
            · have hF := (if_neg c20).symm.trans hF
              refine lv_lload_n hx hb dX7_digest_104 rfl (lv_at hl 1 rfl) ?_
              refine lv_ldc2 hx hb hown w3 dX7_digest_105 ?_
              refine lv_lmul hx hb dX7_digest_108 ?_
              refine lv_aload_n hx hb dX7_digest_109 rfl (lv_at hl 2 rfl) ?_
              refine lv_iload_n hx hb dX7_digest_110 rfl (lv_at hl 0 rfl) ?_
              obtain ⟨r21, hC22, hF⟩ := gd_b hF
              refine ct_callV (C := RX7) (As := [.int x3_98]) (rest := [.long (x1_98 * (31 : Int64))]) ⟨hx, hb, hml, hown, hts⟩ (kX7_touchNow l dC dI tys cI ht0 o oc oi ol ob (0 : Int32) mn mch mcl mgo mmo mcf mif mlf mbn mbf x3_98 r21 hC22) (cwV 1 hts gX7_digest_X7_touchNow rfl rfl rfl (by decide +kernel) ⟨Nat.le_of_ble_eq_true rfl, Nat.le_of_ble_eq_true rfl⟩) hE hK hP hD hS hA [0, 1, 2, 3, 4] [] (by decide) rfl (by decide) (wr := []) rfl (by decide) (ci := 6) (T := TX7) (N := 10) (q0 := 0) rfl rfl hl.1 rfl rfl (Nat.le_of_ble_eq_true rfl) dX7_digest_111 ⟨(show cc98 + 1606 ≤ 39789 from (al_le (k := 1606) (c1 := 1606) hcc98 (Nat.le_of_ble_eq_true rfl) (Nat.le_of_ble_eq_true rfl))), (show ss98 + 11571 ≤ 287655 from (al_le (k := 11571) (c1 := 11571) hss98 (Nat.le_of_ble_eq_true rfl) (Nat.le_of_ble_eq_true rfl)))⟩ (fun i23 H locs hP hD hS => ?_)
              refine W.widen (k := cc98 + 1606) (n := ss98 + 11571) (show cc98 + 1606 ≤ cc98 + 1606 from Nat.le_refl _) (show ss98 + 11571 ≤ ss98 + 11571 from Nat.le_refl _) ?_
              have hP : va_P (dC, dI) vwCl [(o, .inr (6, [.int (0 : Int32), .int mn, .int mch, .ref oc, .ref oi, .int mcl, .ref ol, .int mgo, .int mmo, .ref ob])), (oc, .inl (cI, 14, .inl mcf)), (oi, .inl (cI, 3, .inl mif)), (ol, .inl (cI, 24, .inl mlf)), (ob, .inl (cI, mbn, .inl mbf))] H := hP
              have hD : va_D A [(o, .inr (6, [.int (0 : Int32), .int mn, .int mch, .ref oc, .ref oi, .int mcl, .ref ol, .int mgo, .int mmo, .ref ob])), (oc, .inl (cI, 14, .inl mcf)), (oi, .inl (cI, 3, .inl mif)), (ol, .inl (cI, 24, .inl mlf)), (ob, .inl (cI, mbn, .inl mbf))] := hD
              refine lv_i2l (v := r21.toInt64) hx hb dX7_digest_114 rfl ?_
              refine lv_ladd hx hb dX7_digest_115 ?_
              refine lv_lstore_n (lv' := [(1, .long ((x1_98 * (31 : Int64)) + r21.toInt64)), (3, .int x3_98), (0, .ref o)]) hx hb dX7_digest_116 rfl hl (by decide) rfl (fun ls hl => ?_)
              refine lv_iinc (v := x3_98 + (1 : Int32)) (lv' := [(3, .int (x3_98 + (1 : Int32))), (1, .long ((x1_98 * (31 : Int64)) + r21.toInt64)), (0, .ref o)]) hx hb dX7_digest_117 hl (k := 1) rfl rfl (by decide) rfl (fun ls hl => ?_)
              refine lv_goto (tgt := 98) hx hb dX7_digest_120 (by decide) ?_
              exact ih98 (x3_98 + (1 : Int32)) ((x1_98 * (31 : Int64)) + r21.toInt64) _ _ _ (cc98 + 1606) (ss98 + 11571) (al_back (k := 1606) hcc98 (Nat.le_of_ble_eq_true rfl)) (al_back (k := 11571) hss98 (Nat.le_of_ble_eq_true rfl)) hF (hP.sub [0, 1, 2, 3, 4] rfl) (hD.sub [0, 1, 2, 3, 4] (by decide) rfl) hS (lv_sub hl [0, 1, 2] rfl)
        exact L98 9 (0 : Int32) x1_68 _ _ _ (17856) (124992) (Nat.le_refl _) (Nat.le_refl _) hF (hP.sub [0, 1, 2, 3, 4] rfl) (hD.sub [0, 1, 2, 3, 4] (by decide) rfl) hS (lv_sub hl [0, 1, 2] rfl)
      have L68 : ∀ (n68 : Nat) (x3_68 : Int32) (x1_68 : Int64) (H : Heap) (locs : List Loc) (ls : Array Slot), fX7_digest_L68 mcl mlf (fX7_digest_X68 mn mch mcl mcf mif mlf) n68 x3_68 x1_68 = some r → va_P (dC, dI) vwCl [(o, .inr (6, [.int (0 : Int32), .int mn, .int mch, .ref oc, .ref oi, .int mcl, .ref ol, .int mgo, .int mmo, .ref ob])), (oc, .inl (cI, 14, .inl mcf)), (oi, .inl (cI, 3, .inl mif)), (ol, .inl (cI, 24, .inl mlf)), (ob, .inl (cI, mbn, .inl mbf))] H → va_D A [(o, .inr (6, [.int (0 : Int32), .int mn, .int mch, .ref oc, .ref oi, .int mcl, .ref ol, .int mgo, .int mmo, .ref ob])), (oc, .inl (cI, 14, .inl mcf)), (oi, .inl (cI, 3, .inl mif)), (ol, .inl (cI, 24, .inl mlf)), (ob, .inl (cI, mbn, .inl mbf))] → va_S A s.heap H locs → lv_has ls 8 [(3, .int x3_68), (1, .long x1_68), (0, .ref o)] → W p l e rmX7_digest s m ([.ref o] : List Value).toArray below meth c H locs 17856 124992 (MQ below (ct_Q (dC, dI) tys (fun _ : Nat => some (.long r)) (fun i : Nat => [(o, .inr (6, [.int (0 : Int32), .int mn, .int mch, .ref oc, .ref oi, .int mcl, .ref ol, .int (0 : Int32), .int (-1 : Int32), .ref i])), (oc, .inl (cI, 14, .inl mcf)), (oi, .inl (cI, 3, .inl mif)), (ol, .inl (cI, 24, .inl mlf)), (i, .inl (cI, 0, .inl (fun _ => 0)))]) A) ([.ref o] : List Value).toArray s rmX7_digest.cells rmX7_digest.slots A) (F0 m 68 ls []) := by
        intro n68
        induction n68 with
        | zero => intro x3_68 x1_68 H locs ls hF; rw [fX7_digest_L68] at hF; cases hF
        | succ n68 ih68 =>
          intro x3_68 x1_68 H locs ls hF hP hD hS hl
          rw [fX7_digest_L68] at hF
          refine lv_iload_n hx hb dX7_digest_68 rfl (lv_at hl 0 rfl) ?_
          refine lv_aload_n hx hb dX7_digest_69 rfl (lv_at hl 2 rfl) ?_
          refine va_get (D := (dC, dI)) (ci := 6) (v := .int mcl) (C := RX7) (T := TX7) (N := 10) hx hb hts uX7 hown hK hP 0 rfl rfl 5 (by decide) w6 (fun _ h9 => h9) rfl dX7_digest_70 ?_
          refine lv_icmp_ge (tgt := 96) hx hb dX7_digest_73 (by decide) (fun c24 => ?_) (fun c24 => ?_)
          · have hF := (if_pos c24).symm.trans hF
            exact X68 x3_68 x1_68 _ _ _ hF (hP.sub [0, 1, 2, 3, 4] rfl) (hD.sub [0, 1, 2, 3, 4] (by decide) rfl) hS (lv_sub hl [0, 1, 2] rfl)
          · have hF := (if_neg c24).symm.trans hF
            refine lv_lload_n hx hb dX7_digest_76 rfl (lv_at hl 1 rfl) ?_
            refine lv_ldc2 hx hb hown w3 dX7_digest_77 ?_
            refine lv_lmul hx hb dX7_digest_80 ?_
            refine lv_aload_n hx hb dX7_digest_81 rfl (lv_at hl 2 rfl) ?_
            refine va_get (D := (dC, dI)) (ci := 6) (v := .ref ol) (C := RX7) (T := TX7) (N := 10) hx hb hts uX7 hown hK hP 0 rfl rfl 6 (by decide) w7 (fun _ h9 => h9) rfl dX7_digest_82 ?_
            refine lv_iload_n hx hb dX7_digest_85 rfl (lv_at hl 0 rfl) ?_
            obtain ⟨g25, hF⟩ := gd_n hF
            refine va_iald hx hb hK hP 3 0 rfl ht0 g25 dX7_digest_86 ?_
            refine lv_i2l (v := (mlf x3_68.toNatClampNeg).toInt64) hx hb dX7_digest_87 rfl ?_
            refine lv_ladd hx hb dX7_digest_88 ?_
            refine lv_lstore_n (lv' := [(1, .long ((x1_68 * (31 : Int64)) + ((mlf x3_68.toNatClampNeg).toInt64))), (3, .int x3_68), (0, .ref o)]) hx hb dX7_digest_89 rfl hl (by decide) rfl (fun ls hl => ?_)
            refine lv_iinc (v := x3_68 + (1 : Int32)) (lv' := [(3, .int (x3_68 + (1 : Int32))), (1, .long ((x1_68 * (31 : Int64)) + ((mlf x3_68.toNatClampNeg).toInt64))), (0, .ref o)]) hx hb dX7_digest_90 hl (k := 1) rfl rfl (by decide) rfl (fun ls hl => ?_)
            refine lv_goto (tgt := 68) hx hb dX7_digest_93 (by decide) ?_
            exact ih68 (x3_68 + (1 : Int32)) ((x1_68 * (31 : Int64)) + ((mlf x3_68.toNatClampNeg).toInt64)) _ _ _ hF (hP.sub [0, 1, 2, 3, 4] rfl) (hD.sub [0, 1, 2, 3, 4] (by decide) rfl) hS (lv_sub hl [0, 1, 2] rfl)
      exact L68 1000 (0 : Int32) x1_38 _ _ _ hF (hP.sub [0, 1, 2, 3, 4] rfl) (hD.sub [0, 1, 2, 3, 4] (by decide) rfl) hS (lv_sub hl [0, 1, 2] rfl)
    have L38 : ∀ (n38 : Nat) (x3_38 : Int32) (x1_38 : Int64) (H : Heap) (locs : List Loc) (ls : Array Slot), fX7_digest_L38 mch mcf (fX7_digest_X38 mcl mlf mn mch mcf mif) n38 x3_38 x1_38 = some r → va_P (dC, dI) vwCl [(o, .inr (6, [.int (0 : Int32), .int mn, .int mch, .ref oc, .ref oi, .int mcl, .ref ol, .int mgo, .int mmo, .ref ob])), (oc, .inl (cI, 14, .inl mcf)), (oi, .inl (cI, 3, .inl mif)), (ol, .inl (cI, 24, .inl mlf)), (ob, .inl (cI, mbn, .inl mbf))] H → va_D A [(o, .inr (6, [.int (0 : Int32), .int mn, .int mch, .ref oc, .ref oi, .int mcl, .ref ol, .int mgo, .int mmo, .ref ob])), (oc, .inl (cI, 14, .inl mcf)), (oi, .inl (cI, 3, .inl mif)), (ol, .inl (cI, 24, .inl mlf)), (ob, .inl (cI, mbn, .inl mbf))] → va_S A s.heap H locs → lv_has ls 8 [(3, .int x3_38), (1, .long x1_38), (0, .ref o)] → W p l e rmX7_digest s m ([.ref o] : List Value).toArray below meth c H locs 17856 124992 (MQ below (ct_Q (dC, dI) tys (fun _ : Nat => some (.long r)) (fun i : Nat => [(o, .inr (6, [.int (0 : Int32), .int mn, .int mch, .ref oc, .ref oi, .int mcl, .ref ol, .int (0 : Int32), .int (-1 : Int32), .ref i])), (oc, .inl (cI, 14, .inl mcf)), (oi, .inl (cI, 3, .inl mif)), (ol, .inl (cI, 24, .inl mlf)), (i, .inl (cI, 0, .inl (fun _ => 0)))]) A) ([.ref o] : List Value).toArray s rmX7_digest.cells rmX7_digest.slots A) (F0 m 38 ls []) := by
      intro n38
      induction n38 with
      | zero => intro x3_38 x1_38 H locs ls hF; rw [fX7_digest_L38] at hF; cases hF
      | succ n38 ih38 =>
        intro x3_38 x1_38 H locs ls hF hP hD hS hl
        rw [fX7_digest_L38] at hF
        refine lv_iload_n hx hb dX7_digest_38 rfl (lv_at hl 0 rfl) ?_
        refine lv_aload_n hx hb dX7_digest_39 rfl (lv_at hl 2 rfl) ?_
        refine va_get (D := (dC, dI)) (ci := 6) (v := .int mch) (C := RX7) (T := TX7) (N := 10) hx hb hts uX7 hown hK hP 0 rfl rfl 2 (by decide) w4 (fun _ h9 => h9) rfl dX7_digest_40 ?_
        refine lv_icmp_ge (tgt := 66) hx hb dX7_digest_43 (by decide) (fun c26 => ?_) (fun c26 => ?_)
        · have hF := (if_pos c26).symm.trans hF
          exact X38 x3_38 x1_38 _ _ _ hF (hP.sub [0, 1, 2, 3, 4] rfl) (hD.sub [0, 1, 2, 3, 4] (by decide) rfl) hS (lv_sub hl [0, 1, 2] rfl)
        · have hF := (if_neg c26).symm.trans hF
          refine lv_lload_n hx hb dX7_digest_46 rfl (lv_at hl 1 rfl) ?_
          refine lv_ldc2 hx hb hown w3 dX7_digest_47 ?_
          refine lv_lmul hx hb dX7_digest_50 ?_
          refine lv_aload_n hx hb dX7_digest_51 rfl (lv_at hl 2 rfl) ?_
          refine va_get (D := (dC, dI)) (ci := 6) (v := .ref oc) (C := RX7) (T := TX7) (N := 10) hx hb hts uX7 hown hK hP 0 rfl rfl 3 (by decide) w5 (fun _ h9 => h9) rfl dX7_digest_52 ?_
          refine lv_iload_n hx hb dX7_digest_55 rfl (lv_at hl 0 rfl) ?_
          obtain ⟨g27, hF⟩ := gd_n hF
          refine va_iald hx hb hK hP 1 0 rfl ht0 g27 dX7_digest_56 ?_
          refine lv_i2l (v := (mcf x3_38.toNatClampNeg).toInt64) hx hb dX7_digest_57 rfl ?_
          refine lv_ladd hx hb dX7_digest_58 ?_
          refine lv_lstore_n (lv' := [(1, .long ((x1_38 * (31 : Int64)) + ((mcf x3_38.toNatClampNeg).toInt64))), (3, .int x3_38), (0, .ref o)]) hx hb dX7_digest_59 rfl hl (by decide) rfl (fun ls hl => ?_)
          refine lv_iinc (v := x3_38 + (1 : Int32)) (lv' := [(3, .int (x3_38 + (1 : Int32))), (1, .long ((x1_38 * (31 : Int64)) + ((mcf x3_38.toNatClampNeg).toInt64))), (0, .ref o)]) hx hb dX7_digest_60 hl (k := 1) rfl rfl (by decide) rfl (fun ls hl => ?_)
          refine lv_goto (tgt := 38) hx hb dX7_digest_63 (by decide) ?_
          exact ih38 (x3_38 + (1 : Int32)) ((x1_38 * (31 : Int64)) + ((mcf x3_38.toNatClampNeg).toInt64)) _ _ _ hF (hP.sub [0, 1, 2, 3, 4] rfl) (hD.sub [0, 1, 2, 3, 4] (by decide) rfl) hS (lv_sub hl [0, 1, 2] rfl)
    exact L38 1000 (0 : Int32) x1_11 _ _ _ hF (hP.sub [0, 1, 2, 3, 4] rfl) (hD.sub [0, 1, 2, 3, 4] (by decide) rfl) hS (lv_sub hl [0, 1, 2] rfl)
  have L11 : ∀ (n11 : Nat) (x3_11 : Int32) (x1_11 : Int64) (H : Heap) (locs : List Loc) (ls : Array Slot) (cc11 ss11 : Nat), cc11 + n11 * 1984 ≤ 17856 → ss11 + n11 * 13888 ≤ 124992 → fX7_digest_L11 mn mch mcl mcf mif (fX7_digest_X11 mch mcf mcl mlf mn mif) n11 x3_11 x1_11 = some r → va_P (dC, dI) vwCl [(o, .inr (6, [.int (0 : Int32), .int mn, .int mch, .ref oc, .ref oi, .int mcl, .ref ol, .int mgo, .int mmo, .ref ob])), (oc, .inl (cI, 14, .inl mcf)), (oi, .inl (cI, 3, .inl mif)), (ol, .inl (cI, 24, .inl mlf)), (ob, .inl (cI, mbn, .inl mbf))] H → va_D A [(o, .inr (6, [.int (0 : Int32), .int mn, .int mch, .ref oc, .ref oi, .int mcl, .ref ol, .int mgo, .int mmo, .ref ob])), (oc, .inl (cI, 14, .inl mcf)), (oi, .inl (cI, 3, .inl mif)), (ol, .inl (cI, 24, .inl mlf)), (ob, .inl (cI, mbn, .inl mbf))] → va_S A s.heap H locs → lv_has ls 8 [(3, .int x3_11), (1, .long x1_11), (0, .ref o)] → W p l e rmX7_digest s m ([.ref o] : List Value).toArray below meth c H locs cc11 ss11 (MQ below (ct_Q (dC, dI) tys (fun _ : Nat => some (.long r)) (fun i : Nat => [(o, .inr (6, [.int (0 : Int32), .int mn, .int mch, .ref oc, .ref oi, .int mcl, .ref ol, .int (0 : Int32), .int (-1 : Int32), .ref i])), (oc, .inl (cI, 14, .inl mcf)), (oi, .inl (cI, 3, .inl mif)), (ol, .inl (cI, 24, .inl mlf)), (i, .inl (cI, 0, .inl (fun _ => 0)))]) A) ([.ref o] : List Value).toArray s rmX7_digest.cells rmX7_digest.slots A) (F0 m 11 ls []) := by
    intro n11
    induction n11 with
    | zero => intro x3_11 x1_11 H locs ls cc11 ss11 hcc11 hss11 hF; rw [fX7_digest_L11] at hF; cases hF
    | succ n11 ih11 =>
      intro x3_11 x1_11 H locs ls cc11 ss11 hcc11 hss11 hF hP hD hS hl
      rw [fX7_digest_L11] at hF
      refine lv_iload_n hx hb dX7_digest_11 rfl (lv_at hl 0 rfl) ?_
      refine lv_bipush (v := (6 : Int32)) hx hb dX7_digest_12 (by decide) ?_
      refine lv_icmp_ge (tgt := 36) hx hb dX7_digest_14 (by decide) (fun c28 => ?_) (fun c28 => ?_)
      · have hF := (if_pos c28).symm.trans hF
        refine W.widen (k := 17856) (n := 124992) (al_le (k := 0) (c1 := 1984) hcc11 (Nat.le_refl _) (Nat.le_of_ble_eq_true rfl)) (al_le (k := 0) (c1 := 13888) hss11 (Nat.le_refl _) (Nat.le_of_ble_eq_true rfl)) ?_
        exact X11 x3_11 x1_11 _ _ _ hF (hP.sub [0, 1, 2, 3, 4] rfl) (hD.sub [0, 1, 2, 3, 4] (by decide) rfl) hS (lv_sub hl [0, 1, 2] rfl)
      · have hF := (if_neg c28).symm.trans hF
        refine lv_lload_n hx hb dX7_digest_17 rfl (lv_at hl 1 rfl) ?_
        refine lv_ldc2 hx hb hown w3 dX7_digest_18 ?_
        refine lv_lmul hx hb dX7_digest_21 ?_
        refine lv_aload_n hx hb dX7_digest_22 rfl (lv_at hl 2 rfl) ?_
        refine lv_iload_n hx hb dX7_digest_23 rfl (lv_at hl 0 rfl) ?_
        obtain ⟨r29, hC30, hF⟩ := gd_b hF
        refine ct_callV (C := RX7) (As := [.int x3_11]) (rest := [.long (x1_11 * (31 : Int64))]) ⟨hx, hb, hml, hown, hts⟩ (kX7_toldNow l dC dI tys cI ht0 o oc oi ol ob (0 : Int32) mn mch mcl mgo mmo mcf mif mlf mbn mbf x3_11 r29 hC30) (cwV 1 hts gX7_digest_X7_toldNow rfl rfl rfl (by decide +kernel) ⟨Nat.le_of_ble_eq_true rfl, Nat.le_of_ble_eq_true rfl⟩) hE hK hP hD hS hA [0, 1, 2, 3, 4] [] (by decide) rfl (by decide) (wr := []) rfl (by decide) (ci := 6) (T := TX7) (N := 10) (q0 := 0) rfl rfl hl.1 rfl rfl (Nat.le_of_ble_eq_true rfl) dX7_digest_24 ⟨(show cc11 + 1984 ≤ 39789 from (al_le (k := 1984) (c1 := 1984) hcc11 (Nat.le_of_ble_eq_true rfl) (Nat.le_of_ble_eq_true rfl))), (show ss11 + 13888 ≤ 287655 from (al_le (k := 13888) (c1 := 13888) hss11 (Nat.le_of_ble_eq_true rfl) (Nat.le_of_ble_eq_true rfl)))⟩ (fun i31 H locs hP hD hS => ?_)
        refine W.widen (k := cc11 + 1984) (n := ss11 + 13888) (show cc11 + 1984 ≤ cc11 + 1984 from Nat.le_refl _) (show ss11 + 13888 ≤ ss11 + 13888 from Nat.le_refl _) ?_
        have hP : va_P (dC, dI) vwCl [(o, .inr (6, [.int (0 : Int32), .int mn, .int mch, .ref oc, .ref oi, .int mcl, .ref ol, .int mgo, .int mmo, .ref ob])), (oc, .inl (cI, 14, .inl mcf)), (oi, .inl (cI, 3, .inl mif)), (ol, .inl (cI, 24, .inl mlf)), (ob, .inl (cI, mbn, .inl mbf))] H := hP
        have hD : va_D A [(o, .inr (6, [.int (0 : Int32), .int mn, .int mch, .ref oc, .ref oi, .int mcl, .ref ol, .int mgo, .int mmo, .ref ob])), (oc, .inl (cI, 14, .inl mcf)), (oi, .inl (cI, 3, .inl mif)), (ol, .inl (cI, 24, .inl mlf)), (ob, .inl (cI, mbn, .inl mbf))] := hD
        refine lv_i2l (v := r29.toInt64) hx hb dX7_digest_27 rfl ?_
        refine lv_ladd hx hb dX7_digest_28 ?_
        refine lv_lstore_n (lv' := [(1, .long ((x1_11 * (31 : Int64)) + r29.toInt64)), (3, .int x3_11), (0, .ref o)]) hx hb dX7_digest_29 rfl hl (by decide) rfl (fun ls hl => ?_)
        refine lv_iinc (v := x3_11 + (1 : Int32)) (lv' := [(3, .int (x3_11 + (1 : Int32))), (1, .long ((x1_11 * (31 : Int64)) + r29.toInt64)), (0, .ref o)]) hx hb dX7_digest_30 hl (k := 1) rfl rfl (by decide) rfl (fun ls hl => ?_)
        refine lv_goto (tgt := 11) hx hb dX7_digest_33 (by decide) ?_
        exact ih11 (x3_11 + (1 : Int32)) ((x1_11 * (31 : Int64)) + r29.toInt64) _ _ _ (cc11 + 1984) (ss11 + 13888) (al_back (k := 1984) hcc11 (Nat.le_of_ble_eq_true rfl)) (al_back (k := 13888) hss11 (Nat.le_of_ble_eq_true rfl)) hF (hP.sub [0, 1, 2, 3, 4] rfl) (hD.sub [0, 1, 2, 3, 4] (by decide) rfl) hS (lv_sub hl [0, 1, 2] rfl)
  exact L11 9 (0 : Int32) (1045 : Int64) _ _ _ (0) (0) (Nat.le_refl _) (Nat.le_refl _) hF (hP.sub [0, 1, 2, 3, 4] rfl) (hD.sub [0, 1, 2, 3, 4] (by decide) rfl) hS (lv_sub hl [0, 1, 2] rfl)
