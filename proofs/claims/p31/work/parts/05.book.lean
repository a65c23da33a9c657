def fJ7_fill_53178_X5  (x2_5 : Int32) (f0_5 : (Nat → Int32)) : Option (Nat → Int32) := some (f0_5)
def fJ7_fill_53178_L5 (oan : Nat) (p1 : Int32) (K5 : Int32 → (Nat → Int32) → Option (Nat → Int32)) : Nat → Int32 → (Nat → Int32) → Option (Nat → Int32)
  | 0, _, _ => none
  | n + 1, x2_5, f0_5 => if (Int32.ofNat oan) ≤ x2_5 then (K5 x2_5 f0_5) else (if (x2_5 < 0 ∨ oan ≤ x2_5.toNatClampNeg) then none else ((fJ7_fill_53178_L5 oan p1 K5 n) (x2_5 + (1 : Int32)) (upd f0_5 x2_5.toNatClampNeg p1)))
def fJ7_fill_53178 (oan : Nat) (of : (Nat → Int32)) (p1 : Int32) : Option (Nat → Int32) := fJ7_fill_53178_L5 oan p1 fJ7_fill_53178_X5 6000 (0 : Int32) of
abbrev rmJ7_fill_53178 : Room := { frames := 0, cells := 0, slots := 0, locals := 0 }
set_option maxHeartbeats 4000000 in
set_option maxRecDepth 100000 in
theorem kJ7_fill_53178 (l : Launch) (dC : Nat → ClassId) (dI : Nat → Nat → Nat) (tys : List (ClassId × FieldType)) (cI : ClassId) (ht0 : tys[0]? = some (cI, .int)) (oa : Nat) (oan : Nat) (of : (Nat → Int32)) (p1 : Int32) (r : (Nat → Int32)) (hF : fJ7_fill_53178 oan of p1 = some r) : ct l (dC, dI) tys yJ7_fill_53178 wsJ7_fill_53178 rmJ7_fill_53178 [.ref oa, .int p1] [(oa, .inl (cI, oan, .inl of))] (fun _ : Unit => none) (fun _ : Unit => [(oa, .inl (cI, oan, .inl r))]) := by
  refine ct_of (cc := cJ7_fill_53178) (maxL := 4) (ret := none) (by decide) rfl (Nat.le_of_ble_eq_true rfl) ?_
  intro p e s m below meth c A ls hx hb hr hml hts hown hlocks hname hE hK hP hD hA hS hl
  have hown : s.vm.findClass RJ7 = some m.cls := hown
  have hl : lv_has ls 4 [(0, .ref oa), (1, .int p1)] := hl
  unfold fJ7_fill_53178 at hF
  refine lv_iconst (v := (0 : Int32)) hx hb dJ7_fill_53178_0 (by decide) ?_
  refine lv_istore_n (lv' := [(2, .int (0 : Int32)), (0, .ref oa), (1, .int p1)]) hx hb dJ7_fill_53178_1 rfl hl (by decide) rfl (fun ls hl => ?_)
  refine lv_aload_n hx hb dJ7_fill_53178_2 rfl (lv_at hl 1 rfl) ?_
  refine va_alen hx hb hK hP 0 0 rfl ht0 (v := Int32.ofNat oan) rfl dJ7_fill_53178_3 ?_
  refine lv_istore_n (lv' := [(3, .int (Int32.ofNat oan)), (2, .int (0 : Int32)), (0, .ref oa), (1, .int p1)]) hx hb dJ7_fill_53178_4 rfl hl (by decide) rfl (fun ls hl => ?_)
  have X5 : ∀ (x2_5 : Int32) (f0_5 : (Nat → Int32)) (H : Heap) (locs : List Loc) (ls : Array Slot), fJ7_fill_53178_X5 x2_5 f0_5 = some r → va_P (dC, dI) vwCl [(oa, .inl (cI, oan, .inl f0_5))] H → va_D A [(oa, .inl (cI, oan, .inl f0_5))] → va_S A s.heap H locs → lv_has ls 4 [(3, .int (Int32.ofNat oan)), (2, .int x2_5), (0, .ref oa), (1, .int p1)] → W p l e rmJ7_fill_53178 s m ([.ref oa, .int p1] : List Value).toArray below meth c H locs 0 0 (MQ below (ct_Q (dC, dI) tys (fun _ : Unit => none) (fun _ : Unit => [(oa, .inl (cI, oan, .inl r))]) A) ([.ref oa, .int p1] : List Value).toArray s rmJ7_fill_53178.cells rmJ7_fill_53178.slots A) (F0 m 20 ls []) := by
    intro x2_5 f0_5 H locs ls hF hP hD hS hl
    unfold fJ7_fill_53178_X5 at hF
    obtain rfl := Option.some.inj hF
    exact ct_v hx hb hr hlocks hK hP hD hS () rfl [0] (by decide) rfl (Nat.le_of_ble_eq_true rfl) (Nat.le_of_ble_eq_true rfl) dJ7_fill_53178_20
  have L5 : ∀ (n5 : Nat) (x2_5 : Int32) (f0_5 : (Nat → Int32)) (H : Heap) (locs : List Loc) (ls : Array Slot), fJ7_fill_53178_L5 oan p1 fJ7_fill_53178_X5 n5 x2_5 f0_5 = some r → va_P (dC, dI) vwCl [(oa, .inl (cI, oan, .inl f0_5))] H → va_D A [(oa, .inl (cI, oan, .inl f0_5))] → va_S A s.heap H locs → lv_has ls 4 [(3, .int (Int32.ofNat oan)), (2, .int x2_5), (0, .ref oa), (1, .int p1)] → W p l e rmJ7_fill_53178 s m ([.ref oa, .int p1] : List Value).toArray below meth c H locs 0 0 (MQ below (ct_Q (dC, dI) tys (fun _ : Unit => none) (fun _ : Unit => [(oa, .inl (cI, oan, .inl r))]) A) ([.ref oa, .int p1] : List Value).toArray s rmJ7_fill_53178.cells rmJ7_fill_53178.slots A) (F0 m 5 ls []) := by
    intro n5
    induction n5 with
    | zero => intro x2_5 f0_5 H locs ls hF; rw [fJ7_fill_53178_L5] at hF; cases hF
    | succ n5 ih5 =>
      intro x2_5 f0_5 H locs ls hF hP hD hS hl
      rw [fJ7_fill_53178_L5] at hF
      refine lv_iload_n hx hb dJ7_fill_53178_5 rfl (lv_at hl 1 rfl) ?_
      refine lv_iload_n hx hb dJ7_fill_53178_6 rfl (lv_at hl 0 rfl) ?_
      refine lv_icmp_ge (tgt := 20) hx hb dJ7_fill_53178_7 (by decide) (fun c1 => ?_) (fun c1 => ?_)
      · have hF := (if_pos c1).symm.trans hF
        exact X5 x2_5 f0_5 _ _ _ hF (hP.sub [0] rfl) (hD.sub [0] (by decide) rfl) hS (lv_sub hl [0, 1, 2, 3] rfl)
      · have hF := (if_neg c1).symm.trans hF
        refine lv_aload_n hx hb dJ7_fill_53178_10 rfl (lv_at hl 2 rfl) ?_
        refine lv_iload_n hx hb dJ7_fill_53178_11 rfl (lv_at hl 1 rfl) ?_
        refine lv_iload_n hx hb dJ7_fill_53178_12 rfl (lv_at hl 3 rfl) ?_
        obtain ⟨g2, hF⟩ := gd_n hF
        refine va_iast hx hb hK hP hD hS 0 0 rfl ht0 g2 dJ7_fill_53178_13 (fun H locs hP hD hS => ?_)
        have hP : va_P (dC, dI) vwCl [(oa, .inl (cI, oan, .inl (upd f0_5 x2_5.toNatClampNeg p1)))] H := hP
        have hD : va_D A [(oa, .inl (cI, oan, .inl (upd f0_5 x2_5.toNatClampNeg p1)))] := hD
        refine lv_iinc (v := x2_5 + (1 : Int32)) (lv' := [(2, .int (x2_5 + (1 : Int32))), (3, .int (Int32.ofNat oan)), (0, .ref oa), (1, .int p1)]) hx hb dJ7_fill_53178_14 hl (k := 1) rfl rfl (by decide) rfl (fun ls hl => ?_)
        refine lv_goto (tgt := 5) hx hb dJ7_fill_53178_17 (by decide) ?_
        exact ih5 (x2_5 + (1 : Int32)) (upd f0_5 x2_5.toNatClampNeg p1) _ _ _ hF (hP.sub [0] rfl) (hD.sub [0] (by decide) rfl) hS (lv_sub hl [1, 0, 2, 3] rfl)
  exact L5 6000 (0 : Int32) of _ _ _ hF (hP.sub [0] rfl) (hD.sub [0] (by decide) rfl) hS (lv_sub hl [0, 1, 2, 3] rfl)

def fX0_init  : Option Unit := some ()
abbrev rmX0_init : Room := { frames := 1, cells := 1, slots := 5040, locals := 20 }
set_option maxHeartbeats 4000000 in
set_option maxRecDepth 100000 in
theorem kX0_init (l : Launch) (dC : Nat → ClassId) (dI : Nat → Nat → Nat) (tys : List (ClassId × FieldType)) (cI : ClassId) (ht0 : tys[0]? = some (cI, .int)) (o : Nat)  (r : Unit) (hF : fX0_init  = some r) : ct l (dC, dI) tys yX0_init wsX0_init rmX0_init [.ref o] [(o, .inr (0, [.null]))] (fun _ : Nat => none) (fun i : Nat => [(o, .inr (0, [.ref i])), (i, .inl (cI, 5040, .inl (fun _ => 0)))]) := by
  refine ct_of (cc := cX0_init) (maxL := 1) (ret := none) (by decide) rfl (Nat.le_of_ble_eq_true rfl) ?_
  intro p e s m below meth c A ls hx hb hr hml hts hown hlocks hname hE hK hP hD hA hS hl
  have hown : s.vm.findClass RX0 = some m.cls := hown
  have hl : lv_has ls 1 [(0, .ref o)] := hl
  unfold fX0_init at hF
  have w0 := hts (.methodLink RX0 3 objectInit) (List.mem_cons_of_mem _ (List.mem_append_left _ (List.mem_of_getElem? (i := 0) rfl)))
  have w1 := hts (.instanceMethod objectInit) (List.mem_cons_of_mem _ (List.mem_append_left _ (List.mem_of_getElem? (i := 1) rfl)))
  have w2 := hts (.code objectInit ⟨#[0xb1]⟩ 1 none) (List.mem_cons_of_mem _ (List.mem_append_left _ (List.mem_of_getElem? (i := 2) rfl)))
  have w3 := hts (.arrayClass .int) (List.mem_cons_of_mem _ (List.mem_append_left _ (List.mem_of_getElem? (i := 3) rfl)))
  have uX0 : ∀ w ∈ wsX00, w ∈ wsX0_init := (fun _ h => (List.mem_cons_of_mem _ (List.mem_append_right _ h)))
  have w5 := hts (.fieldLink RX0 9 "BellfounderTower$Book" "notes" "[I") (List.mem_cons_of_mem _ (List.mem_append_left _ (List.mem_of_getElem? (i := 4) rfl)))
  refine lv_aload_n hx hb dX0_init_0 rfl (lv_at hl 0 rfl) ?_
  refine W.objInit hx hb hown w0 w1 w2 rfl (by rw [hml]; exact hl.1) rfl dX0_init_1 (Nat.le_of_ble_eq_true rfl) (Nat.le_of_ble_eq_true rfl) ?_
  refine W.eq (g2 := F0 m 4 ls []) rfl ?_
  refine lv_aload_n hx hb dX0_init_4 rfl (lv_at hl 0 rfl) ?_
  refine lv_sipush (v := (5040 : Int32)) hx hb dX0_init_5 (by decide) ?_
  refine ct_newi hx hb w3 ht0 hK hP hD hS hA (N' := 5040) (by decide) (by decide) (Nat.le_of_ble_eq_true rfl) (Nat.le_of_ble_eq_true rfl) (Nat.le_of_ble_eq_true rfl) dX0_init_8 (fun q3 H hP hD hS => ?_)
  have hP : va_P (dC, dI) vwCl [(o, .inr (0, [.null])), (q3, .inl (cI, 5040, .inl (fun _ => 0)))] H := hP
  have hD : va_D A [(o, .inr (0, [.null])), (q3, .inl (cI, 5040, .inl (fun _ => 0)))] := hD
  refine va_putF (D := (dC, dI)) (ci := 0) (v := .ref q3) (ty := .array .int) (C := RX0) (T := TX0) (N := 1) hx hb hts uX0 tyX0 tyX0_ok nmX0 hown hK hP hD hS 0 rfl rfl 0 (by decide) w5 (fun _ h9 => h9) rfl hname rfl (by decide +kernel) rfl rfl (Nat.le_of_ble_eq_true rfl) dX0_init_10 (fun H locs hP hD hS => ?_)
  have hP : va_P (dC, dI) vwCl [(o, .inr (0, [.ref q3])), (q3, .inl (cI, 5040, .inl (fun _ => 0)))] H := hP
  have hD : va_D A [(o, .inr (0, [.ref q3])), (q3, .inl (cI, 5040, .inl (fun _ => 0)))] := hD
  obtain rfl := Option.some.inj hF
  exact ct_v hx hb hr hlocks hK hP hD hS q3 rfl [0, 1] (by decide) rfl (Nat.le_of_ble_eq_true rfl) (Nat.le_of_ble_eq_true rfl) dX0_init_13

def fX0_firstNumber (on : Nat) (of : (Nat → Int32)) (p0 : Int32) : Option Int32 := if p0 < 0 then (some ((-1 : Int32))) else (if (Int32.ofNat on) ≤ p0 then (some ((-1 : Int32))) else (if (p0 < 0 ∨ on ≤ p0.toNatClampNeg) then none else (some ((of p0.toNatClampNeg) - (1 : Int32)))))
abbrev rmX0_firstNumber : Room := { frames := 0, cells := 0, slots := 0, locals := 0 }
set_option maxHeartbeats 4000000 in
set_option maxRecDepth 100000 in
theorem kX0_firstNumber (l : Launch) (dC : Nat → ClassId) (dI : Nat → Nat → Nat) (tys : List (ClassId × FieldType)) (cI : ClassId) (ht0 : tys[0]? = some (cI, .int)) (o oa : Nat) (on : Nat) (of : (Nat → Int32)) (p0 : Int32) (r : Int32) (hF : fX0_firstNumber on of p0 = some r) : ct l (dC, dI) tys yX0_firstNumber wsX0_firstNumber rmX0_firstNumber [.ref o, .int p0] [(o, .inr (0, [.ref oa])), (oa, .inl (cI, on, .inl of))] (fun _ : Unit => some (.int r)) (fun _ : Unit => [(o, .inr (0, [.ref oa])), (oa, .inl (cI, on, .inl of))]) := by
  refine ct_of (cc := cX0_firstNumber) (maxL := 2) (ret := (some .int)) (by decide) rfl (Nat.le_of_ble_eq_true rfl) ?_
  intro p e s m below meth c A ls hx hb hr hml hts hown hlocks hname hE hK hP hD hA hS hl
  have hown : s.vm.findClass RX0 = some m.cls := hown
  have hl : lv_has ls 2 [(0, .ref o), (1, .int p0)] := hl
  unfold fX0_firstNumber at hF
  have uX0 : ∀ w ∈ wsX00, w ∈ wsX0_firstNumber := (fun _ h => (List.mem_cons_of_mem _ (List.mem_append_right _ h)))
  have w1 := hts (.fieldLink RX0 9 "BellfounderTower$Book" "notes" "[I") (List.mem_cons_of_mem _ (List.mem_append_left _ (List.mem_of_getElem? (i := 0) rfl)))
  refine lv_iload_n hx hb dX0_firstNumber_0 rfl (lv_at hl 1 rfl) ?_
  refine lv_if_lt (tgt := 24) hx hb dX0_firstNumber_1 (by decide) (fun c1 => ?_) (fun c1 => ?_)
  · have hF := (if_pos c1).symm.trans hF
    refine lv_iconst (v := (-1 : Int32)) hx hb dX0_firstNumber_24 (by decide) ?_
    obtain rfl := Option.some.inj hF
    exact ct_i hx hb hr hlocks hK hP hD hS () rfl [0, 1] (by decide) rfl (Nat.le_of_ble_eq_true rfl) (Nat.le_of_ble_eq_true rfl) dX0_firstNumber_25
  · have hF := (if_neg c1).symm.trans hF
    refine lv_iload_n hx hb dX0_firstNumber_4 rfl (lv_at hl 1 rfl) ?_
    refine lv_aload_n hx hb dX0_firstNumber_5 rfl (lv_at hl 0 rfl) ?_
    refine va_get (D := (dC, dI)) (ci := 0) (v := .ref oa) (C := RX0) (T := TX0) (N := 1) hx hb hts uX0 hown hK hP 0 rfl rfl 0 (by decide) w1 (fun _ h9 => h9) rfl dX0_firstNumber_6 ?_
    refine va_alen hx hb hK hP 1 0 rfl ht0 (v := Int32.ofNat on) rfl dX0_firstNumber_9 ?_
    refine lv_icmp_ge (tgt := 24) hx hb dX0_firstNumber_10 (by decide) (fun c2 => ?_) (fun c2 => ?_)
    · have hF := (if_pos c2).symm.trans hF
      refine lv_iconst (v := (-1 : Int32)) hx hb dX0_firstNumber_24 (by decide) ?_
      obtain rfl := Option.some.inj hF
      exact ct_i hx hb hr hlocks hK hP hD hS () rfl [0, 1] (by decide) rfl (Nat.le_of_ble_eq_true rfl) (Nat.le_of_ble_eq_true rfl) dX0_firstNumber_25
    · have hF := (if_neg c2).symm.trans hF
      refine lv_aload_n hx hb dX0_firstNumber_13 rfl (lv_at hl 0 rfl) ?_
      refine va_get (D := (dC, dI)) (ci := 0) (v := .ref oa) (C := RX0) (T := TX0) (N := 1) hx hb hts uX0 hown hK hP 0 rfl rfl 0 (by decide) w1 (fun _ h9 => h9) rfl dX0_firstNumber_14 ?_
      refine lv_iload_n hx hb dX0_firstNumber_17 rfl (lv_at hl 1 rfl) ?_
      obtain ⟨g3, hF⟩ := gd_n hF
      refine va_iald hx hb hK hP 1 0 rfl ht0 g3 dX0_firstNumber_18 ?_
      refine lv_iconst (v := (1 : Int32)) hx hb dX0_firstNumber_19 (by decide) ?_
      refine lv_isub hx hb dX0_firstNumber_20 ?_
      refine lv_goto (tgt := 25) hx hb dX0_firstNumber_21 (by decide) ?_
      obtain rfl := Option.some.inj hF
      exact ct_i hx hb hr hlocks hK hP hD hS () rfl [0, 1] (by decide) rfl (Nat.le_of_ble_eq_true rfl) (Nat.le_of_ble_eq_true rfl) dX0_firstNumber_25

def fX0_note (on : Nat) (of : (Nat → Int32)) (p0 : Int32) (p1 : Int32) : Option (Nat → Int32) := if p0 < 0 then (some (of)) else (if (Int32.ofNat on) ≤ p0 then (some (of)) else (if (p0 < 0 ∨ on ≤ p0.toNatClampNeg) then none else (some (upd of p0.toNatClampNeg (p1 + (1 : Int32))))))
abbrev rmX0_note : Room := { frames := 0, cells := 0, slots := 0, locals := 0 }
set_option maxHeartbeats 4000000 in
set_option maxRecDepth 100000 in
theorem kX0_note (l : Launch) (dC : Nat → ClassId) (dI : Nat → Nat → Nat) (tys : List (ClassId × FieldType)) (cI : ClassId) (ht0 : tys[0]? = some (cI, .int)) (o oa : Nat) (on : Nat) (of : (Nat → Int32)) (p0 : Int32) (p1 : Int32) (r : (Nat → Int32)) (hF : fX0_note on of p0 p1 = some r) : ct l (dC, dI) tys yX0_note wsX0_note rmX0_note [.ref o, .int p0, .int p1] [(o, .inr (0, [.ref oa])), (oa, .inl (cI, on, .inl of))] (fun _ : Unit => none) (fun _ : Unit => [(o, .inr (0, [.ref oa])), (oa, .inl (cI, on, .inl r))]) := by
  refine ct_of (cc := cX0_note) (maxL := 3) (ret := none) (by decide) rfl (Nat.le_of_ble_eq_true rfl) ?_
  intro p e s m below meth c A ls hx hb hr hml hts hown hlocks hname hE hK hP hD hA hS hl
  have hown : s.vm.findClass RX0 = some m.cls := hown
  have hl : lv_has ls 3 [(0, .ref o), (1, .int p0), (2, .int p1)] := hl
  unfold fX0_note at hF
  have uX0 : ∀ w ∈ wsX00, w ∈ wsX0_note := (fun _ h => (List.mem_cons_of_mem _ (List.mem_append_right _ h)))
  have w1 := hts (.fieldLink RX0 9 "BellfounderTower$Book" "notes" "[I") (List.mem_cons_of_mem _ (List.mem_append_left _ (List.mem_of_getElem? (i := 0) rfl)))
  refine lv_iload_n hx hb dX0_note_0 rfl (lv_at hl 1 rfl) ?_
  refine lv_if_lt (tgt := 22) hx hb dX0_note_1 (by decide) (fun c1 => ?_) (fun c1 => ?_)
  · have hF := (if_pos c1).symm.trans hF
    obtain rfl := Option.some.inj hF
    exact ct_v hx hb hr hlocks hK hP hD hS () rfl [0, 1] (by decide) rfl (Nat.le_of_ble_eq_true rfl) (Nat.le_of_ble_eq_true rfl) dX0_note_22
  · have hF := (if_neg c1).symm.trans hF
    refine lv_iload_n hx hb dX0_note_4 rfl (lv_at hl 1 rfl) ?_
    refine lv_aload_n hx hb dX0_note_5 rfl (lv_at hl 0 rfl) ?_
    refine va_get (D := (dC, dI)) (ci := 0) (v := .ref oa) (C := RX0) (T := TX0) (N := 1) hx hb hts uX0 hown hK hP 0 rfl rfl 0 (by decide) w1 (fun _ h9 => h9) rfl dX0_note_6 ?_
    refine va_alen hx hb hK hP 1 0 rfl ht0 (v := Int32.ofNat on) rfl dX0_note_9 ?_
    refine lv_icmp_ge (tgt := 22) hx hb dX0_note_10 (by decide) (fun c2 => ?_) (fun c2 => ?_)
    · have hF := (if_pos c2).symm.trans hF
      obtain rfl := Option.some.inj hF
      exact ct_v hx hb hr hlocks hK hP hD hS () rfl [0, 1] (by decide) rfl (Nat.le_of_ble_eq_true rfl) (Nat.le_of_ble_eq_true rfl) dX0_note_22
    · have hF := (if_neg c2).symm.trans hF
      refine lv_aload_n hx hb dX0_note_13 rfl (lv_at hl 0 rfl) ?_
      refine va_get (D := (dC, dI)) (ci := 0) (v := .ref oa) (C := RX0) (T := TX0) (N := 1) hx hb hts uX0 hown hK hP 0 rfl rfl 0 (by decide) w1 (fun _ h9 => h9) rfl dX0_note_14 ?_
      refine lv_iload_n hx hb dX0_note_17 rfl (lv_at hl 1 rfl) ?_
      refine lv_iload_n hx hb dX0_note_18 rfl (lv_at hl 2 rfl) ?_
      refine lv_iconst (v := (1 : Int32)) hx hb dX0_note_19 (by decide) ?_
      refine lv_iadd hx hb dX0_note_20 ?_
      obtain ⟨g3, hF⟩ := gd_n hF
      refine va_iast hx hb hK hP hD hS 1 0 rfl ht0 g3 dX0_note_21 (fun H locs hP hD hS => ?_)
      have hP : va_P (dC, dI) vwCl [(o, .inr (0, [.ref oa])), (oa, .inl (cI, on, .inl (upd of p0.toNatClampNeg (p1 + (1 : Int32)))))] H := hP
      have hD : va_D A [(o, .inr (0, [.ref oa])), (oa, .inl (cI, on, .inl (upd of p0.toNatClampNeg (p1 + (1 : Int32)))))] := hD
      obtain rfl := Option.some.inj hF
      exact ct_v hx hb hr hlocks hK hP hD hS () rfl [0, 1] (by decide) rfl (Nat.le_of_ble_eq_true rfl) (Nat.le_of_ble_eq_true rfl) dX0_note_22

def fX0_strike (on : Nat) (of : (Nat → Int32)) (p0 : Int32) : Option (Nat → Int32) := (fX0_note on of p0 (-1 : Int32)).bind (fun r1 => some (r1))
abbrev rmX0_strike : Room := { frames := 1, cells := 0, slots := 0, locals := 22 }
set_option maxHeartbeats 4000000 in
set_option maxRecDepth 100000 in
theorem kX0_strike (l : Launch) (dC : Nat → ClassId) (dI : Nat → Nat → Nat) (tys : List (ClassId × FieldType)) (cI : ClassId) (ht0 : tys[0]? = some (cI, .int)) (o oa : Nat) (on : Nat) (of : (Nat → Int32)) (p0 : Int32) (r : (Nat → Int32)) (hF : fX0_strike on of p0 = some r) : ct l (dC, dI) tys yX0_strike wsX0_strike rmX0_strike [.ref o, .int p0] [(o, .inr (0, [.ref oa])), (oa, .inl (cI, on, .inl of))] (fun _ : Unit => none) (fun _ : Unit => [(o, .inr (0, [.ref oa])), (oa, .inl (cI, on, .inl r))]) := by
  refine ct_of (cc := cX0_strike) (maxL := 2) (ret := none) (by decide) rfl (Nat.le_of_ble_eq_true rfl) ?_
  intro p e s m below meth c A ls hx hb hr hml hts hown hlocks hname hE hK hP hD hA hS hl
  have hown : s.vm.findClass RX0 = some m.cls := hown
  have hl : lv_has ls 2 [(0, .ref o), (1, .int p0)] := hl
  unfold fX0_strike at hF
  refine lv_aload_n hx hb dX0_strike_0 rfl (lv_at hl 0 rfl) ?_
  refine lv_iload_n hx hb dX0_strike_1 rfl (lv_at hl 1 rfl) ?_
  refine lv_iconst (v := (-1 : Int32)) hx hb dX0_strike_2 (by decide) ?_
  obtain ⟨r1, hC2, hF⟩ := gd_b hF
  refine ct_callV (C := RX0) (As := [.int p0, .int (-1 : Int32)]) (rest := []) ⟨hx, hb, hml, hown, hts⟩ (kX0_note l dC dI tys cI ht0 o oa on of p0 (-1 : Int32) r1 hC2) (cwV 2 hts gX0_strike_X0_note rfl rfl rfl (by decide +kernel) ⟨Nat.le_of_ble_eq_true rfl, Nat.le_of_ble_eq_true rfl⟩) hE hK hP hD hS hA [0, 1] [] (by decide) rfl (by decide) (wr := []) rfl (by decide) (ci := 0) (T := TX0) (N := 1) (q0 := 0) rfl rfl hl.1 rfl rfl (Nat.le_of_ble_eq_true rfl) dX0_strike_3 ⟨(Nat.le_of_ble_eq_true rfl), (Nat.le_of_ble_eq_true rfl)⟩ (fun i3 H locs hP hD hS => ?_)
  have hP : va_P (dC, dI) vwCl [(o, .inr (0, [.ref oa])), (oa, .inl (cI, on, .inl r1))] H := hP
  have hD : va_D A [(o, .inr (0, [.ref oa])), (oa, .inl (cI, on, .inl r1))] := hD
  obtain rfl := Option.some.inj hF
  exact ct_v hx hb hr hlocks hK hP hD hS () rfl [0, 1] (by decide) rfl (Nat.le_of_ble_eq_true rfl) (Nat.le_of_ble_eq_true rfl) dX0_strike_6

def fX0_clear (on : Nat) (of : (Nat → Int32)) : Option (Nat → Int32) := (fJ7_fill_53178 on of (0 : Int32)).bind (fun r1 => some (r1))
abbrev rmX0_clear : Room := { frames := 1, cells := 0, slots := 0, locals := 23 }
set_option maxHeartbeats 4000000 in
set_option maxRecDepth 100000 in
theorem kX0_clear (l : Launch) (dC : Nat → ClassId) (dI : Nat → Nat → Nat) (tys : List (ClassId × FieldType)) (cI : ClassId) (ht0 : tys[0]? = some (cI, .int)) (o oa : Nat) (on : Nat) (of : (Nat → Int32)) (r : (Nat → Int32)) (hF : fX0_clear on of = some r) : ct l (dC, dI) tys yX0_clear wsX0_clear rmX0_clear [.ref o] [(o, .inr (0, [.ref oa])), (oa, .inl (cI, on, .inl of))] (fun _ : Unit => none) (fun _ : Unit => [(o, .inr (0, [.ref oa])), (oa, .inl (cI, on, .inl r))]) := by
  refine ct_of (cc := cX0_clear) (maxL := 1) (ret := none) (by decide) rfl (Nat.le_of_ble_eq_true rfl) ?_
  intro p e s m below meth c A ls hx hb hr hml hts hown hlocks hname hE hK hP hD hA hS hl
  have hown : s.vm.findClass RX0 = some m.cls := hown
  have hl : lv_has ls 1 [(0, .ref o)] := hl
  unfold fX0_clear at hF
  have uX0 : ∀ w ∈ wsX00, w ∈ wsX0_clear := (fun _ h => (List.mem_cons_of_mem _ (List.mem_append_right _ h)))
  have w1 := hts (.fieldLink RX0 9 "BellfounderTower$Book" "notes" "[I") (List.mem_cons_of_mem _ (List.mem_append_left _ (List.mem_of_getElem? (i := 0) rfl)))
  refine lv_aload_n hx hb dX0_clear_0 rfl (lv_at hl 0 rfl) ?_
  refine va_get (D := (dC, dI)) (ci := 0) (v := .ref oa) (C := RX0) (T := TX0) (N := 1) hx hb hts uX0 hown hK hP 0 rfl rfl 0 (by decide) w1 (fun _ h9 => h9) rfl dX0_clear_1 ?_
  refine lv_iconst (v := (0 : Int32)) hx hb dX0_clear_4 (by decide) ?_
  obtain ⟨r1, hC2, hF⟩ := gd_b hF
  refine ct_callS (As := [.ref oa, .int (0 : Int32)]) (rest := []) ⟨hx, hb, hml, hown, hts⟩ (kJ7_fill_53178 l dC dI tys cI ht0 oa on of (0 : Int32) r1 hC2) (va_cwS 2 hts gX0_clear_J7_fill_53178 rfl rfl rfl (by decide +kernel) ⟨Nat.le_of_ble_eq_true rfl, Nat.le_of_ble_eq_true rfl⟩) hE hK hP hD hS hA [1] [0] (by decide) rfl (by decide) (wr := [(o, .inr (0, [.ref oa]))]) rfl (by decide) hl.1 rfl rfl (Nat.le_of_ble_eq_true rfl) dX0_clear_5 ⟨(Nat.le_of_ble_eq_true rfl), (Nat.le_of_ble_eq_true rfl)⟩ (fun i3 H locs hP hD hS => ?_)
  have hP : va_P (dC, dI) vwCl [(o, .inr (0, [.ref oa])), (oa, .inl (cI, on, .inl r1))] H := hP
  have hD : va_D A [(o, .inr (0, [.ref oa])), (oa, .inl (cI, on, .inl r1))] := hD
  obtain rfl := Option.some.inj hF
  exact ct_v hx hb hr hlocks hK hP hD hS () rfl [0, 1] (by decide) rfl (Nat.le_of_ble_eq_true rfl) (Nat.le_of_ble_eq_true rfl) dX0_clear_8

def fX1_init (p0 : Int32) : Option Nat := if (if p0 < (0 : Int32) then (0 : Int32) else p0) < 0 then none else if ¬ (if p0 < (0 : Int32) then (0 : Int32) else p0).toNatClampNeg ≤ 336 then none else (some ((if p0 < (0 : Int32) then (0 : Int32) else p0).toNatClampNeg))
abbrev rmX1_init : Room := { frames := 1, cells := 1, slots := 336, locals := 21 }
set_option maxHeartbeats 4000000 in
set_option maxRecDepth 100000 in
theorem kX1_init (l : Launch) (dC : Nat → ClassId) (dI : Nat → Nat → Nat) (tys : List (ClassId × FieldType)) (cI : ClassId) (ht0 : tys[0]? = some (cI, .int)) (o : Nat) (p0 : Int32) (r : Nat) (hF : fX1_init p0 = some r) : ct l (dC, dI) tys yX1_init wsX1_init rmX1_init [.ref o, .int p0] [(o, .inr (1, [.null, .int (0 : Int32)]))] (fun _ : Nat => none) (fun i : Nat => [(o, .inr (1, [.ref i, .int (0 : Int32)])), (i, .inl (cI, r, .inl (fun _ => 0)))]) := by
  refine ct_of (cc := cX1_init) (maxL := 2) (ret := none) (by decide) rfl (Nat.le_of_ble_eq_true rfl) ?_
  intro p e s m below meth c A ls hx hb hr hml hts hown hlocks hname hE hK hP hD hA hS hl
  have hown : s.vm.findClass RX1 = some m.cls := hown
  have hl : lv_has ls 2 [(0, .ref o), (1, .int p0)] := hl
  unfold fX1_init at hF
  have w0 := hts (.methodLink RX1 3 objectInit) (List.mem_cons_of_mem _ (List.mem_append_left _ (List.mem_of_getElem? (i := 0) rfl)))
  have w1 := hts (.instanceMethod objectInit) (List.mem_cons_of_mem _ (List.mem_append_left _ (List.mem_of_getElem? (i := 1) rfl)))
  have w2 := hts (.code objectInit ⟨#[0xb1]⟩ 1 none) (List.mem_cons_of_mem _ (List.mem_append_left _ (List.mem_of_getElem? (i := 2) rfl)))
  have w3 := hts (.methodLink RX1 9 Lib.Math.max.name) (List.mem_cons_of_mem _ (List.mem_append_left _ (List.mem_of_getElem? (i := 3) rfl)))
  have w4 := hts (.static Lib.Math.max.name) (List.mem_cons_of_mem _ (List.mem_append_left _ (List.mem_of_getElem? (i := 4) rfl)))
  have w5 := hts (.initialized "java/lang/Math") (List.mem_cons_of_mem _ (List.mem_append_left _ (List.mem_of_getElem? (i := 5) rfl)))
  have w6 := hts (.code Lib.Math.max.name Lib.Math.max.code 2 (some .int)) (List.mem_cons_of_mem _ (List.mem_append_left _ (List.mem_of_getElem? (i := 6) rfl)))
  have w7 := hts (.arrayClass .int) (List.mem_cons_of_mem _ (List.mem_append_left _ (List.mem_of_getElem? (i := 7) rfl)))
  have uX1 : ∀ w ∈ wsX10, w ∈ wsX1_init := (fun _ h => (List.mem_cons_of_mem _ (List.mem_append_right _ h)))
  have w9 := hts (.fieldLink RX1 15 "BellfounderTower$Line" "cells" "[I") (List.mem_cons_of_mem _ (List.mem_append_left _ (List.mem_of_getElem? (i := 8) rfl)))
  refine lv_aload_n hx hb dX1_init_0 rfl (lv_at hl 0 rfl) ?_
  refine W.objInit hx hb hown w0 w1 w2 rfl (by rw [hml]; exact hl.1) rfl dX1_init_1 (Nat.le_of_ble_eq_true rfl) (Nat.le_of_ble_eq_true rfl) ?_
  refine W.eq (g2 := F0 m 4 ls []) rfl ?_
  refine lv_aload_n hx hb dX1_init_4 rfl (lv_at hl 0 rfl) ?_
  refine lv_iload_n hx hb dX1_init_5 rfl (lv_at hl 1 rfl) ?_
  refine lv_iconst (v := (0 : Int32)) hx hb dX1_init_6 (by decide) ?_
  refine va_mmax hx hb (hml.trans hl.1.symm) hown w3 w4 w5 w6 (Nat.le_of_ble_eq_true rfl) (Nat.le_of_ble_eq_true rfl) (Nat.le_of_ble_eq_true rfl) (Nat.le_of_ble_eq_true rfl) dX1_init_7 ?_
  obtain ⟨g1, hF⟩ := gd_n hF
  obtain ⟨g2, hF⟩ := gd_n hF
  have g2 := Decidable.not_not.mp g2
  refine ct_newi hx hb w7 ht0 hK hP hD hS hA (N' := (if p0 < (0 : Int32) then (0 : Int32) else p0).toNatClampNeg) g1 rfl (by omega) (Nat.le_of_ble_eq_true rfl) (Nat.le_trans (Nat.add_le_add_left g2 _) (Nat.le_of_ble_eq_true rfl)) dX1_init_10 (fun q3 H hP hD hS => ?_)
  refine W.widen (k := 1) (n := 336) (show 0 + 1 ≤ 1 from Nat.le_refl _) (show 0 + (if p0 < (0 : Int32) then (0 : Int32) else p0).toNatClampNeg ≤ 336 from Nat.add_le_add_left g2 _) ?_
  have hP : va_P (dC, dI) vwCl [(o, .inr (1, [.null, .int (0 : Int32)])), (q3, .inl (cI, (if p0 < (0 : Int32) then (0 : Int32) else p0).toNatClampNeg, .inl (fun _ => 0)))] H := hP
  have hD : va_D A [(o, .inr (1, [.null, .int (0 : Int32)])), (q3, .inl (cI, (if p0 < (0 : Int32) then (0 : Int32) else p0).toNatClampNeg, .inl (fun _ => 0)))] := hD
  refine va_putF (D := (dC, dI)) (ci := 1) (v := .ref q3) (ty := .array .int) (C := RX1) (T := TX1) (N := 2) hx hb hts uX1 tyX1 tyX1_ok nmX1 hown hK hP hD hS 0 rfl rfl 0 (by decide) w9 (fun _ h9 => h9) rfl hname rfl (by decide +kernel) rfl rfl (Nat.le_of_ble_eq_true rfl) dX1_init_12 (fun H locs hP hD hS => ?_)
  have hP : va_P (dC, dI) vwCl [(o, .inr (1, [.ref q3, .int (0 : Int32)])), (q3, .inl (cI, (if p0 < (0 : Int32) then (0 : Int32) else p0).toNatClampNeg, .inl (fun _ => 0)))] H := hP
  have hD : va_D A [(o, .inr (1, [.ref q3, .int (0 : Int32)])), (q3, .inl (cI, (if p0 < (0 : Int32) then (0 : Int32) else p0).toNatClampNeg, .inl (fun _ => 0)))] := hD
  obtain rfl := Option.some.inj hF
  exact ct_v hx hb hr hlocks hK hP hD hS q3 rfl [0, 1] (by decide) rfl (Nat.le_of_ble_eq_true rfl) (Nat.le_of_ble_eq_true rfl) dX1_init_15
