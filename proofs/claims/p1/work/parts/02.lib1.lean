def nwl : List (String × Nat × MethodName × String) := [("BellfounderTower", 9, ⟨"BellfounderTower$Method", "<init>", "()V"⟩, "BellfounderTower"), ("BellfounderTower$Touch", 25, ⟨"BellfounderTower$Book", "<init>", "()V"⟩, "BellfounderTower")]
def strl : List (String × Nat × String) := [("BellfounderTower", 106, "what is 0 to 5"), ("BellfounderTower", 173, "what is 0 to 7"), ("BellfounderTower", 34, "there are 4 to 7 bells"), ("BellfounderTower", 237, "no change"), ("BellfounderTower", 65, "the method has 14 changes"), ("BellfounderTower", 74, "the method has no changes, or would have more than 14"), ("BellfounderTower", 79, "the method has no changes"), ("BellfounderTower", 84, "1 is the bob, 2 the single"), ("BellfounderTower", 110, "no such place in the method"), ("BellfounderTower", 252, "no row"), ("BellfounderTower", 239, "a call is 0 to 2"), ("BellfounderTower", 132, "there are 24 calls"), ("BellfounderTower", 140, "there is no call"), ("BellfounderTower", 241, "no such place among the calls"), ("BellfounderTower", 243, "no such row in the touch"), ("BellfounderTower", 245, "no such bell"), ("BellfounderTower", 247, "0 to 5 leads are looked at"), ("BellfounderTower", 217, "no good touch, or no such place in it")]
def dcl : List MethodName := [⟨"java/lang/RuntimeException", "<init>", "()V"⟩, ⟨"java/lang/RuntimeException", "<init>", "(Ljava/lang/String;)V"⟩, ⟨"java/lang/Exception", "<init>", "()V"⟩, ⟨"java/lang/Exception", "<init>", "(Ljava/lang/String;)V"⟩, ⟨"java/lang/Throwable", "<init>", "()V"⟩, ⟨"java/lang/Throwable", "<init>", "(Ljava/lang/String;)V"⟩]
def cstl : List (String × String) := [("java/lang/IllegalArgumentException", "java/lang/IllegalArgumentException"), ("java/lang/IllegalStateException", "java/lang/IllegalStateException"), ("java/lang/IndexOutOfBoundsException", "java/lang/IndexOutOfBoundsException")]
def ncl : List (String × String) := [("java/lang/IllegalStateException", "java/lang/IllegalArgumentException"), ("java/lang/IndexOutOfBoundsException", "java/lang/IllegalArgumentException"), ("java/lang/IllegalArgumentException", "java/lang/IllegalStateException"), ("java/lang/IndexOutOfBoundsException", "java/lang/IllegalStateException"), ("java/lang/IllegalArgumentException", "java/lang/IndexOutOfBoundsException"), ("java/lang/IllegalStateException", "java/lang/IndexOutOfBoundsException")]

/-! LIB 1: contracts of one given outcome, their start, their end, their calls -/
theorem ct_fm {α β : Type} {f : α → Option β} : ∀ {is : List α} {w : List β}, is.map f = w.map some → is.filterMap f = w := by
  intro is
  induction is with
  | nil => intro w h; cases w with
    | nil => rfl
    | cons a t => cases h
  | cons i is ih => intro w h; cases w with
    | nil => cases h
    | cons a t =>
      simp only [List.map_cons, List.cons.injEq] at h
      rw [List.filterMap_cons_some h.1, ih h.2]
/-- what the tables say beside the methods' words: links to private members of nest mates, text constants -/
def EX (U : State) : Prop := (∀ q ∈ nwl, va_Nw (.methodLinkNest q.1 q.2.1 q.2.2.1 q.2.2.2) U) ∧ (∀ q ∈ strl, ∃ sa, vk_R q.1 q.2.1 q.2.2 sa U) ∧ (∀ q ∈ dcl, va_Nw (.declares q) U) ∧ (∀ q ∈ cstl, va_Nw (.castable q.1 q.2) U) ∧ (∀ q ∈ ncl, va_Nc q.1 q.2 U) ∧ ((Cond.arrayOver (.array .int)).before #[] U = true)
theorem EX.same {u U : State} (hv : U.vm = u.vm) (h : EX u) : EX U := ⟨fun q hq => va_Nw.same rfl hv.symm (h.1 q hq), fun q hq => (h.2.1 q hq).imp fun a ha => vk_R.same hv ha, fun q hq => va_Nw.same rfl hv.symm (h.2.2.1 q hq), fun q hq => va_Nw.same rfl hv.symm (h.2.2.2.1 q hq), fun q hq => va_Nc.moved (by rw [hv]; exact Vm.Alike.refl u.vm) (h.2.2.2.2.1 q hq), over_moved (by rw [hv]; exact Vm.Alike.refl u.vm) h.2.2.2.2.2⟩
theorem EX.warm {s U : State} (hW : s.WarmedH U.vm) (h : EX s) : EX U := ⟨fun q hq => va_Nw.warmM hW (h.1 q hq), fun q hq => (h.2.1 q hq).imp fun a ha => vk_R.warm hW ha, fun q hq => va_Nw.warmD hW (h.2.2.1 q hq), fun q hq => va_Nw.warmC hW (h.2.2.2.1 q hq), fun q hq => va_Nc.moved hW.alike (h.2.2.2.2.1 q hq), over_moved hW.alike h.2.2.2.2.2⟩
/-- the start: the world w, the heap's size sz -/
def ct_Pre (D : va_G) (tys : List (ClassId × FieldType)) (w : va_W) (sz : Nat) : State → Prop := fun U => U.heap.size = sz ∧ va_P D vwCl w U.heap ∧ va_K D vwCl tys U ∧ va_D (fun _ => True) w ∧ EX U
/-- the end: rv i is returned, the world is w' i -/
def ct_Q {ι : Type} (D : va_G) (tys : List (ClassId × FieldType)) (rv : ι → Option Value) (w' : ι → va_W) (A : Nat → Prop) : Array Value → State → Outcome → State → Prop := fun _ st oc t => (∃ i, oc = .returned (rv i) ∧ va_P D vwCl (w' i) t.heap ∧ va_K D vwCl tys t ∧ va_D A (w' i)) ∧ va_F A st t
def ct {ι : Type} (l : Launch) (D : va_G) (tys : List (ClassId × FieldType)) (y : MethodName) (wm : List Cond) (rm : Room) (av : List Value) (w : va_W) (rv : ι → Option Value) (w' : ι → va_W) : Prop :=
  ∀ sz, Met l y wm rm (va_Pc av (ct_Pre D tys w sz)) (ct_Q D tys rv w' (va_A w sz)) rm.cells rm.slots (va_A w sz)
theorem ct_blind {D : va_G} {tys : List (ClassId × FieldType)} {w : va_W} {sz : Nat} {av : List Value} : FrameBlind (va_Pc av (ct_Pre D tys w sz)) := fun a U g mk q => by
  obtain ⟨q0, q1, qP, qK, qD, qE⟩ := q
  exact ⟨q0, q1, qP, va_K.moved (u := U) (U := U.calling g mk a) (Vm.Alike.refl U.vm) qK, qD, EX.same (U := U.calling g mk a) rfl qE⟩
theorem ct_of {ι : Type} {l : Launch} {D : va_G} {tys : List (ClassId × FieldType)} {y : MethodName} {wm ws' : List Cond} {rm : Room} {av : List Value} {w : va_W} {rv : ι → Option Value} {w' : ι → va_W} {cc : ByteArray} {maxL : Nat} {ret : Option FieldType}
    (hy : plainName y.cls = true) (hw : wm = Cond.code y cc maxL ret :: ws') (hlen : (lg_sl av).length ≤ maxL)
    (body : ∀ (p : Program) (e : Env) (s : State) (m : MethodId) (below : List Frame) (meth : Method) (c : Code) (A : Nat → Prop) (ls : Array Slot),
      p.tables.exec = Jvm.exec → c.code = cc → meth.sig.returnType = ret → c.maxLocals = maxL → (∀ x ∈ wm, x.before av.toArray s = true) → s.vm.findClass y.cls = some m.cls → meth.locks = false → meth.name = y.name →
      EX s → va_K D vwCl tys s → va_P D vwCl w s.heap → va_D A w → (∀ q : Nat, s.heap.size ≤ q → A q) → va_S A s.heap s.heap [] → lv_has ls maxL (lv_args 0 av) →
      W p l e rm s m av.toArray below meth c s.heap [] 0 0 (MQ below (ct_Q D tys rv w' A) av.toArray s rm.cells rm.slots A) (F0 m 0 ls [])) : ct l D tys y wm rm av w rv w' := by
  intro sz
  refine Met.ofW (cc := cc) (maxL := maxL) (ret := ret) hy hw ?_
  intro p e s m args below meth c s₁ B hml hv
  obtain ⟨rfl, hsz, hP, hK, hD0, hE⟩ := hv
  have hts := atoms_spec (ws := wm) B.pre
  have hown : s.vm.findClass y.cls = some m.cls := findClass_of_methodNamed B.named
  subst hsz
  have hD := hD0.self (sz := s.heap.size)
  have hA : ∀ q : Nat, s.heap.size ≤ q → va_A w s.heap.size q := fun q h => Or.inr h
  have hl := lv_entry av (n := maxL) hlen
  rw [lg_entry_eq]
  exact body p e s m below meth c (va_A w s.heap.size) _ B.exec B.bytes B.returns hml hts hown B.notSynchronized (name_of_methodNamed B.named B.method).1 hE hK hP hD hA va_S.rf hl
section CTR
variable {p : Program} {l : Launch} {e : Env} {R : Room} {s : State} {m : MethodId} {args : Array Value} {below : List Frame} {meth : Method} {c : Code} {H : Heap} {locs : List Loc} {cells slots : Nat} {Q : State → Prop}
variable {ι : Type} {D : va_G} {tys : List (ClassId × FieldType)} {rv : ι → Option Value} {w' : ι → va_W} {A A0 A1 : Nat → Prop} {ws wc wr : va_W} {H0 : Heap} {mc ms : Nat} {cc : ByteArray} {pc : Nat} {ls : Array Slot}
theorem ct_end {H : Heap} (hK : va_K D vwCl tys s) (hP : va_P D vwCl ws H) (hD : va_D A ws) (hS : va_S A s.heap H locs) (i : ι) (is : List Nat) (hn : va_nd is = true) (hs : is.map (fun k => ws[k]?) = (w' i).map some) (t : State) (ht : t.heap = H) (hW : s.WarmedH t.vm) (a : Array Value) : ct_Q D tys rv w' A a s (.returned (rv i)) t :=
  ⟨⟨i, rfl, by rw [ht]; exact hP.sub is (ct_fm hs), va_K.moved hW.alike hK, hD.sub is hn hs⟩, hS.F ht⟩
theorem ct_i (hx : p.tables.exec = Jvm.exec) (hb : c.code = cc) (hr : meth.sig.returnType = some .int) (hlocks : meth.locks = false) (hK : va_K D vwCl tys s) (hP : va_P D vwCl ws H) (hD : va_D A ws) (hS : va_S A s.heap H locs) (i : ι) {v : Int32} (hi : rv i = some (.int v)) (is : List Nat) (hn : va_nd is = true) (hs : is.map (fun k => ws[k]?) = (w' i).map some) (hc : cells ≤ mc) (hsl : slots ≤ ms) (hdg : decode cc pc = .ok (.ireturn, 1)) :
    W p l e R s m args below meth c H locs cells slots (MQ below (ct_Q D tys rv w' A) args s mc ms A) (F0 m pc ls [.int v]) := by
  refine W.widen hc hsl ?_
  exact W.iret hx hb hr (fun t ht hW => by have h := ct_end hK hP hD hS i is hn hs t ht hW args (rv := rv); rw [hi] at h; exact h) hS.2.2 hdg hlocks
theorem ct_z {ty : FieldType} (hx : p.tables.exec = Jvm.exec) (hb : c.code = cc) (hr : meth.sig.returnType = some ty) (hlocks : meth.locks = false) (hK : va_K D vwCl tys s) (hP : va_P D vwCl ws H) (hD : va_D A ws) (hS : va_S A s.heap H locs) (i : ι) {v : Int32} (hnw : narrow ty (.int v) = .int v) (hi : rv i = some (.int v)) (is : List Nat) (hn : va_nd is = true) (hs : is.map (fun k => ws[k]?) = (w' i).map some) (hc : cells ≤ mc) (hsl : slots ≤ ms) (hdg : decode cc pc = .ok (.ireturn, 1)) :
    W p l e R s m args below meth c H locs cells slots (MQ below (ct_Q D tys rv w' A) args s mc ms A) (F0 m pc ls [.int v]) := by
  refine W.widen hc hsl ?_
  exact W.zret hx hb hr hnw (fun t ht hW => by have h := ct_end hK hP hD hS i is hn hs t ht hW args (rv := rv); rw [hi] at h; exact h) hS.2.2 hdg hlocks
theorem ct_v (hx : p.tables.exec = Jvm.exec) (hb : c.code = cc) (hr : meth.sig.returnType = none) (hlocks : meth.locks = false) (hK : va_K D vwCl tys s) (hP : va_P D vwCl ws H) (hD : va_D A ws) (hS : va_S A s.heap H locs) (i : ι) (hi : rv i = none) (is : List Nat) (hn : va_nd is = true) (hs : is.map (fun k => ws[k]?) = (w' i).map some) (hc : cells ≤ mc) (hsl : slots ≤ ms) (hdg : decode cc pc = .ok (.return_, 1)) :
    W p l e R s m args below meth c H locs cells slots (MQ below (ct_Q D tys rv w' A) args s mc ms A) (F0 m pc ls []) := by
  refine W.widen hc hsl ?_
  exact W.vret hx hb hr (fun t ht hW => by have h := ct_end hK hP hD hS i is hn hs t ht hW args (rv := rv); rw [hi] at h; exact h) hS.2.2 hdg hlocks
theorem ct_run {st0 rest : List Value} {a : Array Value} {free : Addr → Prop} (hr : va_Run p l e R s m args below meth c H locs cells slots mc ms (F0 m pc ls st0) rest (ct_Q D tys rv w' A1 a) free) (hS : va_S A0 H0 H locs) (hA : ∀ q, q < H.size → A1 q → A0 q) (hf : ∀ q, free q → A0 q)
    (kk : ∀ (i : ι) (H1 : Heap) (locs1 : List Loc), va_P D vwCl (w' i) H1 → va_D A1 (w' i) → H.size ≤ H1.size → (∀ q : Nat, q < H.size → ¬ A1 q → H1[q]? = H[q]?) → va_S A0 H0 H1 locs1 → W p l e R s m args below meth c H1 locs1 (cells + mc) (slots + ms) Q (F0 m (pc + 3) ls ((rv i).toList ++ rest))) : W p l e R s m args below meth c H locs cells slots Q (F0 m pc ls st0) := by
  intro T hT X
  obtain ⟨v, st₀, t, T', L, h0, X', hL, e1, e2, ⟨⟨i, hv, hp, hk9, hd⟩, hF⟩, st⟩ := hr T hT X
  cases hv
  obtain ⟨k1, k2, k3⟩ := vx_keep h0 e1 hS hA hf hL hF
  obtain ⟨t2, a1, b1⟩ := kk i T'.heap (locs ++ L) (by rw [e1]; exact hp) hd k1 k2 k3 T' rfl X'
  exact ⟨t2, st t2 a1, b1⟩
theorem ct_callV {nL n index ci q0 N : Nat} {own C : String} {y : MethodName} {bytes : ByteArray} {maxL : Nat} {ret : Option FieldType} {wm Ts : List Cond} {rm : Room} {b : Addr} {As rest st0 : List Value} {T : u_T} {fs : List Value}
    (fix : CallFix p m c cc nL s args Ts own) (hM : ct l D tys y wm rm (.ref b :: As) wc rv w') (cw : CallW R s args own C index y bytes maxL ret wm rm rm.cells rm.slots n)
    (hE : EX s) (hK : va_K D vwCl tys s) (hP : va_P D vwCl ws H) (hD : va_D A0 ws) (hS : va_S A0 H0 H locs) (hA : ∀ q, H0.size ≤ q → A0 q)
    (isC isR : List Nat) (hnc : va_nd isC = true) (hC : isC.map (fun i => ws[i]?) = wc.map some) (hnr : va_nd isR = true) (hR : isR.map (fun i => ws[i]?) = wr.map some) (hdis : ∀ i ∈ isR, i ∉ isC)
    (hci : vwCl[ci]? = some (C, T, N)) (he : wc[q0]? = some (b, .inr (ci, fs)))
    (hl : ls.size = nL) (hn : As.length = n) (hst : st0 = As.reverse ++ .ref b :: rest) (hW : (rest.map fun v => v.category).sum ≤ 8) (hdg : decode cc pc = .ok (.invokevirtual index, 3)) (hf : cells + rm.cells ≤ R.cells ∧ slots + rm.slots ≤ R.slots)
    (kk : ∀ (i : ι) (H1 : Heap) (locs1 : List Loc), va_P D vwCl (wr ++ w' i) H1 → va_D A0 (wr ++ w' i) → va_S A0 H0 H1 locs1 → W p l e R s m args below meth c H1 locs1 (cells + rm.cells) (slots + rm.slots) Q (F0 m (pc + 3) ls ((rv i).toList ++ rest))) :
    W p l e R s m args below meth c H locs cells slots Q (F0 m pc ls st0) := by
  subst hst
  have hPc := hP.sub (ws' := wc) isC (ct_fm hC)
  have hDc := hD.sub isC hnc hC
  have hFc := va_free (wc := wc) hD hS hA isC hC
  refine ct_run (va_runV (As := As) (rest := rest) fix (hM H.size) cw ⟨ct_blind, va_recv hK hPc hci he, fun U hU hW => ⟨rfl, by rw [hU], by rw [hU]; exact hPc, va_K.moved hW.alike hK, hDc.weaken (fun _ _ _ _ => trivial), hE.warm hW⟩⟩ rfl hn hl rfl (lv_room hW) hdg hf) hS (fun q _ h => hFc q h) hFc (fun i H1 locs1 hP1 hD1 hz hk1 hS1 => ?_)
  obtain ⟨hPn, hDn⟩ := va_join (wr := wr) (w1 := w' i) hP hD isC isR hC hR hnr hdis hk1 hFc hP1 hD1
  exact kk i H1 locs1 hPn hDn hS1
theorem ct_callS {nL n index : Nat} {own : String} {y : MethodName} {bytes : ByteArray} {maxL : Nat} {ret : Option FieldType} {wm Ts : List Cond} {rm : Room} {As rest st0 : List Value}
    (fix : CallFix p m c cc nL s args Ts own) (hM : ct l D tys y wm rm As wc rv w') (cw : CallB R s args own index y bytes maxL ret wm rm rm.cells rm.slots n ∧ (Cond.static y).before args s = true)
    (hE : EX s) (hK : va_K D vwCl tys s) (hP : va_P D vwCl ws H) (hD : va_D A0 ws) (hS : va_S A0 H0 H locs) (hA : ∀ q, H0.size ≤ q → A0 q)
    (isC isR : List Nat) (hnc : va_nd isC = true) (hC : isC.map (fun i => ws[i]?) = wc.map some) (hnr : va_nd isR = true) (hR : isR.map (fun i => ws[i]?) = wr.map some) (hdis : ∀ i ∈ isR, i ∉ isC)
    (hl : ls.size = nL) (hn : As.length = n) (hst : st0 = As.reverse ++ rest) (hW : (rest.map fun v => v.category).sum ≤ 8) (hdg : decode cc pc = .ok (.invokestatic index, 3)) (hf : cells + rm.cells ≤ R.cells ∧ slots + rm.slots ≤ R.slots)
    (kk : ∀ (i : ι) (H1 : Heap) (locs1 : List Loc), va_P D vwCl (wr ++ w' i) H1 → va_D A0 (wr ++ w' i) → va_S A0 H0 H1 locs1 → W p l e R s m args below meth c H1 locs1 (cells + rm.cells) (slots + rm.slots) Q (F0 m (pc + 3) ls ((rv i).toList ++ rest))) :
    W p l e R s m args below meth c H locs cells slots Q (F0 m pc ls st0) := by
  subst hst
  have hPc := hP.sub (ws' := wc) isC (ct_fm hC)
  have hDc := hD.sub isC hnc hC
  have hFc := va_free (wc := wc) hD hS hA isC hC
  refine ct_run (va_runS (As := As) (rest := rest) fix (hM H.size) cw ⟨ct_blind, fun U hU hW => ⟨rfl, by rw [hU], by rw [hU]; exact hPc, va_K.moved hW.alike hK, hDc.weaken (fun _ _ _ _ => trivial), hE.warm hW⟩⟩ rfl hn hl rfl (lv_room hW) hdg hf) hS (fun q _ h => hFc q h) hFc (fun i H1 locs1 hP1 hD1 hz hk1 hS1 => ?_)
  obtain ⟨hPn, hDn⟩ := va_join (wr := wr) (w1 := w' i) hP hD isC isR hC hR hnr hdis hk1 hFc hP1 hD1
  exact kk i H1 locs1 hPn hDn hS1
theorem ct_callI {nL n index : Nat} {own : String} {y : MethodName} {bytes : ByteArray} {maxL : Nat} {wm Ts : List Cond} {rm : Room} {b : Addr} {As rest st0 : List Value}
    (fix : CallFix p m c cc nL s args Ts own) (hM : ct l D tys y wm rm (.ref b :: As) wc rv w') (cw : CallB R s args own index y bytes maxL none wm rm rm.cells rm.slots n ∧ y.name = "<init>" ∧ (Cond.instanceMethod y).before args s = true)
    (hE : EX s) (hK : va_K D vwCl tys s) (hP : va_P D vwCl ws H) (hD : va_D A0 ws) (hS : va_S A0 H0 H locs) (hA : ∀ q, H0.size ≤ q → A0 q)
    (isC isR : List Nat) (hnc : va_nd isC = true) (hC : isC.map (fun i => ws[i]?) = wc.map some) (hnr : va_nd isR = true) (hR : isR.map (fun i => ws[i]?) = wr.map some) (hdis : ∀ i ∈ isR, i ∉ isC)
    (hl : ls.size = nL) (hn : As.length = n) (hst : st0 = As.reverse ++ .ref b :: rest) (hW : (rest.map fun v => v.category).sum ≤ 8) (hdg : decode cc pc = .ok (.invokespecial index, 3)) (hf : cells + rm.cells ≤ R.cells ∧ slots + rm.slots ≤ R.slots)
    (kk : ∀ (i : ι) (H1 : Heap) (locs1 : List Loc), va_P D vwCl (wr ++ w' i) H1 → va_D A0 (wr ++ w' i) → va_S A0 H0 H1 locs1 → W p l e R s m args below meth c H1 locs1 (cells + rm.cells) (slots + rm.slots) Q (F0 m (pc + 3) ls ((rv i).toList ++ rest))) :
    W p l e R s m args below meth c H locs cells slots Q (F0 m pc ls st0) := by
  subst hst
  have hPc := hP.sub (ws' := wc) isC (ct_fm hC)
  have hDc := hD.sub isC hnc hC
  have hFc := va_free (wc := wc) hD hS hA isC hC
  refine ct_run (va_runI (As := As) (rest := rest) fix (hM H.size) cw ⟨ct_blind, fun U hU hW => ⟨rfl, by rw [hU], by rw [hU]; exact hPc, va_K.moved hW.alike hK, hDc.weaken (fun _ _ _ _ => trivial), hE.warm hW⟩⟩ rfl hn hl rfl (lv_room hW) hdg hf) hS (fun q _ h => hFc q h) hFc (fun i H1 locs1 hP1 hD1 hz hk1 hS1 => ?_)
  obtain ⟨hPn, hDn⟩ := va_join (wr := wr) (w1 := w' i) hP hD isC isR hC hR hnr hdis hk1 hFc hP1 hD1
  exact kk i H1 locs1 hPn hDn hS1
theorem ct_callIN {nL n index : Nat} {own host : String} {y : MethodName} {bytes : ByteArray} {maxL : Nat} {wm Ts : List Cond} {rm : Room} {b : Addr} {As rest st0 : List Value}
    (fix : CallFix p m c cc nL s args Ts own) (hM : ct l D tys y wm rm (.ref b :: As) wc rv w') (cw : va_CN R s args own index y host bytes maxL none wm rm rm.cells rm.slots n ∧ y.name = "<init>" ∧ (Cond.instanceMethod y).before args s = true)
    (hE : EX s) (hK : va_K D vwCl tys s) (hP : va_P D vwCl ws H) (hD : va_D A0 ws) (hS : va_S A0 H0 H locs) (hA : ∀ q, H0.size ≤ q → A0 q)
    (isC isR : List Nat) (hnc : va_nd isC = true) (hC : isC.map (fun i => ws[i]?) = wc.map some) (hnr : va_nd isR = true) (hR : isR.map (fun i => ws[i]?) = wr.map some) (hdis : ∀ i ∈ isR, i ∉ isC)
    (hl : ls.size = nL) (hn : As.length = n) (hst : st0 = As.reverse ++ .ref b :: rest) (hW : (rest.map fun v => v.category).sum ≤ 8) (hdg : decode cc pc = .ok (.invokespecial index, 3)) (hf : cells + rm.cells ≤ R.cells ∧ slots + rm.slots ≤ R.slots)
    (kk : ∀ (i : ι) (H1 : Heap) (locs1 : List Loc), va_P D vwCl (wr ++ w' i) H1 → va_D A0 (wr ++ w' i) → va_S A0 H0 H1 locs1 → W p l e R s m args below meth c H1 locs1 (cells + rm.cells) (slots + rm.slots) Q (F0 m (pc + 3) ls ((rv i).toList ++ rest))) :
    W p l e R s m args below meth c H locs cells slots Q (F0 m pc ls st0) := by
  subst hst
  have hPc := hP.sub (ws' := wc) isC (ct_fm hC)
  have hDc := hD.sub isC hnc hC
  have hFc := va_free (wc := wc) hD hS hA isC hC
  refine ct_run (va_runIN (As := As) (rest := rest) fix (hM H.size) cw ⟨ct_blind, fun U hU hW => ⟨rfl, by rw [hU], by rw [hU]; exact hPc, va_K.moved hW.alike hK, hDc.weaken (fun _ _ _ _ => trivial), hE.warm hW⟩⟩ rfl hn hl rfl (lv_room hW) hdg hf) hS (fun q _ h => hFc q h) hFc (fun i H1 locs1 hP1 hD1 hz hk1 hS1 => ?_)
  obtain ⟨hPn, hDn⟩ := va_join (wr := wr) (w1 := w' i) hP hD isC isR hC hR hnr hdis hk1 hFc hP1 hD1
  exact kk i H1 locs1 hPn hDn hS1
/-- a new row of ints: its class is the one that the tables have -/
theorem ct_newi {cI : ClassId} {t0 : Nat} (hx : p.tables.exec = Jvm.exec) (hb : c.code = cc) (harr : (Cond.arrayClass .int).before args s = true) (ht0 : tys[t0]? = some (cI, .int)) (hK : va_K D vwCl tys s) (hP : va_P D vwCl ws H) (hD : va_D A ws) (hS : va_S A H0 H locs) (hA : ∀ q, H0.size ≤ q → A q)
    {n : Int32} {N' : Nat} {rest : List Value} (hn : ¬ n < 0) (hN : n.toNatClampNeg = N') (hbytes : N' ≤ 100000) (hcells : cells + 1 ≤ R.cells) (hslots : slots + N' ≤ R.slots) (hdg : decode cc pc = .ok (.newarray .int, 2))
    (kk : ∀ (q : Nat) (H1 : Heap), va_P D vwCl (ws ++ [(q, .inl (cI, N', .inl (fun _ => 0)))]) H1 → va_D A (ws ++ [(q, .inl (cI, N', .inl (fun _ => 0)))]) → va_S A H0 H1 locs → W p l e R s m args below meth c H1 locs (cells + 1) (slots + N') Q (F0 m (pc + 2) ls (.ref q :: rest))) :
    W p l e R s m args below meth c H locs cells slots Q (F0 m pc ls (.int n :: rest)) := by
  refine va_newa (atype := .int) hx hb harr rfl hK hP hD hS hA (a0 := (N', .inl (fun _ => 0))) (fun cA => rfl) hn hN (by show N' * 4 ≤ 536870912; omega) hcells hslots hdg (fun q cA H1 hK1 hP1 hD1 hS1 => ?_)
  have h1 := (hK1.2 tys.length (cA, .int) (by simp; rfl)).2
  have h2 := (hK.2 t0 (cI, .int) ht0).2
  have h3 : cA = cI := Option.some.inj (h1.symm.trans h2)
  subst h3
  exact kk q H1 hP1 hD1 hS1
end CTR
/-- guards of the functions -/
theorem gd_n {α : Type} {c : Prop} [Decidable c] {x : Option α} {r : α} (h : (if c then none else x) = some r) : ¬ c ∧ x = some r := by
  by_cases hc : c
  · rw [if_pos hc] at h; cases h
  · exact ⟨hc, by rw [if_neg hc] at h; exact h⟩
theorem gd_p {α : Type} {c : Prop} [Decidable c] {x : Option α} {r : α} (h : (if c then x else none) = some r) : c ∧ x = some r := by
  by_cases hc : c
  · exact ⟨hc, by rw [if_pos hc] at h; exact h⟩
  · rw [if_neg hc] at h; cases h
theorem gd_b {α β : Type} {x : Option α} {f : α → Option β} {r : β} (h : x.bind f = some r) : ∃ a, x = some a ∧ f a = some r := Option.bind_eq_some_iff.mp h
theorem gd_z {v : Int32} (h : v = 0 ∨ v = 1) : narrow .boolean (.int v) = .int v := by rcases h with rfl | rfl <;> rfl
theorem gd_lt {x k : Int32} {z : Int} (h : x < k) (hk : k.toInt = z) : x.toInt < z := by rw [← hk]; exact Int32.lt_iff_toInt_lt.mp h
theorem gd_nlt {x k : Int32} {z : Int} (h : ¬ x < k) (hk : k.toInt = z) : ¬ x.toInt < z := by rw [← hk]; exact fun q => h (Int32.lt_iff_toInt_lt.mpr q)
theorem gd_ngt {x k : Int32} {z : Int} (h : ¬ k < x) (hk : k.toInt = z) : ¬ z < x.toInt := by rw [← hk]; exact fun q => h (Int32.lt_iff_toInt_lt.mpr q)
theorem gd_gt {x k : Int32} {z : Int} (h : k < x) (hk : k.toInt = z) : z < x.toInt := by rw [← hk]; exact Int32.lt_iff_toInt_lt.mp h
