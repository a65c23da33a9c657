/-! LIB 2: contracts of methods that may throw: which of the two, and what, is given -/
abbrev va_G9 := Nat × Nat × (Nat → Int32)
def ZZ (g9 : va_G9) (A : Nat → Prop) (U : State) (H : Heap) : Prop := vx_Zq Bundle.tN "UNASSIGNED_STACK" Bundle.steD A U H ∧ vx_Zq Bundle.tN "SUPPRESSED_SENTINEL" Bundle.listD A U H ∧ ¬ A g9.1 ∧ g9.1 < H.size ∧ va_X g9.1 g9.2.1 g9.2.2 U H
theorem ZZ.to {g9 : va_G9} {A B : Nat → Prop} {s U : State} {H0 H : Heap} {locs : List Loc} (h : ZZ g9 A s H0) (hS : va_S A H0 H locs) (hAB : ∀ q, B q → A q) (hvm : s.vm.Alike U.vm) : ZZ g9 B U H :=
  ⟨((h.1.kept (fun a h1 h2 => hS.2.1 a h1 h2)).narrow hAB).moved hvm, ((h.2.1.kept (fun a h1 h2 => hS.2.1 a h1 h2)).narrow hAB).moved hvm, fun hB => h.2.2.1 (hAB _ hB), Nat.lt_of_lt_of_le h.2.2.2.1 hS.1, (h.2.2.2.2.kept (hS.2.1 _ h.2.2.2.1 h.2.2.1)).moved hvm⟩
def cx_Pre (g9 : va_G9) (D : va_G) (tys : List (ClassId × FieldType)) (w : va_W) (sz : Nat) : State → Prop := fun U => ct_Pre D tys w sz U ∧ ZZ g9 (va_A w sz) U U.heap
def cx_Q {ι : Type} (thr : Option String) (D : va_G) (tys : List (ClassId × FieldType)) (rv : ι → Option Value) (w' : ι → va_W) (A : Nat → Prop) : Array Value → State → Outcome → State → Prop := fun a st oc t => thr = none ∧ ct_Q D tys rv w' A a st oc t
def cx_X {ι : Type} (thr : Option String) (D : va_G) (tys : List (ClassId × FieldType)) (w' : ι → va_W) (A : Nat → Prop) : String → State → State → Prop := fun E st t => thr = some E ∧ (∃ i, va_P D vwCl (w' i) t.heap ∧ va_K D vwCl tys t ∧ va_D A (w' i)) ∧ va_F A st t
def cx (g9 : va_G9) {ι : Type} (l : Launch) (D : va_G) (tys : List (ClassId × FieldType)) (y : MethodName) (wm : List Cond) (rm : Room) (av : List Value) (w : va_W) (thr : Option String) (rv : ι → Option Value) (w' : ι → va_W) : Prop :=
  ∀ sz, vx_Met l y wm rm (va_Pc av (cx_Pre g9 D tys w sz)) (cx_Q thr D tys rv w' (va_A w sz)) (cx_X thr D tys w' (va_A w sz)) rm.cells rm.slots (va_A w sz)
theorem cx_blind {g9 : va_G9} {D : va_G} {tys : List (ClassId × FieldType)} {w : va_W} {sz : Nat} {av : List Value} : FrameBlind (va_Pc av (cx_Pre g9 D tys w sz)) := fun a U g mk q => by
  obtain ⟨q0, q1, qZ⟩ := q
  obtain ⟨h1, h2⟩ := ct_blind (D := D) (tys := tys) (w := w) (sz := sz) (av := av) a U g mk ⟨q0, q1⟩
  exact ⟨h1, h2, vx_Zq.moved (u := U) (U := U.calling g mk a) (Vm.Alike.refl U.vm) qZ.1, vx_Zq.moved (u := U) (U := U.calling g mk a) (Vm.Alike.refl U.vm) qZ.2.1, qZ.2.2.1, qZ.2.2.2.1, va_X.moved (u := U) (U := U.calling g mk a) (Vm.Alike.refl U.vm) qZ.2.2.2.2⟩
theorem cx_of {g9 : va_G9} {ι : Type} {l : Launch} {D : va_G} {tys : List (ClassId × FieldType)} {y : MethodName} {wm ws' : List Cond} {rm : Room} {av : List Value} {w : va_W} {thr : Option String} {rv : ι → Option Value} {w' : ι → va_W} {cc : ByteArray} {maxL : Nat} {ret : Option FieldType}
    (hy : plainName y.cls = true) (hw : wm = Cond.code y cc maxL ret :: ws') (hlen : (lg_sl av).length ≤ maxL)
    (body : ∀ (p : Program) (e : Env) (s : State) (m : MethodId) (below : List Frame) (meth : Method) (c : Code) (A : Nat → Prop) (ls : Array Slot),
      p.tables.exec = Jvm.exec → c.code = cc → meth.sig.returnType = ret → c.maxLocals = maxL → (∀ x ∈ wm, x.before av.toArray s = true) → s.vm.findClass y.cls = some m.cls → meth.locks = false → meth.name = y.name →
      EX s → va_K D vwCl tys s → va_P D vwCl w s.heap → va_D A w → (∀ q : Nat, s.heap.size ≤ q → A q) → va_S A s.heap s.heap [] → lv_has ls maxL (lv_args 0 av) → ZZ g9 A s s.heap → (∀ x ∈ c.exceptionTable.toList, False) →
      W p l e rm s m av.toArray below meth c s.heap [] 0 0 (vx_MQ below (cx_Q thr D tys rv w' A) (cx_X thr D tys w' A) av.toArray s rm.cells rm.slots A) (F0 m 0 ls [])) : cx g9 l D tys y wm rm av w thr rv w' := by
  intro sz
  refine vx_ofW (cc := cc) (maxL := maxL) (ret := ret) hy hw ?_
  intro p e s m args below meth c s₁ B hml htb hv
  obtain ⟨rfl, ⟨hsz, hP, hK, hD0, hE⟩, hZ⟩ := hv
  have hts := atoms_spec (ws := wm) B.pre
  have hown : s.vm.findClass y.cls = some m.cls := findClass_of_methodNamed B.named
  subst hsz
  have hD := hD0.self (sz := s.heap.size)
  have hA : ∀ q : Nat, s.heap.size ≤ q → va_A w s.heap.size q := fun q h => Or.inr h
  have hl := lv_entry av (n := maxL) hlen
  rw [lg_entry_eq]
  exact body p e s m below meth c (va_A w s.heap.size) _ B.exec B.bytes B.returns hml hts hown B.notSynchronized (name_of_methodNamed B.named B.method).1 hE hK hP hD hA va_S.rf hl hZ htb
/-- a body with a table of its own, that lets nothing out or something -/
theorem cx_ofH {g9 : va_G9} {ι : Type} {l : Launch} {D : va_G} {tys : List (ClassId × FieldType)} {y : MethodName} {wm ws' : List Cond} {rm : Room} {av : List Value} {w : va_W} {thr : Option String} {rv : ι → Option Value} {w' : ι → va_W} {cc : ByteArray} {maxL : Nat} {ret : Option FieldType} {hh : List (Nat × Nat × Nat × Nat)}
    (hy : plainName y.cls = true) (hw : wm = Cond.codeWith y cc maxL ret hh :: ws') (hlen : (lg_sl av).length ≤ maxL)
    (body : ∀ (p : Program) (e : Env) (s : State) (m : MethodId) (below : List Frame) (meth : Method) (c : Code) (A : Nat → Prop) (ls : Array Slot),
      p.tables.exec = Jvm.exec → c.code = cc → meth.sig.returnType = ret → c.maxLocals = maxL → (∀ x ∈ wm, x.before av.toArray s = true) → s.vm.findClass y.cls = some m.cls → meth.locks = false → meth.name = y.name →
      EX s → va_K D vwCl tys s → va_P D vwCl w s.heap → va_D A w → (∀ q : Nat, s.heap.size ≤ q → A q) → va_S A s.heap s.heap [] → lv_has ls maxL (lv_args 0 av) → ZZ g9 A s s.heap → c.exceptionTable.toList = tableOf hh →
      W p l e rm s m av.toArray below meth c s.heap [] 0 0 (vx_MQ below (cx_Q thr D tys rv w' A) (cx_X thr D tys w' A) av.toArray s rm.cells rm.slots A) (F0 m 0 ls [])) : cx g9 l D tys y wm rm av w thr rv w' := by
  intro sz
  refine vx_ofWH (cc := cc) (maxL := maxL) (ret := ret) (hh := hh) hy hw ?_
  intro p e s m args below meth c s₁ B hml hv
  obtain ⟨rfl, ⟨hsz, hP, hK, hD0, hE⟩, hZ⟩ := hv
  have hts := atoms_spec (ws := wm) B.pre
  have htb : c.exceptionTable.toList = tableOf hh := vx_table (x := y) B (hts _ (by rw [hw]; exact List.mem_cons_self))
  have hown : s.vm.findClass y.cls = some m.cls := findClass_of_methodNamed B.named
  subst hsz
  have hD := hD0.self (sz := s.heap.size)
  have hA : ∀ q : Nat, s.heap.size ≤ q → va_A w s.heap.size q := fun q h => Or.inr h
  have hl := lv_entry av (n := maxL) hlen
  rw [lg_entry_eq]
  exact body p e s m below meth c (va_A w s.heap.size) _ B.exec B.bytes B.returns hml hts hown B.notSynchronized (name_of_methodNamed B.named B.method).1 hE hK hP hD hA va_S.rf hl hZ htb
section CXR
variable {p : Program} {l : Launch} {e : Env} {R : Room} {s : State} {m : MethodId} {args : Array Value} {below : List Frame} {meth : Method} {c : Code} {H : Heap} {locs : List Loc} {cells slots : Nat} {Q : State → Prop}
variable {g9 : va_G9} {ι : Type} {D : va_G} {tys : List (ClassId × FieldType)} {thr : Option String} {rv : ι → Option Value} {w' : ι → va_W} {A A0 A1 : Nat → Prop} {ws wc wr : va_W} {H0 : Heap} {mc ms : Nat} {cc : ByteArray} {pc : Nat} {ls : Array Slot}
theorem ct_l (hx : p.tables.exec = Jvm.exec) (hb : c.code = cc) (hr : meth.sig.returnType = some .long) (hlocks : meth.locks = false) (hK : va_K D vwCl tys s) (hP : va_P D vwCl ws H) (hD : va_D A ws) (hS : va_S A s.heap H locs) (i : ι) {v : Int64} (hi : rv i = some (.long v)) (is : List Nat) (hn : va_nd is = true) (hs : is.map (fun k => ws[k]?) = (w' i).map some) (hc : cells ≤ mc) (hsl : slots ≤ ms) (hdg : decode cc pc = .ok (.lreturn, 1)) :
    W p l e R s m args below meth c H locs cells slots (MQ below (ct_Q D tys rv w' A) args s mc ms A) (F0 m pc ls [.long v]) := by
  refine W.widen hc hsl ?_
  exact W.lret hx hb hr (fun t ht hW => by have h := ct_end hK hP hD hS i is hn hs t ht hW args (rv := rv); rw [hi] at h; exact h) hS.2.2 hdg hlocks
theorem ct_d (hx : p.tables.exec = Jvm.exec) (hb : c.code = cc) (hr : meth.sig.returnType = some .double) (hlocks : meth.locks = false) (hK : va_K D vwCl tys s) (hP : va_P D vwCl ws H) (hD : va_D A ws) (hS : va_S A s.heap H locs) (i : ι) {v : UInt64} (hi : rv i = some (.double v)) (is : List Nat) (hn : va_nd is = true) (hs : is.map (fun k => ws[k]?) = (w' i).map some) (hc : cells ≤ mc) (hsl : slots ≤ ms) (hdg : decode cc pc = .ok (.dreturn, 1)) :
    W p l e R s m args below meth c H locs cells slots (MQ below (ct_Q D tys rv w' A) args s mc ms A) (F0 m pc ls [.double v]) := by
  refine W.widen hc hsl ?_
  exact W.dret hx hb hr (fun t ht hW => by have h := ct_end hK hP hD hS i is hn hs t ht hW args (rv := rv); rw [hi] at h; exact h) hS.2.2 hdg hlocks
theorem cx_ret {g : JFrame} (h : thr = none) (k : W p l e R s m args below meth c H locs cells slots (MQ below (ct_Q D tys rv w' A) args s mc ms A) g) : W p l e R s m args below meth c H locs cells slots (vx_MQ below (cx_Q thr D tys rv w' A) (cx_X thr D tys w' A) args s mc ms A) g := by
  refine vx_ret ?_
  intro T hT X
  obtain ⟨t, a1, o, b1, b2, b3, b4⟩ := k T hT X
  exact ⟨t, a1, o, b1, b2, ⟨h, b3⟩, b4⟩
/-- what the throwing of a fresh exception leaves behind -/
theorem cx_behind {E : String} (hthr : thr = some E) (hK : va_K D vwCl tys s) (hP : va_P D vwCl ws H) (hD : va_D A ws) (hS : va_S A s.heap H locs) (i : ι) (is : List Nat) (hn : va_nd is = true) (hs : is.map (fun k => ws[k]?) = (w' i).map some) (t : State) (hvm : s.vm.Alike t.vm) (hz : H.size ≤ t.heap.size) (hk : ∀ q : Nat, q < H.size → t.heap[q]? = H[q]?) : cx_X thr D tys w' A E s t :=
  ⟨hthr, ⟨i, (hP.kept (fun k x hx => hk x.1 ((hP k x hx).lt))).sub is (ct_fm hs), va_K.moved hvm hK, hD.sub is hn hs⟩, Nat.le_trans hS.1 hz, fun q h1 h2 => (hk q (Nat.lt_of_lt_of_le h1 hS.1)).trans (hS.2.1 q h1 h2)⟩
def cx_B : List Cond := cstl.map (fun q => Cond.castable q.1 q.2) ++ dcl.map Cond.declares
theorem EX.b {args : Array Value} (h : EX s) : ∀ w ∈ cx_B, w.before args s = true := by
  intro w hw
  rcases List.mem_append.mp hw with hw | hw
  · obtain ⟨q, hq, rfl⟩ := List.mem_map.mp hw
    exact va_Nw.use rfl (h.2.2.2.1 q hq)
  · obtain ⟨q, hq, rfl⟩ := List.mem_map.mp hw
    exact va_Nw.use rfl (h.2.2.1 q hq)
/-- throw new E("text") -/
theorem cx_throw {own cls text : String} {names : List String} {ik is' ic : Nat} (hx : p.tables.exec = Jvm.exec) (hb : c.code = cc) (hl : l.stackTraces = false)
    (hown : s.vm.findClass own = some m.cls) (hcls : Bundle.fit cls = true) (hnames : ∀ n ∈ names, Bundle.fit n = true)
    (hk : (Cond.classLink own ik cls).before args s = true) (hini : (Cond.initialized cls).before args s = true) (hE : EX s) (hstr : (own, is', text) ∈ strl)
    (h1 : ∀ w ∈ (vx_atS own ic cls names).filter goodWord, w.before args s = true) (h2 : ∀ w ∈ (vx_atS own ic cls names).filter (fun w => !goodWord w), w ∈ cx_B)
    (hgood : ∀ w ∈ Cond.classLink own ik cls :: Cond.initialized cls :: vx_atS own ic cls names, vx_ot w = true)
    (hZ : ZZ g9 A s s.heap) (hK : va_K D vwCl tys s) (hP : va_P D vwCl ws H) (hD : va_D A ws) (hS : va_S A s.heap H locs) (hsize : ls.size = c.maxLocals) {rest : List Value}
    (d0 : decode cc pc = .ok (.new ik, 3)) (d3 : decode cc (pc + 3) = .ok (.dup, 1)) (d4 : decode cc (pc + 4) = .ok (.ldc is', 2)) (d6 : decode cc (pc + 6) = .ok (.invokespecial ic, 3)) (d9 : decode cc (pc + 9) = .ok (.athrow, 1))
    (htb : ∀ x ∈ c.exceptionTable.toList, False)
    (hRframes : names.length + 3 < R.frames) (hRlocals : (rest.map fun v => v.category).sum + (13 * (names.length + 1) + 43) ≤ R.locals) (hRcells : cells + 1 ≤ R.cells) (hRslots : slots + 6 ≤ R.slots) (hlocks : meth.locks = false)
    (hthr : thr = some cls) (i : ι) (is : List Nat) (hn : va_nd is = true) (hs : is.map (fun k => ws[k]?) = (w' i).map some) (hc : cells + 1 ≤ mc) (hsl : slots + 6 ≤ ms) :
    W p l e R s m args below meth c H locs cells slots (vx_MQ below (cx_Q thr D tys rv w' A) (cx_X thr D tys w' A) args s mc ms A) (F0 m pc ls rest) := by
  obtain ⟨sa, hsa⟩ := hE.2.1 _ hstr
  exact vx_throwS hx hb hl hown hcls hnames hk hini hsa (vx_hat h1 h2 hE.b) hgood hZ.1 hZ.2.1 hS hsize d0 d3 d4 d6 d9 (fun x hx => (htb x hx).elim) hRframes hRlocals hRcells hRslots hlocks
    (fun t hvm hz hk => cx_behind hthr hK hP hD hS i is hn hs t hvm hz hk) hS.2.2 hc hsl
theorem cx_run {st0 rest : List Value} {a : Array Value} {free : Addr → Prop} (hr : vx_Run p l e R s m args below meth c H locs cells slots mc ms (F0 m pc ls st0) rest (cx_Q thr D tys rv w' A1 a) (cx_X thr D tys w' A1) free) (hS : va_S A0 H0 H locs) (hA : ∀ q, q < H.size → A1 q → A0 q) (hf : ∀ q, free q → A0 q)
    (kx : ∀ (E : String) (i : ι) (q9 : Nat) (ce : Cell) (H1 : Heap) (locs1 : List Loc), thr = some E → va_P D vwCl (w' i) H1 → va_D A1 (w' i) → H.size ≤ H1.size → (∀ q : Nat, q < H.size → ¬ A1 q → H1[q]? = H[q]?) → va_S A0 H0 H1 locs1 → H1[q9]? = some ce → ce.vm = .none → s.vm.findClass E = some ce.cls → vx_W p l e R s m args below meth c H1 locs1 (cells + mc) (slots + ms) Q (F0 m pc ls rest) q9)
    (kk : ∀ (i : ι) (H1 : Heap) (locs1 : List Loc), thr = none → va_P D vwCl (w' i) H1 → va_D A1 (w' i) → H.size ≤ H1.size → (∀ q : Nat, q < H.size → ¬ A1 q → H1[q]? = H[q]?) → va_S A0 H0 H1 locs1 → W p l e R s m args below meth c H1 locs1 (cells + mc) (slots + ms) Q (F0 m (pc + 3) ls ((rv i).toList ++ rest))) : W p l e R s m args below meth c H locs cells slots Q (F0 m pc ls st0) := by
  intro T hT X
  rcases hr T hT X with ⟨v, st₀, t, T', L, h0, X', hL, e1, e2, ⟨ht, ⟨i, hv, hp, hk9, hd⟩, hF⟩, st⟩ | ⟨q, st₀, t, T', L, E, ce, h0, X', hL, e1, e2, ⟨ht, ⟨i, hp, hk9, hd⟩, hF⟩, hce, hcv, hcl, st⟩
  · cases hv
    obtain ⟨k1, k2, k3⟩ := vx_keep h0 e1 hS hA hf hL hF
    obtain ⟨t2, a1, b1⟩ := kk i T'.heap (locs ++ L) ht (by rw [e1]; exact hp) hd k1 k2 k3 T' rfl X'
    exact ⟨t2, st t2 a1, b1⟩
  · obtain ⟨k1, k2, k3⟩ := vx_keep h0 e1 hS hA hf hL hF
    obtain ⟨t2, a1, b1⟩ := kx E i q ce T'.heap (locs ++ L) ht (by rw [e1]; exact hp) hd k1 k2 k3 (by rw [e1]; exact hce) hcv hcl T' rfl X'
    exact ⟨t2, st.trans a1, b1⟩
theorem cx_pre {A0 : Nat → Prop} {wc : va_W} {As : List Value} (hZ : ZZ g9 A0 s H0) (hE : EX s) (hK : va_K D vwCl tys s) (hS : va_S A0 H0 H locs) (hPc : va_P D vwCl wc H) (hDc : va_D A0 wc) (hFc : ∀ q, va_A wc H.size q → A0 q) : ∀ U : State, U.heap = H → s.WarmedH U.vm → va_Pc As (cx_Pre g9 D tys wc H.size) As.toArray U := by
  intro U hU hW
  refine ⟨rfl, ⟨by rw [hU], by rw [hU]; exact hPc, va_K.moved hW.alike hK, hDc.weaken (fun _ _ _ _ => trivial), hE.warm hW⟩, ?_⟩
  rw [hU]
  exact ZZ.to hZ hS hFc hW.alike
theorem cx_callV {nL n index ci q0 N : Nat} {own C : String} {y : MethodName} {bytes : ByteArray} {maxL : Nat} {ret : Option FieldType} {wm Ts : List Cond} {rm : Room} {b : Addr} {As rest st0 : List Value} {T : u_T} {fs : List Value}
    (fix : CallFix p m c cc nL s args Ts own) (hM : cx g9 l D tys y wm rm (.ref b :: As) wc thr rv w') (cw : CallW R s args own C index y bytes maxL ret wm rm rm.cells rm.slots n)
    (hZ : ZZ g9 A0 s H0) (hE : EX s) (hK : va_K D vwCl tys s) (hP : va_P D vwCl ws H) (hD : va_D A0 ws) (hS : va_S A0 H0 H locs) (hA : ∀ q, H0.size ≤ q → A0 q)
    (isC isR : List Nat) (hnc : va_nd isC = true) (hC : isC.map (fun i => ws[i]?) = wc.map some) (hnr : va_nd isR = true) (hR : isR.map (fun i => ws[i]?) = wr.map some) (hdis : ∀ i ∈ isR, i ∉ isC)
    (hci : vwCl[ci]? = some (C, T, N)) (he : wc[q0]? = some (b, .inr (ci, fs)))
    (hl : ls.size = nL) (hn : As.length = n) (hst : st0 = As.reverse ++ .ref b :: rest) (hW : (rest.map fun v => v.category).sum ≤ 8) (hdg : decode cc pc = .ok (.invokevirtual index, 3)) (hf : cells + rm.cells ≤ R.cells ∧ slots + rm.slots ≤ R.slots)
    (kx : ∀ (E : String) (i : ι) (q9 : Nat) (ce : Cell) (H1 : Heap) (locs1 : List Loc), thr = some E → va_P D vwCl (wr ++ w' i) H1 → va_D A0 (wr ++ w' i) → va_S A0 H0 H1 locs1 → H1[q9]? = some ce → ce.vm = .none → s.vm.findClass E = some ce.cls → vx_W p l e R s m args below meth c H1 locs1 (cells + rm.cells) (slots + rm.slots) Q (F0 m pc ls rest) q9)
    (kk : ∀ (i : ι) (H1 : Heap) (locs1 : List Loc), thr = none → va_P D vwCl (wr ++ w' i) H1 → va_D A0 (wr ++ w' i) → va_S A0 H0 H1 locs1 → W p l e R s m args below meth c H1 locs1 (cells + rm.cells) (slots + rm.slots) Q (F0 m (pc + 3) ls ((rv i).toList ++ rest))) :
    W p l e R s m args below meth c H locs cells slots Q (F0 m pc ls st0) := by
  subst hst
  have hPc := hP.sub (ws' := wc) isC (ct_fm hC)
  have hDc := hD.sub isC hnc hC
  have hFc := va_free (wc := wc) hD hS hA isC hC
  refine cx_run (vx_runV (As := As) (rest := rest) fix (hM H.size) cw ⟨cx_blind, va_recv hK hPc hci he, cx_pre hZ hE hK hS hPc hDc hFc⟩ rfl hn hl rfl (lv_room hW) hdg hf) hS (fun q _ h => hFc q h) hFc (fun E i q9 ce H1 locs1 ht hP1 hD1 hz hk1 hS1 h1 h2 h3 => ?_) (fun i H1 locs1 ht hP1 hD1 hz hk1 hS1 => ?_)
  · obtain ⟨hPn, hDn⟩ := va_join (wr := wr) (w1 := w' i) hP hD isC isR hC hR hnr hdis hk1 hFc hP1 hD1
    exact kx E i q9 ce H1 locs1 ht hPn hDn hS1 h1 h2 h3
  · obtain ⟨hPn, hDn⟩ := va_join (wr := wr) (w1 := w' i) hP hD isC isR hC hR hnr hdis hk1 hFc hP1 hD1
    exact kk i H1 locs1 ht hPn hDn hS1
theorem cx_callSX {nL n index : Nat} {own : String} {y : MethodName} {bytes : ByteArray} {maxL : Nat} {ret : Option FieldType} {hh : List (Nat × Nat × Nat × Nat)} {wm Ts : List Cond} {rm : Room} {As rest st0 : List Value}
    (fix : CallFix p m c cc nL s args Ts own) (hM : cx g9 l D tys y wm rm As wc thr rv w') (cw : vx_CSW R s args own index y bytes maxL ret hh wm rm rm.cells rm.slots n)
    (hZ : ZZ g9 A0 s H0) (hE : EX s) (hK : va_K D vwCl tys s) (hP : va_P D vwCl ws H) (hD : va_D A0 ws) (hS : va_S A0 H0 H locs) (hA : ∀ q, H0.size ≤ q → A0 q)
    (isC isR : List Nat) (hnc : va_nd isC = true) (hC : isC.map (fun i => ws[i]?) = wc.map some) (hnr : va_nd isR = true) (hR : isR.map (fun i => ws[i]?) = wr.map some) (hdis : ∀ i ∈ isR, i ∉ isC)
    (hl : ls.size = nL) (hn : As.length = n) (hst : st0 = As.reverse ++ rest) (hW : (rest.map fun v => v.category).sum ≤ 8) (hdg : decode cc pc = .ok (.invokestatic index, 3)) (hf : cells + rm.cells ≤ R.cells ∧ slots + rm.slots ≤ R.slots)
    (kx : ∀ (E : String) (i : ι) (q9 : Nat) (ce : Cell) (H1 : Heap) (locs1 : List Loc), thr = some E → va_P D vwCl (wr ++ w' i) H1 → va_D A0 (wr ++ w' i) → va_S A0 H0 H1 locs1 → H1[q9]? = some ce → ce.vm = .none → s.vm.findClass E = some ce.cls → vx_W p l e R s m args below meth c H1 locs1 (cells + rm.cells) (slots + rm.slots) Q (F0 m pc ls rest) q9)
    (kk : ∀ (i : ι) (H1 : Heap) (locs1 : List Loc), thr = none → va_P D vwCl (wr ++ w' i) H1 → va_D A0 (wr ++ w' i) → va_S A0 H0 H1 locs1 → W p l e R s m args below meth c H1 locs1 (cells + rm.cells) (slots + rm.slots) Q (F0 m (pc + 3) ls ((rv i).toList ++ rest))) :
    W p l e R s m args below meth c H locs cells slots Q (F0 m pc ls st0) := by
  subst hst
  have hPc := hP.sub (ws' := wc) isC (ct_fm hC)
  have hDc := hD.sub isC hnc hC
  have hFc := va_free (wc := wc) hD hS hA isC hC
  refine cx_run (vx_runSX (As := As) (rest := rest) fix (hM H.size) cw ⟨cx_blind, cx_pre hZ hE hK hS hPc hDc hFc⟩ rfl hn hl rfl (lv_room hW) hdg hf) hS (fun q _ h => hFc q h) hFc (fun E i q9 ce H1 locs1 ht hP1 hD1 hz hk1 hS1 h1 h2 h3 => ?_) (fun i H1 locs1 ht hP1 hD1 hz hk1 hS1 => ?_)
  · obtain ⟨hPn, hDn⟩ := va_join (wr := wr) (w1 := w' i) hP hD isC isR hC hR hnr hdis hk1 hFc hP1 hD1
    exact kx E i q9 ce H1 locs1 ht hPn hDn hS1 h1 h2 h3
  · obtain ⟨hPn, hDn⟩ := va_join (wr := wr) (w1 := w' i) hP hD isC isR hC hR hnr hdis hk1 hFc hP1 hD1
    exact kk i H1 locs1 ht hPn hDn hS1
theorem cx_callVX {hh : List (Nat × Nat × Nat × Nat)} {nL n index ci q0 N : Nat} {own C : String} {y : MethodName} {bytes : ByteArray} {maxL : Nat} {ret : Option FieldType} {wm Ts : List Cond} {rm : Room} {b : Addr} {As rest st0 : List Value} {T : u_T} {fs : List Value}
    (fix : CallFix p m c cc nL s args Ts own) (hM : cx g9 l D tys y wm rm (.ref b :: As) wc thr rv w') (cw : vx_CVW R s args own C index y bytes maxL ret hh wm rm rm.cells rm.slots n)
    (hZ : ZZ g9 A0 s H0) (hE : EX s) (hK : va_K D vwCl tys s) (hP : va_P D vwCl ws H) (hD : va_D A0 ws) (hS : va_S A0 H0 H locs) (hA : ∀ q, H0.size ≤ q → A0 q)
    (isC isR : List Nat) (hnc : va_nd isC = true) (hC : isC.map (fun i => ws[i]?) = wc.map some) (hnr : va_nd isR = true) (hR : isR.map (fun i => ws[i]?) = wr.map some) (hdis : ∀ i ∈ isR, i ∉ isC)
    (hci : vwCl[ci]? = some (C, T, N)) (he : wc[q0]? = some (b, .inr (ci, fs)))
    (hl : ls.size = nL) (hn : As.length = n) (hst : st0 = As.reverse ++ .ref b :: rest) (hW : (rest.map fun v => v.category).sum ≤ 8) (hdg : decode cc pc = .ok (.invokevirtual index, 3)) (hf : cells + rm.cells ≤ R.cells ∧ slots + rm.slots ≤ R.slots)
    (kx : ∀ (E : String) (i : ι) (q9 : Nat) (ce : Cell) (H1 : Heap) (locs1 : List Loc), thr = some E → va_P D vwCl (wr ++ w' i) H1 → va_D A0 (wr ++ w' i) → va_S A0 H0 H1 locs1 → H1[q9]? = some ce → ce.vm = .none → s.vm.findClass E = some ce.cls → vx_W p l e R s m args below meth c H1 locs1 (cells + rm.cells) (slots + rm.slots) Q (F0 m pc ls rest) q9)
    (kk : ∀ (i : ι) (H1 : Heap) (locs1 : List Loc), thr = none → va_P D vwCl (wr ++ w' i) H1 → va_D A0 (wr ++ w' i) → va_S A0 H0 H1 locs1 → W p l e R s m args below meth c H1 locs1 (cells + rm.cells) (slots + rm.slots) Q (F0 m (pc + 3) ls ((rv i).toList ++ rest))) :
    W p l e R s m args below meth c H locs cells slots Q (F0 m pc ls st0) := by
  subst hst
  have hPc := hP.sub (ws' := wc) isC (ct_fm hC)
  have hDc := hD.sub isC hnc hC
  have hFc := va_free (wc := wc) hD hS hA isC hC
  refine cx_run (vx_runVX (As := As) (rest := rest) fix (hM H.size) cw ⟨cx_blind, va_recv hK hPc hci he, cx_pre hZ hE hK hS hPc hDc hFc⟩ rfl hn hl rfl (lv_room hW) hdg hf) hS (fun q _ h => hFc q h) hFc (fun E i q9 ce H1 locs1 ht hP1 hD1 hz hk1 hS1 h1 h2 h3 => ?_) (fun i H1 locs1 ht hP1 hD1 hz hk1 hS1 => ?_)
  · obtain ⟨hPn, hDn⟩ := va_join (wr := wr) (w1 := w' i) hP hD isC isR hC hR hnr hdis hk1 hFc hP1 hD1
    exact kx E i q9 ce H1 locs1 ht hPn hDn hS1 h1 h2 h3
  · obtain ⟨hPn, hDn⟩ := va_join (wr := wr) (w1 := w' i) hP hD isC isR hC hR hnr hdis hk1 hFc hP1 hD1
    exact kk i H1 locs1 ht hPn hDn hS1
theorem cx_callS {nL n index : Nat} {own : String} {y : MethodName} {bytes : ByteArray} {maxL : Nat} {ret : Option FieldType} {wm Ts : List Cond} {rm : Room} {As rest st0 : List Value}
    (fix : CallFix p m c cc nL s args Ts own) (hM : cx g9 l D tys y wm rm As wc thr rv w') (cw : CallB R s args own index y bytes maxL ret wm rm rm.cells rm.slots n ∧ (Cond.static y).before args s = true)
    (hZ : ZZ g9 A0 s H0) (hE : EX s) (hK : va_K D vwCl tys s) (hP : va_P D vwCl ws H) (hD : va_D A0 ws) (hS : va_S A0 H0 H locs) (hA : ∀ q, H0.size ≤ q → A0 q)
    (isC isR : List Nat) (hnc : va_nd isC = true) (hC : isC.map (fun i => ws[i]?) = wc.map some) (hnr : va_nd isR = true) (hR : isR.map (fun i => ws[i]?) = wr.map some) (hdis : ∀ i ∈ isR, i ∉ isC)
    (hl : ls.size = nL) (hn : As.length = n) (hst : st0 = As.reverse ++ rest) (hW : (rest.map fun v => v.category).sum ≤ 8) (hdg : decode cc pc = .ok (.invokestatic index, 3)) (hf : cells + rm.cells ≤ R.cells ∧ slots + rm.slots ≤ R.slots)
    (kx : ∀ (E : String) (i : ι) (q9 : Nat) (ce : Cell) (H1 : Heap) (locs1 : List Loc), thr = some E → va_P D vwCl (wr ++ w' i) H1 → va_D A0 (wr ++ w' i) → va_S A0 H0 H1 locs1 → H1[q9]? = some ce → ce.vm = .none → s.vm.findClass E = some ce.cls → vx_W p l e R s m args below meth c H1 locs1 (cells + rm.cells) (slots + rm.slots) Q (F0 m pc ls rest) q9)
    (kk : ∀ (i : ι) (H1 : Heap) (locs1 : List Loc), thr = none → va_P D vwCl (wr ++ w' i) H1 → va_D A0 (wr ++ w' i) → va_S A0 H0 H1 locs1 → W p l e R s m args below meth c H1 locs1 (cells + rm.cells) (slots + rm.slots) Q (F0 m (pc + 3) ls ((rv i).toList ++ rest))) :
    W p l e R s m args below meth c H locs cells slots Q (F0 m pc ls st0) := by
  subst hst
  have hPc := hP.sub (ws' := wc) isC (ct_fm hC)
  have hDc := hD.sub isC hnc hC
  have hFc := va_free (wc := wc) hD hS hA isC hC
  refine cx_run (vx_runS (As := As) (rest := rest) fix (hM H.size) cw ⟨cx_blind, cx_pre hZ hE hK hS hPc hDc hFc⟩ rfl hn hl rfl (lv_room hW) hdg hf) hS (fun q _ h => hFc q h) hFc (fun E i q9 ce H1 locs1 ht hP1 hD1 hz hk1 hS1 h1 h2 h3 => ?_) (fun i H1 locs1 ht hP1 hD1 hz hk1 hS1 => ?_)
  · obtain ⟨hPn, hDn⟩ := va_join (wr := wr) (w1 := w' i) hP hD isC isR hC hR hnr hdis hk1 hFc hP1 hD1
    exact kx E i q9 ce H1 locs1 ht hPn hDn hS1 h1 h2 h3
  · obtain ⟨hPn, hDn⟩ := va_join (wr := wr) (w1 := w' i) hP hD isC isR hC hR hnr hdis hk1 hFc hP1 hD1
    exact kk i H1 locs1 ht hPn hDn hS1
theorem cx_out {E : String} {q9 : Nat} {ce : Cell} {rest : List Value} (htb : ∀ x ∈ c.exceptionTable.toList, False) (hlocks : meth.locks = false) (hcell : H[q9]? = some ce) (hv : ce.vm = .none) (hcl : s.vm.findClass E = some ce.cls)
    (hthr : thr = some E) (hK : va_K D vwCl tys s) (hP : va_P D vwCl ws H) (hD : va_D A ws) (hS : va_S A s.heap H locs) (i : ι) (is : List Nat) (hn : va_nd is = true) (hs : is.map (fun k => ws[k]?) = (w' i).map some) (hc : cells ≤ mc) (hsl : slots ≤ ms) :
    vx_W p l e R s m args below meth c H locs cells slots (vx_MQ below (cx_Q thr D tys rv w' A) (cx_X thr D tys w' A) args s mc ms A) (F0 m pc ls rest) q9 :=
  vx_out (fun x hx => (htb x hx).elim) hlocks hcell hv hcl (fun t ht hvm => cx_behind hthr hK hP hD hS i is hn hs t hvm (by rw [ht]; exact Nat.le_refl _) (fun q _ => by rw [ht])) hS.2.2 hc hsl
end CXR
theorem gd_inl {α β γ : Type} {f : α → Option γ} {g : β → Option γ} {a : α} {r : γ} (h : Sum.elim f g (.inl a) = some r) : f a = some r := h
theorem gd_inr {α β γ : Type} {f : α → Option γ} {g : β → Option γ} {b : β} {r : γ} (h : Sum.elim f g (.inr b) = some r) : g b = some r := h
/-- which exception a result is, if it is one -/
def thrOf {α β : Type} : Sum (String × α) β → Option String := Sum.elim (fun e => some e.1) (fun _ => none)
section CTA
variable {p : Program} {l : Launch} {e : Env} {R : Room} {s : State} {m : MethodId} {args : Array Value} {below : List Frame} {meth : Method} {c : Code} {H : Heap} {locs : List Loc} {cells slots : Nat} {Q : State → Prop}
variable {ι : Type} {D : va_G} {tys : List (ClassId × FieldType)} {rv : ι → Option Value} {w' : ι → va_W} {A : Nat → Prop} {ws : va_W} {H0 : Heap} {mc ms : Nat} {cc : ByteArray} {pc : Nat} {ls : Array Slot}
/-- a row is returned -/
theorem ct_a {rt : FieldType} (hx : p.tables.exec = Jvm.exec) (hb : c.code = cc) (hr : meth.sig.returnType = some (.array rt)) (hlocks : meth.locks = false) (hK : va_K D vwCl tys s) (hP : va_P D vwCl ws H) (hD : va_D A ws) (hS : va_S A s.heap H locs) (i : ι) {a : Nat} (hi : rv i = some (.ref a)) (is : List Nat) (hn : va_nd is = true) (hs : is.map (fun k => ws[k]?) = (w' i).map some) (hc : cells ≤ mc) (hsl : slots ≤ ms) (hdg : decode cc pc = .ok (.areturn, 1)) :
    W p l e R s m args below meth c H locs cells slots (MQ below (ct_Q D tys rv w' A) args s mc ms A) (F0 m pc ls [.ref a]) := by
  refine W.widen hc hsl ?_
  exact W.aret hx hb hr (Or.inr ⟨rt, rfl⟩) (Or.inr ⟨a, rfl⟩) (fun t ht hW => by have h := ct_end hK hP hD hS i is hn hs t ht hW args (rv := rv); rw [hi] at h; exact h) hS.2.2 hdg hlocks
theorem ct_newz {cZ : ClassId} {t0 : Nat} (hx : p.tables.exec = Jvm.exec) (hb : c.code = cc) (harr : (Cond.arrayClass .boolean).before args s = true) (ht0 : tys[t0]? = some (cZ, .boolean)) (hK : va_K D vwCl tys s) (hP : va_P D vwCl ws H) (hD : va_D A ws) (hS : va_S A H0 H locs) (hA : ∀ q, H0.size ≤ q → A q)
    {n : Int32} {N' : Nat} {rest : List Value} (hn : ¬ n < 0) (hN : n.toNatClampNeg = N') (hbytes : N' ≤ 100000) (hcells : cells + 1 ≤ R.cells) (hslots : slots + N' ≤ R.slots) (hdg : decode cc pc = .ok (.newarray .boolean, 2))
    (kk : ∀ (q : Nat) (H1 : Heap), va_P D vwCl (ws ++ [(q, .inl (cZ, N', .inl (fun _ => 0)))]) H1 → va_D A (ws ++ [(q, .inl (cZ, N', .inl (fun _ => 0)))]) → va_S A H0 H1 locs → W p l e R s m args below meth c H1 locs (cells + 1) (slots + N') Q (F0 m (pc + 2) ls (.ref q :: rest))) :
    W p l e R s m args below meth c H locs cells slots Q (F0 m pc ls (.int n :: rest)) := by
  refine va_newa (atype := .boolean) hx hb harr rfl hK hP hD hS hA (a0 := (N', .inl (fun _ => 0))) (fun cA => rfl) hn hN (by show N' * 1 ≤ 536870912; omega) hcells hslots hdg (fun q cA H1 hK1 hP1 hD1 hS1 => ?_)
  have h1 := (hK1.2 tys.length (cA, .boolean) (by simp; rfl)).2
  have h2 := (hK.2 t0 (cZ, .boolean) ht0).2
  have h3 : cA = cZ := Option.some.inj (h1.symm.trans h2)
  subst h3
  exact kk q H1 hP1 hD1 hS1
theorem ct_newj {cJ : ClassId} {t0 : Nat} (hx : p.tables.exec = Jvm.exec) (hb : c.code = cc) (harr : (Cond.arrayClass .long).before args s = true) (ht0 : tys[t0]? = some (cJ, .long)) (hK : va_K D vwCl tys s) (hP : va_P D vwCl ws H) (hD : va_D A ws) (hS : va_S A H0 H locs) (hA : ∀ q, H0.size ≤ q → A q)
    {n : Int32} {N' : Nat} {rest : List Value} (hn : ¬ n < 0) (hN : n.toNatClampNeg = N') (hbytes : N' ≤ 100000) (hcells : cells + 1 ≤ R.cells) (hslots : slots + N' ≤ R.slots) (hdg : decode cc pc = .ok (.newarray .long, 2))
    (kk : ∀ (q : Nat) (H1 : Heap), va_P D vwCl (ws ++ [(q, .inl (cJ, N', .inr (.inl (fun _ => 0))))]) H1 → va_D A (ws ++ [(q, .inl (cJ, N', .inr (.inl (fun _ => 0))))]) → va_S A H0 H1 locs → W p l e R s m args below meth c H1 locs (cells + 1) (slots + N') Q (F0 m (pc + 2) ls (.ref q :: rest))) :
    W p l e R s m args below meth c H locs cells slots Q (F0 m pc ls (.int n :: rest)) := by
  refine va_newa (atype := .long) hx hb harr rfl hK hP hD hS hA (a0 := (N', .inr (.inl (fun _ => 0)))) (fun cA => rfl) hn hN (by show N' * 8 ≤ 536870912; omega) hcells hslots hdg (fun q cA H1 hK1 hP1 hD1 hS1 => ?_)
  have h1 := (hK1.2 tys.length (cA, .long) (by simp; rfl)).2
  have h2 := (hK.2 t0 (cJ, .long) ht0).2
  have h3 : cA = cJ := Option.some.inj (h1.symm.trans h2)
  subst h3
  exact kk q H1 hP1 hD1 hS1
/-- a new row of rows of ints -/
theorem ct_newA {cR : ClassId} {t0 index : Nat} {own : String} (hx : p.tables.exec = Jvm.exec) (hb : c.code = cc) (hown : s.vm.findClass own = some m.cls) (hcl : (Cond.classLink own index "[I").before args s = true) (hE : EX s) (ht0 : tys[t0]? = some (cR, .array .int)) (hK : va_K D vwCl tys s) (hP : va_P D vwCl ws H) (hD : va_D A ws) (hS : va_S A H0 H locs) (hA : ∀ q, H0.size ≤ q → A q)
    {n : Int32} {N' : Nat} {rest : List Value} (hn : ¬ n < 0) (hN : n.toNatClampNeg = N') (hbytes : N' ≤ 100000) (hcells : cells + 1 ≤ R.cells) (hslots : slots + N' ≤ R.slots) (hdg : decode cc pc = .ok (.anewarray index, 3))
    (kk : ∀ (q : Nat) (H1 : Heap), va_P D vwCl (ws ++ [(q, .inl (cR, N', .inr (.inr (.inr (.inr (fun _ => none))))))]) H1 → va_D A (ws ++ [(q, .inl (cR, N', .inr (.inr (.inr (.inr (fun _ => none))))))]) → va_S A H0 H1 locs → W p l e R s m args below meth c H1 locs (cells + 1) (slots + N') Q (F0 m (pc + 3) ls (.ref q :: rest))) :
    W p l e R s m args below meth c H locs cells slots Q (F0 m pc ls (.int n :: rest)) := by
  subst hN
  have hover : (Cond.arrayOver (.array .int)).before args s = true := over_moved (Vm.Alike.refl s.vm) hE.2.2.2.2.2
  refine W.anewA (t := .int) hx hb hown hcl hover rfl hdg rfl hn (by omega) hcells hslots fun cA kA comp f1 f2 f3 f4 => ?_
  have h2 := (hK.2 t0 (cR, .array .int) ht0).2
  have h3 : cA = cR := Option.some.inj (f1.symm.trans h2)
  subst h3
  generalize hH1 : H.push ({ cls := cA, slots := Array.replicate n.toNatClampNeg .null, vm := .none } : Cell) = H1
  have z1 : H1.size = H.size + 1 := by rw [← hH1, Array.size_push]
  have e1 : H1[H.size]? = some (arrV cA n.toNatClampNeg (fun _ => .null)) := by rw [← hH1, Array.getElem?_push_size, ← arrV_new]
  have o1 : ∀ q : Nat, q < H.size → H1[q]? = H[q]? := fun q hq => by rw [← hH1, Array.getElem?_push, if_neg (Nat.ne_of_lt hq)]
  have hk : ∀ (k : Nat) (x : Nat × va_E), ws[k]? = some x → H1[x.1]? = H[x.1]? := fun k x hx => o1 x.1 ((hP k x hx).lt)
  refine kk H.size H1 ((hP.kept hk).app (fun k x hx => ?_)) (hD.push hP rfl (hA _ hS.1)) ⟨Nat.le_trans hS.1 (by omega), fun x h1 h2 => (o1 x (Nat.lt_of_lt_of_le h1 hS.1)).trans (hS.2.1 x h1 h2), hS.2.2⟩
  have hz : k < 1 := (List.getElem?_eq_some_iff.mp hx).1
  rw [show k = 0 by omega] at hx
  cases hx
  show H1[H.size]? = some (vp_cell _ _)
  rw [vp_cell_q]
  exact e1
/-- a row of ints goes into a row of rows -/
theorem ct_astA {cR cI : ClassId} {q0 qk t0 t1 a v n nv : Nat} {f : Nat → Option Nat} {g : Nat → Int32} {rest : List Value} (hx : p.tables.exec = Jvm.exec) (hb : c.code = cc) (hE : EX s) (hK : va_K D vwCl tys s) (hP : va_P D vwCl ws H) (hD : va_D A ws) (hS : va_S A H0 H locs)
    (ha : ws[q0]? = some (a, .inl (cR, n, .inr (.inr (.inr (.inr f)))))) (ht0 : tys[t0]? = some (cR, .array .int)) (hv : ws[qk]? = some (v, .inl (cI, nv, .inl g))) (ht1 : tys[t1]? = some (cI, .int)) {i : Int32} (hin : vp_in i n) (hdg : decode cc pc = .ok (.aastore, 1))
    (kk : ∀ (H1 : Heap) (locs1 : List Loc), va_P D vwCl (ws.set q0 (a, .inl (cR, n, .inr (.inr (.inr (.inr (va_up f i.toNatClampNeg (some v)))))))) H1 → va_D A (ws.set q0 (a, .inl (cR, n, .inr (.inr (.inr (.inr (va_up f i.toNatClampNeg (some v)))))))) → va_S A H0 H1 locs1 → W p l e R s m args below meth c H1 locs1 cells slots Q (F0 m (pc + 1) ls rest)) :
    W p l e R s m args below meth c H locs cells slots Q (F0 m pc ls (.ref v :: .int i :: .ref a :: rest)) := by
  have hlt : i.toNatClampNeg < n := Nat.not_le.mp fun q => hin (Or.inr q)
  have h0 : ¬ i < 0 := fun q => hin (Or.inl q)
  have g1 : H[v]? = some (vp_cell cI (nv, .inl g)) := hP qk _ hv
  obtain ⟨comp, cA, kA, k3, -, k1, k2, k4⟩ := arrayOverA_spec (hE.2.2.2.2.2 : (Cond.arrayOver (.array .int)).holds #[] s none s [] = true)
  have h2 := (hK.2 t0 (cR, .array .int) ht0).2
  have e1 : cA = cR := Option.some.inj (k4.symm.trans h2)
  subst e1
  have h4 : s.vm.findClass (FieldType.array FieldType.int).toString = some cI := (hK.2 t1 (cI, .int) ht1).2
  have e2 : comp = cI := Option.some.inj (k3.symm.trans h4)
  subst e2
  obtain ⟨kC, hkC, -⟩ := Vm.findClass_spec k3
  refine W.aast hx hb (hP q0 _ ha) (fun q h => by cases h) (fun h => by cases h) k1 k2 rfl hkC ⟨h0, by show _ < (arrV _ _ _).slots.size; rw [arrV_size]; exact hlt⟩ g1 (fun q h => by cases h) hkC (by show s.vm.assignable comp comp = true; rw [Vm.assignable, Vm.assignableAux]; simp only [beq_self_eq_true, Bool.true_or]) rfl rfl hdg fun H1 e z oq => ?_
  refine kk H1 _ (hP.set hD ha ?_ oq) (hD.set ha) (hS.put z oq (hD.2 q0 _ ha))
  show H1[a]? = some (vp_cell _ _)
  rw [e]
  rw [vp_cell_q, vp_cell_q, arrV_store]
  congr 2
  funext q
  by_cases hq : q = i.toNatClampNeg
  · subst hq
    simp [updV, va_up, va_rf]
  · simp [updV, va_up, hq]
end CTA
/-- room in a loop that makes rows: n turns are left behind this one -/
theorem al_le {cc n c1 C T k : Nat} (h : cc + (n + 1) * c1 ≤ C) (hC : C ≤ T) (hk : k ≤ c1) : cc + k ≤ T := by
  have h2 : c1 ≤ (n + 1) * c1 := Nat.le_mul_of_pos_left _ (Nat.succ_pos n)
  omega
theorem al_back {cc n c1 C k : Nat} (h : cc + (n + 1) * c1 ≤ C) (hk : k ≤ c1) : cc + k + n * c1 ≤ C := by
  have h2 : (n + 1) * c1 = n * c1 + c1 := Nat.succ_mul n c1
  omega
section CTB
variable {p : Program} {l : Launch} {e : Env} {R : Room} {s : State} {m : MethodId} {args : Array Value} {below : List Frame} {meth : Method} {c : Code} {H : Heap} {locs : List Loc} {cells slots : Nat} {Q : State → Prop}
variable {D : va_G} {tys : List (ClassId × FieldType)} {A : Nat → Prop} {ws : va_W} {H0 : Heap} {cc : ByteArray} {pc : Nat} {ls : Array Slot}
theorem ct_aald {cR : ClassId} {q0 t0 a n v : Nat} {f : Nat → Option Nat} {rest : List Value} (hx : p.tables.exec = Jvm.exec) (hb : c.code = cc) (hK : va_K D vwCl tys s) (hP : va_P D vwCl ws H)
    (ha : ws[q0]? = some (a, .inl (cR, n, .inr (.inr (.inr (.inr f)))))) (ht0 : tys[t0]? = some (cR, .array .int)) {i : Int32} (hin : vp_in i n) (hv : f i.toNatClampNeg = some v) (hdg : decode cc pc = .ok (.aaload, 1))
    (kk : W p l e R s m args below meth c H locs cells slots Q (F0 m (pc + 1) ls (.ref v :: rest))) :
    W p l e R s m args below meth c H locs cells slots Q (F0 m pc ls (.int i :: .ref a :: rest)) := by
  have hlt : i.toNatClampNeg < n := Nat.not_le.mp fun q => hin (Or.inr q)
  have kk' : W p l e R s m args below meth c H locs cells slots Q (F0 m (pc + 1) ls (va_rf (f i.toNatClampNeg) :: rest)) := by rw [hv]; exact kk
  exact W.aald (v := va_rf (f i.toNatClampNeg)) (ty := .array .int) hx hb (hP q0 _ ha) ((hK.2 t0 _ ht0).1 n (fun j => va_rf (f j))) rfl (fun q => by cases q) (by show ¬ (i < 0 ∨ (arrV _ _ _).slots.size ≤ _); rw [arrV_size]; exact hin) (by show (arrV _ _ _).slots[_]? = _; rw [arrV_read _ _ hlt]) rfl rfl hdg kk'
end CTB
