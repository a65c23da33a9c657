/-! START: the tables at the entry of the law -/
theorem st_arr {ty : FieldType} (hp : ∀ n, ¬ ty = .object n) {args : Array Value} {s : State} (h : (Cond.arrayClass ty).before args s = true) : ∃ cA, ArrOfT s cA ty ∧ s.vm.findClass ("[" ++ ty.toString) = some cA := by
  obtain ⟨cA, kA, comp, h1, h2, h3⟩ := Cond.arrayClass_spec h
  exact ⟨cA, fun n z => ⟨fun k h => (by cases h), kA, h2, comp, h3⟩, h1⟩
theorem st_in {w : Cond} {p : Program} {s : State} {m : MethodId} {meth : Method} {c : Code} {b L : Nat} {xs : Nat → Int32} (C0 : lw_At p s m meth c b L xs) (h : w ∈ lw_tbl) : w.before #[Value.ref b] s = true := C0.2.2.2.2.2.1 w h
theorem st_flat {p : Program} {s : State} {m : MethodId} {meth : Method} {c : Code} {b L : Nat} {xs : Nat → Int32} (C0 : lw_At p s m meth c b L xs) : (Jvm.Cond.and given_1 narrow_1).before #[Value.ref b] s = true := C0.2.2.2.2.2.2.2.2.2
theorem law_K {p : Program} {s : State} {m : MethodId} {meth : Method} {c : Code} {b L : Nat} {xs : Nat → Int32} (C0 : lw_At p s m meth c b L xs) : ∃ (dC : Nat → ClassId) (dI : Nat → Nat → Nat) (tys : List (ClassId × FieldType)) (cI cR : ClassId), tys[0]? = some (cI, .int) ∧ tys[3]? = some (cR, .array .int) ∧ va_K (dC, dI) vwCl tys s := by
  have hts : ∀ w ∈ lw_tbl, w.before #[Value.ref b] s = true := C0.2.2.2.2.2.1
  obtain ⟨c0, i0, h0⟩ := u_known (C := RX0) (T := TX0) (N := 1) (n := 1) hts inX0 (hts (.instantiable RX0 1) (by decide +kernel))
  obtain ⟨c1, i1, h1⟩ := u_known (C := RX1) (T := TX1) (N := 2) (n := 2) hts inX1 (hts (.instantiable RX1 2) (by decide +kernel))
  obtain ⟨c2, i2, h2⟩ := u_known (C := RX2) (T := TX2) (N := 4) (n := 4) hts inX2 (hts (.instantiable RX2 4) (by decide +kernel))
  obtain ⟨c3, i3, h3⟩ := u_known (C := RX4) (T := TX4) (N := 4) (n := 4) hts inX4 (hts (.instantiable RX4 4) (by decide +kernel))
  obtain ⟨c4, i4, h4⟩ := u_known (C := RX5) (T := TX5) (N := 6) (n := 6) hts inX5 (hts (.instantiable RX5 6) (by decide +kernel))
  obtain ⟨c5, i5, h5⟩ := u_known (C := RX6) (T := TX6) (N := 3) (n := 3) hts inX6 (hts (.instantiable RX6 3) (by decide +kernel))
  obtain ⟨c6, i6, h6⟩ := u_known (C := RX7) (T := TX7) (N := 8) (n := 8) hts inX7 (hts (.instantiable RX7 8) (by decide +kernel))
  obtain ⟨cI, acI, ncI⟩ := st_arr (ty := .int) (fun n h => by cases h) (hts (.arrayClass .int) (by decide +kernel))
  -- no array class .boolean
  -- no array class .long
  obtain ⟨comp, cR, kR, k3, -, k1, k2, nR⟩ := arrayOverA_spec (hts (.arrayOver (.array .int)) (by decide +kernel))
  have aR : ArrOfT s cR (.array .int) := fun n z => ⟨fun k h => (by cases h), kR, k1, comp, k2⟩
  refine ⟨fun k => if k = 0 then c0 else if k = 1 then c1 else if k = 2 then c2 else if k = 3 then c3 else if k = 4 then c4 else if k = 5 then c5 else c6, fun k => if k = 0 then i0 else if k = 1 then i1 else if k = 2 then i2 else if k = 3 then i3 else if k = 4 then i4 else if k = 5 then i5 else i6, [(cI, .int), (cI, .int), (cI, .int), (cR, .array .int)], cI, cR, rfl, rfl, ⟨?_, ?_⟩⟩
  · intro k q hq
    match k, hq with
    | 0, hq => cases hq; exact h0
    | 1, hq => cases hq; exact h1
    | 2, hq => cases hq; exact h2
    | 3, hq => cases hq; exact h3
    | 4, hq => cases hq; exact h4
    | 5, hq => cases hq; exact h5
    | 6, hq => cases hq; exact h6
    | k + 7, hq => simp [vwCl] at hq
  · intro k q hq
    match k, hq with
    | 0, hq => cases hq; exact ⟨acI, ncI⟩
    | 1, hq => cases hq; exact ⟨acI, ncI⟩
    | 2, hq => cases hq; exact ⟨acI, ncI⟩
    | 3, hq => cases hq; exact ⟨aR, nR⟩
    | k + 4, hq => simp at hq
theorem st_str {own tx : String} {k : Nat} {args : Array Value} {s : State} (h1 : (Cond.stringRef own k tx).before args s = true) (h2 : (Cond.exactly (.string own k) "java/lang/String").before args s = true) : ∃ sa, vk_R own k tx sa s := by
  obtain ⟨a, c, cA, kA, q1, -⟩ := Cond.exactly_spec (args := args) (first := s) (o := none) (s := s) (idx := []) (t := .string own k) (cls := "java/lang/String") h2
  exact ⟨a, vk_R.of h1 q1⟩
theorem st_s0 {p : Program} {s : State} {m : MethodId} {meth : Method} {c : Code} {b L : Nat} {xs : Nat → Int32} (C0 : lw_At p s m meth c b L xs) : ∃ sa, vk_R "BellfounderTower" 237 "no change" sa s := st_str (st_in C0 (by decide +kernel)) (flat_of_before _ (st_flat C0) _ (by decide +kernel))
theorem st_s1 {p : Program} {s : State} {m : MethodId} {meth : Method} {c : Code} {b L : Nat} {xs : Nat → Int32} (C0 : lw_At p s m meth c b L xs) : ∃ sa, vk_R "BellfounderTower" 65 "the method has 14 changes" sa s := st_str (st_in C0 (by decide +kernel)) (flat_of_before _ (st_flat C0) _ (by decide +kernel))
theorem st_s2 {p : Program} {s : State} {m : MethodId} {meth : Method} {c : Code} {b L : Nat} {xs : Nat → Int32} (C0 : lw_At p s m meth c b L xs) : ∃ sa, vk_R "BellfounderTower" 79 "the method has no changes" sa s := st_str (st_in C0 (by decide +kernel)) (flat_of_before _ (st_flat C0) _ (by decide +kernel))
theorem st_s3 {p : Program} {s : State} {m : MethodId} {meth : Method} {c : Code} {b L : Nat} {xs : Nat → Int32} (C0 : lw_At p s m meth c b L xs) : ∃ sa, vk_R "BellfounderTower" 106 "what is 0 to 5" sa s := st_str (st_in C0 (by decide +kernel)) (flat_of_before _ (st_flat C0) _ (by decide +kernel))
theorem st_s4 {p : Program} {s : State} {m : MethodId} {meth : Method} {c : Code} {b L : Nat} {xs : Nat → Int32} (C0 : lw_At p s m meth c b L xs) : ∃ sa, vk_R "BellfounderTower" 110 "no such place in the method" sa s := st_str (st_in C0 (by decide +kernel)) (flat_of_before _ (st_flat C0) _ (by decide +kernel))
theorem st_s5 {p : Program} {s : State} {m : MethodId} {meth : Method} {c : Code} {b L : Nat} {xs : Nat → Int32} (C0 : lw_At p s m meth c b L xs) : ∃ sa, vk_R "BellfounderTower" 252 "no row" sa s := st_str (st_in C0 (by decide +kernel)) (flat_of_before _ (st_flat C0) _ (by decide +kernel))
theorem st_s6 {p : Program} {s : State} {m : MethodId} {meth : Method} {c : Code} {b L : Nat} {xs : Nat → Int32} (C0 : lw_At p s m meth c b L xs) : ∃ sa, vk_R "BellfounderTower" 239 "a call is 0 to 2" sa s := st_str (st_in C0 (by decide +kernel)) (flat_of_before _ (st_flat C0) _ (by decide +kernel))
theorem st_s7 {p : Program} {s : State} {m : MethodId} {meth : Method} {c : Code} {b L : Nat} {xs : Nat → Int32} (C0 : lw_At p s m meth c b L xs) : ∃ sa, vk_R "BellfounderTower" 132 "there are 24 calls" sa s := st_str (st_in C0 (by decide +kernel)) (flat_of_before _ (st_flat C0) _ (by decide +kernel))
theorem st_s8 {p : Program} {s : State} {m : MethodId} {meth : Method} {c : Code} {b L : Nat} {xs : Nat → Int32} (C0 : lw_At p s m meth c b L xs) : ∃ sa, vk_R "BellfounderTower" 140 "there is no call" sa s := st_str (st_in C0 (by decide +kernel)) (flat_of_before _ (st_flat C0) _ (by decide +kernel))
theorem st_s9 {p : Program} {s : State} {m : MethodId} {meth : Method} {c : Code} {b L : Nat} {xs : Nat → Int32} (C0 : lw_At p s m meth c b L xs) : ∃ sa, vk_R "BellfounderTower" 241 "no such place among the calls" sa s := st_str (st_in C0 (by decide +kernel)) (flat_of_before _ (st_flat C0) _ (by decide +kernel))
theorem st_s10 {p : Program} {s : State} {m : MethodId} {meth : Method} {c : Code} {b L : Nat} {xs : Nat → Int32} (C0 : lw_At p s m meth c b L xs) : ∃ sa, vk_R "BellfounderTower" 173 "what is 0 to 7" sa s := st_str (st_in C0 (by decide +kernel)) (flat_of_before _ (st_flat C0) _ (by decide +kernel))
theorem st_s11 {p : Program} {s : State} {m : MethodId} {meth : Method} {c : Code} {b L : Nat} {xs : Nat → Int32} (C0 : lw_At p s m meth c b L xs) : ∃ sa, vk_R "BellfounderTower" 243 "no such row in the touch" sa s := st_str (st_in C0 (by decide +kernel)) (flat_of_before _ (st_flat C0) _ (by decide +kernel))
theorem st_s12 {p : Program} {s : State} {m : MethodId} {meth : Method} {c : Code} {b L : Nat} {xs : Nat → Int32} (C0 : lw_At p s m meth c b L xs) : ∃ sa, vk_R "BellfounderTower" 245 "no such bell" sa s := st_str (st_in C0 (by decide +kernel)) (flat_of_before _ (st_flat C0) _ (by decide +kernel))
theorem st_s13 {p : Program} {s : State} {m : MethodId} {meth : Method} {c : Code} {b L : Nat} {xs : Nat → Int32} (C0 : lw_At p s m meth c b L xs) : ∃ sa, vk_R "BellfounderTower" 247 "0 to 5 leads are looked at" sa s := st_str (st_in C0 (by decide +kernel)) (flat_of_before _ (st_flat C0) _ (by decide +kernel))
theorem st_s14 {p : Program} {s : State} {m : MethodId} {meth : Method} {c : Code} {b L : Nat} {xs : Nat → Int32} (C0 : lw_At p s m meth c b L xs) : ∃ sa, vk_R "BellfounderTower" 34 "there are 4 to 7 bells" sa s := st_str (st_in C0 (by decide +kernel)) (flat_of_before _ (st_flat C0) _ (by decide +kernel))
theorem st_s15 {p : Program} {s : State} {m : MethodId} {meth : Method} {c : Code} {b L : Nat} {xs : Nat → Int32} (C0 : lw_At p s m meth c b L xs) : ∃ sa, vk_R "BellfounderTower" 74 "the method has no changes, or would have more than 14" sa s := st_str (st_in C0 (by decide +kernel)) (flat_of_before _ (st_flat C0) _ (by decide +kernel))
theorem st_s16 {p : Program} {s : State} {m : MethodId} {meth : Method} {c : Code} {b L : Nat} {xs : Nat → Int32} (C0 : lw_At p s m meth c b L xs) : ∃ sa, vk_R "BellfounderTower" 84 "1 is the bob, 2 the single" sa s := st_str (st_in C0 (by decide +kernel)) (flat_of_before _ (st_flat C0) _ (by decide +kernel))
theorem st_n0 {p : Program} {s : State} {m : MethodId} {meth : Method} {c : Code} {b L : Nat} {xs : Nat → Int32} (C0 : lw_At p s m meth c b L xs) : va_Nc "java/lang/IllegalArgumentException" "java/lang/IllegalStateException" s := va_Nc.of (flat_of_before _ (st_flat C0) _ (by decide +kernel))
theorem st_n1 {p : Program} {s : State} {m : MethodId} {meth : Method} {c : Code} {b L : Nat} {xs : Nat → Int32} (C0 : lw_At p s m meth c b L xs) : va_Nc "java/lang/IndexOutOfBoundsException" "java/lang/IllegalStateException" s := va_Nc.of (flat_of_before _ (st_flat C0) _ (by decide +kernel))
theorem law_E {p : Program} {s : State} {m : MethodId} {meth : Method} {c : Code} {b L : Nat} {xs : Nat → Int32} (C0 : lw_At p s m meth c b L xs) : EX s := by
  refine ⟨?_, ?_, ?_, ?_, ?_, ?_⟩
  · exact List.forall_mem_cons.mpr ⟨va_Nw.of rfl (st_in C0 (by decide +kernel)), List.forall_mem_cons.mpr ⟨va_Nw.of rfl (st_in C0 (by decide +kernel)), List.forall_mem_cons.mpr ⟨va_Nw.of rfl (st_in C0 (by decide +kernel)), List.forall_mem_cons.mpr ⟨va_Nw.of rfl (st_in C0 (by decide +kernel)), fun _ h => absurd h List.not_mem_nil⟩⟩⟩⟩
  · exact List.forall_mem_cons.mpr ⟨st_s0 C0, List.forall_mem_cons.mpr ⟨st_s1 C0, List.forall_mem_cons.mpr ⟨st_s2 C0, List.forall_mem_cons.mpr ⟨st_s3 C0, List.forall_mem_cons.mpr ⟨st_s4 C0, List.forall_mem_cons.mpr ⟨st_s5 C0, List.forall_mem_cons.mpr ⟨st_s6 C0, List.forall_mem_cons.mpr ⟨st_s7 C0, List.forall_mem_cons.mpr ⟨st_s8 C0, List.forall_mem_cons.mpr ⟨st_s9 C0, List.forall_mem_cons.mpr ⟨st_s10 C0, List.forall_mem_cons.mpr ⟨st_s11 C0, List.forall_mem_cons.mpr ⟨st_s12 C0, List.forall_mem_cons.mpr ⟨st_s13 C0, List.forall_mem_cons.mpr ⟨st_s14 C0, List.forall_mem_cons.mpr ⟨st_s15 C0, List.forall_mem_cons.mpr ⟨st_s16 C0, fun _ h => absurd h List.not_mem_nil⟩⟩⟩⟩⟩⟩⟩⟩⟩⟩⟩⟩⟩⟩⟩⟩⟩
  · exact List.forall_mem_cons.mpr ⟨va_Nw.of rfl (st_in C0 (by decide +kernel)), List.forall_mem_cons.mpr ⟨va_Nw.of rfl (st_in C0 (by decide +kernel)), List.forall_mem_cons.mpr ⟨va_Nw.of rfl (st_in C0 (by decide +kernel)), List.forall_mem_cons.mpr ⟨va_Nw.of rfl (st_in C0 (by decide +kernel)), List.forall_mem_cons.mpr ⟨va_Nw.of rfl (st_in C0 (by decide +kernel)), List.forall_mem_cons.mpr ⟨va_Nw.of rfl (st_in C0 (by decide +kernel)), fun _ h => absurd h List.not_mem_nil⟩⟩⟩⟩⟩⟩
  · exact List.forall_mem_cons.mpr ⟨va_Nw.of rfl (st_in C0 (by decide +kernel)), List.forall_mem_cons.mpr ⟨va_Nw.of rfl (st_in C0 (by decide +kernel)), List.forall_mem_cons.mpr ⟨va_Nw.of rfl (st_in C0 (by decide +kernel)), fun _ h => absurd h List.not_mem_nil⟩⟩⟩
  · exact List.forall_mem_cons.mpr ⟨st_n0 C0, List.forall_mem_cons.mpr ⟨st_n1 C0, fun _ h => absurd h List.not_mem_nil⟩⟩
  · exact over_moved (Vm.Alike.refl s.vm) (st_in C0 (w := .arrayOver (.array .int)) (by decide +kernel))
theorem law_Z {p : Program} {s : State} {m : MethodId} {meth : Method} {c : Code} {b L : Nat} {xs : Nat → Int32} (C0 : lw_At p s m meth c b L xs) {A : Nat → Prop} (hA : ∀ a : Nat, a < s.heap.size → ¬ A a) : vx_Zq Bundle.tN "UNASSIGNED_STACK" Bundle.steD A s s.heap ∧ vx_Zq Bundle.tN "SUPPRESSED_SENTINEL" Bundle.listD A s s.heap :=
  ⟨vx_Zqof (st_in C0 (by decide +kernel)) (st_in C0 (by decide +kernel)) (flat_of_before _ (st_flat C0) _ (by decide +kernel)) hA, vx_Zqof (st_in C0 (by decide +kernel)) (st_in C0 (by decide +kernel)) (flat_of_before _ (st_flat C0) _ (by decide +kernel)) hA⟩
