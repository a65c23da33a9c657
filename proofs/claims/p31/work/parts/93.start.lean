/-! the whole walk, out of the law's walk and the pure level -/
theorem whole_start {p : Program} {e : Env} {s : State} {m : MethodId} {below : List Frame} {meth : Method} {c : Code} (l : Launch) (hflags : l.flags = flags0) {b L : Nat} {xs : Nat → Int32} (hL : L ≤ 260) (C0 : lw_At p s m meth c b L xs) :
    W p l e room_1 s m #[Value.ref b] below meth c s.heap [] 0 0 (lw_Z below #[Value.ref b] s) (entryFrame m ([Value.ref b] : List Value).toArray 20) := by
  have hl0 : l.stackTraces = false := by
    rw [Launch.stackTraces, hflags]
    decide +kernel
  exact law_walk l hl0 C0 () (pl_law hL xs)
