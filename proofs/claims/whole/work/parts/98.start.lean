/-! THE PURE HALF STANDS OPEN HERE UNTIL ITS PARTS ARE DONE -/
theorem pure_main : ∃ (I : mS → mS → Prop) (N : Nat), I x0 m0 ∧ PureOK I N := by
  sorry
/-- from the entry, for every script of at most 3072 ints, the law comes to its end with true -/
theorem whole_start {p : Program} {e : Env} {s : State} {m : MethodId} {below : List Frame} {meth : Method} {c : Code} (l : Launch) (hflags : l.flags = flags0) {b L : Nat} {xs : Nat → Int32} (hL : L ≤ 3072) (C0 : lw_At p s m meth c b L xs) : W p l e room_1 s m #[Value.ref b] below meth c s.heap [] 0 0 (lw_Z below #[Value.ref b] s) (entryFrame m ([Value.ref b] : List Value).toArray 4) := by
  obtain ⟨I, N, h1, h2⟩ := pure_main
  exact whole_of l hL C0 h1 h2
