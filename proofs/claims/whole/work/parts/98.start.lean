/-! THE PURE HALF -/
theorem pure_main : ∃ (I : mS → mS → Prop) (N : Nat), I x0 m0 ∧ PureOK I N := by
  have hN : 10000 ≤ 10000 := Nat.le_refl _
  exact ⟨Inv, 10000, Inv_0, P_feed hN, P_end hN, P_corridor hN, P_fault, P_has hN, P_letter hN, P_door hN, P_porter hN, P_order hN, P_kept hN, P_later hN, P_cold hN, P_back hN, P_row hN, P_changes hN, P_sends hN, P_alike hN, P_alone hN, P_widest hN, P_rest hN, P_odds hN, P_see hN, P_fits hN, P_walked hN, P_tells hN, P_send hN, P_turn hN, P_oil hN, P_paint hN, P_nights hN, P_chance hN, P_undo hN, P_seed hN, P_ask hN, P_image hN, P_octet hN, P_on hN, P_status hN⟩
/-- from the entry, for every script of at most 3072 ints, the law comes to its end with true -/
theorem whole_start {p : Program} {e : Env} {s : State} {m : MethodId} {below : List Frame} {meth : Method} {c : Code} (l : Launch) (hflags : l.flags = flags0) {b L : Nat} {xs : Nat → Int32} (hL : L ≤ 3072) (C0 : lw_At p s m meth c b L xs) : W p l e room_1 s m #[Value.ref b] below meth c s.heap [] 0 0 (lw_Z below #[Value.ref b] s) (entryFrame m ([Value.ref b] : List Value).toArray 4) := by
  obtain ⟨I, N, h1, h2⟩ := pure_main
  exact whole_of l hL C0 h1 h2
