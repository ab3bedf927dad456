/-! THE START holds; what is left: corridor and ask -/
def A0 : pL := (0, 0, 0, 0, (fun w => if w = 10 then [13] else [43]), (fun _ => []), false, false)
def H0 : hL := (fun _ => 0, fun _ => (0, 0, 0))
theorem gA_x0 (o i : Nat) : gA x0 o i = nI 0 := rfl
theorem gQ_x0 (o i : Nat) : gQ x0 o i = 0 := rfl
theorem WA_0 : WA A0 := ⟨Nat.zero_le _, Nat.zero_le _, Nat.zero_le _, Nat.zero_le _, fun _ => rfl, fun p hp => absurd hp (Nat.not_lt_zero _), fun h => absurd h (Nat.not_lt_zero _), fun p hp => absurd hp (Nat.not_lt_zero _), fun _ => rfl, fun _ => rfl⟩
theorem HB_0 : HB A0 H0 := ⟨Nat.zero_le _, Nat.zero_le _, Nat.one_pos, Nat.zero_le _, fun _ _ => Nat.zero_le _, fun _ _ => Nat.zero_le _, fun _ _ => Nat.zero_le _, fun i hi => absurd hi (Nat.not_lt_zero _)⟩
theorem nI00 : nI 0 = (0 : Int32) := rfl
theorem gA_m0 {o : Nat} (h : iA_m o = []) (i : Nat) : gA m0 o i = nI 0 := by
  show (iA_m o).getD i 0 = 0
  rw [h]; rfl
theorem IVX_0 : IVX A0 H0 (0, fun _ => H0) (0, fun _ => (0, false)) x0 := by
  refine ⟨⟨rfl, rfl, rfl, rfl, fun p hp => absurd hp (Nat.not_lt_zero _), fun h => absurd h (Nat.not_lt_zero _), 0, rfl, by omega, fun p hp => absurd hp (Nat.not_lt_zero _)⟩, fun p hp => absurd hp (Nat.not_lt_zero _), ⟨fun i hi => rfl, fun i hi => absurd hi (Nat.not_lt_zero _)⟩, fun k hk => Or.inl rfl, Or.inl rfl, ⟨rfl, rfl, rfl, Or.inl rfl⟩, rfl, 0, by omega, rfl, fun k hk => absurd hk (Nat.not_lt_zero _)⟩
theorem IVM_0 : IVM A0 H0 (0, fun _ => H0) (0, fun _ => (0, false)) m0 := by
  have e28 := gA_m0 (o := 28) rfl
  have e34 := gA_m0 (o := 34) rfl
  refine ⟨⟨e28 4, e28 5, e28 6, e28 7, fun p hp => absurd hp (Nat.not_lt_zero _), fun h => absurd h (Nat.not_lt_zero _)⟩, ⟨fun p hp => absurd hp (Nat.not_lt_zero _), fun _ _ _ => rfl⟩, ⟨⟨e34 0, e34 1, fun d hd => absurd hd (Nat.not_lt_zero _), fun p hp => e34 _⟩, rfl, (show MK H0 m0 from ⟨e34 84, fun k hk => absurd hk (by show ¬ k < min 40 0; omega)⟩)⟩, ⟨rfl, fun k hk => absurd hk (Nat.not_lt_zero _)⟩, ⟨rfl, 0, by omega, rfl, fun k hk => absurd hk (Nat.not_lt_zero _)⟩, rfl⟩
theorem Inv_0 : Inv x0 m0 := by
  refine ⟨A0, H0, (0, fun _ => H0), (0, fun _ => (0, false)), ⟨WA_0, HB_0, Nat.le_refl _, ⟨Nat.zero_le _, fun k hk => absurd hk (Nat.not_lt_zero _)⟩, ⟨Nat.zero_le _, fun k hk => absurd hk (Nat.not_lt_zero _)⟩⟩, IVX_0, IVM_0, ⟨0, fun _ => 0, by omega, rfl, rfl, fun i hi => absurd hi (Nat.not_lt_zero _)⟩, fun k hk => (gA_m0 (o := 2) rfl k).symm ▸ rfl, ⟨0, by omega, rfl, rfl, fun i hi => absurd hi (Nat.not_lt_zero _)⟩, ⟨1, by omega, rfl, rfl⟩, rfl, rfl⟩
