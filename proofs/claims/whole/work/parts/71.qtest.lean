/-! TESTS AND SUMS, asked for as a whole -/
section QTEST
variable {N n p o : Nat} {tp : Nat → Nat} {b : Bool} {s s0 t t0 : mS} {kd mk pg : Nat} {al : Nat → Bool} {L C : List Nat}
theorem lay_t (hK : KdA kd mk al) (hN : 10000 ≤ N) : ∀ d o, o + d = 6 → ∀ r, 20 + 2 * d ≤ r → FactC N tp n kd mk pg al r o ∧ TestC N tp n kd mk pg al (r + 1) o := by
  intro d
  induction d with
  | zero =>
    intro o ho r hr
    have hP : FactC N tp n kd mk pg al r o := by
      obtain ⟨r', rfl⟩ : ∃ r', r = r' + 2 := ⟨r - 2, by omega⟩
      exact fact_j (by omega) (by omega) hN (sq_c (lay_j hK hN 0 o ho r' (by omega)).2 hN) (fun h => by omega) (fun h => by omega)
    exact ⟨hP, test_j hN hP⟩
  | succ d ih =>
    intro o ho r hr
    have hP : FactC N tp n kd mk pg al r o := by
      obtain ⟨r', rfl⟩ : ∃ r', r = r' + 2 := ⟨r - 2, by omega⟩
      exact fact_j (by omega) (by omega) hN (sq_c (lay_j hK hN (d + 1) o ho r' (by omega)).2 hN) (fun h => (ih (o + 1) (by omega) (r' + 1) (by omega)).1) (fun h => (ih (o + 1) (by omega) r' (by omega)).2)
    exact ⟨hP, test_j hN hP⟩
/-- what a text of a kind comes to: a truth (q true) or a number, read by the one, by the other -/
def RdC (N : Nat) (tp : Nat → Nat) (n kd mk pg : Nat) (al : Nat → Bool) (q : Bool) (fc fr : mS → Option mS) : Prop := ∀ s0 p b L s, CE tp n pg mk s0 → CX tp n pg s0 p b 0 L s → L.length ≤ p →
  (∃ k w s', fc s = some s' ∧ CD pg s0 k w s' ∧ ∀ t0 t, RT tp n kd t0 p b 0 [] [] 0 t → ∃ t', fr t = some t' ∧ BU t0 k w t') ∨
  (∃ e p' b' s', fc s = some s' ∧ CX tp n pg s0 p' b' 0 (L ++ e) s' ∧ p < p' ∧ e.length ≤ p' - p ∧ ckL al e [] = some [q] ∧ ∀ t0 t, RT tp n kd t0 p b 0 [] [] 0 t → ∃ t', fr t = some t' ∧ RT tp n kd t0 p' b' 0 e [] 0 t')
theorem rd_test (hK : KdA kd mk al) (hN : 10000 ≤ N) : RdC N tp n kd mk pg al true (f_Rd_test N) (f_M_qTest N) := by
  intro s0 p b L s E h hl
  obtain ⟨hTx, hO, hmm, ht⟩ := CE_x E h
  have hn := hTx.1
  have hpn := h.1
  have aN : AllT [] := fun x hx => by cases hx
  have sN : SWT [] := fun x W' e => by cases e
  have run : ∀ t0 t Q m, m ≤ N → rTS N Q m t → RT tp n kd t0 p b 0 [] [] 0 t → ∃ t', f_M_qTest N t = some t' ∧ Q t' := fun t0 t Q m hm h _ => h N hm
  rcases (lay_t (tp := tp) (n := n) (pg := pg) hK hN 6 0 rfl 99 (by omega)).2 s0 p b L s E h hl with ⟨k', w', s', f, D, hB⟩ | ⟨es, pend, p', b', s', f, X, hp', hle, hck, hop, hno, hG⟩
  · left
    refine ⟨k', w', s', f, D, fun t0 t hR => ?_⟩
    exact run t0 t _ _ (by omega) (hB t0 (BU t0 k' w') [] [] t hR (Nat.zero_le _) aN sN (fun t' h => h)) hR
  · right
    have hp2 := X.1
    refine ⟨es ++ pend, p', b', s', f, X, hp', hle, hck [] (by rw [List.length_nil]; omega), fun t0 t hR => ?_⟩
    rw [List.length_append] at hle
    refine run t0 t (fun t' => RT tp n kd t0 p' b' 0 (es ++ pend) [] 0 t') _ (by omega) (hG t0 _ [] [] t hR (Nat.zero_le _) aN sN (fun t2 R2 => ?_)) hR
    rw [List.nil_append, List.append_nil] at R2
    exact TG_end R2 hop (by omega) hno (by omega) hN (fun t3 R3 => R3)
theorem rd_sum (hK : KdA kd mk al) (hN : 10000 ≤ N) : RdC N tp n kd mk pg al false (f_Rd_sum N) (f_M_qSums N) := by
  intro s0 p b L s E h hl
  have tN : TopT [] := fun x W' e => by cases e
  rcases sq_c (lay_j (tp := tp) (n := n) (pg := pg) hK hN 6 0 rfl 99 (by omega)).2 hN s0 p b L s E h hl with ⟨k', w', s', f, D, hB⟩ | ⟨e, p', b', s', f, X, hp', hle, hck, hG⟩
  · left
    refine ⟨k', w', s', f, D, fun t0 t hR => ?_⟩
    obtain ⟨t', g, B⟩ := hB t0 [] [] 0 t hR (Nat.zero_le _) (by omega) tN
    exact ⟨t', g, BT_U B⟩
  · right
    refine ⟨e, p', b', s', f, X, hp', hle, hck [] (by rw [List.length_nil]; omega), fun t0 t hR => ?_⟩
    obtain ⟨t', g, R⟩ := hG t0 [] [] 0 t hR (Nat.zero_le _) (by omega) tN
    exact ⟨t', g, R⟩
end QTEST
