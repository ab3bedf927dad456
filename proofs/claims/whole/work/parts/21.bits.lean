/-! BITS: how many bits are set, by the two loops of it -/
def pcB : Nat → Nat → Nat
  | 0, _ => 0
  | k + 1, n => n % 2 + pcB k (n / 2)
def pc (n : Nat) : Nat := pcB 24 n
theorem pcB_le : ∀ k n, pcB k n ≤ k
  | 0, _ => Nat.le_refl 0
  | k + 1, n => by
    have := pcB_le k (n / 2)
    rw [pcB]; omega
theorem pc_le (n : Nat) : pc n ≤ 24 := pcB_le 24 n
theorem pcB_4 (k n : Nat) : pcB (k + 4) n = pcB 4 (n % 16) + pcB k (n / 16) := by
  have e1 : pcB (k + 4) n = n % 2 + (n / 2 % 2 + (n / 2 / 2 % 2 + (n / 2 / 2 / 2 % 2 + pcB k (n / 2 / 2 / 2 / 2)))) := rfl
  have e2 : pcB 4 (n % 16) = (n % 16) % 2 + ((n % 16) / 2 % 2 + ((n % 16) / 2 / 2 % 2 + ((n % 16) / 2 / 2 / 2 % 2 + 0))) := rfl
  rw [e1, e2, show n / 2 / 2 / 2 / 2 = n / 16 from by omega]; omega
theorem and_d (i : Nat) {h m : Nat} (x y : Nat) (hh : h < 2 ^ i) (hm : m < 2 ^ i) : (2 ^ i * x + h) &&& (2 ^ i * y + m) = 2 ^ i * (x &&& y) + (h &&& m) := by
  have hmm : h &&& m < 2 ^ i := Nat.lt_of_le_of_lt Nat.and_le_left hh
  apply Nat.eq_of_testBit_eq
  intro j
  rw [Nat.testBit_and, Nat.testBit_two_pow_mul_add x hh, Nat.testBit_two_pow_mul_add y hm, Nat.testBit_two_pow_mul_add (x &&& y) hmm]
  split
  · rw [Nat.testBit_and]
  · rw [Nat.testBit_and]
theorem and16 {h m : Nat} (x y : Nat) (hh : h < 16) (hm : m < 16) : (h + 16 * x) &&& (m + 16 * y) = (h &&& m) + 16 * (x &&& y) := by
  have := and_d 4 x y hh hm
  rw [Nat.add_comm h, Nat.add_comm m, Nat.add_comm (h &&& m)]; exact this
theorem and2 {h m : Nat} (x y : Nat) (hh : h < 2) (hm : m < 2) : (h + 2 * x) &&& (m + 2 * y) = (h &&& m) + 2 * (x &&& y) := by
  have := and_d 1 x y hh hm
  rw [Nat.add_comm h, Nat.add_comm m, Nat.add_comm (h &&& m)]; exact this
def sw4 (h : Nat) : Nat := (h - (h / 2 &&& 5) &&& 3) + ((h - (h / 2 &&& 5)) / 4 &&& 3)
theorem sw4_pc : ∀ h, h < 16 → sw4 h = pcB 4 h ∧ sw4 h ≤ 4 ∧ (h / 2 &&& 5) ≤ h := by decide
theorem sw_lo : ∀ a, a < 8 → ∀ b, b < 2 → (a + 8 * b) &&& 5 = a &&& 5 := by decide
theorem sw_l3 : ∀ a, a < 16 → ∀ b, b < 4 → (a / 4 + 4 * b) &&& 3 = a / 4 &&& 3 := by decide
theorem sw_15 : ∀ a, a < 16 → a &&& 15 = a := by decide
theorem sw_00 : ∀ a, a < 16 → a &&& 0 = 0 := by decide
def dg6 (a0 a1 a2 a3 a4 a5 : Nat) : Nat := a0 + 16 * (a1 + 16 * (a2 + 16 * (a3 + 16 * (a4 + 16 * (a5 + 16 * 0)))))
theorem dg6_and {a0 a1 a2 a3 a4 a5 m0 m1 m2 m3 m4 m5 : Nat} (y : Nat) (h0 : a0 < 16) (h1 : a1 < 16) (h2 : a2 < 16) (h3 : a3 < 16) (h4 : a4 < 16) (h5 : a5 < 16) (k0 : m0 < 16) (k1 : m1 < 16) (k2 : m2 < 16) (k3 : m3 < 16) (k4 : m4 < 16) (k5 : m5 < 16) :
    dg6 a0 a1 a2 a3 a4 a5 &&& (m0 + 16 * (m1 + 16 * (m2 + 16 * (m3 + 16 * (m4 + 16 * (m5 + 16 * y)))))) = dg6 (a0 &&& m0) (a1 &&& m1) (a2 &&& m2) (a3 &&& m3) (a4 &&& m4) (a5 &&& m5) := by
  unfold dg6
  rw [and16 _ _ h0 k0, and16 _ _ h1 k1, and16 _ _ h2 k2, and16 _ _ h3 k3, and16 _ _ h4 k4, and16 _ _ h5 k5, Nat.zero_and]
theorem dg6_ex {n : Nat} (hn : n < 16777216) : ∃ a0 a1 a2 a3 a4 a5, a0 < 16 ∧ a1 < 16 ∧ a2 < 16 ∧ a3 < 16 ∧ a4 < 16 ∧ a5 < 16 ∧ n = dg6 a0 a1 a2 a3 a4 a5 := by
  refine ⟨n % 16, n / 16 % 16, n / 256 % 16, n / 4096 % 16, n / 65536 % 16, n / 1048576, by omega, by omega, by omega, by omega, by omega, by omega, ?_⟩
  unfold dg6; omega
def w1 (h : Nat) : Nat := h - (h / 2 &&& 5)
theorem w1_f : ∀ h, h < 16 → (h / 2 &&& 5) ≤ h ∧ w1 h < 16 ∧ w1 h = h - (h / 2 &&& 5) ∧ sw4 h = (w1 h &&& 3) + (w1 h / 4 &&& 3) ∧ (w1 h &&& 3) < 16 ∧ (w1 h / 4 &&& 3) < 16 := by decide
theorem sw_s1 {a0 a1 a2 a3 a4 a5 : Nat} (h0 : a0 < 16) (h1 : a1 < 16) (h2 : a2 < 16) (h3 : a3 < 16) (h4 : a4 < 16) (h5 : a5 < 16) :
    dg6 a0 a1 a2 a3 a4 a5 / 2 &&& 1431655765 = dg6 (a0 / 2 &&& 5) (a1 / 2 &&& 5) (a2 / 2 &&& 5) (a3 / 2 &&& 5) (a4 / 2 &&& 5) (a5 / 2 &&& 5) := by
  have eh : dg6 a0 a1 a2 a3 a4 a5 / 2 = dg6 (a0 / 2 + 8 * (a1 % 2)) (a1 / 2 + 8 * (a2 % 2)) (a2 / 2 + 8 * (a3 % 2)) (a3 / 2 + 8 * (a4 % 2)) (a4 / 2 + 8 * (a5 % 2)) (a5 / 2 + 8 * (0 % 2)) := by
    unfold dg6; omega
  have b : ∀ a c, a < 16 → a / 2 + 8 * (c % 2) < 16 := fun a c h => by omega
  have e : ∀ a c, a < 16 → (a / 2 + 8 * (c % 2)) &&& 5 = a / 2 &&& 5 := fun a c h => sw_lo _ (by omega) _ (by omega)
  rw [eh, show 1431655765 = 5 + 16 * (5 + 16 * (5 + 16 * (5 + 16 * (5 + 16 * (5 + 16 * 85))))) from rfl,
    dg6_and 85 (b _ _ h0) (b _ _ h1) (b _ _ h2) (b _ _ h3) (b _ _ h4) (b _ _ h5) (by decide) (by decide) (by decide) (by decide) (by decide) (by decide), e _ _ h0, e _ _ h1, e _ _ h2, e _ _ h3, e _ _ h4, e _ _ h5]
theorem sw_s2 {a0 a1 a2 a3 a4 a5 : Nat} (h0 : a0 < 16) (h1 : a1 < 16) (h2 : a2 < 16) (h3 : a3 < 16) (h4 : a4 < 16) (h5 : a5 < 16) :
    (dg6 a0 a1 a2 a3 a4 a5 &&& 858993459) + (dg6 a0 a1 a2 a3 a4 a5 / 4 &&& 858993459) = dg6 ((a0 &&& 3) + (a0 / 4 &&& 3)) ((a1 &&& 3) + (a1 / 4 &&& 3)) ((a2 &&& 3) + (a2 / 4 &&& 3)) ((a3 &&& 3) + (a3 / 4 &&& 3)) ((a4 &&& 3) + (a4 / 4 &&& 3)) ((a5 &&& 3) + (a5 / 4 &&& 3)) := by
  have eh : dg6 a0 a1 a2 a3 a4 a5 / 4 = dg6 (a0 / 4 + 4 * (a1 % 4)) (a1 / 4 + 4 * (a2 % 4)) (a2 / 4 + 4 * (a3 % 4)) (a3 / 4 + 4 * (a4 % 4)) (a4 / 4 + 4 * (a5 % 4)) (a5 / 4 + 4 * (0 % 4)) := by
    unfold dg6; omega
  have b : ∀ a c, a < 16 → a / 4 + 4 * (c % 4) < 16 := fun a c h => by omega
  have e : ∀ a c, a < 16 → (a / 4 + 4 * (c % 4)) &&& 3 = a / 4 &&& 3 := fun a c h => sw_l3 _ h _ (by omega)
  rw [eh, show 858993459 = 3 + 16 * (3 + 16 * (3 + 16 * (3 + 16 * (3 + 16 * (3 + 16 * 51))))) from rfl,
    dg6_and 51 (b _ _ h0) (b _ _ h1) (b _ _ h2) (b _ _ h3) (b _ _ h4) (b _ _ h5) (by decide) (by decide) (by decide) (by decide) (by decide) (by decide), dg6_and 51 h0 h1 h2 h3 h4 h5 (by decide) (by decide) (by decide) (by decide) (by decide) (by decide), e _ _ h0, e _ _ h1, e _ _ h2, e _ _ h3, e _ _ h4, e _ _ h5]
  unfold dg6; omega
theorem sw_s3 {a0 a1 a2 a3 a4 a5 : Nat} (h0 : a0 ≤ 4) (h1 : a1 ≤ 4) (h2 : a2 ≤ 4) (h3 : a3 ≤ 4) (h4 : a4 ≤ 4) (h5 : a5 ≤ 4) :
    (dg6 a0 a1 a2 a3 a4 a5 + dg6 a0 a1 a2 a3 a4 a5 / 16) &&& 252645135 = dg6 (a0 + a1) 0 (a2 + a3) 0 (a4 + a5) 0 := by
  have eh : dg6 a0 a1 a2 a3 a4 a5 + dg6 a0 a1 a2 a3 a4 a5 / 16 = dg6 (a0 + a1) (a1 + a2) (a2 + a3) (a3 + a4) (a4 + a5) a5 := by
    unfold dg6; omega
  rw [eh, show 252645135 = 15 + 16 * (0 + 16 * (15 + 16 * (0 + 16 * (15 + 16 * (0 + 16 * 15))))) from rfl,
    dg6_and 15 (by omega) (by omega) (by omega) (by omega) (by omega) (by omega) (by decide) (by decide) (by decide) (by decide) (by decide) (by decide), sw_15 _ (by omega), sw_15 _ (by omega), sw_15 _ (by omega), Nat.and_zero, Nat.and_zero, Nat.and_zero]
theorem pc_dg {a0 a1 a2 a3 a4 a5 : Nat} (h0 : a0 < 16) (h1 : a1 < 16) (h2 : a2 < 16) (h3 : a3 < 16) (h4 : a4 < 16) (h5 : a5 < 16) :
    pc (dg6 a0 a1 a2 a3 a4 a5) = pcB 4 a0 + (pcB 4 a1 + (pcB 4 a2 + (pcB 4 a3 + (pcB 4 a4 + pcB 4 a5)))) := by
  unfold pc
  have e0 : dg6 a0 a1 a2 a3 a4 a5 % 16 = a0 := by unfold dg6; omega
  have e1 : dg6 a0 a1 a2 a3 a4 a5 / 16 % 16 = a1 := by unfold dg6; omega
  have e2 : dg6 a0 a1 a2 a3 a4 a5 / 16 / 16 % 16 = a2 := by unfold dg6; omega
  have e3 : dg6 a0 a1 a2 a3 a4 a5 / 16 / 16 / 16 % 16 = a3 := by unfold dg6; omega
  have e4 : dg6 a0 a1 a2 a3 a4 a5 / 16 / 16 / 16 / 16 % 16 = a4 := by unfold dg6; omega
  have e5 : dg6 a0 a1 a2 a3 a4 a5 / 16 / 16 / 16 / 16 / 16 = a5 := by unfold dg6; omega
  rw [pcB_4 20, pcB_4 16, pcB_4 12, pcB_4 8, pcB_4 4, e0, e1, e2, e3, e4, e5]
theorem pc_swar {n v1 v2 v3 v4 v5 v6 : Nat} (hn : n < 16777216) (h1 : n - (n / 2 &&& 1431655765) = v1) (h2 : (v1 &&& 858993459) + (v1 / 4 &&& 858993459) = v2)
    (h3 : (v2 + v2 / 16) &&& 252645135 = v3) (h4 : v3 + v3 / 256 = v4) (h5 : v4 + v4 / 65536 = v5) (h6 : v5 &&& 63 = v6) : v6 = pc n ∧ v1 < 16777216 ∧ v2 < 16777216 ∧ v3 < 16777216 ∧ v4 < 33554432 ∧ (n / 2 &&& 1431655765) ≤ n := by
  obtain ⟨a0, a1, a2, a3, a4, a5, b0, b1, b2, b3, b4, b5, en⟩ := dg6_ex hn
  rw [en, sw_s1 b0 b1 b2 b3 b4 b5] at h1 ⊢
  rw [pc_dg b0 b1 b2 b3 b4 b5]
  clear en hn n
  obtain ⟨p0, q0, r0, s0, t0, u0⟩ := w1_f a0 b0
  obtain ⟨p1, q1, r1, s1, t1, u1⟩ := w1_f a1 b1
  obtain ⟨p2, q2, r2, s2, t2, u2⟩ := w1_f a2 b2
  obtain ⟨p3, q3, r3, s3, t3, u3⟩ := w1_f a3 b3
  obtain ⟨p4, q4, r4, s4, t4, u4⟩ := w1_f a4 b4
  obtain ⟨p5, q5, r5, s5, t5, u5⟩ := w1_f a5 b5
  have e1 : v1 = dg6 (w1 a0) (w1 a1) (w1 a2) (w1 a3) (w1 a4) (w1 a5) := by
    rw [← h1, r0, r1, r2, r3, r4, r5]
    clear h1 h2 h3 h4 h5 h6 s0 s1 s2 s3 s4 s5 t0 t1 t2 t3 t4 t5 u0 u1 u2 u3 u4 u5 q0 q1 q2 q3 q4 q5 r0 r1 r2 r3 r4 r5
    unfold dg6; omega
  have g0 : dg6 (a0 / 2 &&& 5) (a1 / 2 &&& 5) (a2 / 2 &&& 5) (a3 / 2 &&& 5) (a4 / 2 &&& 5) (a5 / 2 &&& 5) ≤ dg6 a0 a1 a2 a3 a4 a5 := by
    unfold dg6; omega
  clear h1
  have e2 : v2 = dg6 (sw4 a0) (sw4 a1) (sw4 a2) (sw4 a3) (sw4 a4) (sw4 a5) := by
    rw [← h2, e1, sw_s2 q0 q1 q2 q3 q4 q5, ← s0, ← s1, ← s2, ← s3, ← s4, ← s5]
  clear h2 s0 s1 s2 s3 s4 s5 t0 t1 t2 t3 t4 t5 u0 u1 u2 u3 u4 u5 p0 p1 p2 p3 p4 p5 r0 r1 r2 r3 r4 r5
  obtain ⟨i0, j0, _⟩ := sw4_pc a0 b0
  obtain ⟨i1, j1, _⟩ := sw4_pc a1 b1
  obtain ⟨i2, j2, _⟩ := sw4_pc a2 b2
  obtain ⟨i3, j3, _⟩ := sw4_pc a3 b3
  obtain ⟨i4, j4, _⟩ := sw4_pc a4 b4
  obtain ⟨i5, j5, _⟩ := sw4_pc a5 b5
  rw [← i0, ← i1, ← i2, ← i3, ← i4, ← i5]
  have e3 : v3 = dg6 (sw4 a0 + sw4 a1) 0 (sw4 a2 + sw4 a3) 0 (sw4 a4 + sw4 a5) 0 := by
    rw [← h3, e2, sw_s3 j0 j1 j2 j3 j4 j5]
  have e6 : v6 = v5 % 64 := by rw [← h6]; exact Nat.and_two_pow_sub_one_eq_mod v5 6
  clear h3 h6 i0 i1 i2 i3 i4 i5
  generalize sw4 a0 = z0 at *
  generalize sw4 a1 = z1 at *
  generalize sw4 a2 = z2 at *
  generalize sw4 a3 = z3 at *
  generalize sw4 a4 = z4 at *
  generalize sw4 a5 = z5 at *
  have l1 : v1 < 16777216 := by rw [e1]; unfold dg6; omega
  have l2 : v2 < 16777216 := by rw [e2]; unfold dg6; omega
  clear e1 e2 q0 q1 q2 q3 q4 q5
  have k3 : v3 = (z0 + z1) + 256 * (z2 + z3) + 65536 * (z4 + z5) := by rw [e3]; unfold dg6; omega
  refine ⟨?_, l1, l2, by omega, by omega, g0⟩
  clear g0 l1 l2 e3
  have k4 : v4 = (z0 + z1 + z2 + z3) + 256 * (z2 + z3 + z4 + z5) + 65536 * (z4 + z5) := by omega
  have k5 : v4 / 65536 = z4 + z5 := by omega
  omega
theorem ius_n {a b : Nat} (h : a < 2147483648 ∧ b < 32) : ius (nI a) (nI b) = nI (a / 2 ^ b) := by
  unfold ius
  exact pk_ushrN (by omega) (nI b) b (s_u b h.2)
theorem bitCount_n (N : Nat) {n : Nat} (s : mS) (hn : n < 16777216) : f_Int_bitCount N (nI n) s = some (nI (pc n), s) := by
  obtain ⟨g6, g1, g2, g3, g4, g0⟩ := pc_swar hn rfl rfl rfl rfl rfl rfl
  generalize hv1 : n - (n / 2 &&& 1431655765) = v1 at *
  generalize hv2 : (v1 &&& 858993459) + (v1 / 4 &&& 858993459) = v2 at *
  generalize hv3 : (v2 + v2 / 16) &&& 252645135 = v3 at *
  generalize hv4 : v3 + v3 / 256 = v4 at *
  generalize hv5 : v4 + v4 / 65536 = v5 at *
  unfold f_Int_bitCount
  have k1 : ius (nI n) 1 = nI (n / 2) := ius_n (b := 1) ⟨by omega, by omega⟩
  have k2 : ius (nI v1) 2 = nI (v1 / 4) := ius_n (b := 2) ⟨by omega, by omega⟩
  have k4 : ius (nI v2) 4 = nI (v2 / 16) := ius_n (b := 4) ⟨by omega, by omega⟩
  have k8 : ius (nI v3) 8 = nI (v3 / 256) := ius_n (b := 8) ⟨by omega, by omega⟩
  have k16 : ius (nI v4) 16 = nI (v4 / 65536) := ius_n (b := 16) ⟨by omega, by omega⟩
  have c1 : (nI n - ((ius (nI n) 1) &&& 1431655765)) = nI v1 := by rw [k1, show (1431655765 : Int32) = nI 1431655765 from rfl, cn_and, cn_sub g0, hv1]
  have c2 : (nI v1 &&& 858993459) + ((ius (nI v1) 2) &&& 858993459) = nI v2 := by rw [k2, show (858993459 : Int32) = nI 858993459 from rfl, cn_and, cn_and, nI_add, hv2]
  have c3 : ((nI v2 + (ius (nI v2) 4)) &&& 252645135) = nI v3 := by rw [k4, show (252645135 : Int32) = nI 252645135 from rfl, nI_add, cn_and, hv3]
  have c4 : nI v3 + ius (nI v3) 8 = nI v4 := by rw [k8, nI_add, hv4]
  have c5 : nI v4 + ius (nI v4) 16 = nI v5 := by rw [k16, nI_add, hv5]
  simp only [c1, c2, c3, c4, c5]
  rw [show (63 : Int32) = nI 63 from rfl, cn_and, g6]
theorem pc_0 : pc 0 = 0 := by decide
theorem pcB_low : ∀ k s, 0 < s → s < 2 ^ k → pcB k (s &&& (s - 1)) + 1 = pcB k s ∧ (s &&& (s - 1)) < s
  | 0, s, h0, h => by rw [Nat.pow_zero] at h; omega
  | k + 1, s, h0, h => by
    rw [Nat.pow_succ] at h
    by_cases e : s % 2 = 1
    · have e2 : s &&& (s - 1) = 0 + 2 * (s / 2) := by
        have := and2 (h := 1) (m := 0) (s / 2) (s / 2) (by omega) (by omega)
        rw [show s = 1 + 2 * (s / 2) from by omega, show 1 + 2 * (s / 2) - 1 = 0 + 2 * (s / 2) from by omega, this, Nat.and_self]
        simp only [Nat.and_zero]
        omega
      rw [e2, pcB, pcB]
      refine ⟨?_, by omega⟩
      rw [show (0 + 2 * (s / 2)) / 2 = s / 2 from by omega]; omega
    · have e2 : s &&& (s - 1) = 0 + 2 * (s / 2 &&& (s / 2 - 1)) := by
        have := and2 (h := 0) (m := 1) (s / 2) (s / 2 - 1) (by omega) (by omega)
        conv => lhs; rw [show s = 0 + 2 * (s / 2) from by omega]
        rw [show 0 + 2 * (s / 2) - 1 = 1 + 2 * (s / 2 - 1) from by omega, this]
        simp only [Nat.zero_and]
      obtain ⟨i1, i2⟩ := pcB_low k (s / 2) (by omega) (by omega)
      rw [e2, pcB, pcB]
      refine ⟨?_, by omega⟩
      rw [show (0 + 2 * (s / 2 &&& (s / 2 - 1))) / 2 = s / 2 &&& (s / 2 - 1) from by omega]; omega
theorem pc_low {s : Nat} (h0 : 0 < s) (h : s < 16777216) : pc (s &&& (s - 1)) + 1 = pc s ∧ (s &&& (s - 1)) < s := pcB_low 24 s h0 h
theorem M_bits_n {N n : Nat} (s : mS) (hN : 100 ≤ N) (hn : n < 16777216) : f_M_bits N (nI n) s = some (nI (pc n), s) := by
  have h : Ok (f_M_bits N (nI n) s) (fun r => r = (nI (pc n), s)) := by
    unfold f_M_bits
    refine mfix_dn (fun q x => ∃ c m, x = (nI c, nI m, s) ∧ m < 16777216 ∧ c + pc m = pc n ∧ c ≤ 24 ∧ pc m ≤ q) ?_ N (pc n) _ ⟨0, n, rfl, hn, by omega, by omega, Nat.le_refl _⟩ (by have := pc_le n; omega)
    rintro k q x ⟨c, m, rfl, hm, hc, h24, hq⟩ hk
    by_cases e : m = 0
    · subst e
      simp (disch := first | omega | decide) only [f_M_bits_L4, zI_0, zI_1, zI_2, zI_3, zI_4, zI_5, zI_6, zI_7, zI_8, zI_9, zI_10, zI_11, zI_12, zI_13, zI_14, zI_15, zI_16, zI_17, zI_18, zI_19, zI_20, zI_21, zI_22, zI_23, zI_24, zI_25, zI_26, zI_27, zI_28, zI_29, zI_30, zI_31, zI_32, zI_33, zI_34, zI_35, zI_36, zI_37, zI_38, zI_39, zI_40, zI_41, zI_42, zI_43, zI_44, zI_45, zI_46, zI_47, zI_48, zI_49, zI_50, zI_51, zI_52, zI_53, zI_54, zI_55, zI_56, zI_57, zI_58, zI_59, zI_60, zI_61, zI_62, zI_63, zI_64, zI_65, zI_66, zI_67, zI_74, zI_84, zI_85, zI_88, zI_91, zI_93, zI_97, zI_99, zI_100, zI_102, zI_105, zI_117, zI_122, zI_193, zI_202, zI_205, zI_251, zI_255, zI_256, zI_257, zI_258, zI_259, zI_260, zI_640, zI_999, zI_1000, zI_1024, zI_1600, zI_1602, zI_1700, zI_2040, zI_3200, zI_4100, zI_9728, zI_11784, zI_61440, zI_65536, zI_470536, zI_999999, zI_1000000, lt_T, lt_F, le_T, le_F, eq_T, eq_F, neg_1, cn_m1p, cn_m11, nI_add, cn_sub, pk_mul, cn_div, cn_irm, cn_lt, cn_eq, cn_ltm1, cn_m1lt, cn_eqm1, cn_m1eq, cn_ix, cn_inb, cn_ninb, cn_irs, cn_ils, cn_and, cn_or, cn_xor, grd_t, grd_bt, grd_bl, Nat.add_zero, Nat.zero_add, Nat.reduceAdd, Nat.reduceSub, Nat.reduceMul, Nat.reduceLT, Nat.reduceEqDiff, eq_self, true_and, and_true, and_false, false_and, if_true, if_false, and_self, Bool.true_eq_false, Bool.false_eq_true]
      rw [pc_0] at hc
      exact Ok_some (by rw [show c = pc n from by omega])
    · have hp := pc_low (Nat.pos_of_ne_zero e) hm
      have := pc_le n
      simp (disch := first | omega | decide) only [f_M_bits_L4, zI_0, zI_1, zI_2, zI_3, zI_4, zI_5, zI_6, zI_7, zI_8, zI_9, zI_10, zI_11, zI_12, zI_13, zI_14, zI_15, zI_16, zI_17, zI_18, zI_19, zI_20, zI_21, zI_22, zI_23, zI_24, zI_25, zI_26, zI_27, zI_28, zI_29, zI_30, zI_31, zI_32, zI_33, zI_34, zI_35, zI_36, zI_37, zI_38, zI_39, zI_40, zI_41, zI_42, zI_43, zI_44, zI_45, zI_46, zI_47, zI_48, zI_49, zI_50, zI_51, zI_52, zI_53, zI_54, zI_55, zI_56, zI_57, zI_58, zI_59, zI_60, zI_61, zI_62, zI_63, zI_64, zI_65, zI_66, zI_67, zI_74, zI_84, zI_85, zI_88, zI_91, zI_93, zI_97, zI_99, zI_100, zI_102, zI_105, zI_117, zI_122, zI_193, zI_202, zI_205, zI_251, zI_255, zI_256, zI_257, zI_258, zI_259, zI_260, zI_640, zI_999, zI_1000, zI_1024, zI_1600, zI_1602, zI_1700, zI_2040, zI_3200, zI_4100, zI_9728, zI_11784, zI_61440, zI_65536, zI_470536, zI_999999, zI_1000000, lt_T, lt_F, le_T, le_F, eq_T, eq_F, neg_1, cn_m1p, cn_m11, nI_add, cn_sub, pk_mul, cn_div, cn_irm, cn_lt, cn_eq, cn_ltm1, cn_m1lt, cn_eqm1, cn_m1eq, cn_ix, cn_inb, cn_ninb, cn_irs, cn_ils, cn_and, cn_or, cn_xor, grd_t, grd_bt, grd_bl, Nat.add_zero, Nat.zero_add, Nat.reduceAdd, Nat.reduceSub, Nat.reduceMul, Nat.reduceLT, Nat.reduceEqDiff, eq_self, true_and, and_true, and_false, false_and, if_true, if_false, and_self, Bool.true_eq_false, Bool.false_eq_true, e]
      exact hk (pc (m &&& (m - 1))) _ (by omega) ⟨c + 1, m &&& (m - 1), rfl, by omega, by omega, by omega, Nat.le_refl _⟩
  obtain ⟨x, h1, h2⟩ := h
  rw [h1, h2]
