/-! ON: the hall as the image tells it -/
def opI (tp : Nat → Nat) (n : Nat) : Nat := itN (fun d acc => acc ||| tp (5 + 3 * d) <<< d) n 0
theorem opI_s (tp : Nat → Nat) (n : Nat) : opI tp (n + 1) = opI tp n ||| tp (5 + 3 * n) <<< n := rfl
theorem opI_lt {tp : Nat → Nat} : ∀ n, (∀ d, d < n → tp (5 + 3 * d) ≤ 1) → opI tp n < 2 ^ n
  | 0, _ => Nat.one_pos
  | n + 1, h => by
    have h1 := opI_lt n (fun d hd => h d (by omega))
    have h2 := h n (by omega)
    rw [opI_s]
    refine Nat.or_lt_two_pow (Nat.lt_trans h1 (Nat.pow_lt_pow_right (by omega) (by omega))) ?_
    rw [Nat.shiftLeft_eq, Nat.pow_succ]
    have : tp (5 + 3 * n) * 2 ^ n ≤ 1 * 2 ^ n := Nat.mul_le_mul h2 (Nat.le_refl _)
    have := Nat.two_pow_pos n
    omega
theorem opI_bit {tp : Nat → Nat} : ∀ n, (∀ d, d < n → tp (5 + 3 * d) ≤ 1) → ∀ d, d < n → (opI tp n).testBit d = decide (tp (5 + 3 * d) = 1)
  | 0, _, d, hd => absurd hd (Nat.not_lt_zero _)
  | n + 1, h, d, hd => by
    have hl := opI_lt n (fun d hd => h d (by omega))
    have h2 := h n (by omega)
    rw [opI_s, Nat.testBit_or, Nat.testBit_shiftLeft]
    by_cases e : d = n
    · subst e
      rw [Nat.testBit_lt_two_pow hl, decide_eq_true (Nat.le_refl d), Nat.sub_self, Bool.false_or, Bool.true_and]
      have : tp (5 + 3 * d) = 0 ∨ tp (5 + 3 * d) = 1 := by omega
      rcases this with h | h <;> rw [h] <;> rfl
    · rw [opI_bit n (fun d hd => h d (by omega)) d (by omega), decide_eq_false (show ¬ n ≤ d by omega), Bool.false_and, Bool.or_false]
def imP (D : Nat) (tp : Nat → Nat) (r : Nat → Nat) (dd pp : Nat) (i : Nat) : Nat :=
  if i = 0 then niI tp else if i = 1 then coI tp else if i = 2 then opI tp dd else if i = 3 then 0
  else if 4 ≤ i ∧ i < 4 + dd then tp (6 + 3 * (i - 4)) else if 28 ≤ i ∧ i < 28 + dd then tp (7 + 3 * (i - 28))
  else if 52 ≤ i ∧ i < 52 + pp then tp (5 + 3 * D + (i - 52)) else r i
def imH (A : pL) (tp : Nat → Nat) (H : hL) : hL := (imP (pD A) tp H.1 (pD A) (pP A), H.2)
theorem imP_3 (D : Nat) (tp : Nat → Nat) (r : Nat → Nat) (dd pp : Nat) : imP D tp r dd pp 3 = 0 := rfl
theorem imP_t {D : Nat} {tp r : Nat → Nat} {dd pp d : Nat} (hd : d < dd) (h24 : dd ≤ 24) : imP D tp r dd pp (4 + d) = tp (6 + 3 * d) ∧ imP D tp r dd pp (28 + d) = tp (7 + 3 * d) := by
  unfold imP
  refine ⟨?_, ?_⟩
  · rw [if_neg (by omega), if_neg (by omega), if_neg (by omega), if_neg (by omega), if_pos (by omega), show 4 + d - 4 = d by omega]
  · rw [if_neg (by omega), if_neg (by omega), if_neg (by omega), if_neg (by omega), if_neg (by omega), if_pos (by omega), show 28 + d - 28 = d by omega]
theorem imP_p {D : Nat} {tp r : Nat → Nat} {dd pp p : Nat} (hp : p < pp) (h24 : dd ≤ 24) : imP D tp r dd pp (52 + p) = tp (5 + 3 * D + p) := by
  unfold imP
  rw [if_neg (by omega), if_neg (by omega), if_neg (by omega), if_neg (by omega), if_neg (by omega), if_neg (by omega), if_pos (by omega), show 52 + p - 52 = p by omega]
theorem imP_o {D : Nat} {tp r : Nat → Nat} {dd pp i : Nat} (h : 4 ≤ i) (h1 : ¬ (4 ≤ i ∧ i < 4 + dd)) (h2 : ¬ (28 ≤ i ∧ i < 28 + dd)) (h3 : ¬ (52 ≤ i ∧ i < 52 + pp)) : imP D tp r dd pp i = r i := by
  unfold imP
  rw [if_neg (by omega), if_neg (by omega), if_neg (by omega), if_neg (by omega), if_neg h1, if_neg h2, if_neg h3]
section ON2
variable {N : Nat} {A : pL} {H : hL} {pa : Nat × (Nat → hL)} {se : Nat × (Nat → Nat × Bool)} {s s' t t' : mS}
theorem imH_B {n : Nat} {tp : Nat → Nat} (hA : WA A) (hB : HB A H) (ho : okIm A tp n) : HB A (imH A tp H) := by
  have hD := hA.1
  have hp := hA.2.1
  obtain ⟨h1, h2, h3, h4, h5, h6, h7⟩ := ho
  refine ⟨h4, h5, opI_lt _ (fun d hd => (h6 d hd).1), Nat.zero_le _, fun d hd => ?_, fun d hd => ?_, fun p hp2 => ?_, fun i hi => absurd hi (Nat.not_lt_zero _)⟩
  · show imP _ _ _ _ _ (4 + d) ≤ 99
    by_cases c : d < pD A
    · rw [(imP_t c hD).1]; exact (h6 d c).2.1
    · rw [imP_o (by omega) (by omega) (by omega) (by omega)]; exact hB.2.2.2.2.1 d hd
  · show imP _ _ _ _ _ (28 + d) ≤ 9
    by_cases c : d < pD A
    · rw [(imP_t c hD).2]; exact (h6 d c).2.2
    · rw [imP_o (by omega) (by omega) (by omega) (by omega)]; exact hB.2.2.2.2.2.1 d hd
  · show imP _ _ _ _ _ (52 + p) ≤ 99
    by_cases c : p < pP A
    · rw [imP_p c hD]; exact h7 p c
    · rw [imP_o (by omega) (by omega) (by omega) (by omega)]; exact hB.2.2.2.2.2.2.1 p hp2
theorem xTakeI_n {n : Nat} {tp : Nat → Nat} (hA : WA A) (hP : XP A s) (hR : HR 19 H s) (hn : n ≤ 1600) (ho : okIm A tp n) (ht : ∀ i, i < n → tp i < 256 ∧ gA s 1 i = nI (tp i)) (hN : 10000 ≤ N) : ∃ s', f_X_takeImage N s = some s' ∧ HR 19 (imH A tp H) s' ∧ Fr [20] s s' := by
  have hD := hA.1
  have hp := hA.2.1
  obtain ⟨h1, h2, h3, h4, h5, h6, h7⟩ := ho
  have a20 : aln Sx 0 20 = 102 := by decide +kernel
  have e6 := xNight_n (N := N) (tp := tp) (s := s) (fun i hi => ht i (by omega))
  have e7 := xCold_n (N := N) (tp := tp) (s := sA s 20 0 (nI (niI tp))) (fun i hi => ht i (by omega))
  have F0 : Fr [20] s (sA (sA (sA (sA s 20 0 (nI (niI tp))) 20 1 (nI (coI tp))) 20 2 (nI 0)) 20 3 (nI 0)) := Fr_t (Fr_sA _ _ _ (by decide)) (Fr_t (Fr_sA _ _ _ (by decide)) (Fr_t (Fr_sA _ _ _ (by decide)) (Fr_sA _ _ _ (by decide))))
  have hl : Ok (mfix N (f_X_takeImage_L34 N) (20, nI 5, nI 0, sA (sA (sA (sA s 20 0 (nI (niI tp))) 20 1 (nI (coI tp))) 20 2 (nI 0)) 20 3 (nI 0))) (fun r => HR 19 (imH A tp H) r ∧ Fr [20] s r) := by
    refine mfix_up (fun i x => ∃ s1, x = (20, nI (5 + 3 * i), nI i, s1) ∧ (∀ j, j < 62 → gA s1 20 j = nI (imP (pD A) tp H.1 i 0 j)) ∧ Fr [20] s s1) (pD A) ?_ ?_ N 0 _ ⟨_, rfl, fun j hj => ?_, F0⟩ (Nat.zero_le _) (by omega)
    · rintro i k x hi ⟨s1, rfl, g, F⟩ hk
      have hP1 := XP_fr F (by decide) hP
      obtain ⟨v1, v2, v3⟩ := h6 i hi
      have c1 : gA s1 1 (5 + 3 * i) = nI (tp (5 + 3 * i)) := by rw [F.A 1 _ (by decide)]; exact (ht _ (by omega)).2
      have c2 : gA s1 1 (6 + 3 * i) = nI (tp (6 + 3 * i)) := by rw [F.A 1 _ (by decide)]; exact (ht _ (by omega)).2
      have c3 : gA s1 1 (7 + 3 * i) = nI (tp (7 + 3 * i)) := by rw [F.A 1 _ (by decide)]; exact (ht _ (by omega)).2
      have g2 : gA s1 20 2 = nI (opI tp i) := g 2 (by omega)
      have i6 : 5 + 3 * i + 1 = 6 + 3 * i := by omega
      have i7 : 5 + 3 * i + 2 = 7 + 3 * i := by omega
      simp (disch := first | omega | decide) only [f_X_takeImage_L34, hP1.1, a20, zI_0, zI_1, zI_2, zI_3, zI_4, zI_5, zI_6, zI_7, zI_8, zI_9, zI_10, zI_11, zI_12, zI_13, zI_14, zI_15, zI_16, zI_17, zI_18, zI_19, zI_20, zI_21, zI_22, zI_23, zI_24, zI_25, zI_26, zI_27, zI_28, zI_29, zI_30, zI_31, zI_32, zI_33, zI_34, zI_35, zI_36, zI_37, zI_38, zI_39, zI_40, zI_41, zI_42, zI_43, zI_44, zI_45, zI_46, zI_47, zI_48, zI_49, zI_50, zI_51, zI_52, zI_53, zI_54, zI_55, zI_56, zI_57, zI_58, zI_59, zI_60, zI_61, zI_62, zI_63, zI_64, zI_65, zI_66, zI_67, zI_74, zI_84, zI_85, zI_88, zI_91, zI_93, zI_97, zI_99, zI_100, zI_102, zI_105, zI_117, zI_122, zI_193, zI_202, zI_205, zI_251, zI_255, zI_256, zI_257, zI_258, zI_259, zI_260, zI_640, zI_999, zI_1000, zI_1024, zI_1600, zI_1602, zI_1700, zI_2040, zI_3200, zI_4100, zI_9728, zI_11784, zI_61440, zI_65536, zI_470536, zI_999999, zI_1000000, nI_add, cn_lt, lt_T, cn_inb, cn_ix, grd_t, grd_bt, Nat.reduceAdd, Nat.reduceSub, Nat.reduceMul, Nat.reduceLT, Nat.reduceEqDiff, eq_self, true_and, and_true, and_false, false_and, if_true, if_false, and_self, Bool.true_eq_false, Bool.false_eq_true, c1, g2, cn_ils, cn_or, i6, i7, gA_ne, c2, c3]
      refine hk _ ⟨_, by rw [show 5 + 3 * (i + 1) = 5 + 3 * i + 3 by omega], fun j hj => ?_, Fr_t F (Fr_t (Fr_sA 20 _ _ (by decide)) (Fr_t (Fr_sA 20 _ _ (by decide)) (Fr_sA 20 _ _ (by decide))))⟩
      by_cases d1 : j = 28 + i
      · rw [gA_eq d1, d1, (imP_t (show i < i + 1 by omega) (by omega)).2]
      · rw [gA_ne (by omega)]
        by_cases d2 : j = 4 + i
        · rw [gA_eq d2, d2, (imP_t (show i < i + 1 by omega) (by omega)).1]
        · rw [gA_ne (by omega)]
          by_cases d3 : j = 2
          · rw [gA_eq d3, d3]; rfl
          · rw [gA_ne (by omega), g j hj]
            congr 1
            unfold imP
            by_cases q0 : j = 0
            · rw [if_pos q0, if_pos q0]
            · rw [if_neg q0, if_neg q0]
              by_cases q1 : j = 1
              · rw [if_pos q1, if_pos q1]
              · rw [if_neg q1, if_neg q1, if_neg d3, if_neg d3]
                by_cases q3 : j = 3
                · rw [if_pos q3, if_pos q3]
                · rw [if_neg q3, if_neg q3]
                  by_cases q4 : 4 ≤ j ∧ j < 4 + i
                  · rw [if_pos q4, if_pos (show 4 ≤ j ∧ j < 4 + (i + 1) by omega)]
                  · rw [if_neg q4, if_neg (show ¬ (4 ≤ j ∧ j < 4 + (i + 1)) by omega)]
                    by_cases q5 : 28 ≤ j ∧ j < 28 + i
                    · rw [if_pos q5, if_pos (show 28 ≤ j ∧ j < 28 + (i + 1) by omega)]
                    · rw [if_neg q5, if_neg (show ¬ (28 ≤ j ∧ j < 28 + (i + 1)) by omega)]
    · rintro k x ⟨s1, rfl, g, F⟩
      have hP1 := XP_fr F (by decide) hP
      simp (disch := first | omega | decide) only [f_X_takeImage_L34, hP1.1, zI_0, zI_1, zI_2, zI_3, zI_4, zI_5, zI_6, zI_7, zI_8, zI_9, zI_10, zI_11, zI_12, zI_13, zI_14, zI_15, zI_16, zI_17, zI_18, zI_19, zI_20, zI_21, zI_22, zI_23, zI_24, zI_25, zI_26, zI_27, zI_28, zI_29, zI_30, zI_31, zI_32, zI_33, zI_34, zI_35, zI_36, zI_37, zI_38, zI_39, zI_40, zI_41, zI_42, zI_43, zI_44, zI_45, zI_46, zI_47, zI_48, zI_49, zI_50, zI_51, zI_52, zI_53, zI_54, zI_55, zI_56, zI_57, zI_58, zI_59, zI_60, zI_61, zI_62, zI_63, zI_64, zI_65, zI_66, zI_67, zI_74, zI_84, zI_85, zI_88, zI_91, zI_93, zI_97, zI_99, zI_100, zI_102, zI_105, zI_117, zI_122, zI_193, zI_202, zI_205, zI_251, zI_255, zI_256, zI_257, zI_258, zI_259, zI_260, zI_640, zI_999, zI_1000, zI_1024, zI_1600, zI_1602, zI_1700, zI_2040, zI_3200, zI_4100, zI_9728, zI_11784, zI_61440, zI_65536, zI_470536, zI_999999, zI_1000000, lt_T, lt_F, le_T, le_F, eq_T, eq_F, neg_1, cn_m1p, cn_m11, nI_add, cn_sub, pk_mul, cn_div, cn_irm, cn_lt, cn_eq, cn_ltm1, cn_m1lt, cn_eqm1, cn_m1eq, cn_ix, cn_inb, cn_ninb, cn_irs, cn_ils, cn_and, cn_or, cn_xor, grd_t, grd_bt, grd_bl, Nat.add_zero, Nat.zero_add, Nat.reduceAdd, Nat.reduceSub, Nat.reduceMul, Nat.reduceLT, Nat.reduceEqDiff, eq_self, true_and, and_true, and_false, false_and, if_true, if_false, and_self, Bool.true_eq_false, Bool.false_eq_true]
      refine mfix_up (fun i x => ∃ s2, x = (20, nI (5 + 3 * pD A), nI i, s2) ∧ (∀ j, j < 62 → gA s2 20 j = nI (imP (pD A) tp H.1 (pD A) i j)) ∧ Fr [20] s s2) (pP A) ?_ ?_ N 0 _ ⟨s1, rfl, g, F⟩ (Nat.zero_le _) (by omega)
      · rintro i k x hi ⟨s2, rfl, g2, F2⟩ hk
        have hP2 := XP_fr F2 (by decide) hP
        have c1 : gA s2 1 (5 + 3 * pD A + i) = nI (tp (5 + 3 * pD A + i)) := by rw [F2.A 1 _ (by decide)]; exact (ht _ (by omega)).2
        simp (disch := first | omega | decide) only [f_X_takeImage_L97, hP2.2.1, a20, zI_0, zI_1, zI_2, zI_3, zI_4, zI_5, zI_6, zI_7, zI_8, zI_9, zI_10, zI_11, zI_12, zI_13, zI_14, zI_15, zI_16, zI_17, zI_18, zI_19, zI_20, zI_21, zI_22, zI_23, zI_24, zI_25, zI_26, zI_27, zI_28, zI_29, zI_30, zI_31, zI_32, zI_33, zI_34, zI_35, zI_36, zI_37, zI_38, zI_39, zI_40, zI_41, zI_42, zI_43, zI_44, zI_45, zI_46, zI_47, zI_48, zI_49, zI_50, zI_51, zI_52, zI_53, zI_54, zI_55, zI_56, zI_57, zI_58, zI_59, zI_60, zI_61, zI_62, zI_63, zI_64, zI_65, zI_66, zI_67, zI_74, zI_84, zI_85, zI_88, zI_91, zI_93, zI_97, zI_99, zI_100, zI_102, zI_105, zI_117, zI_122, zI_193, zI_202, zI_205, zI_251, zI_255, zI_256, zI_257, zI_258, zI_259, zI_260, zI_640, zI_999, zI_1000, zI_1024, zI_1600, zI_1602, zI_1700, zI_2040, zI_3200, zI_4100, zI_9728, zI_11784, zI_61440, zI_65536, zI_470536, zI_999999, zI_1000000, lt_T, lt_F, le_T, le_F, eq_T, eq_F, neg_1, cn_m1p, cn_m11, nI_add, cn_sub, pk_mul, cn_div, cn_irm, cn_lt, cn_eq, cn_ltm1, cn_m1lt, cn_eqm1, cn_m1eq, cn_ix, cn_inb, cn_ninb, cn_irs, cn_ils, cn_and, cn_or, cn_xor, grd_t, grd_bt, grd_bl, Nat.add_zero, Nat.zero_add, Nat.reduceAdd, Nat.reduceSub, Nat.reduceMul, Nat.reduceLT, Nat.reduceEqDiff, eq_self, true_and, and_true, and_false, false_and, if_true, if_false, and_self, Bool.true_eq_false, Bool.false_eq_true, c1]
        refine hk _ ⟨_, rfl, fun j hj => ?_, Fr_t F2 (Fr_sA 20 _ _ (by decide))⟩
        by_cases d1 : j = 52 + i
        · rw [gA_eq d1, d1, imP_p (show i < i + 1 by omega) (by omega)]
        · rw [gA_ne (by omega), g2 j hj]
          congr 1
          unfold imP
          by_cases q6 : 52 ≤ j ∧ j < 52 + i
          · rw [if_pos q6, if_pos (show 52 ≤ j ∧ j < 52 + (i + 1) by omega)]
          · rw [if_neg q6, if_neg (show ¬ (52 ≤ j ∧ j < 52 + (i + 1)) by omega)]
      · rintro k x ⟨s2, rfl, g2, F2⟩
        have hP2 := XP_fr F2 (by decide) hP
        simp (disch := first | omega | decide) only [f_X_takeImage_L97, hP2.2.1, zI_0, zI_1, zI_2, zI_3, zI_4, zI_5, zI_6, zI_7, zI_8, zI_9, zI_10, zI_11, zI_12, zI_13, zI_14, zI_15, zI_16, zI_17, zI_18, zI_19, zI_20, zI_21, zI_22, zI_23, zI_24, zI_25, zI_26, zI_27, zI_28, zI_29, zI_30, zI_31, zI_32, zI_33, zI_34, zI_35, zI_36, zI_37, zI_38, zI_39, zI_40, zI_41, zI_42, zI_43, zI_44, zI_45, zI_46, zI_47, zI_48, zI_49, zI_50, zI_51, zI_52, zI_53, zI_54, zI_55, zI_56, zI_57, zI_58, zI_59, zI_60, zI_61, zI_62, zI_63, zI_64, zI_65, zI_66, zI_67, zI_74, zI_84, zI_85, zI_88, zI_91, zI_93, zI_97, zI_99, zI_100, zI_102, zI_105, zI_117, zI_122, zI_193, zI_202, zI_205, zI_251, zI_255, zI_256, zI_257, zI_258, zI_259, zI_260, zI_640, zI_999, zI_1000, zI_1024, zI_1600, zI_1602, zI_1700, zI_2040, zI_3200, zI_4100, zI_9728, zI_11784, zI_61440, zI_65536, zI_470536, zI_999999, zI_1000000, lt_T, lt_F, le_T, le_F, eq_T, eq_F, neg_1, cn_m1p, cn_m11, nI_add, cn_sub, pk_mul, cn_div, cn_irm, cn_lt, cn_eq, cn_ltm1, cn_m1lt, cn_eqm1, cn_m1eq, cn_ix, cn_inb, cn_ninb, cn_irs, cn_ils, cn_and, cn_or, cn_xor, grd_t, grd_bt, grd_bl, Nat.add_zero, Nat.zero_add, Nat.reduceAdd, Nat.reduceSub, Nat.reduceMul, Nat.reduceLT, Nat.reduceEqDiff, eq_self, true_and, and_true, and_false, false_and, if_true, if_false, and_self, Bool.true_eq_false, Bool.false_eq_true]
        exact Ok_some ⟨⟨g2, fun i hi => absurd hi (Nat.not_lt_zero _)⟩, F2⟩
    · by_cases q0 : j = 0
      · rw [q0]; simp (disch := first | omega | decide) only [gI_sI, gI_sA, gI_sL, gI_sQ, gI_sC, gI_sO, gI_sD, gA_sI, gA_sL, gA_sQ, gA_sO, gA_sD, gL_sI, gL_sA, gL_sQ, gL_sC, gL_sO, gL_sD, gQ_sI, gQ_sA, gQ_sL, gQ_sC, gQ_sO, gO_sI, gO_sA, gO_sL, gO_sQ, gO_sC, gO_sO, gO_sD, gA_eq, gA_ne, gQ_eq, gQ_ne, gL_sL, gA_cin, gA_cou, gQ_cin, gQ_cou, Nat.reduceAdd, Nat.reduceSub, Nat.reduceMul, Nat.reduceLT, Nat.reduceEqDiff, eq_self, true_and, and_true, and_false, false_and, if_true, if_false, and_self, Bool.true_eq_false, Bool.false_eq_true]; rfl
      · by_cases q1 : j = 1
        · rw [q1]; simp (disch := first | omega | decide) only [gI_sI, gI_sA, gI_sL, gI_sQ, gI_sC, gI_sO, gI_sD, gA_sI, gA_sL, gA_sQ, gA_sO, gA_sD, gL_sI, gL_sA, gL_sQ, gL_sC, gL_sO, gL_sD, gQ_sI, gQ_sA, gQ_sL, gQ_sC, gQ_sO, gO_sI, gO_sA, gO_sL, gO_sQ, gO_sC, gO_sO, gO_sD, gA_eq, gA_ne, gQ_eq, gQ_ne, gL_sL, gA_cin, gA_cou, gQ_cin, gQ_cou, Nat.reduceAdd, Nat.reduceSub, Nat.reduceMul, Nat.reduceLT, Nat.reduceEqDiff, eq_self, true_and, and_true, and_false, false_and, if_true, if_false, and_self, Bool.true_eq_false, Bool.false_eq_true]; rfl
        · by_cases q2 : j = 2
          · rw [q2]; simp (disch := first | omega | decide) only [gI_sI, gI_sA, gI_sL, gI_sQ, gI_sC, gI_sO, gI_sD, gA_sI, gA_sL, gA_sQ, gA_sO, gA_sD, gL_sI, gL_sA, gL_sQ, gL_sC, gL_sO, gL_sD, gQ_sI, gQ_sA, gQ_sL, gQ_sC, gQ_sO, gO_sI, gO_sA, gO_sL, gO_sQ, gO_sC, gO_sO, gO_sD, gA_eq, gA_ne, gQ_eq, gQ_ne, gL_sL, gA_cin, gA_cou, gQ_cin, gQ_cou, Nat.reduceAdd, Nat.reduceSub, Nat.reduceMul, Nat.reduceLT, Nat.reduceEqDiff, eq_self, true_and, and_true, and_false, false_and, if_true, if_false, and_self, Bool.true_eq_false, Bool.false_eq_true]; rfl
          · by_cases q3 : j = 3
            · rw [q3]; simp (disch := first | omega | decide) only [gI_sI, gI_sA, gI_sL, gI_sQ, gI_sC, gI_sO, gI_sD, gA_sI, gA_sL, gA_sQ, gA_sO, gA_sD, gL_sI, gL_sA, gL_sQ, gL_sC, gL_sO, gL_sD, gQ_sI, gQ_sA, gQ_sL, gQ_sC, gQ_sO, gO_sI, gO_sA, gO_sL, gO_sQ, gO_sC, gO_sO, gO_sD, gA_eq, gA_ne, gQ_eq, gQ_ne, gL_sL, gA_cin, gA_cou, gQ_cin, gQ_cou, Nat.reduceAdd, Nat.reduceSub, Nat.reduceMul, Nat.reduceLT, Nat.reduceEqDiff, eq_self, true_and, and_true, and_false, false_and, if_true, if_false, and_self, Bool.true_eq_false, Bool.false_eq_true]; rfl
            · rw [gA_ne (by omega), gA_ne (by omega), gA_ne (by omega), gA_ne (by omega), imP_o (by omega) (by omega) (by omega) (by omega)]
              exact hR.1 j hj
  obtain ⟨x, x1, x2, x3⟩ := hl
  refine ⟨x, ?_, x2, x3⟩
  simp only [f_X_takeImage, e6, e7, Option.bind_some, zI_0, zI_5]
  exact x1
theorem mTakeI_n {n : Nat} {tp : Nat → Nat} (hA : WA A) (hP : MP A t) (hX : MX A H none t) (hn : n ≤ 1600) (ho : okIm A tp n) (ht : ∀ i, i < n → tp i < 256 ∧ gA t 1 i = nI (tp i)) (hN : 10000 ≤ N) : Ok (mfix N (f_M_on_L59 N) (nI 0, sA (sA t 34 0 (nI (niI tp))) 34 1 (nI (coI tp)))) (fun r => r.1 = nI 1 ∧ MX A (imH A tp H) none r.2 ∧ gI r.2 1061 0 = nI 0 ∧ Fr [34, 116100] t r.2) := by
  have hD := hA.1
  have hp := hA.2.1
  obtain ⟨h1, h2, h3, h4, h5, h6, h7⟩ := ho
  have F0 : Fr [34, 116100] t (sA (sA t 34 0 (nI (niI tp))) 34 1 (nI (coI tp))) := Fr_t (Fr_sA _ _ _ (by decide)) (Fr_sA _ _ _ (by decide))
  refine mfix_up (fun i x => ∃ t1, x = (nI i, t1) ∧ gA t1 34 0 = nI (niI tp) ∧ gA t1 34 1 = nI (coI tp) ∧ (∀ j, j < i → gA t1 34 (2 + j) = nI (tp (5 + j))) ∧ (∀ j, 74 ≤ j → gA t1 34 j = gA t 34 j) ∧ Fr [34, 116100] t t1) (3 * pD A) ?_ ?_ N 0 _ ⟨_, rfl, by simp (disch := first | omega | decide) only [gI_sI, gI_sA, gI_sL, gI_sQ, gI_sC, gI_sO, gI_sD, gA_sI, gA_sL, gA_sQ, gA_sO, gA_sD, gL_sI, gL_sA, gL_sQ, gL_sC, gL_sO, gL_sD, gQ_sI, gQ_sA, gQ_sL, gQ_sC, gQ_sO, gO_sI, gO_sA, gO_sL, gO_sQ, gO_sC, gO_sO, gO_sD, gA_eq, gA_ne, gQ_eq, gQ_ne, gL_sL, gA_cin, gA_cou, gQ_cin, gQ_cou, Nat.reduceAdd, Nat.reduceSub, Nat.reduceMul, Nat.reduceLT, Nat.reduceEqDiff, eq_self, true_and, and_true, and_false, false_and, if_true, if_false, and_self, Bool.true_eq_false, Bool.false_eq_true], by simp (disch := first | omega | decide) only [gI_sI, gI_sA, gI_sL, gI_sQ, gI_sC, gI_sO, gI_sD, gA_sI, gA_sL, gA_sQ, gA_sO, gA_sD, gL_sI, gL_sA, gL_sQ, gL_sC, gL_sO, gL_sD, gQ_sI, gQ_sA, gQ_sL, gQ_sC, gQ_sO, gO_sI, gO_sA, gO_sL, gO_sQ, gO_sC, gO_sO, gO_sD, gA_eq, gA_ne, gQ_eq, gQ_ne, gL_sL, gA_cin, gA_cou, gQ_cin, gQ_cou, Nat.reduceAdd, Nat.reduceSub, Nat.reduceMul, Nat.reduceLT, Nat.reduceEqDiff, eq_self, true_and, and_true, and_false, false_and, if_true, if_false, and_self, Bool.true_eq_false, Bool.false_eq_true], fun j hj => absurd hj (Nat.not_lt_zero _), fun j hj => by rw [gA_ne (by omega), gA_ne (by omega)], F0⟩ (Nat.zero_le _) (by omega)
  · rintro i k x hi ⟨t1, rfl, g0, g1, g2, g3, F⟩ hk
    have hP1 := MP_fr F (by decide) hP
    have c1 : gA t1 1 (5 + i) = nI (tp (5 + i)) := by rw [F.A 1 _ (by decide)]; exact (ht _ (by omega)).2
    simp (disch := first | omega | decide) only [f_M_on_L59, f_M_doorMany, hP1.1, zI_0, zI_1, zI_2, zI_3, zI_4, zI_5, zI_6, zI_7, zI_8, zI_9, zI_10, zI_11, zI_12, zI_13, zI_14, zI_15, zI_16, zI_17, zI_18, zI_19, zI_20, zI_21, zI_22, zI_23, zI_24, zI_25, zI_26, zI_27, zI_28, zI_29, zI_30, zI_31, zI_32, zI_33, zI_34, zI_35, zI_36, zI_37, zI_38, zI_39, zI_40, zI_41, zI_42, zI_43, zI_44, zI_45, zI_46, zI_47, zI_48, zI_49, zI_50, zI_51, zI_52, zI_53, zI_54, zI_55, zI_56, zI_57, zI_58, zI_59, zI_60, zI_61, zI_62, zI_63, zI_64, zI_65, zI_66, zI_67, zI_74, zI_84, zI_85, zI_88, zI_91, zI_93, zI_97, zI_99, zI_100, zI_102, zI_105, zI_117, zI_122, zI_193, zI_202, zI_205, zI_251, zI_255, zI_256, zI_257, zI_258, zI_259, zI_260, zI_640, zI_999, zI_1000, zI_1024, zI_1600, zI_1602, zI_1700, zI_2040, zI_3200, zI_4100, zI_9728, zI_11784, zI_61440, zI_65536, zI_470536, zI_999999, zI_1000000, lt_T, lt_F, le_T, le_F, eq_T, eq_F, neg_1, cn_m1p, cn_m11, nI_add, cn_sub, pk_mul, cn_div, cn_irm, cn_lt, cn_eq, cn_ltm1, cn_m1lt, cn_eqm1, cn_m1eq, cn_ix, cn_inb, cn_ninb, cn_irs, cn_ils, cn_and, cn_or, cn_xor, grd_t, grd_bt, grd_bl, Nat.add_zero, Nat.zero_add, Nat.reduceAdd, Nat.reduceSub, Nat.reduceMul, Nat.reduceLT, Nat.reduceEqDiff, eq_self, true_and, and_true, and_false, false_and, if_true, if_false, and_self, Bool.true_eq_false, Bool.false_eq_true, c1, Option.bind_some]
    refine hk _ ⟨_, rfl, by rw [gA_ne (by omega)]; exact g0, by rw [gA_ne (by omega)]; exact g1, fun j hj => ?_, fun j hj => by rw [gA_ne (by omega)]; exact g3 j hj, Fr_t F (Fr_sA 34 _ _ (by decide))⟩
    by_cases c : j = i
    · rw [c, gA_eq rfl]
    · rw [gA_ne (by omega)]; exact g2 j (by omega)
  · rintro k x ⟨t1, rfl, g0, g1, g2, g3, F⟩
    have hP1 := MP_fr F (by decide) hP
    simp (disch := first | omega | decide) only [f_M_on_L59, f_M_doorMany, hP1.1, zI_0, zI_1, zI_2, zI_3, zI_4, zI_5, zI_6, zI_7, zI_8, zI_9, zI_10, zI_11, zI_12, zI_13, zI_14, zI_15, zI_16, zI_17, zI_18, zI_19, zI_20, zI_21, zI_22, zI_23, zI_24, zI_25, zI_26, zI_27, zI_28, zI_29, zI_30, zI_31, zI_32, zI_33, zI_34, zI_35, zI_36, zI_37, zI_38, zI_39, zI_40, zI_41, zI_42, zI_43, zI_44, zI_45, zI_46, zI_47, zI_48, zI_49, zI_50, zI_51, zI_52, zI_53, zI_54, zI_55, zI_56, zI_57, zI_58, zI_59, zI_60, zI_61, zI_62, zI_63, zI_64, zI_65, zI_66, zI_67, zI_74, zI_84, zI_85, zI_88, zI_91, zI_93, zI_97, zI_99, zI_100, zI_102, zI_105, zI_117, zI_122, zI_193, zI_202, zI_205, zI_251, zI_255, zI_256, zI_257, zI_258, zI_259, zI_260, zI_640, zI_999, zI_1000, zI_1024, zI_1600, zI_1602, zI_1700, zI_2040, zI_3200, zI_4100, zI_9728, zI_11784, zI_61440, zI_65536, zI_470536, zI_999999, zI_1000000, lt_T, lt_F, le_T, le_F, eq_T, eq_F, neg_1, cn_m1p, cn_m11, nI_add, cn_sub, pk_mul, cn_div, cn_irm, cn_lt, cn_eq, cn_ltm1, cn_m1lt, cn_eqm1, cn_m1eq, cn_ix, cn_inb, cn_ninb, cn_irs, cn_ils, cn_and, cn_or, cn_xor, grd_t, grd_bt, grd_bl, Nat.add_zero, Nat.zero_add, Nat.reduceAdd, Nat.reduceSub, Nat.reduceMul, Nat.reduceLT, Nat.reduceEqDiff, eq_self, true_and, and_true, and_false, false_and, if_true, if_false, and_self, Bool.true_eq_false, Bool.false_eq_true, Option.bind_some]
    refine mfix_up (fun i x => ∃ t2, x = (nI i, t2) ∧ gA t2 34 0 = nI (niI tp) ∧ gA t2 34 1 = nI (coI tp) ∧ (∀ j, j < 3 * pD A → gA t2 34 (2 + j) = nI (tp (5 + j))) ∧ (∀ p, p < i → gA t2 34 (74 + p) = nI (tp (5 + 3 * pD A + p))) ∧ (∀ j, 74 + i ≤ j → gA t2 34 j = gA t 34 j) ∧ Fr [34, 116100] t t2) (pP A) ?_ ?_ N 0 _ ⟨t1, rfl, g0, g1, g2, fun p hp2 => absurd hp2 (Nat.not_lt_zero _), g3, F⟩ (Nat.zero_le _) (by omega)
    · rintro i k x hi ⟨t2, rfl, d0, d1, d2, d3, d4, F2⟩ hk
      have hP2 := MP_fr F2 (by decide) hP
      have c1 : gA t2 1 (5 + 3 * pD A + i) = nI (tp (5 + 3 * pD A + i)) := by rw [F2.A 1 _ (by decide)]; exact (ht _ (by omega)).2
      simp (disch := first | omega | decide) only [f_M_on_L93, f_M_doorMany, f_M_porterMany, hP2.1, hP2.2.1, zI_0, zI_1, zI_2, zI_3, zI_4, zI_5, zI_6, zI_7, zI_8, zI_9, zI_10, zI_11, zI_12, zI_13, zI_14, zI_15, zI_16, zI_17, zI_18, zI_19, zI_20, zI_21, zI_22, zI_23, zI_24, zI_25, zI_26, zI_27, zI_28, zI_29, zI_30, zI_31, zI_32, zI_33, zI_34, zI_35, zI_36, zI_37, zI_38, zI_39, zI_40, zI_41, zI_42, zI_43, zI_44, zI_45, zI_46, zI_47, zI_48, zI_49, zI_50, zI_51, zI_52, zI_53, zI_54, zI_55, zI_56, zI_57, zI_58, zI_59, zI_60, zI_61, zI_62, zI_63, zI_64, zI_65, zI_66, zI_67, zI_74, zI_84, zI_85, zI_88, zI_91, zI_93, zI_97, zI_99, zI_100, zI_102, zI_105, zI_117, zI_122, zI_193, zI_202, zI_205, zI_251, zI_255, zI_256, zI_257, zI_258, zI_259, zI_260, zI_640, zI_999, zI_1000, zI_1024, zI_1600, zI_1602, zI_1700, zI_2040, zI_3200, zI_4100, zI_9728, zI_11784, zI_61440, zI_65536, zI_470536, zI_999999, zI_1000000, lt_T, lt_F, le_T, le_F, eq_T, eq_F, neg_1, cn_m1p, cn_m11, nI_add, cn_sub, pk_mul, cn_div, cn_irm, cn_lt, cn_eq, cn_ltm1, cn_m1lt, cn_eqm1, cn_m1eq, cn_ix, cn_inb, cn_ninb, cn_irs, cn_ils, cn_and, cn_or, cn_xor, grd_t, grd_bt, grd_bl, Nat.add_zero, Nat.zero_add, Nat.reduceAdd, Nat.reduceSub, Nat.reduceMul, Nat.reduceLT, Nat.reduceEqDiff, eq_self, true_and, and_true, and_false, false_and, if_true, if_false, and_self, Bool.true_eq_false, Bool.false_eq_true, c1, Option.bind_some]
      refine hk _ ⟨_, rfl, by rw [gA_ne (by omega)]; exact d0, by rw [gA_ne (by omega)]; exact d1, fun j hj => by rw [gA_ne (by omega)]; exact d2 j hj, fun p hp2 => ?_, fun j hj => by rw [gA_ne (by omega)]; exact d4 j (by omega), Fr_t F2 (Fr_sA 34 _ _ (by decide))⟩
      by_cases c : p = i
      · rw [c, gA_eq rfl]
      · rw [gA_ne (by omega)]; exact d3 p (by omega)
    · rintro k x ⟨t2, rfl, d0, d1, d2, d3, d4, F2⟩
      have hP2 := MP_fr F2 (by decide) hP
      simp (disch := first | omega | decide) only [f_M_on_L93, f_M_porterMany, hP2.2.1, zI_0, zI_1, zI_2, zI_3, zI_4, zI_5, zI_6, zI_7, zI_8, zI_9, zI_10, zI_11, zI_12, zI_13, zI_14, zI_15, zI_16, zI_17, zI_18, zI_19, zI_20, zI_21, zI_22, zI_23, zI_24, zI_25, zI_26, zI_27, zI_28, zI_29, zI_30, zI_31, zI_32, zI_33, zI_34, zI_35, zI_36, zI_37, zI_38, zI_39, zI_40, zI_41, zI_42, zI_43, zI_44, zI_45, zI_46, zI_47, zI_48, zI_49, zI_50, zI_51, zI_52, zI_53, zI_54, zI_55, zI_56, zI_57, zI_58, zI_59, zI_60, zI_61, zI_62, zI_63, zI_64, zI_65, zI_66, zI_67, zI_74, zI_84, zI_85, zI_88, zI_91, zI_93, zI_97, zI_99, zI_100, zI_102, zI_105, zI_117, zI_122, zI_193, zI_202, zI_205, zI_251, zI_255, zI_256, zI_257, zI_258, zI_259, zI_260, zI_640, zI_999, zI_1000, zI_1024, zI_1600, zI_1602, zI_1700, zI_2040, zI_3200, zI_4100, zI_9728, zI_11784, zI_61440, zI_65536, zI_470536, zI_999999, zI_1000000, lt_T, lt_F, le_T, le_F, eq_T, eq_F, neg_1, cn_m1p, cn_m11, nI_add, cn_sub, pk_mul, cn_div, cn_irm, cn_lt, cn_eq, cn_ltm1, cn_m1lt, cn_eqm1, cn_m1eq, cn_ix, cn_inb, cn_ninb, cn_irs, cn_ils, cn_and, cn_or, cn_xor, grd_t, grd_bt, grd_bl, Nat.add_zero, Nat.zero_add, Nat.reduceAdd, Nat.reduceSub, Nat.reduceMul, Nat.reduceLT, Nat.reduceEqDiff, eq_self, true_and, and_true, and_false, false_and, if_true, if_false, and_self, Bool.true_eq_false, Bool.false_eq_true, Option.bind_some]
      have th : gI t2 1053 0 = nI 0 := by rw [F2.I 1053 0 (by decide)]; exact hX.2.1
      refine Ok_some ⟨rfl, ⟨⟨?_, ?_, fun d hd => ?_, fun p hp2 => ?_⟩, th, (show MK (imH A tp H) _ from ⟨by simp (disch := first | omega | decide) only [gI_sI, gI_sA, gI_sL, gI_sQ, gI_sC, gI_sO, gI_sD, gA_sI, gA_sL, gA_sQ, gA_sO, gA_sD, gL_sI, gL_sA, gL_sQ, gL_sC, gL_sO, gL_sD, gQ_sI, gQ_sA, gQ_sL, gQ_sC, gQ_sO, gO_sI, gO_sA, gO_sL, gO_sQ, gO_sC, gO_sO, gO_sD, gA_eq, gA_ne, gQ_eq, gQ_ne, gL_sL, gA_cin, gA_cou, gQ_cin, gQ_cou, Nat.reduceAdd, Nat.reduceSub, Nat.reduceMul, Nat.reduceLT, Nat.reduceEqDiff, eq_self, true_and, and_true, and_false, false_and, if_true, if_false, and_self, Bool.true_eq_false, Bool.false_eq_true]; rfl, fun k hk => absurd hk (by show ¬ k < min 40 0; omega)⟩)⟩, by simp (disch := first | omega | decide) only [gI_sI, gI_sA, gI_sL, gI_sQ, gI_sC, gI_sO, gI_sD, gA_sI, gA_sL, gA_sQ, gA_sO, gA_sD, gL_sI, gL_sA, gL_sQ, gL_sC, gL_sO, gL_sD, gQ_sI, gQ_sA, gQ_sL, gQ_sC, gQ_sO, gO_sI, gO_sA, gO_sL, gO_sQ, gO_sC, gO_sO, gO_sD, gA_eq, gA_ne, gQ_eq, gQ_ne, gL_sL, gA_cin, gA_cou, gQ_cin, gQ_cou, Nat.reduceAdd, Nat.reduceSub, Nat.reduceMul, Nat.reduceLT, Nat.reduceEqDiff, eq_self, true_and, and_true, and_false, false_and, if_true, if_false, and_self, Bool.true_eq_false, Bool.false_eq_true], Fr_t F2 (Fr_t (Fr_sA 34 _ _ (by decide)) (Fr_sI 1061 _ _ (by decide)))⟩
      · rw [gA_sI, gA_ne (by omega)]; exact d0
      · rw [gA_sI, gA_ne (by omega)]; exact d1
      · rw [gA_sI, gA_sI, gA_sI, gA_ne (by omega), gA_ne (by omega), gA_ne (by omega)]
        have hb : ((imH A tp H).1 2).testBit d = decide (tp (5 + 3 * d) = 1) := opI_bit _ (fun d hd => (h6 d hd).1) d hd
        have e1 := d2 (3 * d) (by omega)
        have e2 := d2 (3 * d + 1) (by omega)
        have e3 := d2 (3 * d + 2) (by omega)
        rw [show 2 + (3 * d + 1) = 3 + 3 * d by omega, show 5 + (3 * d + 1) = 6 + 3 * d by omega] at e2
        rw [show 2 + (3 * d + 2) = 4 + 3 * d by omega, show 5 + (3 * d + 2) = 7 + 3 * d by omega] at e3
        have v1 := (h6 d hd).1
        refine ⟨?_, e2.trans (congrArg nI (imP_t hd hD).1.symm), e3.trans (congrArg nI (imP_t hd hD).2.symm)⟩
        rw [e1, hb]
        have : tp (5 + 3 * d) = 0 ∨ tp (5 + 3 * d) = 1 := by omega
        rcases this with h | h <;> rw [h] <;> rfl
      · rw [gA_sI, gA_ne (by omega)]
        by_cases c : p < pP A
        · rw [d3 p c]
          exact congrArg nI (imP_p c hD).symm
        · rw [d4 _ (by omega)]
          have e1 : (imH A tp H).1 (52 + p) = H.1 (52 + p) := imP_o (by omega) (by omega) (by omega) (by omega)
          rw [e1]; exact hX.1.2.2.2 p hp2
theorem P_on (hN : 10000 ≤ N) : Pure_36 Inv N := by
  rintro s t ⟨A, H, pa, se, hW, hX, hM, hR⟩
  have hA := hW.1
  obtain ⟨n, tp, hn, h1, h2, h3⟩ := hR.1
  obtain ⟨X0, M0, R0⟩ := take_n hW hX hM hR
  have tX : ∀ i, i < n → tp i < 256 ∧ gA (sI s 1 0 (nI 0)) 1 i = nI (tp i) := fun i hi => ⟨(h3 i hi).1, (h3 i hi).2.1⟩
  have tM : ∀ i, i < n → tp i < 256 ∧ gA (sI t 1001 0 (nI 0)) 1 i = nI (tp i) := fun i hi => ⟨(h3 i hi).1, (h3 i hi).2.2⟩
  obtain ⟨x, x1, x2, x3⟩ := xIsIm_n (N := N) hA X0.1 hn tX hN
  obtain ⟨y, y1, y2, y3⟩ := mIsIm_n (N := N) hA M0.1 M0.2.2.2.2.2 hn tM hN
  by_cases ho : okIm A tp n
  · have x3 : x.1 = nI 1 := by
      rcases x3 with h | h
      · exact h.2
      · exact absurd ho h.1
    have y3 : y.1 = nI 1 := by
      rcases y3 with h | h
      · exact h.2
      · exact absurd ho h.1
    obtain ⟨s1, e1, R1, F1⟩ := xTakeI_n (N := N) hA X0.1 X0.2.2.1 hn ho tX hN
    obtain ⟨z, z1, z2, Y2, z3, G2⟩ := mTakeI_n (N := N) hA M0.1 M0.2.2.1 hn ho tM hN
    have F2 : Fr [40223] s1 (sI s1 302 23 (nI 0)) := Fr_sI _ _ _ (by decide)
    have Pa1 : XPa (0, pa.2) (sI s1 302 23 (nI 0)) := by
      obtain ⟨p1, nx, p2, p3, p4⟩ := X0.2.2.2.2.2.2
      refine ⟨by simp (disch := first | omega | decide) only [gI_sI, gI_sA, gI_sL, gI_sQ, gI_sC, gI_sO, gI_sD, gA_sI, gA_sL, gA_sQ, gA_sO, gA_sD, gL_sI, gL_sA, gL_sQ, gL_sC, gL_sO, gL_sD, gQ_sI, gQ_sA, gQ_sL, gQ_sC, gQ_sO, gO_sI, gO_sA, gO_sL, gO_sQ, gO_sC, gO_sO, gO_sD, gA_eq, gA_ne, gQ_eq, gQ_ne, gL_sL, gA_cin, gA_cou, gQ_cin, gQ_cou, Nat.reduceAdd, Nat.reduceSub, Nat.reduceMul, Nat.reduceLT, Nat.reduceEqDiff, eq_self, true_and, and_true, and_false, false_and, if_true, if_false, and_self, Bool.true_eq_false, Bool.false_eq_true], nx, p2, ?_, fun k hk => absurd hk (Nat.not_lt_zero _)⟩
      rw [F2.I 301 23 (by decide), F1.I 301 23 (by decide)]; exact p3
    have Qa1 : MPa A (0, pa.2) z.2 := by
      obtain ⟨p1, ne, p2, p3, p4⟩ := M0.2.2.2.2.1
      refine ⟨z3, ne, p2, ?_, fun k hk => absurd hk (Nat.not_lt_zero _)⟩
      rw [G2.I 1062 0 (by decide)]; exact p3
    obtain ⟨s3, e3, X3, F3⟩ := act_x (N := N) (H' := imH A tp H) (pa' := (0, pa.2)) X0 (Fr_t (Fr_w F1 (by decide)) (Fr_w F2 (by decide))) Pa1 (HR_fr F2 (by decide) R1) hN
    have G : Fr kAM (sI t 1001 0 (nI 0)) z.2 := Fr_w G2 (by decide)
    have M3 := act_m M0 G Qa1 Y2
    have b0 : 6 ≤ n := by have := ho.2.1; omega
    have m6 := mTwo_n (N := N) (t := sI t 1001 0 (nI 0)) (tp := tp) (k := 0) (by omega) (tM 0 (by omega)).2 (tM 1 (by omega)).2
    have m7 := mTwo_n (N := N) (t := sA (sI t 1001 0 (nI 0)) 34 0 (nI (niI tp))) (tp := tp) (k := 3) (by omega) (tM 3 (by omega)).2 (tM 4 (by omega)).2
    have m8 : gA (sA (sI t 1001 0 (nI 0)) 34 0 (nI (niI tp))) 1 2 = nI (tp 2) := (tM 2 (by omega)).2
    have eni : 256 * tp 0 + tp (0 + 1) = niI tp := rfl
    have eco : nI 65536 * nI (tp 2) + nI (256 * tp 3 + tp (3 + 1)) = nI (coI tp) := by
      rw [pk_mul, nI_add, ← Nat.add_assoc]; rfl
    rw [eni] at m6
    refine ⟨nI 1, s3, z.2, ?_, ?_, act_i hW (imH_B hA hW.2.1 ho) (Nat.zero_le _) ⟨Nat.zero_le _, fun k hk => absurd hk (Nat.not_lt_zero _)⟩ X3 M3 R0 F3 G⟩
    · simp (disch := first | omega | decide) only [f_X_on, f_X_takeTape, h1, zI_0, zI_1, zI_2, zI_3, zI_4, zI_5, zI_6, zI_7, zI_8, zI_9, zI_10, zI_11, zI_12, zI_13, zI_14, zI_15, zI_16, zI_17, zI_18, zI_19, zI_20, zI_21, zI_22, zI_23, zI_24, zI_25, zI_26, zI_27, zI_28, zI_29, zI_30, zI_31, zI_32, zI_33, zI_34, zI_35, zI_36, zI_37, zI_38, zI_39, zI_40, zI_41, zI_42, zI_43, zI_44, zI_45, zI_46, zI_47, zI_48, zI_49, zI_50, zI_51, zI_52, zI_53, zI_54, zI_55, zI_56, zI_57, zI_58, zI_59, zI_60, zI_61, zI_62, zI_63, zI_64, zI_65, zI_66, zI_67, zI_74, zI_84, zI_85, zI_88, zI_91, zI_93, zI_97, zI_99, zI_100, zI_102, zI_105, zI_117, zI_122, zI_193, zI_202, zI_205, zI_251, zI_255, zI_256, zI_257, zI_258, zI_259, zI_260, zI_640, zI_999, zI_1000, zI_1024, zI_1600, zI_1602, zI_1700, zI_2040, zI_3200, zI_4100, zI_9728, zI_11784, zI_61440, zI_65536, zI_470536, zI_999999, zI_1000000, x1, x3, x2, cn_eq, Nat.reduceAdd, Nat.reduceSub, Nat.reduceMul, Nat.reduceLT, Nat.reduceEqDiff, eq_self, true_and, and_true, and_false, false_and, if_true, if_false, and_self, Bool.true_eq_false, Bool.false_eq_true, Option.bind_some, e1, f_Pa_forget, e3]
    · simp (disch := first | omega | decide) only [f_M_on, h2, zI_0, zI_1, zI_2, zI_3, zI_4, zI_5, zI_6, zI_7, zI_8, zI_9, zI_10, zI_11, zI_12, zI_13, zI_14, zI_15, zI_16, zI_17, zI_18, zI_19, zI_20, zI_21, zI_22, zI_23, zI_24, zI_25, zI_26, zI_27, zI_28, zI_29, zI_30, zI_31, zI_32, zI_33, zI_34, zI_35, zI_36, zI_37, zI_38, zI_39, zI_40, zI_41, zI_42, zI_43, zI_44, zI_45, zI_46, zI_47, zI_48, zI_49, zI_50, zI_51, zI_52, zI_53, zI_54, zI_55, zI_56, zI_57, zI_58, zI_59, zI_60, zI_61, zI_62, zI_63, zI_64, zI_65, zI_66, zI_67, zI_74, zI_84, zI_85, zI_88, zI_91, zI_93, zI_97, zI_99, zI_100, zI_102, zI_105, zI_117, zI_122, zI_193, zI_202, zI_205, zI_251, zI_255, zI_256, zI_257, zI_258, zI_259, zI_260, zI_640, zI_999, zI_1000, zI_1024, zI_1600, zI_1602, zI_1700, zI_2040, zI_3200, zI_4100, zI_9728, zI_11784, zI_61440, zI_65536, zI_470536, zI_999999, zI_1000000, y1, y3, y2, cn_eq, Nat.reduceAdd, Nat.reduceSub, Nat.reduceMul, Nat.reduceLT, Nat.reduceEqDiff, eq_self, true_and, and_true, and_false, false_and, if_true, if_false, and_self, Bool.true_eq_false, Bool.false_eq_true, Option.bind_some, m6, m7, m8, eco]
      rw [z1, ← z2]
  · have x3 : x.1 = nI 0 := by
      rcases x3 with h | h
      · exact absurd h.1 ho
      · exact h.2
    have y3 : y.1 = nI 0 := by
      rcases y3 with h | h
      · exact absurd h.1 ho
      · exact h.2
    have j0 : isb (nI 0) = true := rfl
    refine ⟨nI 0, _, _, ?_, ?_, Inv_rf (k := 5) hW X0 M0 R0 (by omega)⟩
    · simp (disch := first | omega | decide) only [f_X_on, f_X_takeTape, h1, zI_0, zI_1, zI_2, zI_3, zI_4, zI_5, zI_6, zI_7, zI_8, zI_9, zI_10, zI_11, zI_12, zI_13, zI_14, zI_15, zI_16, zI_17, zI_18, zI_19, zI_20, zI_21, zI_22, zI_23, zI_24, zI_25, zI_26, zI_27, zI_28, zI_29, zI_30, zI_31, zI_32, zI_33, zI_34, zI_35, zI_36, zI_37, zI_38, zI_39, zI_40, zI_41, zI_42, zI_43, zI_44, zI_45, zI_46, zI_47, zI_48, zI_49, zI_50, zI_51, zI_52, zI_53, zI_54, zI_55, zI_56, zI_57, zI_58, zI_59, zI_60, zI_61, zI_62, zI_63, zI_64, zI_65, zI_66, zI_67, zI_74, zI_84, zI_85, zI_88, zI_91, zI_93, zI_97, zI_99, zI_100, zI_102, zI_105, zI_117, zI_122, zI_193, zI_202, zI_205, zI_251, zI_255, zI_256, zI_257, zI_258, zI_259, zI_260, zI_640, zI_999, zI_1000, zI_1024, zI_1600, zI_1602, zI_1700, zI_2040, zI_3200, zI_4100, zI_9728, zI_11784, zI_61440, zI_65536, zI_470536, zI_999999, zI_1000000, x1, x3, x2, cn_eq, Nat.reduceAdd, Nat.reduceSub, Nat.reduceMul, Nat.reduceLT, Nat.reduceEqDiff, eq_self, true_and, and_true, and_false, false_and, if_true, if_false, and_self, Bool.true_eq_false, Bool.false_eq_true, Option.bind_some, xRef_n, j0, grd_t]
    · simp (disch := first | omega | decide) only [f_M_on, h2, zI_0, zI_1, zI_2, zI_3, zI_4, zI_5, zI_6, zI_7, zI_8, zI_9, zI_10, zI_11, zI_12, zI_13, zI_14, zI_15, zI_16, zI_17, zI_18, zI_19, zI_20, zI_21, zI_22, zI_23, zI_24, zI_25, zI_26, zI_27, zI_28, zI_29, zI_30, zI_31, zI_32, zI_33, zI_34, zI_35, zI_36, zI_37, zI_38, zI_39, zI_40, zI_41, zI_42, zI_43, zI_44, zI_45, zI_46, zI_47, zI_48, zI_49, zI_50, zI_51, zI_52, zI_53, zI_54, zI_55, zI_56, zI_57, zI_58, zI_59, zI_60, zI_61, zI_62, zI_63, zI_64, zI_65, zI_66, zI_67, zI_74, zI_84, zI_85, zI_88, zI_91, zI_93, zI_97, zI_99, zI_100, zI_102, zI_105, zI_117, zI_122, zI_193, zI_202, zI_205, zI_251, zI_255, zI_256, zI_257, zI_258, zI_259, zI_260, zI_640, zI_999, zI_1000, zI_1024, zI_1600, zI_1602, zI_1700, zI_2040, zI_3200, zI_4100, zI_9728, zI_11784, zI_61440, zI_65536, zI_470536, zI_999999, zI_1000000, y1, y3, y2, cn_eq, Nat.reduceAdd, Nat.reduceSub, Nat.reduceMul, Nat.reduceLT, Nat.reduceEqDiff, eq_self, true_and, and_true, and_false, false_and, if_true, if_false, and_self, Bool.true_eq_false, Bool.false_eq_true, Option.bind_some, mIsRef_n, j0, grd_t]
end ON2
