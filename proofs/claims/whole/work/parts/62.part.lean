/-! A PART, on both sides -/
section PART
variable {N n p o : Nat} {tp : Nat → Nat} {b : Bool} {s s0 : mS} {kd mk pg r k w : Nat} {al : Nat → Bool} {L : List Nat}
theorem gd3 (hr : 1 ≤ r) (hN : 10000 ≤ N) (h : CD pg s0 k w s) (hp : PgO pg) : f_Rd_grp N r 3 s = some s := by
  obtain ⟨r', rfl⟩ : ∃ r', r = r' + 1 := ⟨r - 1, by omega⟩
  exact (grp_d (k := k) (w := w) hp hN r').1 s h.1.1
theorem gd2 (hr : 2 ≤ r) (hN : 10000 ≤ N) (h : CD pg s0 k w s) (hp : PgO pg) : f_Rd_grp N r 2 s = some s := by
  obtain ⟨r', rfl⟩ : ∃ r', r = r' + 2 := ⟨r - 2, by omega⟩
  exact (grp_d (k := k) (w := w) hp hN r').2.1 s h.1.1
theorem nuT_9 (hp : p ≤ n) (ht : ∀ i, i < n → tp i < 256) (k : kK tp n p b = 257) : nuT tp n p ≤ 9999 ∧ kV tp n p = nI (nuT tp n p) ∧ wdA tp n p b = 0 ∧ nbK 257 = true := by
  obtain ⟨c, cl, cd, ct⟩ := kK_n ht k
  have db := dEn_b (tp := tp) (n := n) (p := skp tp n p) (by omega)
  have ez : kZ tp n p = dEn tp n (skp tp n p) - skp tp n p := by unfold kZ; rw [if_neg (by omega), if_neg (by rw [cl]; simp), if_pos cd]
  refine ⟨nuV_9 (n := n) (by omega) (Nat.min_le_left _ _) (by omega), ?_, ?_, rfl⟩
  · unfold kV nuT
    rw [if_neg (by omega), if_neg (by rw [cl]; simp), if_pos cd]
  · unfold wdA; rw [if_neg (by omega)]
theorem part_num (hK : KdA kd mk al) (E : CE tp n pg mk s0) (h : CX tp n pg s0 p b o L s) (hl : L.length ≤ p) (hN : 10000 ≤ N) (k : kK tp n p b = 257) : PartR N tp n kd pg al (r + 1) o s0 p b L s := by
  obtain ⟨hT, hO, hm, ht⟩ := CE_x E h
  have hn := hT.1
  have hp := h.1
  have hpo := E.2.1
  obtain ⟨o1, _⟩ := pgo_ok hpo
  obtain ⟨v9, hv, w0, nb⟩ := nuT_9 hp ht k
  have wd := word_w (N := N) ht h.2.1
  rw [w0, m1_0] at wd
  obtain ⟨k1, k2, k3, k4, k5, k6⟩ := h.2.1
  rw [k] at k1
  obtain ⟨c, cl, cd, ct⟩ := kK_n ht k
  have sb := skp_b (tp := tp) hp
  have kb := kE_b (tp := tp) hp
  have kzb : kZ tp n p ≤ 1600 := by
    have db := dEn_b (tp := tp) (n := n) (p := skp tp n p) (by omega)
    unfold kZ; rw [if_neg (by omega), if_neg (by rw [cl]; simp), if_pos cd]; omega
  have z9 : (9999 : Int32) = nI 9999 := rfl
  have wr : ∀ lo hi, wqR al lo hi (wdA tp n p b) = 0 := fun lo hi => by rw [w0]; unfold wqR; rw [if_neg (fun h => absurd h.1 (Nat.not_lt_zero _))]
  by_cases c4 : 4 < kZ tp n p
  · left
    obtain ⟨s1, f1, D1⟩ := c_fail (N := N) (k := 1) (w := skp tp n p + 4) E h (by omega) (by omega)
    obtain ⟨s2, f2, D2⟩ := c_dadd (N := N) hpo D1 (m1 - gI s1 608 18)
    have a2 := adv_d (N := N) D2.1.1
    have g1 := D1.1.2.1
    refine ⟨1, skp tp n p + 4, s2, ?_, D2, ?_⟩
    · show f_Rd_part_B N _ _ _ _ s = some s2
      simp (disch := first | omega | decide) only [f_Rd_part_B, f_Rd_part_j34, wd, k1, k2, k3, f1, g1, o1, f2, a2, zI_0, zI_1, zI_2, zI_3, zI_4, zI_5, zI_6, zI_7, zI_8, zI_9, zI_10, zI_11, zI_12, zI_13, zI_14, zI_15, zI_16, zI_17, zI_18, zI_19, zI_20, zI_21, zI_22, zI_23, zI_24, zI_25, zI_26, zI_27, zI_28, zI_29, zI_30, zI_31, zI_32, zI_33, zI_34, zI_35, zI_36, zI_37, zI_38, zI_39, zI_40, zI_41, zI_42, zI_43, zI_44, zI_45, zI_46, zI_47, zI_48, zI_49, zI_50, zI_51, zI_52, zI_53, zI_54, zI_55, zI_56, zI_57, zI_58, zI_59, zI_60, zI_61, zI_62, zI_63, zI_64, zI_65, zI_66, zI_67, zI_74, zI_84, zI_85, zI_88, zI_91, zI_93, zI_97, zI_99, zI_100, zI_102, zI_105, zI_117, zI_122, zI_193, zI_202, zI_205, zI_251, zI_255, zI_256, zI_257, zI_258, zI_259, zI_260, zI_640, zI_999, zI_1000, zI_1024, zI_1600, zI_1602, zI_1700, zI_2040, zI_3200, zI_4100, zI_9728, zI_11784, zI_61440, zI_65536, zI_470536, zI_999999, zI_1000000, lt_T, lt_F, le_T, le_F, eq_T, eq_F, neg_1, cn_m1p, cn_m11, nI_add, cn_sub, pk_mul, cn_div, cn_irm, cn_lt, cn_eq, cn_ltm1, cn_m1lt, cn_eqm1, cn_m1eq, cn_ix, cn_inb, cn_ninb, cn_irs, cn_ils, cn_and, cn_or, cn_xor, grd_t, grd_bt, grd_bl, Nat.add_zero, Nat.zero_add, Nat.reduceAdd, Nat.reduceSub, Nat.reduceMul, Nat.reduceLT, Nat.reduceEqDiff, eq_self, true_and, and_true, and_false, false_and, if_true, if_false, and_self, Bool.true_eq_false, Bool.false_eq_true, Option.bind_some]
    · intro t0 B0 Q C W B t hR hCW hB hQ
      refine PS_leaf hK hR hn hCW hN (by omega) (by omega) (by omega) (wr _ _) (fun k15 t1 hm15 R1 L1 => ?_)
      have qw := qWordOf_b (N := N) (lo := 0) (hi := 9) (by omega) (by omega) hK R1.2.2.2.2.2.2 (RL_RB L1) hN
      rw [wr, m1_0, lk_RL L1] at qw
      obtain ⟨t2, f, D, F⟩ := (number_b (N := N) (lo := 0) (hi := 9999) (by omega) (by omega) (RL_RB L1) hN).2.1 k c4
      have e5 := L1.2.2.1
      simp (disch := first | omega | decide) only [f_M_qPartTold_j186, f_M_qPartTold_j212, e5, qw, z9, f, zI_0, zI_1, zI_2, zI_3, zI_4, zI_5, zI_6, zI_7, zI_8, zI_9, zI_10, zI_11, zI_12, zI_13, zI_14, zI_15, zI_16, zI_17, zI_18, zI_19, zI_20, zI_21, zI_22, zI_23, zI_24, zI_25, zI_26, zI_27, zI_28, zI_29, zI_30, zI_31, zI_32, zI_33, zI_34, zI_35, zI_36, zI_37, zI_38, zI_39, zI_40, zI_41, zI_42, zI_43, zI_44, zI_45, zI_46, zI_47, zI_48, zI_49, zI_50, zI_51, zI_52, zI_53, zI_54, zI_55, zI_56, zI_57, zI_58, zI_59, zI_60, zI_61, zI_62, zI_63, zI_64, zI_65, zI_66, zI_67, zI_74, zI_84, zI_85, zI_88, zI_91, zI_93, zI_97, zI_99, zI_100, zI_102, zI_105, zI_117, zI_122, zI_193, zI_202, zI_205, zI_251, zI_255, zI_256, zI_257, zI_258, zI_259, zI_260, zI_640, zI_999, zI_1000, zI_1024, zI_1600, zI_1602, zI_1700, zI_2040, zI_3200, zI_4100, zI_9728, zI_11784, zI_61440, zI_65536, zI_470536, zI_999999, zI_1000000, lt_T, lt_F, le_T, le_F, eq_T, eq_F, neg_1, cn_m1p, cn_m11, nI_add, cn_sub, pk_mul, cn_div, cn_irm, cn_lt, cn_eq, cn_ltm1, cn_m1lt, cn_eqm1, cn_m1eq, cn_ix, cn_inb, cn_ninb, cn_irs, cn_ils, cn_and, cn_or, cn_xor, grd_t, grd_bt, grd_bl, Nat.add_zero, Nat.zero_add, Nat.reduceAdd, Nat.reduceSub, Nat.reduceMul, Nat.reduceLT, Nat.reduceEqDiff, eq_self, true_and, and_true, and_false, false_and, if_true, if_false, and_self, Bool.true_eq_false, Bool.false_eq_true, Option.bind_some]
      exact PS_j237b hN (BT_of R1 (by omega) F (by decide) (by decide) D) (RCd_fr F (by decide) R1.2.2.1) (by omega) (by omega) hQ
  · right
    have ec : m1 - nI (nuT tp n p) = cSt (1000 + nuT tp n p) := by
      unfold cSt
      rw [if_pos (by omega), show 1000 + nuT tp n p - 1000 = nuT tp n p by omega, zi_c, show m1 = zi (-1) from rfl, zi_sub]
    obtain ⟨s1, f1, X1⟩ := c_add (N := N) E h (by omega) ec
    obtain ⟨s2, f2, X2⟩ := c_adv E X1 hN
    rw [k, nb] at X2
    have e8 : gI s 608 18 = nI (nuT tp n p) := k4.trans hv
    refine ⟨[1000 + nuT tp n p], kE tp n p, true, s2, ?_, X2, by omega, by rw [List.length_singleton]; omega, ?_, ?_⟩
    · show f_Rd_part_B N _ _ _ _ s = some s2
      simp (disch := first | omega | decide) only [f_Rd_part_B, f_Rd_part_j34, wd, k1, k2, k3, e8, hO, o1, f1, f2, zI_0, zI_1, zI_2, zI_3, zI_4, zI_5, zI_6, zI_7, zI_8, zI_9, zI_10, zI_11, zI_12, zI_13, zI_14, zI_15, zI_16, zI_17, zI_18, zI_19, zI_20, zI_21, zI_22, zI_23, zI_24, zI_25, zI_26, zI_27, zI_28, zI_29, zI_30, zI_31, zI_32, zI_33, zI_34, zI_35, zI_36, zI_37, zI_38, zI_39, zI_40, zI_41, zI_42, zI_43, zI_44, zI_45, zI_46, zI_47, zI_48, zI_49, zI_50, zI_51, zI_52, zI_53, zI_54, zI_55, zI_56, zI_57, zI_58, zI_59, zI_60, zI_61, zI_62, zI_63, zI_64, zI_65, zI_66, zI_67, zI_74, zI_84, zI_85, zI_88, zI_91, zI_93, zI_97, zI_99, zI_100, zI_102, zI_105, zI_117, zI_122, zI_193, zI_202, zI_205, zI_251, zI_255, zI_256, zI_257, zI_258, zI_259, zI_260, zI_640, zI_999, zI_1000, zI_1024, zI_1600, zI_1602, zI_1700, zI_2040, zI_3200, zI_4100, zI_9728, zI_11784, zI_61440, zI_65536, zI_470536, zI_999999, zI_1000000, lt_T, lt_F, le_T, le_F, eq_T, eq_F, neg_1, cn_m1p, cn_m11, nI_add, cn_sub, pk_mul, cn_div, cn_irm, cn_lt, cn_eq, cn_ltm1, cn_m1lt, cn_eqm1, cn_m1eq, cn_ix, cn_inb, cn_ninb, cn_irs, cn_ils, cn_and, cn_or, cn_xor, grd_t, grd_bt, grd_bl, Nat.add_zero, Nat.zero_add, Nat.reduceAdd, Nat.reduceSub, Nat.reduceMul, Nat.reduceLT, Nat.reduceEqDiff, eq_self, true_and, and_true, and_false, false_and, if_true, if_false, and_self, Bool.true_eq_false, Bool.false_eq_true, Option.bind_some]
    · intro ts hts
      refine ckL_1 al ?_
      unfold ck1
      rw [if_pos (by omega), if_pos (by omega)]
    · intro t0 B0 Q C W B t hR hCW hB hQ
      refine PS_leaf hK hR hn hCW hN (by omega) (by omega) (by omega) (wr _ _) (fun k15 t1 hm15 R1 L1 => ?_)
      have qw := qWordOf_b (N := N) (lo := 0) (hi := 9) (by omega) (by omega) hK R1.2.2.2.2.2.2 (RL_RB L1) hN
      rw [wr, m1_0, lk_RL L1] at qw
      have L1' := RL_RB L1
      have e5 := L1.2.2.1
      obtain ⟨t2, f, R2, g10, F⟩ := (number_b (N := N) (lo := 0) (hi := 9999) (by omega) (by omega) (RL_RB L1) hN).2.2.2 k (by omega) ⟨by omega, v9⟩
      simp (disch := first | omega | decide) only [f_M_qPartTold_j186, f_M_qPartTold_j212, e5, qw, z9, f, zI_0, zI_1, zI_2, zI_3, zI_4, zI_5, zI_6, zI_7, zI_8, zI_9, zI_10, zI_11, zI_12, zI_13, zI_14, zI_15, zI_16, zI_17, zI_18, zI_19, zI_20, zI_21, zI_22, zI_23, zI_24, zI_25, zI_26, zI_27, zI_28, zI_29, zI_30, zI_31, zI_32, zI_33, zI_34, zI_35, zI_36, zI_37, zI_38, zI_39, zI_40, zI_41, zI_42, zI_43, zI_44, zI_45, zI_46, zI_47, zI_48, zI_49, zI_50, zI_51, zI_52, zI_53, zI_54, zI_55, zI_56, zI_57, zI_58, zI_59, zI_60, zI_61, zI_62, zI_63, zI_64, zI_65, zI_66, zI_67, zI_74, zI_84, zI_85, zI_88, zI_91, zI_93, zI_97, zI_99, zI_100, zI_102, zI_105, zI_117, zI_122, zI_193, zI_202, zI_205, zI_251, zI_255, zI_256, zI_257, zI_258, zI_259, zI_260, zI_640, zI_999, zI_1000, zI_1024, zI_1600, zI_1602, zI_1700, zI_2040, zI_3200, zI_4100, zI_9728, zI_11784, zI_61440, zI_65536, zI_470536, zI_999999, zI_1000000, lt_T, lt_F, le_T, le_F, eq_T, eq_F, neg_1, cn_m1p, cn_m11, nI_add, cn_sub, pk_mul, cn_div, cn_irm, cn_lt, cn_eq, cn_ltm1, cn_m1lt, cn_eqm1, cn_m1eq, cn_ix, cn_inb, cn_ninb, cn_irs, cn_ils, cn_and, cn_or, cn_xor, grd_t, grd_bt, grd_bl, Nat.add_zero, Nat.zero_add, Nat.reduceAdd, Nat.reduceSub, Nat.reduceMul, Nat.reduceLT, Nat.reduceEqDiff, eq_self, true_and, and_true, and_false, false_and, if_true, if_false, and_self, Bool.true_eq_false, Bool.false_eq_true, Option.bind_some]
      obtain ⟨r1, r2, r3, r4, r5, r6, r7⟩ := R1
      exact PS_j237 (m := n - kE tp n p + 5) hN (⟨Fr_t r1 (Fr_w F (by decide)), R2, RCd_fr F (by decide) r3, RWt_fr F (by decide) r4, by rw [F.I 1091 0 (by decide)]; exact r5, by rw [F.I 1092 0 (by decide)]; exact r6, by rw [F.I 1047 0 (by decide)]; exact r7⟩ : RT tp n kd t0 (kE tp n p) true o C W B t2) (by omega) (by omega) (by omega) (by omega) hQ
/-- a word of a number -/
theorem part_word (hK : KdA kd mk al) (E : CE tp n pg mk s0) (h : CX tp n pg s0 p b o L s) (hl : L.length ≤ p) (hN : 10000 ≤ N) (kn : kK tp n p b ≠ 257) (k4 : kK tp n p b ≠ 40) (w24 : wdA tp n p b ≠ 24) (w25 : wdA tp n p b ≠ 25) (w0 : wq (wdA tp n p b) = 10 ∨ wq (wdA tp n p b) = 11 → ¬ al (wq (wdA tp n p b) - 1) = true) : PartR N tp n kd pg al (r + 1) o s0 p b L s := by
  obtain ⟨hT, hO, hm, ht⟩ := CE_x E h
  have hn := hT.1
  have hp := h.1
  have hpo := E.2.1
  obtain ⟨o1, _⟩ := pgo_ok hpo
  have wd := word_w (N := N) ht h.2.1
  have al1 := alw_c (N := N) hK hm (w := wdA tp n p b) wdA_le
  have wl := wdA_le (tp := tp) (n := n) (p := p) (b := b)
  obtain ⟨k1, k2, k3, k4', k5, k6⟩ := h.2.1
  have kle := kK_le (b := b) (p := p) ht
  have sb := skp_b (tp := tp) hp
  have kb := kE_b (tp := tp) hp
  have ql := (wq_le _ (show wdA tp n p b < 32 by omega))
  have z9 : (9999 : Int32) = nI 9999 := rfl
  have q1 : (nI (kK tp n p b) = nI 257) = False := by rw [cn_eq (by omega)]; exact eq_false kn
  have q2 : (nI (kK tp n p b) = nI 40) = False := by rw [cn_eq (by omega)]; exact eq_false k4
  have wm : ∀ j, j < 100 → (nI (wdA tp n p b) + m1 = nI j) = (wdA tp n p b = j + 1) := fun j hj => by
    cases hw : wdA tp n p b with
    | zero => rw [m1_0, cn_m1eq (by omega)]; exact (eq_false (by omega)).symm
    | succ i => rw [m1_s, cn_eq (by omega)]; exact propext ⟨fun h => by omega, fun h => by omega⟩
  have q23 : (nI (wdA tp n p b) + m1 = nI 23) = False := by rw [wm 23 (by omega)]; exact eq_false w24
  have q24 : (nI (wdA tp n p b) + m1 = nI 24) = False := by rw [wm 24 (by omega)]; exact eq_false w25
  have wr : wqR al 9 11 (wdA tp n p b) = 0 := by unfold wqR; rw [if_neg (fun h => w0 (by omega) h.2.2)]
  by_cases ca : wq (wdA tp n p b) ≠ 0 ∧ al (wq (wdA tp n p b) - 1) = true
  · right
    have w1 : wq (wdA tp n p b) ≠ 10 := fun h => w0 (Or.inl h) ca.2
    have w2 : wq (wdA tp n p b) ≠ 11 := fun h => w0 (Or.inr h) ca.2
    rw [if_pos ca] at al1
    obtain ⟨i, hi⟩ : ∃ i, wq (wdA tp n p b) = i + 1 := ⟨wq (wdA tp n p b) - 1, by omega⟩
    obtain ⟨j, hj⟩ : ∃ j, wdA tp n p b = j + 1 := ⟨wdA tp n p b - 1, by have := (ql.2 ca.1).2; omega⟩
    have kk : kK tp n p b = 256 := wdA_k hj
    have nb : nbK (kK tp n p b) = true := by rw [kk]; rfl
    obtain ⟨kc, _, _⟩ := kK_w ht kk
    have ec : nI (wdA tp n p b) + m1 = cSt (40 + i) := by
      have := wq_cst j (by omega) (by rw [← hj]; exact ca.1) (by rw [← hj]; omega)
      rw [← hj, hi, Nat.add_sub_cancel] at this
      rw [hj, m1_s]
      unfold cSt
      rw [if_neg (by omega), if_pos (by omega), show 40 + i - 40 = i by omega, this]
    have q17 : (nI (wdA tp n p b) + m1 = nI 17) = False := by rw [wm 17 (by omega)]; exact eq_false (fun h => by rw [h] at w1; exact w1 rfl)
    have q18 : (nI (wdA tp n p b) + m1 = nI 18) = False := by rw [wm 18 (by omega)]; exact eq_false (fun h => by rw [h] at w2; exact w2 rfl)
    obtain ⟨s1, f1, X1⟩ := c_add (N := N) E h (by omega) (rfl : cSt (40 + i) = cSt (40 + i))
    obtain ⟨s2, f2, X2⟩ := c_adv E X1 hN
    rw [nb] at X2
    refine ⟨[40 + i], kE tp n p, true, s2, ?_, X2, by omega, by rw [List.length_singleton]; omega, ?_, ?_⟩
    · show f_Rd_part_B N _ _ _ _ s = some s2
      rw [← ec] at f1
      simp (disch := first | omega | decide) only [f_Rd_part_B, wd, k1, q1, q2, q23, q24, q17, q18, al1, hO, o1, f1, f2, zI_0, zI_1, zI_2, zI_3, zI_4, zI_5, zI_6, zI_7, zI_8, zI_9, zI_10, zI_11, zI_12, zI_13, zI_14, zI_15, zI_16, zI_17, zI_18, zI_19, zI_20, zI_21, zI_22, zI_23, zI_24, zI_25, zI_26, zI_27, zI_28, zI_29, zI_30, zI_31, zI_32, zI_33, zI_34, zI_35, zI_36, zI_37, zI_38, zI_39, zI_40, zI_41, zI_42, zI_43, zI_44, zI_45, zI_46, zI_47, zI_48, zI_49, zI_50, zI_51, zI_52, zI_53, zI_54, zI_55, zI_56, zI_57, zI_58, zI_59, zI_60, zI_61, zI_62, zI_63, zI_64, zI_65, zI_66, zI_67, zI_74, zI_84, zI_85, zI_88, zI_91, zI_93, zI_97, zI_99, zI_100, zI_102, zI_105, zI_117, zI_122, zI_193, zI_202, zI_205, zI_251, zI_255, zI_256, zI_257, zI_258, zI_259, zI_260, zI_640, zI_999, zI_1000, zI_1024, zI_1600, zI_1602, zI_1700, zI_2040, zI_3200, zI_4100, zI_9728, zI_11784, zI_61440, zI_65536, zI_470536, zI_999999, zI_1000000, cn_eq, Nat.reduceAdd, Nat.reduceSub, Nat.reduceMul, Nat.reduceLT, Nat.reduceEqDiff, eq_self, true_and, and_true, and_false, false_and, if_true, if_false, and_self, Bool.true_eq_false, Bool.false_eq_true, grd_t, Option.bind_some]
    · intro ts hts
      refine ckL_1 al ?_
      unfold ck1
      have a := ca.2
      rw [hi, Nat.add_sub_cancel] at a
      rw [if_neg (by omega), if_neg (by omega), if_neg (by omega), if_pos (by omega), if_pos ⟨by rw [show 40 + i - 40 = i by omega]; exact a, by omega, by omega⟩]
    · intro t0 B0 Q C W B t hR hCW hB hQ
      refine PS_leaf hK hR hn hCW hN k4 w24 w25 wr (fun k15 t1 hm15 R1 L1 => ?_)
      have qw := qWordOf_b (N := N) (lo := 0) (hi := 9) (by omega) (by omega) hK R1.2.2.2.2.2.2 (RL_RB L1) hN
      rw [show wqR al 0 9 (wdA tp n p b) = i + 1 from by unfold wqR; rw [if_pos ⟨by omega, by omega, ca.2⟩, hi], m1_s, lk_RL L1] at qw
      have e5 := L1.2.2.1
      obtain ⟨t2, f, R2, F⟩ := qAsks_b (N := N) (i := i) (by omega) (RL_RB L1) hi hN
      have hR2 : RT tp n kd t0 (kE tp n p) true o C W B t2 := RT_st F (by decide) R2 R1
      simp (disch := first | omega | decide) only [f_M_qPartTold_j186, f_M_qPartTold_j212, e5, qw, f, zI_0, zI_1, zI_2, zI_3, zI_4, zI_5, zI_6, zI_7, zI_8, zI_9, zI_10, zI_11, zI_12, zI_13, zI_14, zI_15, zI_16, zI_17, zI_18, zI_19, zI_20, zI_21, zI_22, zI_23, zI_24, zI_25, zI_26, zI_27, zI_28, zI_29, zI_30, zI_31, zI_32, zI_33, zI_34, zI_35, zI_36, zI_37, zI_38, zI_39, zI_40, zI_41, zI_42, zI_43, zI_44, zI_45, zI_46, zI_47, zI_48, zI_49, zI_50, zI_51, zI_52, zI_53, zI_54, zI_55, zI_56, zI_57, zI_58, zI_59, zI_60, zI_61, zI_62, zI_63, zI_64, zI_65, zI_66, zI_67, zI_74, zI_84, zI_85, zI_88, zI_91, zI_93, zI_97, zI_99, zI_100, zI_102, zI_105, zI_117, zI_122, zI_193, zI_202, zI_205, zI_251, zI_255, zI_256, zI_257, zI_258, zI_259, zI_260, zI_640, zI_999, zI_1000, zI_1024, zI_1600, zI_1602, zI_1700, zI_2040, zI_3200, zI_4100, zI_9728, zI_11784, zI_61440, zI_65536, zI_470536, zI_999999, zI_1000000, lt_T, lt_F, le_T, le_F, eq_T, eq_F, neg_1, cn_m1p, cn_m11, nI_add, cn_sub, pk_mul, cn_div, cn_irm, cn_lt, cn_eq, cn_ltm1, cn_m1lt, cn_eqm1, cn_m1eq, cn_ix, cn_inb, cn_ninb, cn_irs, cn_ils, cn_and, cn_or, cn_xor, grd_t, grd_bt, grd_bl, Nat.add_zero, Nat.zero_add, Nat.reduceAdd, Nat.reduceSub, Nat.reduceMul, Nat.reduceLT, Nat.reduceEqDiff, eq_self, true_and, and_true, and_false, false_and, if_true, if_false, and_self, Bool.true_eq_false, Bool.false_eq_true, Option.bind_some]
      exact PS_j237 (m := n - kE tp n p + 5) hN hR2 (by omega) (by omega) (by omega) (by omega) hQ
  · left
    rw [if_neg ca] at al1
    obtain ⟨s1, f1, D1⟩ := c_fail (N := N) (k := 1) (w := skp tp n p) E h (by omega) (by omega)
    refine ⟨1, skp tp n p, s1, ?_, D1, ?_⟩
    · show f_Rd_part_B N _ _ _ _ s = some s1
      simp (disch := first | omega | decide) only [f_Rd_part_B, wd, k1, k2, q1, q2, q23, q24, al1, f1, zI_0, zI_1, zI_2, zI_3, zI_4, zI_5, zI_6, zI_7, zI_8, zI_9, zI_10, zI_11, zI_12, zI_13, zI_14, zI_15, zI_16, zI_17, zI_18, zI_19, zI_20, zI_21, zI_22, zI_23, zI_24, zI_25, zI_26, zI_27, zI_28, zI_29, zI_30, zI_31, zI_32, zI_33, zI_34, zI_35, zI_36, zI_37, zI_38, zI_39, zI_40, zI_41, zI_42, zI_43, zI_44, zI_45, zI_46, zI_47, zI_48, zI_49, zI_50, zI_51, zI_52, zI_53, zI_54, zI_55, zI_56, zI_57, zI_58, zI_59, zI_60, zI_61, zI_62, zI_63, zI_64, zI_65, zI_66, zI_67, zI_74, zI_84, zI_85, zI_88, zI_91, zI_93, zI_97, zI_99, zI_100, zI_102, zI_105, zI_117, zI_122, zI_193, zI_202, zI_205, zI_251, zI_255, zI_256, zI_257, zI_258, zI_259, zI_260, zI_640, zI_999, zI_1000, zI_1024, zI_1600, zI_1602, zI_1700, zI_2040, zI_3200, zI_4100, zI_9728, zI_11784, zI_61440, zI_65536, zI_470536, zI_999999, zI_1000000, cn_eq, Nat.reduceAdd, Nat.reduceSub, Nat.reduceMul, Nat.reduceLT, Nat.reduceEqDiff, eq_self, true_and, and_true, and_false, false_and, if_true, if_false, and_self, Bool.true_eq_false, Bool.false_eq_true, Option.bind_some]
    · intro t0 B0 Q C W B t hR hCW hB hQ
      refine PS_leaf hK hR hn hCW hN k4 w24 w25 wr (fun k15 t1 hm15 R1 L1 => ?_)
      have qw := qWordOf_b (N := N) (lo := 0) (hi := 9) (by omega) (by omega) hK R1.2.2.2.2.2.2 (RL_RB L1) hN
      rw [show wqR al 0 9 (wdA tp n p b) = 0 from by unfold wqR; rw [if_neg (fun h => ca ⟨by omega, h.2.2⟩)], m1_0, lk_RL L1] at qw
      have e5 := L1.2.2.1
      obtain ⟨t2, f, D, F⟩ := (number_b (N := N) (lo := 0) (hi := 9999) (by omega) (by omega) (RL_RB L1) hN).1 kn
      simp (disch := first | omega | decide) only [f_M_qPartTold_j186, f_M_qPartTold_j212, e5, qw, z9, f, zI_0, zI_1, zI_2, zI_3, zI_4, zI_5, zI_6, zI_7, zI_8, zI_9, zI_10, zI_11, zI_12, zI_13, zI_14, zI_15, zI_16, zI_17, zI_18, zI_19, zI_20, zI_21, zI_22, zI_23, zI_24, zI_25, zI_26, zI_27, zI_28, zI_29, zI_30, zI_31, zI_32, zI_33, zI_34, zI_35, zI_36, zI_37, zI_38, zI_39, zI_40, zI_41, zI_42, zI_43, zI_44, zI_45, zI_46, zI_47, zI_48, zI_49, zI_50, zI_51, zI_52, zI_53, zI_54, zI_55, zI_56, zI_57, zI_58, zI_59, zI_60, zI_61, zI_62, zI_63, zI_64, zI_65, zI_66, zI_67, zI_74, zI_84, zI_85, zI_88, zI_91, zI_93, zI_97, zI_99, zI_100, zI_102, zI_105, zI_117, zI_122, zI_193, zI_202, zI_205, zI_251, zI_255, zI_256, zI_257, zI_258, zI_259, zI_260, zI_640, zI_999, zI_1000, zI_1024, zI_1600, zI_1602, zI_1700, zI_2040, zI_3200, zI_4100, zI_9728, zI_11784, zI_61440, zI_65536, zI_470536, zI_999999, zI_1000000, lt_T, lt_F, le_T, le_F, eq_T, eq_F, neg_1, cn_m1p, cn_m11, nI_add, cn_sub, pk_mul, cn_div, cn_irm, cn_lt, cn_eq, cn_ltm1, cn_m1lt, cn_eqm1, cn_m1eq, cn_ix, cn_inb, cn_ninb, cn_irs, cn_ils, cn_and, cn_or, cn_xor, grd_t, grd_bt, grd_bl, Nat.add_zero, Nat.zero_add, Nat.reduceAdd, Nat.reduceSub, Nat.reduceMul, Nat.reduceLT, Nat.reduceEqDiff, eq_self, true_and, and_true, and_false, false_and, if_true, if_false, and_self, Bool.true_eq_false, Bool.false_eq_true, Option.bind_some]
      exact PS_j237b hN (BT_of R1 (by omega) F (by decide) (by decide) D) (RCd_fr F (by decide) R1.2.2.1) (by omega) (by omega) hQ
end PART
