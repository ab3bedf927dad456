/-! NUMBERS of a corridor, read by the one, by the other -/
def pSetD (A : pL) (v : Nat) : pL := (v, pP A, pS A, pI A, pC A, pNm A, pTw A, pTc A)
def pSetS (A : pL) (v : Nat) : pL := (pD A, pP A, v, pI A, pC A, pNm A, pTw A, pTc A)
def pSetI (A : pL) (v : Nat) : pL := (pD A, pP A, pS A, v, pC A, pNm A, pTw A, pTc A)
def BoR (tp : Nat → Nat) (n : Nat) (s0 t0 : mS) (p : Nat) (x : Int32) (cs rs : Option mS) : Prop :=
  (∃ k w s' t', cs = some s' ∧ DXd s0 k w s' ∧ rs = some t' ∧ DMd t0 k w t') ∨
  (∃ A op pt L M p' b' s' t', cs = some s' ∧ rs = some t' ∧ JX tp n s0 A op pt L p' b' s' ∧ JM tp n t0 A op pt M p' b' t' ∧ WD A op pt ∧ p < p' ∧ L.length ≤ p' ∧ M ≤ p' ∧ 0 < pD A ∧ gI t' 1045 0 = x)
section NUMS
variable {N n p op k w M mk : Nat} {tp pt : Nat → Nat} {b : Bool} {s s' s0 t t' t0 : mS} {L : List Nat} {A A' : pL} {l : List Nat} {x : Int32}
theorem numb_0 : f_Rd_numbers N (nI 0) s = (f_Rd_number N (nI 2) (nI 24) s).bind fun p1 => some (sI p1.2 400 9 p1.1) := by
  simp (disch := first | omega | decide) only [f_Rd_numbers, zI_0, zI_1, zI_2, zI_3, zI_4, zI_5, zI_6, zI_7, zI_8, zI_9, zI_10, zI_11, zI_12, zI_13, zI_14, zI_15, zI_16, zI_17, zI_18, zI_19, zI_20, zI_21, zI_22, zI_23, zI_24, zI_25, zI_26, zI_27, zI_28, zI_29, zI_30, zI_31, zI_32, zI_33, zI_34, zI_35, zI_36, zI_37, zI_38, zI_39, zI_40, zI_41, zI_42, zI_43, zI_44, zI_45, zI_46, zI_47, zI_48, zI_49, zI_50, zI_51, zI_52, zI_53, zI_54, zI_55, zI_56, zI_57, zI_58, zI_59, zI_60, zI_61, zI_62, zI_63, zI_64, zI_65, zI_66, zI_67, zI_74, zI_84, zI_85, zI_88, zI_91, zI_93, zI_97, zI_99, zI_100, zI_102, zI_105, zI_117, zI_122, zI_193, zI_202, zI_205, zI_251, zI_255, zI_256, zI_257, zI_258, zI_259, zI_260, zI_640, zI_999, zI_1000, zI_1024, zI_1600, zI_1602, zI_1700, zI_2040, zI_3200, zI_4100, zI_9728, zI_11784, zI_61440, zI_65536, zI_470536, zI_999999, zI_1000000, cn_eq, Nat.reduceAdd, Nat.reduceSub, Nat.reduceMul, Nat.reduceLT, Nat.reduceEqDiff, eq_self, true_and, and_true, and_false, false_and, if_true, if_false, and_self, Bool.true_eq_false, Bool.false_eq_true]
theorem numb_2 : f_Rd_numbers N (nI 2) s = (f_Rd_number N (nI 0) (gI s 400 9 - nI 1) s).bind fun p3 => (f_Rd_number N (nI 0) (nI 9) p3.2).bind fun p4 => grd (inb p3.1 24) (some (sA p4.2 10 (ix p3.1) p4.1)) := by
  simp (disch := first | omega | decide) only [f_Rd_numbers, zI_0, zI_1, zI_2, zI_3, zI_4, zI_5, zI_6, zI_7, zI_8, zI_9, zI_10, zI_11, zI_12, zI_13, zI_14, zI_15, zI_16, zI_17, zI_18, zI_19, zI_20, zI_21, zI_22, zI_23, zI_24, zI_25, zI_26, zI_27, zI_28, zI_29, zI_30, zI_31, zI_32, zI_33, zI_34, zI_35, zI_36, zI_37, zI_38, zI_39, zI_40, zI_41, zI_42, zI_43, zI_44, zI_45, zI_46, zI_47, zI_48, zI_49, zI_50, zI_51, zI_52, zI_53, zI_54, zI_55, zI_56, zI_57, zI_58, zI_59, zI_60, zI_61, zI_62, zI_63, zI_64, zI_65, zI_66, zI_67, zI_74, zI_84, zI_85, zI_88, zI_91, zI_93, zI_97, zI_99, zI_100, zI_102, zI_105, zI_117, zI_122, zI_193, zI_202, zI_205, zI_251, zI_255, zI_256, zI_257, zI_258, zI_259, zI_260, zI_640, zI_999, zI_1000, zI_1024, zI_1600, zI_1602, zI_1700, zI_2040, zI_3200, zI_4100, zI_9728, zI_11784, zI_61440, zI_65536, zI_470536, zI_999999, zI_1000000, cn_eq, Nat.reduceAdd, Nat.reduceSub, Nat.reduceMul, Nat.reduceLT, Nat.reduceEqDiff, eq_self, true_and, and_true, and_false, false_and, if_true, if_false, and_self, Bool.true_eq_false, Bool.false_eq_true]
theorem numb_3 : f_Rd_numbers N (nI 3) s = (f_Rd_number N (nI 0) (gI s 400 9 - nI 1) s).bind fun p6 => if (gI p6.2 404 9 &&& ils (nI 1) p6.1) = nI 0 then f_Rd_numbers_j141 N (ils (nI 1) p6.1, p6.2) else (f_Rd_fail N (nI 2) (gI s 606 18) p6.2).bind fun p7 => f_Rd_numbers_j141 N (ils (nI 1) p6.1, p7) := by
  simp (disch := first | omega | decide) only [f_Rd_numbers, zI_0, zI_1, zI_2, zI_3, zI_4, zI_5, zI_6, zI_7, zI_8, zI_9, zI_10, zI_11, zI_12, zI_13, zI_14, zI_15, zI_16, zI_17, zI_18, zI_19, zI_20, zI_21, zI_22, zI_23, zI_24, zI_25, zI_26, zI_27, zI_28, zI_29, zI_30, zI_31, zI_32, zI_33, zI_34, zI_35, zI_36, zI_37, zI_38, zI_39, zI_40, zI_41, zI_42, zI_43, zI_44, zI_45, zI_46, zI_47, zI_48, zI_49, zI_50, zI_51, zI_52, zI_53, zI_54, zI_55, zI_56, zI_57, zI_58, zI_59, zI_60, zI_61, zI_62, zI_63, zI_64, zI_65, zI_66, zI_67, zI_74, zI_84, zI_85, zI_88, zI_91, zI_93, zI_97, zI_99, zI_100, zI_102, zI_105, zI_117, zI_122, zI_193, zI_202, zI_205, zI_251, zI_255, zI_256, zI_257, zI_258, zI_259, zI_260, zI_640, zI_999, zI_1000, zI_1024, zI_1600, zI_1602, zI_1700, zI_2040, zI_3200, zI_4100, zI_9728, zI_11784, zI_61440, zI_65536, zI_470536, zI_999999, zI_1000000, cn_eq, Nat.reduceAdd, Nat.reduceSub, Nat.reduceMul, Nat.reduceLT, Nat.reduceEqDiff, eq_self, true_and, and_true, and_false, false_and, if_true, if_false, and_self, Bool.true_eq_false, Bool.false_eq_true]
  try rfl
theorem numb_4 : f_Rd_numbers N (nI 4) s = (f_Rd_number N (nI 0) (nI 99) s).bind fun p8 => some (sI p8.2 402 9 p8.1) := by
  simp (disch := first | omega | decide) only [f_Rd_numbers, zI_0, zI_1, zI_2, zI_3, zI_4, zI_5, zI_6, zI_7, zI_8, zI_9, zI_10, zI_11, zI_12, zI_13, zI_14, zI_15, zI_16, zI_17, zI_18, zI_19, zI_20, zI_21, zI_22, zI_23, zI_24, zI_25, zI_26, zI_27, zI_28, zI_29, zI_30, zI_31, zI_32, zI_33, zI_34, zI_35, zI_36, zI_37, zI_38, zI_39, zI_40, zI_41, zI_42, zI_43, zI_44, zI_45, zI_46, zI_47, zI_48, zI_49, zI_50, zI_51, zI_52, zI_53, zI_54, zI_55, zI_56, zI_57, zI_58, zI_59, zI_60, zI_61, zI_62, zI_63, zI_64, zI_65, zI_66, zI_67, zI_74, zI_84, zI_85, zI_88, zI_91, zI_93, zI_97, zI_99, zI_100, zI_102, zI_105, zI_117, zI_122, zI_193, zI_202, zI_205, zI_251, zI_255, zI_256, zI_257, zI_258, zI_259, zI_260, zI_640, zI_999, zI_1000, zI_1024, zI_1600, zI_1602, zI_1700, zI_2040, zI_3200, zI_4100, zI_9728, zI_11784, zI_61440, zI_65536, zI_470536, zI_999999, zI_1000000, cn_eq, Nat.reduceAdd, Nat.reduceSub, Nat.reduceMul, Nat.reduceLT, Nat.reduceEqDiff, eq_self, true_and, and_true, and_false, false_and, if_true, if_false, and_self, Bool.true_eq_false, Bool.false_eq_true]
theorem numb_7 : f_Rd_numbers N (nI 7) s = (f_Rd_number N (nI 0) (nI 100) s).bind fun p10 => some (sI p10.2 403 9 p10.1) := by
  simp (disch := first | omega | decide) only [f_Rd_numbers, zI_0, zI_1, zI_2, zI_3, zI_4, zI_5, zI_6, zI_7, zI_8, zI_9, zI_10, zI_11, zI_12, zI_13, zI_14, zI_15, zI_16, zI_17, zI_18, zI_19, zI_20, zI_21, zI_22, zI_23, zI_24, zI_25, zI_26, zI_27, zI_28, zI_29, zI_30, zI_31, zI_32, zI_33, zI_34, zI_35, zI_36, zI_37, zI_38, zI_39, zI_40, zI_41, zI_42, zI_43, zI_44, zI_45, zI_46, zI_47, zI_48, zI_49, zI_50, zI_51, zI_52, zI_53, zI_54, zI_55, zI_56, zI_57, zI_58, zI_59, zI_60, zI_61, zI_62, zI_63, zI_64, zI_65, zI_66, zI_67, zI_74, zI_84, zI_85, zI_88, zI_91, zI_93, zI_97, zI_99, zI_100, zI_102, zI_105, zI_117, zI_122, zI_193, zI_202, zI_205, zI_251, zI_255, zI_256, zI_257, zI_258, zI_259, zI_260, zI_640, zI_999, zI_1000, zI_1024, zI_1600, zI_1602, zI_1700, zI_2040, zI_3200, zI_4100, zI_9728, zI_11784, zI_61440, zI_65536, zI_470536, zI_999999, zI_1000000, cn_eq, Nat.reduceAdd, Nat.reduceSub, Nat.reduceMul, Nat.reduceLT, Nat.reduceEqDiff, eq_self, true_and, and_true, and_false, false_and, if_true, if_false, and_self, Bool.true_eq_false, Bool.false_eq_true]
theorem num_d (h : DdX k w s) (lo hi : Int32) : f_Rd_number N lo hi s = some (lo, s) := by
  have fd := fail_d (N := N) h
  have k5 := h.2.2.2.2
  simp (disch := first | omega | decide) only [f_Rd_number, k5, fd, zI_0, zI_1, zI_2, zI_3, zI_4, zI_5, zI_6, zI_7, zI_8, zI_9, zI_10, zI_11, zI_12, zI_13, zI_14, zI_15, zI_16, zI_17, zI_18, zI_19, zI_20, zI_21, zI_22, zI_23, zI_24, zI_25, zI_26, zI_27, zI_28, zI_29, zI_30, zI_31, zI_32, zI_33, zI_34, zI_35, zI_36, zI_37, zI_38, zI_39, zI_40, zI_41, zI_42, zI_43, zI_44, zI_45, zI_46, zI_47, zI_48, zI_49, zI_50, zI_51, zI_52, zI_53, zI_54, zI_55, zI_56, zI_57, zI_58, zI_59, zI_60, zI_61, zI_62, zI_63, zI_64, zI_65, zI_66, zI_67, zI_74, zI_84, zI_85, zI_88, zI_91, zI_93, zI_97, zI_99, zI_100, zI_102, zI_105, zI_117, zI_122, zI_193, zI_202, zI_205, zI_251, zI_255, zI_256, zI_257, zI_258, zI_259, zI_260, zI_640, zI_999, zI_1000, zI_1024, zI_1600, zI_1602, zI_1700, zI_2040, zI_3200, zI_4100, zI_9728, zI_11784, zI_61440, zI_65536, zI_470536, zI_999999, zI_1000000, cn_eq, Nat.reduceAdd, Nat.reduceSub, Nat.reduceMul, Nat.reduceLT, Nat.reduceEqDiff, eq_self, true_and, and_true, and_false, false_and, if_true, if_false, and_self, Bool.true_eq_false, Bool.false_eq_true, Option.bind_some]
theorem num_j {lo hi : Nat} (hlo : lo ≤ 9999) (hhi : hi ≤ 9999) (E : CE tp n 12 mk s) (X : CX tp n 12 s p b 0 L s) (hL : L.length ≤ 1602) (hB : RB tp n p b t) (hN : 10000 ≤ N) :
    (∃ k w s' v t', f_Rd_number N (nI lo) (nI hi) s = some (nI lo, s') ∧ CD 12 s k w s' ∧ f_M_number N (nI lo) (nI hi) t = some (v, t') ∧ BdM k w t' ∧ Fr kNu t t') ∨
    (∃ v s' t', lo ≤ v ∧ v ≤ hi ∧ f_Rd_number N (nI lo) (nI hi) s = some (nI v, s') ∧ CX tp n 12 s (kE tp n p) true 0 L s' ∧ p < kE tp n p ∧ f_M_number N (nI lo) (nI hi) t = some (nI v, t') ∧ RB tp n (kE tp n p) true t' ∧ gI t' 1010 0 = nI (skp tp n p) ∧ Fr kNg t t') := by
  obtain ⟨hT, hO, hm, ht⟩ := CE_x E X
  have hn := hT.1
  obtain ⟨nb1, nb2, nb3, nb4⟩ := number_b (N := N) hlo hhi hB hN
  obtain ⟨k1, k2, k3, k4, k5, k6⟩ := X.2.1
  have kle := kK_le (b := b) (p := p) ht
  have sb := skp_b (tp := tp) X.1
  have kb := kE_b (tp := tp) X.1
  by_cases c : kK tp n p b = 257
  · obtain ⟨v9, ev, w0, nb⟩ := nuT_9 X.1 ht c
    obtain ⟨c1, cl, cd, ct⟩ := kK_n ht c
    have kzb : kZ tp n p ≤ 1600 := by
      have db := dEn_b (tp := tp) (n := n) (p := skp tp n p) (by omega)
      unfold kZ; rw [if_neg (by omega), if_neg (by rw [cl]; simp), if_pos cd]; omega
    have e8 : gI s 608 18 = nI (nuT tp n p) := k4.trans ev
    have kc := k1
    rw [c] at k1
    by_cases c4 : 4 < kZ tp n p
    · left
      obtain ⟨t', g, B, F⟩ := nb2 c c4
      obtain ⟨s', f, D⟩ := c_fail (N := N) (k := 1) (w := skp tp n p + 4) E X hL (by omega)
      refine ⟨1, skp tp n p + 4, s', _, t', ?_, D, g, B, F⟩
      simp (disch := first | omega | decide) only [f_Rd_number, k1, k2, k3, f, zI_0, zI_1, zI_2, zI_3, zI_4, zI_5, zI_6, zI_7, zI_8, zI_9, zI_10, zI_11, zI_12, zI_13, zI_14, zI_15, zI_16, zI_17, zI_18, zI_19, zI_20, zI_21, zI_22, zI_23, zI_24, zI_25, zI_26, zI_27, zI_28, zI_29, zI_30, zI_31, zI_32, zI_33, zI_34, zI_35, zI_36, zI_37, zI_38, zI_39, zI_40, zI_41, zI_42, zI_43, zI_44, zI_45, zI_46, zI_47, zI_48, zI_49, zI_50, zI_51, zI_52, zI_53, zI_54, zI_55, zI_56, zI_57, zI_58, zI_59, zI_60, zI_61, zI_62, zI_63, zI_64, zI_65, zI_66, zI_67, zI_74, zI_84, zI_85, zI_88, zI_91, zI_93, zI_97, zI_99, zI_100, zI_102, zI_105, zI_117, zI_122, zI_193, zI_202, zI_205, zI_251, zI_255, zI_256, zI_257, zI_258, zI_259, zI_260, zI_640, zI_999, zI_1000, zI_1024, zI_1600, zI_1602, zI_1700, zI_2040, zI_3200, zI_4100, zI_9728, zI_11784, zI_61440, zI_65536, zI_470536, zI_999999, zI_1000000, lt_T, lt_F, le_T, le_F, eq_T, eq_F, neg_1, cn_m1p, cn_m11, nI_add, cn_sub, pk_mul, cn_div, cn_irm, cn_lt, cn_eq, cn_ltm1, cn_m1lt, cn_eqm1, cn_m1eq, cn_ix, cn_inb, cn_ninb, cn_irs, cn_ils, cn_and, cn_or, cn_xor, grd_t, grd_bt, grd_bl, Nat.add_zero, Nat.zero_add, Nat.reduceAdd, Nat.reduceSub, Nat.reduceMul, Nat.reduceLT, Nat.reduceEqDiff, eq_self, true_and, and_true, and_false, false_and, if_true, if_false, and_self, Bool.true_eq_false, Bool.false_eq_true, Option.bind_some]
    · by_cases cv : lo ≤ nuT tp n p ∧ nuT tp n p ≤ hi
      · right
        obtain ⟨t', g, R, g10, F⟩ := nb4 c (by omega) cv
        obtain ⟨s', f, X'⟩ := c_adv E X hN
        rw [c, nb] at X'
        refine ⟨nuT tp n p, s', t', cv.1, cv.2, ?_, X', by omega, g, R, g10, F⟩
        generalize nuT tp n p = v at *
        simp (disch := first | omega | decide) only [f_Rd_number, k1, k3, e8, f, zI_0, zI_1, zI_2, zI_3, zI_4, zI_5, zI_6, zI_7, zI_8, zI_9, zI_10, zI_11, zI_12, zI_13, zI_14, zI_15, zI_16, zI_17, zI_18, zI_19, zI_20, zI_21, zI_22, zI_23, zI_24, zI_25, zI_26, zI_27, zI_28, zI_29, zI_30, zI_31, zI_32, zI_33, zI_34, zI_35, zI_36, zI_37, zI_38, zI_39, zI_40, zI_41, zI_42, zI_43, zI_44, zI_45, zI_46, zI_47, zI_48, zI_49, zI_50, zI_51, zI_52, zI_53, zI_54, zI_55, zI_56, zI_57, zI_58, zI_59, zI_60, zI_61, zI_62, zI_63, zI_64, zI_65, zI_66, zI_67, zI_74, zI_84, zI_85, zI_88, zI_91, zI_93, zI_97, zI_99, zI_100, zI_102, zI_105, zI_117, zI_122, zI_193, zI_202, zI_205, zI_251, zI_255, zI_256, zI_257, zI_258, zI_259, zI_260, zI_640, zI_999, zI_1000, zI_1024, zI_1600, zI_1602, zI_1700, zI_2040, zI_3200, zI_4100, zI_9728, zI_11784, zI_61440, zI_65536, zI_470536, zI_999999, zI_1000000, cn_lt, cn_eq, lt_F, Nat.reduceAdd, Nat.reduceSub, Nat.reduceMul, Nat.reduceLT, Nat.reduceEqDiff, eq_self, true_and, and_true, and_false, false_and, if_true, if_false, and_self, Bool.true_eq_false, Bool.false_eq_true, Option.bind_some]
      · left
        obtain ⟨t', g, B, F⟩ := nb3 c (by omega) cv
        obtain ⟨s', f, D⟩ := c_fail (N := N) (k := 2) (w := skp tp n p) E X hL (by omega)
        refine ⟨2, skp tp n p, s', _, t', ?_, D, g, B, F⟩
        generalize nuT tp n p = v at *
        by_cases c5 : v < lo
        · simp (disch := first | omega | decide) only [f_Rd_number, f_Rd_number_j59, k1, k2, k3, e8, f, zI_0, zI_1, zI_2, zI_3, zI_4, zI_5, zI_6, zI_7, zI_8, zI_9, zI_10, zI_11, zI_12, zI_13, zI_14, zI_15, zI_16, zI_17, zI_18, zI_19, zI_20, zI_21, zI_22, zI_23, zI_24, zI_25, zI_26, zI_27, zI_28, zI_29, zI_30, zI_31, zI_32, zI_33, zI_34, zI_35, zI_36, zI_37, zI_38, zI_39, zI_40, zI_41, zI_42, zI_43, zI_44, zI_45, zI_46, zI_47, zI_48, zI_49, zI_50, zI_51, zI_52, zI_53, zI_54, zI_55, zI_56, zI_57, zI_58, zI_59, zI_60, zI_61, zI_62, zI_63, zI_64, zI_65, zI_66, zI_67, zI_74, zI_84, zI_85, zI_88, zI_91, zI_93, zI_97, zI_99, zI_100, zI_102, zI_105, zI_117, zI_122, zI_193, zI_202, zI_205, zI_251, zI_255, zI_256, zI_257, zI_258, zI_259, zI_260, zI_640, zI_999, zI_1000, zI_1024, zI_1600, zI_1602, zI_1700, zI_2040, zI_3200, zI_4100, zI_9728, zI_11784, zI_61440, zI_65536, zI_470536, zI_999999, zI_1000000, cn_lt, cn_eq, lt_T, lt_F, Nat.reduceAdd, Nat.reduceSub, Nat.reduceMul, Nat.reduceLT, Nat.reduceEqDiff, eq_self, true_and, and_true, and_false, false_and, if_true, if_false, and_self, Bool.true_eq_false, Bool.false_eq_true, Option.bind_some]
        · simp (disch := first | omega | decide) only [f_Rd_number, f_Rd_number_j59, k1, k2, k3, e8, f, zI_0, zI_1, zI_2, zI_3, zI_4, zI_5, zI_6, zI_7, zI_8, zI_9, zI_10, zI_11, zI_12, zI_13, zI_14, zI_15, zI_16, zI_17, zI_18, zI_19, zI_20, zI_21, zI_22, zI_23, zI_24, zI_25, zI_26, zI_27, zI_28, zI_29, zI_30, zI_31, zI_32, zI_33, zI_34, zI_35, zI_36, zI_37, zI_38, zI_39, zI_40, zI_41, zI_42, zI_43, zI_44, zI_45, zI_46, zI_47, zI_48, zI_49, zI_50, zI_51, zI_52, zI_53, zI_54, zI_55, zI_56, zI_57, zI_58, zI_59, zI_60, zI_61, zI_62, zI_63, zI_64, zI_65, zI_66, zI_67, zI_74, zI_84, zI_85, zI_88, zI_91, zI_93, zI_97, zI_99, zI_100, zI_102, zI_105, zI_117, zI_122, zI_193, zI_202, zI_205, zI_251, zI_255, zI_256, zI_257, zI_258, zI_259, zI_260, zI_640, zI_999, zI_1000, zI_1024, zI_1600, zI_1602, zI_1700, zI_2040, zI_3200, zI_4100, zI_9728, zI_11784, zI_61440, zI_65536, zI_470536, zI_999999, zI_1000000, cn_lt, cn_eq, lt_T, lt_F, Nat.reduceAdd, Nat.reduceSub, Nat.reduceMul, Nat.reduceLT, Nat.reduceEqDiff, eq_self, true_and, and_true, and_false, false_and, if_true, if_false, and_self, Bool.true_eq_false, Bool.false_eq_true, Option.bind_some]
  · left
    obtain ⟨t', g, B, F⟩ := nb1 c
    obtain ⟨s', f, D⟩ := c_fail (N := N) (k := 1) (w := skp tp n p) E X hL (by omega)
    refine ⟨1, skp tp n p, s', _, t', ?_, D, g, B, F⟩
    have q : (nI (kK tp n p b) = nI 257) = False := by rw [cn_eq (by omega)]; exact eq_false c
    generalize kK tp n p b = K at *
    simp (disch := first | omega | decide) only [f_Rd_number, k1, k2, q, f, zI_0, zI_1, zI_2, zI_3, zI_4, zI_5, zI_6, zI_7, zI_8, zI_9, zI_10, zI_11, zI_12, zI_13, zI_14, zI_15, zI_16, zI_17, zI_18, zI_19, zI_20, zI_21, zI_22, zI_23, zI_24, zI_25, zI_26, zI_27, zI_28, zI_29, zI_30, zI_31, zI_32, zI_33, zI_34, zI_35, zI_36, zI_37, zI_38, zI_39, zI_40, zI_41, zI_42, zI_43, zI_44, zI_45, zI_46, zI_47, zI_48, zI_49, zI_50, zI_51, zI_52, zI_53, zI_54, zI_55, zI_56, zI_57, zI_58, zI_59, zI_60, zI_61, zI_62, zI_63, zI_64, zI_65, zI_66, zI_67, zI_74, zI_84, zI_85, zI_88, zI_91, zI_93, zI_97, zI_99, zI_100, zI_102, zI_105, zI_117, zI_122, zI_193, zI_202, zI_205, zI_251, zI_255, zI_256, zI_257, zI_258, zI_259, zI_260, zI_640, zI_999, zI_1000, zI_1024, zI_1600, zI_1602, zI_1700, zI_2040, zI_3200, zI_4100, zI_9728, zI_11784, zI_61440, zI_65536, zI_470536, zI_999999, zI_1000000, Nat.reduceAdd, Nat.reduceSub, Nat.reduceMul, Nat.reduceLT, Nat.reduceEqDiff, eq_self, true_and, and_true, and_false, false_and, if_true, if_false, and_self, Bool.true_eq_false, Bool.false_eq_true, Option.bind_some]
/-- one cell more, on the other side -/
theorem FM_28 {i : Nat} {v : Int32} (hi : i < 4) : FM t (sA t 28 i v) :=
  ⟨Fr_sA 28 _ _ (by decide), fun j hj => gA_ne (by omega), fun j hj => ⟨gA_ne (by omega), gA_ne (by omega)⟩, fun j hj => gA_ne (by omega), fun j hj => rfl⟩
theorem DMd_28 {i : Nat} {v : Int32} (hi : i < 4) (D : DMd t0 k w t) : DMd t0 k w (sA t 28 i v) := ⟨BdM_fr (Fr_sA 28 i v (l := [28]) (by decide)) (by decide) D.1, FM_t D.2 (FM_w (FM_28 hi))⟩
theorem BM_d {l : List Nat} (hF : FM t0 t) (B : BdM k w t') (F : Fr l t t') (hl : ∀ k ∈ l, k ∈ kDb) (h : ∀ k ∈ [28, 31, 32, 33, 5029], k ∉ l) : DMd t0 k w t' := ⟨B, FM_t (FM_w hF) (FM_f F hl h)⟩
/-- the one side goes on from where it is -/
theorem JX_st {p' : Nat} {b' : Bool} {L' : List Nat} (hJ : JX tp n s0 A op pt L p b s) (X' : CX tp n 12 s p' b' 0 L' s') : (∃ mk, CE tp n 12 mk s') ∧ CX tp n 12 s' p' b' 0 L' s' ∧ DX A op pt L s' ∧ Fr kDg s0 s' := by
  obtain ⟨⟨mk, E⟩, X, D, F⟩ := hJ
  obtain ⟨E2, X2⟩ := CX_re E X'
  have F2 := X'.2.2.2.2.2
  exact ⟨⟨mk, E2⟩, X2, DX_fr F2 (by decide) D, Fr_t F (Fr_w F2 (by decide))⟩
theorem JX_cell {p' : Nat} {b' : Bool} {L' : List Nat} {s'' : mS} {op' : Nat} {pt' : Nat → Nat} (h : (∃ mk, CE tp n 12 mk s') ∧ CX tp n 12 s' p' b' 0 L' s' ∧ DX A op pt L s' ∧ Fr kDg s0 s') (F : Fr l s' s'') (hl : ∀ k ∈ l, k ∈ kDg) (hk : ∀ k ∈ 70318 :: 1 :: 9999 :: 71018 :: kCx 12, k ∉ l) (hD : DX A' op' pt' L' s'') : JX tp n s0 A' op' pt' L' p' b' s'' := by
  obtain ⟨⟨mk, E⟩, X, D, F0⟩ := h
  exact ⟨⟨mk, CE_fr F (fun k h => hk k (by revert k; decide)) E⟩, CX_fr F (fun k h => hk k (List.mem_cons_of_mem _ (List.mem_cons_of_mem _ (List.mem_cons_of_mem _ (List.mem_cons_of_mem _ h))))) X, hD, Fr_t F0 (Fr_w F hl)⟩
theorem body_stiff (hJ : JX tp n s0 A op pt L p b s) (hM : JM tp n t0 A op pt M p b t) (hW : WD A op pt) (hL : L.length ≤ p) (hMp : M ≤ p) (h0 : 0 < pD A) (hx : gI t 1045 0 = x) (hN : 10000 ≤ N) :
    BoR tp n s0 t0 p x (f_Rd_numbers N (nI 4) s) ((f_M_number N (nI 0) (nI 99) t).bind fun p12 => some (sA p12.2 28 2 p12.1)) := by
  obtain ⟨⟨mk, E⟩, X, D, F0⟩ := hJ
  have hn := E.1.1
  have hpn := X.1
  rw [numb_4]
  rcases num_j (N := N) (lo := 0) (hi := 99) (by omega) (by omega) E X (by omega) hM.1 hN with ⟨k, w, s', v, t', f, Dd, g, B, F⟩ | ⟨v, s', t', v1, v2, f, X', hp', g, R, g10, F⟩
  · left
    exact ⟨k, w, _, _, by rw [f, Option.bind_some], DXd_fr (DX_d F0 Dd) (Fr_sI 402 9 (nI 0) (l := [50209]) (by decide)) (by decide) (by decide), by rw [g, Option.bind_some], DMd_28 (by omega) (BM_d hM.2.2 B F (by decide) (by decide))⟩
  · right
    have hp2 := X'.1
    have st := JX_st ⟨⟨mk, E⟩, X, D, F0⟩ X'
    obtain ⟨h1, h2, h3, h4, h5, h6, h7, h8, h9, h10, h11⟩ := st.2.2.1
    have D2 := DM_fr F (by decide) hM.2.1
    obtain ⟨m1', m2, m3, m4, m5, m6, m7, m8, m9, m10, m11, m12, m13⟩ := D2
    obtain ⟨⟨a1, a2, a3, a4, a5, a6, a7, a8, a9, a10⟩, w2, w3⟩ := hW
    refine ⟨pSetS A v, op, pt, L, M, kE tp n p, true, _, _, by rw [f, Option.bind_some], by rw [g, Option.bind_some], JX_cell st (Fr_sI 402 9 (nI v) (l := [50209]) (by decide)) (by decide) (by decide) ?_, ⟨RB_fr (Fr_sA 28 2 (nI v) (l := [28]) (by decide)) (by decide) R, ?_, FM_t hM.2.2 (FM_t (FM_f F (by decide) (by decide)) (FM_28 (by omega)))⟩, ⟨⟨a1, a2, v2, a4, a5, a6, a7, a8, a9, a10⟩, w2, w3⟩, hp', by omega, by omega, h0, by rw [gI_sA, F.I 1045 0 (by decide)]; exact hx⟩
    · exact ⟨by simp (disch := first | omega | decide) only [gI_sI, gI_sA, gI_sL, gI_sQ, gI_sC, gI_sO, gI_sD, gA_sI, gA_sL, gA_sQ, gA_sO, gA_sD, gL_sI, gL_sA, gL_sQ, gL_sC, gL_sO, gL_sD, gQ_sI, gQ_sA, gQ_sL, gQ_sC, gQ_sO, gO_sI, gO_sA, gO_sL, gO_sQ, gO_sC, gO_sO, gO_sD, gA_eq, gA_ne, gQ_eq, gQ_ne, gL_sL, gA_cin, gA_cou, gQ_cin, gQ_cou, Nat.reduceAdd, Nat.reduceSub, Nat.reduceMul, Nat.reduceLT, Nat.reduceEqDiff, eq_self, true_and, and_true, and_false, false_and, if_true, if_false, and_self, Bool.true_eq_false, Bool.false_eq_true]; exact h1, by simp (disch := first | omega | decide) only [gI_sI, gI_sA, gI_sL, gI_sQ, gI_sC, gI_sO, gI_sD, gA_sI, gA_sL, gA_sQ, gA_sO, gA_sD, gL_sI, gL_sA, gL_sQ, gL_sC, gL_sO, gL_sD, gQ_sI, gQ_sA, gQ_sL, gQ_sC, gQ_sO, gO_sI, gO_sA, gO_sL, gO_sQ, gO_sC, gO_sO, gO_sD, gA_eq, gA_ne, gQ_eq, gQ_ne, gL_sL, gA_cin, gA_cou, gQ_cin, gQ_cou, Nat.reduceAdd, Nat.reduceSub, Nat.reduceMul, Nat.reduceLT, Nat.reduceEqDiff, eq_self, true_and, and_true, and_false, false_and, if_true, if_false, and_self, Bool.true_eq_false, Bool.false_eq_true]; exact h2, by simp (disch := first | omega | decide) only [gI_sI, gI_sA, gI_sL, gI_sQ, gI_sC, gI_sO, gI_sD, gA_sI, gA_sL, gA_sQ, gA_sO, gA_sD, gL_sI, gL_sA, gL_sQ, gL_sC, gL_sO, gL_sD, gQ_sI, gQ_sA, gQ_sL, gQ_sC, gQ_sO, gO_sI, gO_sA, gO_sL, gO_sQ, gO_sC, gO_sO, gO_sD, gA_eq, gA_ne, gQ_eq, gQ_ne, gL_sL, gA_cin, gA_cou, gQ_cin, gQ_cou, Nat.reduceAdd, Nat.reduceSub, Nat.reduceMul, Nat.reduceLT, Nat.reduceEqDiff, eq_self, true_and, and_true, and_false, false_and, if_true, if_false, and_self, Bool.true_eq_false, Bool.false_eq_true]; rfl, by simp (disch := first | omega | decide) only [gI_sI, gI_sA, gI_sL, gI_sQ, gI_sC, gI_sO, gI_sD, gA_sI, gA_sL, gA_sQ, gA_sO, gA_sD, gL_sI, gL_sA, gL_sQ, gL_sC, gL_sO, gL_sD, gQ_sI, gQ_sA, gQ_sL, gQ_sC, gQ_sO, gO_sI, gO_sA, gO_sL, gO_sQ, gO_sC, gO_sO, gO_sD, gA_eq, gA_ne, gQ_eq, gQ_ne, gL_sL, gA_cin, gA_cou, gQ_cin, gQ_cou, Nat.reduceAdd, Nat.reduceSub, Nat.reduceMul, Nat.reduceLT, Nat.reduceEqDiff, eq_self, true_and, and_true, and_false, false_and, if_true, if_false, and_self, Bool.true_eq_false, Bool.false_eq_true]; exact h4, by simp (disch := first | omega | decide) only [gI_sI, gI_sA, gI_sL, gI_sQ, gI_sC, gI_sO, gI_sD, gA_sI, gA_sL, gA_sQ, gA_sO, gA_sD, gL_sI, gL_sA, gL_sQ, gL_sC, gL_sO, gL_sD, gQ_sI, gQ_sA, gQ_sL, gQ_sC, gQ_sO, gO_sI, gO_sA, gO_sL, gO_sQ, gO_sC, gO_sO, gO_sD, gA_eq, gA_ne, gQ_eq, gQ_ne, gL_sL, gA_cin, gA_cou, gQ_cin, gQ_cou, Nat.reduceAdd, Nat.reduceSub, Nat.reduceMul, Nat.reduceLT, Nat.reduceEqDiff, eq_self, true_and, and_true, and_false, false_and, if_true, if_false, and_self, Bool.true_eq_false, Bool.false_eq_true]; exact h5, h6, h7, by simp (disch := first | omega | decide) only [gI_sI, gI_sA, gI_sL, gI_sQ, gI_sC, gI_sO, gI_sD, gA_sI, gA_sL, gA_sQ, gA_sO, gA_sD, gL_sI, gL_sA, gL_sQ, gL_sC, gL_sO, gL_sD, gQ_sI, gQ_sA, gQ_sL, gQ_sC, gQ_sO, gO_sI, gO_sA, gO_sL, gO_sQ, gO_sC, gO_sO, gO_sD, gA_eq, gA_ne, gQ_eq, gQ_ne, gL_sL, gA_cin, gA_cou, gQ_cin, gQ_cou, Nat.reduceAdd, Nat.reduceSub, Nat.reduceMul, Nat.reduceLT, Nat.reduceEqDiff, eq_self, true_and, and_true, and_false, false_and, if_true, if_false, and_self, Bool.true_eq_false, Bool.false_eq_true]; exact h8, by simp (disch := first | omega | decide) only [gI_sI, gI_sA, gI_sL, gI_sQ, gI_sC, gI_sO, gI_sD, gA_sI, gA_sL, gA_sQ, gA_sO, gA_sD, gL_sI, gL_sA, gL_sQ, gL_sC, gL_sO, gL_sD, gQ_sI, gQ_sA, gQ_sL, gQ_sC, gQ_sO, gO_sI, gO_sA, gO_sL, gO_sQ, gO_sC, gO_sO, gO_sD, gA_eq, gA_ne, gQ_eq, gQ_ne, gL_sL, gA_cin, gA_cou, gQ_cin, gQ_cou, Nat.reduceAdd, Nat.reduceSub, Nat.reduceMul, Nat.reduceLT, Nat.reduceEqDiff, eq_self, true_and, and_true, and_false, false_and, if_true, if_false, and_self, Bool.true_eq_false, Bool.false_eq_true]; exact h9, fun w hw => XCd_same (h10 w hw) rfl rfl rfl, by simp (disch := first | omega | decide) only [gI_sI, gI_sA, gI_sL, gI_sQ, gI_sC, gI_sO, gI_sD, gA_sI, gA_sL, gA_sQ, gA_sO, gA_sD, gL_sI, gL_sA, gL_sQ, gL_sC, gL_sO, gL_sD, gQ_sI, gQ_sA, gQ_sL, gQ_sC, gQ_sO, gO_sI, gO_sA, gO_sL, gO_sQ, gO_sC, gO_sO, gO_sD, gA_eq, gA_ne, gQ_eq, gQ_ne, gL_sL, gA_cin, gA_cou, gQ_cin, gQ_cou, Nat.reduceAdd, Nat.reduceSub, Nat.reduceMul, Nat.reduceLT, Nat.reduceEqDiff, eq_self, true_and, and_true, and_false, false_and, if_true, if_false, and_self, Bool.true_eq_false, Bool.false_eq_true]; exact h11⟩
    · exact ⟨by rw [gA_ne (by omega)]; exact m1', by rw [gA_ne (by omega)]; exact m2, gA_eq rfl, by rw [gA_ne (by omega)]; exact m4, m5, fun d hd => by rw [gA_ne (by omega)]; exact m6 d hd, m7, m8, fun p hp => MCd_old (m9 p hp) rfl (gA_ne (by omega)) (gA_ne (by omega)) (fun i _ => gA_ne (by omega)) (Nat.le_refl _), fun h => MCd_old (m10 h) rfl (gA_ne (by omega)) (gA_ne (by omega)) (fun i _ => gA_ne (by omega)) (Nat.le_refl _), fun h => by rw [gA_ne (by omega)]; exact m11 h, fun h => MCd_old (m12 h) rfl (gA_ne (by omega)) (gA_ne (by omega)) (fun i _ => gA_ne (by omega)) (Nat.le_refl _), fun h => by rw [gA_ne (by omega)]; exact m13 h⟩
theorem body_ill (hJ : JX tp n s0 A op pt L p b s) (hM : JM tp n t0 A op pt M p b t) (hW : WD A op pt) (hL : L.length ≤ p) (hMp : M ≤ p) (h0 : 0 < pD A) (hx : gI t 1045 0 = x) (hN : 10000 ≤ N) :
    BoR tp n s0 t0 p x (f_Rd_numbers N (nI 7) s) ((f_M_number N (nI 0) (nI 100) t).bind fun p12 => some (sA p12.2 28 3 p12.1)) := by
  obtain ⟨⟨mk, E⟩, X, D, F0⟩ := hJ
  have hn := E.1.1
  have hpn := X.1
  rw [numb_7]
  rcases num_j (N := N) (lo := 0) (hi := 100) (by omega) (by omega) E X (by omega) hM.1 hN with ⟨k, w, s', v, t', f, Dd, g, B, F⟩ | ⟨v, s', t', v1, v2, f, X', hp', g, R, g10, F⟩
  · left
    exact ⟨k, w, _, _, by rw [f, Option.bind_some], DXd_fr (DX_d F0 Dd) (Fr_sI 403 9 (nI 0) (l := [50309]) (by decide)) (by decide) (by decide), by rw [g, Option.bind_some], DMd_28 (by omega) (BM_d hM.2.2 B F (by decide) (by decide))⟩
  · right
    have hp2 := X'.1
    have st := JX_st ⟨⟨mk, E⟩, X, D, F0⟩ X'
    obtain ⟨h1, h2, h3, h4, h5, h6, h7, h8, h9, h10, h11⟩ := st.2.2.1
    have D2 := DM_fr F (by decide) hM.2.1
    obtain ⟨m1', m2, m3, m4, m5, m6, m7, m8, m9, m10, m11, m12, m13⟩ := D2
    obtain ⟨⟨a1, a2, a3, a4, a5, a6, a7, a8, a9, a10⟩, w2, w3⟩ := hW
    refine ⟨pSetI A v, op, pt, L, M, kE tp n p, true, _, _, by rw [f, Option.bind_some], by rw [g, Option.bind_some], JX_cell st (Fr_sI 403 9 (nI v) (l := [50309]) (by decide)) (by decide) (by decide) ?_, ⟨RB_fr (Fr_sA 28 3 (nI v) (l := [28]) (by decide)) (by decide) R, ?_, FM_t hM.2.2 (FM_t (FM_f F (by decide) (by decide)) (FM_28 (by omega)))⟩, ⟨⟨a1, a2, a3, v2, a5, a6, a7, a8, a9, a10⟩, w2, w3⟩, hp', by omega, by omega, h0, by rw [gI_sA, F.I 1045 0 (by decide)]; exact hx⟩
    · exact ⟨by simp (disch := first | omega | decide) only [gI_sI, gI_sA, gI_sL, gI_sQ, gI_sC, gI_sO, gI_sD, gA_sI, gA_sL, gA_sQ, gA_sO, gA_sD, gL_sI, gL_sA, gL_sQ, gL_sC, gL_sO, gL_sD, gQ_sI, gQ_sA, gQ_sL, gQ_sC, gQ_sO, gO_sI, gO_sA, gO_sL, gO_sQ, gO_sC, gO_sO, gO_sD, gA_eq, gA_ne, gQ_eq, gQ_ne, gL_sL, gA_cin, gA_cou, gQ_cin, gQ_cou, Nat.reduceAdd, Nat.reduceSub, Nat.reduceMul, Nat.reduceLT, Nat.reduceEqDiff, eq_self, true_and, and_true, and_false, false_and, if_true, if_false, and_self, Bool.true_eq_false, Bool.false_eq_true]; exact h1, by simp (disch := first | omega | decide) only [gI_sI, gI_sA, gI_sL, gI_sQ, gI_sC, gI_sO, gI_sD, gA_sI, gA_sL, gA_sQ, gA_sO, gA_sD, gL_sI, gL_sA, gL_sQ, gL_sC, gL_sO, gL_sD, gQ_sI, gQ_sA, gQ_sL, gQ_sC, gQ_sO, gO_sI, gO_sA, gO_sL, gO_sQ, gO_sC, gO_sO, gO_sD, gA_eq, gA_ne, gQ_eq, gQ_ne, gL_sL, gA_cin, gA_cou, gQ_cin, gQ_cou, Nat.reduceAdd, Nat.reduceSub, Nat.reduceMul, Nat.reduceLT, Nat.reduceEqDiff, eq_self, true_and, and_true, and_false, false_and, if_true, if_false, and_self, Bool.true_eq_false, Bool.false_eq_true]; exact h2, by simp (disch := first | omega | decide) only [gI_sI, gI_sA, gI_sL, gI_sQ, gI_sC, gI_sO, gI_sD, gA_sI, gA_sL, gA_sQ, gA_sO, gA_sD, gL_sI, gL_sA, gL_sQ, gL_sC, gL_sO, gL_sD, gQ_sI, gQ_sA, gQ_sL, gQ_sC, gQ_sO, gO_sI, gO_sA, gO_sL, gO_sQ, gO_sC, gO_sO, gO_sD, gA_eq, gA_ne, gQ_eq, gQ_ne, gL_sL, gA_cin, gA_cou, gQ_cin, gQ_cou, Nat.reduceAdd, Nat.reduceSub, Nat.reduceMul, Nat.reduceLT, Nat.reduceEqDiff, eq_self, true_and, and_true, and_false, false_and, if_true, if_false, and_self, Bool.true_eq_false, Bool.false_eq_true]; exact h3, by simp (disch := first | omega | decide) only [gI_sI, gI_sA, gI_sL, gI_sQ, gI_sC, gI_sO, gI_sD, gA_sI, gA_sL, gA_sQ, gA_sO, gA_sD, gL_sI, gL_sA, gL_sQ, gL_sC, gL_sO, gL_sD, gQ_sI, gQ_sA, gQ_sL, gQ_sC, gQ_sO, gO_sI, gO_sA, gO_sL, gO_sQ, gO_sC, gO_sO, gO_sD, gA_eq, gA_ne, gQ_eq, gQ_ne, gL_sL, gA_cin, gA_cou, gQ_cin, gQ_cou, Nat.reduceAdd, Nat.reduceSub, Nat.reduceMul, Nat.reduceLT, Nat.reduceEqDiff, eq_self, true_and, and_true, and_false, false_and, if_true, if_false, and_self, Bool.true_eq_false, Bool.false_eq_true]; rfl, by simp (disch := first | omega | decide) only [gI_sI, gI_sA, gI_sL, gI_sQ, gI_sC, gI_sO, gI_sD, gA_sI, gA_sL, gA_sQ, gA_sO, gA_sD, gL_sI, gL_sA, gL_sQ, gL_sC, gL_sO, gL_sD, gQ_sI, gQ_sA, gQ_sL, gQ_sC, gQ_sO, gO_sI, gO_sA, gO_sL, gO_sQ, gO_sC, gO_sO, gO_sD, gA_eq, gA_ne, gQ_eq, gQ_ne, gL_sL, gA_cin, gA_cou, gQ_cin, gQ_cou, Nat.reduceAdd, Nat.reduceSub, Nat.reduceMul, Nat.reduceLT, Nat.reduceEqDiff, eq_self, true_and, and_true, and_false, false_and, if_true, if_false, and_self, Bool.true_eq_false, Bool.false_eq_true]; exact h5, h6, h7, by simp (disch := first | omega | decide) only [gI_sI, gI_sA, gI_sL, gI_sQ, gI_sC, gI_sO, gI_sD, gA_sI, gA_sL, gA_sQ, gA_sO, gA_sD, gL_sI, gL_sA, gL_sQ, gL_sC, gL_sO, gL_sD, gQ_sI, gQ_sA, gQ_sL, gQ_sC, gQ_sO, gO_sI, gO_sA, gO_sL, gO_sQ, gO_sC, gO_sO, gO_sD, gA_eq, gA_ne, gQ_eq, gQ_ne, gL_sL, gA_cin, gA_cou, gQ_cin, gQ_cou, Nat.reduceAdd, Nat.reduceSub, Nat.reduceMul, Nat.reduceLT, Nat.reduceEqDiff, eq_self, true_and, and_true, and_false, false_and, if_true, if_false, and_self, Bool.true_eq_false, Bool.false_eq_true]; exact h8, by simp (disch := first | omega | decide) only [gI_sI, gI_sA, gI_sL, gI_sQ, gI_sC, gI_sO, gI_sD, gA_sI, gA_sL, gA_sQ, gA_sO, gA_sD, gL_sI, gL_sA, gL_sQ, gL_sC, gL_sO, gL_sD, gQ_sI, gQ_sA, gQ_sL, gQ_sC, gQ_sO, gO_sI, gO_sA, gO_sL, gO_sQ, gO_sC, gO_sO, gO_sD, gA_eq, gA_ne, gQ_eq, gQ_ne, gL_sL, gA_cin, gA_cou, gQ_cin, gQ_cou, Nat.reduceAdd, Nat.reduceSub, Nat.reduceMul, Nat.reduceLT, Nat.reduceEqDiff, eq_self, true_and, and_true, and_false, false_and, if_true, if_false, and_self, Bool.true_eq_false, Bool.false_eq_true]; exact h9, fun w hw => XCd_same (h10 w hw) rfl rfl rfl, by simp (disch := first | omega | decide) only [gI_sI, gI_sA, gI_sL, gI_sQ, gI_sC, gI_sO, gI_sD, gA_sI, gA_sL, gA_sQ, gA_sO, gA_sD, gL_sI, gL_sA, gL_sQ, gL_sC, gL_sO, gL_sD, gQ_sI, gQ_sA, gQ_sL, gQ_sC, gQ_sO, gO_sI, gO_sA, gO_sL, gO_sQ, gO_sC, gO_sO, gO_sD, gA_eq, gA_ne, gQ_eq, gQ_ne, gL_sL, gA_cin, gA_cou, gQ_cin, gQ_cou, Nat.reduceAdd, Nat.reduceSub, Nat.reduceMul, Nat.reduceLT, Nat.reduceEqDiff, eq_self, true_and, and_true, and_false, false_and, if_true, if_false, and_self, Bool.true_eq_false, Bool.false_eq_true]; exact h11⟩
    · exact ⟨by rw [gA_ne (by omega)]; exact m1', by rw [gA_ne (by omega)]; exact m2, by rw [gA_ne (by omega)]; exact m3, gA_eq rfl, m5, fun d hd => by rw [gA_ne (by omega)]; exact m6 d hd, m7, m8, fun p hp => MCd_old (m9 p hp) rfl (gA_ne (by omega)) (gA_ne (by omega)) (fun i _ => gA_ne (by omega)) (Nat.le_refl _), fun h => MCd_old (m10 h) rfl (gA_ne (by omega)) (gA_ne (by omega)) (fun i _ => gA_ne (by omega)) (Nat.le_refl _), fun h => by rw [gA_ne (by omega)]; exact m11 h, fun h => MCd_old (m12 h) rfl (gA_ne (by omega)) (gA_ne (by omega)) (fun i _ => gA_ne (by omega)) (Nat.le_refl _), fun h => by rw [gA_ne (by omega)]; exact m13 h⟩
theorem or_bit (n d i : Nat) : (n ||| 1 <<< d).testBit i = (n.testBit i || decide (i = d)) := by
  rw [Nat.testBit_or]
  congr 1
  rw [Nat.shiftLeft_eq, Nat.one_mul, Nat.testBit_two_pow]
  by_cases c : d = i
  · rw [decide_eq_true c, decide_eq_true c.symm]
  · rw [decide_eq_false c, decide_eq_false (fun h => c h.symm)]
theorem body_open (hJ : JX tp n s0 A op pt L p b s) (hM : JM tp n t0 A op pt M p b t) (hW : WD A op pt) (hL : L.length ≤ p) (hMp : M ≤ p) (h0 : 0 < pD A) (hx : gI t 1045 0 = x) (hN : 10000 ≤ N) :
    BoR tp n s0 t0 p x (f_Rd_numbers N (nI 3) s) (f_M_openTold N t) := by
  obtain ⟨⟨mk, E⟩, X, D, F0⟩ := hJ
  have hn := E.1.1
  have hpn := X.1
  have hD24 := hW.1.1
  have hop : op < 16777216 := Nat.lt_of_lt_of_le hW.2.1 (pw_le hD24)
  have e400 := D.1
  have e28 := hM.2.1.1
  have k2 := X.2.1.2.1
  rw [numb_3, e400, cn_sub (by omega)]
  have hr : f_M_openTold N t = (f_M_number N (nI 0) (nI (pD A - 1)) t).bind fun p1 => if gI p1.2 1005 0 = nI 0 then if (irs (gI p1.2 1040 0) p1.1 &&& nI 1) = nI 1 then (f_M_fail N (nI 2) (gI p1.2 1010 0) p1.2).bind fun p2 => f_M_openTold_j42 N (p1.1, p2) else f_M_openTold_j42 N (p1.1, p1.2) else f_M_openTold_j42 N (p1.1, p1.2) := by
    unfold f_M_openTold
    rw [e28, zI_1, cn_sub (by omega)]
    rfl
  rw [hr]
  rcases num_j (N := N) (lo := 0) (hi := pD A - 1) (by omega) (by omega) E X (by omega) hM.1 hN with ⟨k, w, s', v, t', f, Dd, g, B, F⟩ | ⟨v, s', t', v1, v2, f, X', hp', g, R, g10, F⟩
  · left
    have D1 := DX_d F0 Dd
    have fd := fail_d (N := N) D1.1.1 (nI 2) (gI s 606 18)
    have B5 := B.2.2.1
    have B1 := B.1
    have B2 := B.2.1
    refine ⟨k, w, sI s' 404 9 (gI s' 404 9 ||| ils (nI 1) (nI 0)), t', ?_, DXd_fr D1 (Fr_sI 404 9 _ (l := [50409]) (by decide)) (by decide) (by decide), ?_, BM_d hM.2.2 B F (by decide) (by decide)⟩
    · rw [f, Option.bind_some]
      simp only [fd, Option.bind_some, f_Rd_numbers_j141, ite_self]
    · rw [g, Option.bind_some]
      have q : (nI k = nI 0) = False := by rw [cn_eq (by omega)]; exact eq_false (by omega)
      simp only [B5, zI_0, q, if_false, f_M_openTold_j42]
  · have hp2 := X'.1
    have st := JX_st ⟨⟨mk, E⟩, X, D, F0⟩ X'
    obtain ⟨h1, h2, h3, h4, h5, h6, h7, h8, h9, h10, h11⟩ := st.2.2.1
    have D2 := DM_fr F (by decide) hM.2.1
    obtain ⟨m1', m2, m3, m4, m5, m6, m7, m8, m9, m10, m11, m12, m13⟩ := D2
    have ev : ils (nI 1) (nI v) = nI (1 <<< v) := cn_ils (by omega)
    have r5 := R.2.2.1
    have z := dis_or (x := op) (a := 0) (d := v)
    rw [Nat.zero_or, Nat.and_zero] at z
    have a1 : (nI op &&& nI (1 <<< v) = nI 0) = (op.testBit v = false) := by
      rw [cn_and, cn_eq ⟨Nat.lt_of_le_of_lt Nat.and_le_left (by omega), by omega⟩, z]; simp
    have a2 : (irs (nI op) (nI v) &&& nI 1 = nI 1) = (op.testBit v = true) := by
      rw [cn_irs (by omega), cn_and, cn_eq ⟨by have := bit_le op v; omega, by omega⟩, bit01]
      cases op.testBit v <;> simp
    have r7 : (nI 0 = nI 0) = True := eq_true rfl
    by_cases c : op.testBit v = true
    · left
      have a1 := a1.trans (eq_false (by rw [c]; simp))
      have a2 := a2.trans (eq_true c)
      obtain ⟨s2, f2, Dd⟩ := c_fail (N := N) (k := 2) (w := skp tp n p) E X' (by omega) (by omega)
      obtain ⟨t2, g2, B, F2⟩ := mfail_l (N := N) (t := t') (k := 2) (w := skp tp n p) r5 (by omega)
      have B5 := B.2.2.1
      refine ⟨2, skp tp n p, sI s2 404 9 (gI s2 404 9 ||| ils (nI 1) (nI v)), t2, ?_, DXd_fr (DX_d F0 Dd) (Fr_sI 404 9 _ (l := [50409]) (by decide)) (by decide) (by decide), ?_, BM_d (FM_t hM.2.2 (FM_f F (by decide) (by decide))) B F2 (by decide) (by decide)⟩
      · rw [f, Option.bind_some]
        simp only [h5, ev, a1, if_false, k2, f2, Option.bind_some, f_Rd_numbers_j141]
      · rw [g, Option.bind_some]
        have q : (nI 2 = nI 0) = False := eq_false (by decide)
        simp only [r5, r7, if_true, m5, a2, g10, g2, Option.bind_some, f_M_openTold_j42, B5, zI_0, q, if_false]
    · right
      have cf : op.testBit v = false := by simpa using c
      have a1 := a1.trans (eq_true cf)
      have a2 := a2.trans (eq_false (by rw [cf]; simp))
      obtain ⟨⟨b1, b2, b3, b4, b5, b6, b7, b8, b9, b10⟩, w2, w3⟩ := hW
      refine ⟨A, op ||| 1 <<< v, pt, L, M, kE tp n p, true, sI s' 404 9 (nI (op ||| 1 <<< v)), sI t' 1040 0 (nI (op ||| 1 <<< v)), ?_, ?_, JX_cell st (Fr_sI 404 9 _ (l := [50409]) (by decide)) (by decide) (by decide) ?_, ⟨RB_fr (Fr_sI 1040 0 _ (l := [114000]) (by decide)) (by decide) R, ?_, FM_t hM.2.2 (FM_t (FM_f F (by decide) (by decide)) (FM_f (Fr_sI 1040 0 _ (l := [114000]) (by decide)) (by decide) (by decide)))⟩, ⟨⟨b1, b2, b3, b4, b5, b6, b7, b8, b9, b10⟩, ?_, w3⟩, hp', by omega, by omega, h0, ?_⟩
      · rw [f, Option.bind_some]
        simp only [h5, ev, a1, if_true, f_Rd_numbers_j141, cn_or]
      · rw [g, Option.bind_some]
        simp only [r5, r7, if_true, m5, a2, if_false, f_M_openTold_j42, zI_0, zI_1, ev, cn_or]
      · exact ⟨by simp (disch := first | omega | decide) only [gI_sI, gI_sA, gI_sL, gI_sQ, gI_sC, gI_sO, gI_sD, gA_sI, gA_sL, gA_sQ, gA_sO, gA_sD, gL_sI, gL_sA, gL_sQ, gL_sC, gL_sO, gL_sD, gQ_sI, gQ_sA, gQ_sL, gQ_sC, gQ_sO, gO_sI, gO_sA, gO_sL, gO_sQ, gO_sC, gO_sO, gO_sD, gA_eq, gA_ne, gQ_eq, gQ_ne, gL_sL, gA_cin, gA_cou, gQ_cin, gQ_cou, Nat.reduceAdd, Nat.reduceSub, Nat.reduceMul, Nat.reduceLT, Nat.reduceEqDiff, eq_self, true_and, and_true, and_false, false_and, if_true, if_false, and_self, Bool.true_eq_false, Bool.false_eq_true]; exact h1, by simp (disch := first | omega | decide) only [gI_sI, gI_sA, gI_sL, gI_sQ, gI_sC, gI_sO, gI_sD, gA_sI, gA_sL, gA_sQ, gA_sO, gA_sD, gL_sI, gL_sA, gL_sQ, gL_sC, gL_sO, gL_sD, gQ_sI, gQ_sA, gQ_sL, gQ_sC, gQ_sO, gO_sI, gO_sA, gO_sL, gO_sQ, gO_sC, gO_sO, gO_sD, gA_eq, gA_ne, gQ_eq, gQ_ne, gL_sL, gA_cin, gA_cou, gQ_cin, gQ_cou, Nat.reduceAdd, Nat.reduceSub, Nat.reduceMul, Nat.reduceLT, Nat.reduceEqDiff, eq_self, true_and, and_true, and_false, false_and, if_true, if_false, and_self, Bool.true_eq_false, Bool.false_eq_true]; exact h2, by simp (disch := first | omega | decide) only [gI_sI, gI_sA, gI_sL, gI_sQ, gI_sC, gI_sO, gI_sD, gA_sI, gA_sL, gA_sQ, gA_sO, gA_sD, gL_sI, gL_sA, gL_sQ, gL_sC, gL_sO, gL_sD, gQ_sI, gQ_sA, gQ_sL, gQ_sC, gQ_sO, gO_sI, gO_sA, gO_sL, gO_sQ, gO_sC, gO_sO, gO_sD, gA_eq, gA_ne, gQ_eq, gQ_ne, gL_sL, gA_cin, gA_cou, gQ_cin, gQ_cou, Nat.reduceAdd, Nat.reduceSub, Nat.reduceMul, Nat.reduceLT, Nat.reduceEqDiff, eq_self, true_and, and_true, and_false, false_and, if_true, if_false, and_self, Bool.true_eq_false, Bool.false_eq_true]; exact h3, by simp (disch := first | omega | decide) only [gI_sI, gI_sA, gI_sL, gI_sQ, gI_sC, gI_sO, gI_sD, gA_sI, gA_sL, gA_sQ, gA_sO, gA_sD, gL_sI, gL_sA, gL_sQ, gL_sC, gL_sO, gL_sD, gQ_sI, gQ_sA, gQ_sL, gQ_sC, gQ_sO, gO_sI, gO_sA, gO_sL, gO_sQ, gO_sC, gO_sO, gO_sD, gA_eq, gA_ne, gQ_eq, gQ_ne, gL_sL, gA_cin, gA_cou, gQ_cin, gQ_cou, Nat.reduceAdd, Nat.reduceSub, Nat.reduceMul, Nat.reduceLT, Nat.reduceEqDiff, eq_self, true_and, and_true, and_false, false_and, if_true, if_false, and_self, Bool.true_eq_false, Bool.false_eq_true]; exact h4, by simp (disch := first | omega | decide) only [gI_sI, gI_sA, gI_sL, gI_sQ, gI_sC, gI_sO, gI_sD, gA_sI, gA_sL, gA_sQ, gA_sO, gA_sD, gL_sI, gL_sA, gL_sQ, gL_sC, gL_sO, gL_sD, gQ_sI, gQ_sA, gQ_sL, gQ_sC, gQ_sO, gO_sI, gO_sA, gO_sL, gO_sQ, gO_sC, gO_sO, gO_sD, gA_eq, gA_ne, gQ_eq, gQ_ne, gL_sL, gA_cin, gA_cou, gQ_cin, gQ_cou, Nat.reduceAdd, Nat.reduceSub, Nat.reduceMul, Nat.reduceLT, Nat.reduceEqDiff, eq_self, true_and, and_true, and_false, false_and, if_true, if_false, and_self, Bool.true_eq_false, Bool.false_eq_true], h6, h7, by simp (disch := first | omega | decide) only [gI_sI, gI_sA, gI_sL, gI_sQ, gI_sC, gI_sO, gI_sD, gA_sI, gA_sL, gA_sQ, gA_sO, gA_sD, gL_sI, gL_sA, gL_sQ, gL_sC, gL_sO, gL_sD, gQ_sI, gQ_sA, gQ_sL, gQ_sC, gQ_sO, gO_sI, gO_sA, gO_sL, gO_sQ, gO_sC, gO_sO, gO_sD, gA_eq, gA_ne, gQ_eq, gQ_ne, gL_sL, gA_cin, gA_cou, gQ_cin, gQ_cou, Nat.reduceAdd, Nat.reduceSub, Nat.reduceMul, Nat.reduceLT, Nat.reduceEqDiff, eq_self, true_and, and_true, and_false, false_and, if_true, if_false, and_self, Bool.true_eq_false, Bool.false_eq_true]; exact h8, by simp (disch := first | omega | decide) only [gI_sI, gI_sA, gI_sL, gI_sQ, gI_sC, gI_sO, gI_sD, gA_sI, gA_sL, gA_sQ, gA_sO, gA_sD, gL_sI, gL_sA, gL_sQ, gL_sC, gL_sO, gL_sD, gQ_sI, gQ_sA, gQ_sL, gQ_sC, gQ_sO, gO_sI, gO_sA, gO_sL, gO_sQ, gO_sC, gO_sO, gO_sD, gA_eq, gA_ne, gQ_eq, gQ_ne, gL_sL, gA_cin, gA_cou, gQ_cin, gQ_cou, Nat.reduceAdd, Nat.reduceSub, Nat.reduceMul, Nat.reduceLT, Nat.reduceEqDiff, eq_self, true_and, and_true, and_false, false_and, if_true, if_false, and_self, Bool.true_eq_false, Bool.false_eq_true]; exact h9, fun w hw => XCd_same (h10 w hw) rfl rfl rfl, by simp (disch := first | omega | decide) only [gI_sI, gI_sA, gI_sL, gI_sQ, gI_sC, gI_sO, gI_sD, gA_sI, gA_sL, gA_sQ, gA_sO, gA_sD, gL_sI, gL_sA, gL_sQ, gL_sC, gL_sO, gL_sD, gQ_sI, gQ_sA, gQ_sL, gQ_sC, gQ_sO, gO_sI, gO_sA, gO_sL, gO_sQ, gO_sC, gO_sO, gO_sD, gA_eq, gA_ne, gQ_eq, gQ_ne, gL_sL, gA_cin, gA_cou, gQ_cin, gQ_cou, Nat.reduceAdd, Nat.reduceSub, Nat.reduceMul, Nat.reduceLT, Nat.reduceEqDiff, eq_self, true_and, and_true, and_false, false_and, if_true, if_false, and_self, Bool.true_eq_false, Bool.false_eq_true]; exact h11⟩
      · exact ⟨m1', m2, m3, m4, by simp (disch := first | omega | decide) only [gI_sI, gI_sA, gI_sL, gI_sQ, gI_sC, gI_sO, gI_sD, gA_sI, gA_sL, gA_sQ, gA_sO, gA_sD, gL_sI, gL_sA, gL_sQ, gL_sC, gL_sO, gL_sD, gQ_sI, gQ_sA, gQ_sL, gQ_sC, gQ_sO, gO_sI, gO_sA, gO_sL, gO_sQ, gO_sC, gO_sO, gO_sD, gA_eq, gA_ne, gQ_eq, gQ_ne, gL_sL, gA_cin, gA_cou, gQ_cin, gQ_cou, Nat.reduceAdd, Nat.reduceSub, Nat.reduceMul, Nat.reduceLT, Nat.reduceEqDiff, eq_self, true_and, and_true, and_false, false_and, if_true, if_false, and_self, Bool.true_eq_false, Bool.false_eq_true], m6, m7, by simp (disch := first | omega | decide) only [gI_sI, gI_sA, gI_sL, gI_sQ, gI_sC, gI_sO, gI_sD, gA_sI, gA_sL, gA_sQ, gA_sO, gA_sD, gL_sI, gL_sA, gL_sQ, gL_sC, gL_sO, gL_sD, gQ_sI, gQ_sA, gQ_sL, gQ_sC, gQ_sO, gO_sI, gO_sA, gO_sL, gO_sQ, gO_sC, gO_sO, gO_sD, gA_eq, gA_ne, gQ_eq, gQ_ne, gL_sL, gA_cin, gA_cou, gQ_cin, gQ_cou, Nat.reduceAdd, Nat.reduceSub, Nat.reduceMul, Nat.reduceLT, Nat.reduceEqDiff, eq_self, true_and, and_true, and_false, false_and, if_true, if_false, and_self, Bool.true_eq_false, Bool.false_eq_true]; exact m8, m9, m10, m11, m12, m13⟩
      · exact Nat.or_lt_two_pow w2 (by rw [Nat.shiftLeft_eq, Nat.one_mul]; exact Nat.pow_lt_pow_right (by omega) (by omega))
      · simp (disch := first | omega | decide) only [gI_sI, gI_sA, gI_sL, gI_sQ, gI_sC, gI_sO, gI_sD, gA_sI, gA_sL, gA_sQ, gA_sO, gA_sD, gL_sI, gL_sA, gL_sQ, gL_sC, gL_sO, gL_sD, gQ_sI, gQ_sA, gQ_sL, gQ_sC, gQ_sO, gO_sI, gO_sA, gO_sL, gO_sQ, gO_sC, gO_sO, gO_sD, gA_eq, gA_ne, gQ_eq, gQ_ne, gL_sL, gA_cin, gA_cou, gQ_cin, gQ_cou, Nat.reduceAdd, Nat.reduceSub, Nat.reduceMul, Nat.reduceLT, Nat.reduceEqDiff, eq_self, true_and, and_true, and_false, false_and, if_true, if_false, and_self, Bool.true_eq_false, Bool.false_eq_true]; rw [F.I 1045 0 (by decide)]; exact hx
theorem body_paint (hJ : JX tp n s0 A op pt L p b s) (hM : JM tp n t0 A op pt M p b t) (hW : WD A op pt) (hL : L.length ≤ p) (hMp : M ≤ p) (h0 : 0 < pD A) (hx : gI t 1045 0 = x) (hN : 10000 ≤ N) :
    BoR tp n s0 t0 p x (f_Rd_numbers N (nI 2) s) (f_M_paintTold N t) := by
  obtain ⟨⟨mk, E⟩, X, D, F0⟩ := hJ
  have hn := E.1.1
  have hpn := X.1
  have hD24 := hW.1.1
  have e400 := D.1
  have e28 := hM.2.1.1
  rw [numb_2, e400, cn_sub (by omega)]
  have hr : f_M_paintTold N t = (f_M_number N (nI 0) (nI (pD A - 1)) t).bind fun p1 => (f_M_number N (nI 0) (nI 9) p1.2).bind fun p2 => if gI p2.2 1005 0 = nI 0 then grd (inb p1.1 24) (some (sA p2.2 30 (ix p1.1) p2.1)) else some p2.2 := by
    unfold f_M_paintTold
    rw [e28, zI_1, cn_sub (by omega)]
    rfl
  rw [hr]
  rcases num_j (N := N) (lo := 0) (hi := pD A - 1) (by omega) (by omega) E X (by omega) hM.1 hN with ⟨k, w, s', v, t', f, Dd, g, B, F⟩ | ⟨v, s', t', v1, v2, f, X', hp', g, R, g10, F⟩
  · left
    have D1 := DX_d F0 Dd
    have f2 := num_d (N := N) D1.1.1 (nI 0) (nI 9)
    have g2 := number_d (N := N) B (nI 0) (nI 9)
    have B5 := B.2.2.1
    have B1 := B.1
    have B2 := B.2.1
    refine ⟨k, w, sA s' 10 0 (nI 0), t', ?_, DXd_fr D1 (Fr_sA 10 _ _ (l := [10]) (by decide)) (by decide) (by decide), ?_, BM_d hM.2.2 B F (by decide) (by decide)⟩
    · rw [f, Option.bind_some, f2, Option.bind_some, cn_inb (by omega), grd_t, cn_ix (by omega)]
    · rw [g, Option.bind_some, g2, Option.bind_some]
      have q : (nI k = nI 0) = False := by rw [cn_eq (by omega)]; exact eq_false (by omega)
      simp only [B5, q, if_false]
  · have hp2 := X'.1
    have st := JX_st ⟨⟨mk, E⟩, X, D, F0⟩ X'
    obtain ⟨⟨mk2, E2⟩, X2, D2, F2⟩ := st
    have M2 := DM_fr F (by decide) hM.2.1
    have FM2 := FM_t hM.2.2 (FM_f F (by decide) (by decide))
    rcases num_j (N := N) (lo := 0) (hi := 9) (by omega) (by omega) E2 X2 (by omega) R hN with ⟨k, w, s2, v', t2, f2, Dd, g2, B, F3⟩ | ⟨v', s2, t2, v1', v2', f2, X3, hp3, g2, R3, _, F3⟩
    · left
      have B5 := B.2.2.1
      have B1 := B.1
      have B2 := B.2.1
      refine ⟨k, w, sA s2 10 v (nI 0), t2, ?_, DXd_fr (DX_d F2 Dd) (Fr_sA 10 _ _ (l := [10]) (by decide)) (by decide) (by decide), ?_, BM_d FM2 B F3 (by decide) (by decide)⟩
      · rw [f, Option.bind_some, f2, Option.bind_some, cn_inb (by omega), grd_t, cn_ix (by omega)]
      · rw [g, Option.bind_some, g2, Option.bind_some]
        have q : (nI k = nI 0) = False := by rw [cn_eq (by omega)]; exact eq_false (by omega)
        simp only [B5, q, if_false]
    · right
      have hp4 := X3.1
      have st := JX_st ⟨⟨mk2, E2⟩, X2, D2, F2⟩ X3
      obtain ⟨h1, h2, h3, h4, h5, h6, h7, h8, h9, h10, h11⟩ := st.2.2.1
      have D3 := DM_fr F3 (by decide) M2
      obtain ⟨m1', m2, m3, m4, m5, m6, m7, m8, m9, m10, m11, m12, m13⟩ := D3
      obtain ⟨⟨b1, b2, b3, b4, b5, b6, b7, b8, b9, b10⟩, w2, w3⟩ := hW
      have r5 := R3.2.2.1
      have r7 : (nI 0 = nI 0) = True := eq_true rfl
      have FA : FM t2 (sA t2 30 v (nI v')) := ⟨Fr_sA 30 _ _ (by decide), fun j hj => gA_ne (by omega), fun j hj => ⟨gA_ne (by omega), gA_ne (by omega)⟩, fun j hj => gA_ne (by omega), fun j hj => rfl⟩
      refine ⟨A, op, fU pt v v', L, M, kE tp n (kE tp n p), true, sA s2 10 v (nI v'), sA t2 30 v (nI v'), ?_, ?_, JX_cell st (Fr_sA 10 _ _ (l := [10]) (by decide)) (by decide) (by decide) ?_, ⟨RB_fr (Fr_sA 30 _ _ (l := [30]) (by decide)) (by decide) R3, ?_, FM_t FM2 (FM_t (FM_f F3 (by decide) (by decide)) FA)⟩, ⟨⟨b1, b2, b3, b4, b5, b6, b7, b8, b9, b10⟩, w2, fun d => ?_⟩, by omega, by omega, by omega, h0, ?_⟩
      · rw [f, Option.bind_some, f2, Option.bind_some, cn_inb (by omega), grd_t, cn_ix (by omega)]
      · rw [g, Option.bind_some, g2, Option.bind_some]
        simp only [r5, r7, if_true]
        rw [cn_inb (by omega), grd_t, cn_ix (by omega)]
      · refine ⟨h1, h2, h3, h4, h5, fun d hd => ?_, h7, h8, h9, fun w hw => XCd_same (h10 w hw) rfl (gA_ne (by omega)) (gA_ne (by omega)), h11⟩
        by_cases c : d = v
        · rw [c, gA_eq rfl, fU_s]
        · rw [gA_ne (by omega), fU_n c]; exact h6 d hd
      · refine ⟨by rw [gA_ne (by omega)]; exact m1', by rw [gA_ne (by omega)]; exact m2, by rw [gA_ne (by omega)]; exact m3, by rw [gA_ne (by omega)]; exact m4, m5, fun d hd => ?_, m7, m8, fun p hp => MCd_old (m9 p hp) rfl (gA_ne (by omega)) (gA_ne (by omega)) (fun i _ => gA_ne (by omega)) (Nat.le_refl _), fun h => MCd_old (m10 h) rfl (gA_ne (by omega)) (gA_ne (by omega)) (fun i _ => gA_ne (by omega)) (Nat.le_refl _), fun h => by rw [gA_ne (by omega)]; exact m11 h, fun h => MCd_old (m12 h) rfl (gA_ne (by omega)) (gA_ne (by omega)) (fun i _ => gA_ne (by omega)) (Nat.le_refl _), fun h => by rw [gA_ne (by omega)]; exact m13 h⟩
        by_cases c : d = v
        · rw [c, gA_eq rfl, fU_s]
        · rw [gA_ne (by omega), fU_n c]; exact m6 d hd
      · by_cases c : d = v
        · rw [c, fU_s]; exact v2'
        · rw [fU_n c]; exact w3 d
      · rw [gI_sA, F3.I 1045 0 (by decide), F.I 1045 0 (by decide)]; exact hx
end NUMS
