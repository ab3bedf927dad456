/-! A PORTER's NAME, read by the one, by the other -/
section NAME2
variable {N n p np k w mk : Nat} {tp : Nat → Nat} {b : Bool} {s s0 t : mS} {nm : Nat → List Nat} {L : List Nat}
theorem word_l (ht : ∀ i, i < n → tp i < 256) (hp : p ≤ n) (hk : kK tp n p b = 256) :
    (∀ i, i < kZ tp n p → 97 ≤ tp (skp tp n p + i) ∧ tp (skp tp n p + i) ≤ 122) ∧ 1 ≤ kZ tp n p ∧ kE tp n p = skp tp n p + kZ tp n p ∧ kE tp n p ≤ n ∧ (kE tp n p < n → isLe (tp (kE tp n p)) = false) ∧ kS tp n p = spW tp (skp tp n p) (min 6 (kZ tp n p)) ∧ skp tp n p < n ∧ isLe (tp (skp tp n p)) = true ∧ ¬ (b = true ∧ skp tp n p = p) := by
  obtain ⟨c, cl, ct⟩ := kK_w ht hk
  have sb := skp_b (tp := tp) hp
  have gt := wEn_gt (tp := tp) c cl
  have wb := wEn_b (tp := tp) (n := n) (p := skp tp n p) (by omega)
  have ez : kZ tp n p = wEn tp n (skp tp n p) - skp tp n p := by unfold kZ; rw [if_neg (by omega), if_pos cl]
  have es : kS tp n p = spW tp (skp tp n p) (min 6 (kZ tp n p)) := by unfold kS; rw [if_neg (by omega), if_pos cl]
  have ee : kE tp n p = wEn tp n (skp tp n p) := by unfold kE; rw [if_neg (by omega), if_pos cl]
  refine ⟨fun i hi => word_in (n := n) (by omega), by omega, by omega, by omega, fun h => ?_, es, c, cl, ct⟩
  have o := wEn_o (tp := tp) (n := n) (p := skp tp n p) (by omega) (by omega)
  rw [← ee] at o
  exact decide_eq_false (by omega)
theorem nm_ok (ht : ∀ i, i < n → tp i < 256) (hp : p ≤ n) (hk : kK tp n p b = 256) (hz : kZ tp n p ≤ 6) : NmO (nmL tp (skp tp n p) (kZ tp n p)) ∧ kS tp n p = vaL 100 (nmL tp (skp tp n p) (kZ tp n p)) := by
  obtain ⟨h1, h2, h3, h4, h5, h6, _⟩ := word_l ht hp hk
  refine ⟨⟨by rw [nmL_len]; exact h2, by rw [nmL_len]; exact hz, nmL_ok _ h1⟩, ?_⟩
  rw [h6, Nat.min_eq_right hz, spW_nm _ h1]
/-- the one side -/
theorem j117_d (h : DdX k w s) : f_Rd_name_j117 N s = some s := by
  have wd := word_d (N := N) h
  have fd := fail_d (N := N) h
  have ad := adv_d (N := N) h
  have q : (m1 = nI 8) = False := eq_false (by decide)
  simp (disch := first | omega | decide) only [f_Rd_name_j117, wd, fd, ad, q, zI_0, zI_1, zI_2, zI_3, zI_4, zI_5, zI_6, zI_7, zI_8, zI_9, zI_10, zI_11, zI_12, zI_13, zI_14, zI_15, zI_16, zI_17, zI_18, zI_19, zI_20, zI_21, zI_22, zI_23, zI_24, zI_25, zI_26, zI_27, zI_28, zI_29, zI_30, zI_31, zI_32, zI_33, zI_34, zI_35, zI_36, zI_37, zI_38, zI_39, zI_40, zI_41, zI_42, zI_43, zI_44, zI_45, zI_46, zI_47, zI_48, zI_49, zI_50, zI_51, zI_52, zI_53, zI_54, zI_55, zI_56, zI_57, zI_58, zI_59, zI_60, zI_61, zI_62, zI_63, zI_64, zI_65, zI_66, zI_67, zI_74, zI_84, zI_85, zI_88, zI_91, zI_93, zI_97, zI_99, zI_100, zI_102, zI_105, zI_117, zI_122, zI_193, zI_202, zI_205, zI_251, zI_255, zI_256, zI_257, zI_258, zI_259, zI_260, zI_640, zI_999, zI_1000, zI_1024, zI_1600, zI_1602, zI_1700, zI_2040, zI_3200, zI_4100, zI_9728, zI_11784, zI_61440, zI_65536, zI_470536, zI_999999, zI_1000000, Nat.reduceAdd, Nat.reduceSub, Nat.reduceMul, Nat.reduceLT, Nat.reduceEqDiff, eq_self, true_and, and_true, and_false, false_and, if_true, if_false, and_self, Bool.true_eq_false, Bool.false_eq_true, Option.bind_some]
theorem name_h (ht : ∀ i, i < n → tp i < 256) (h : TkA tp n p b s) : f_Rd_name N s = f_Rd_name_j21 N (nI (if 1 ≤ wdA tp n p b ∧ wdA tp n p b ≤ 25 then 1 else 0), s) := by
  have wd := word_w (N := N) ht h
  have wl := wdA_le (tp := tp) (n := n) (p := p) (b := b)
  cases hw : wdA tp n p b with
  | zero =>
    rw [hw, m1_0] at wd
    rw [if_neg (by omega)]
    have q : (m1 < nI 0) = True := cn_m1lt (by omega)
    simp (disch := first | omega | decide) only [f_Rd_name, wd, q, zI_0, zI_1, zI_2, zI_3, zI_4, zI_5, zI_6, zI_7, zI_8, zI_9, zI_10, zI_11, zI_12, zI_13, zI_14, zI_15, zI_16, zI_17, zI_18, zI_19, zI_20, zI_21, zI_22, zI_23, zI_24, zI_25, zI_26, zI_27, zI_28, zI_29, zI_30, zI_31, zI_32, zI_33, zI_34, zI_35, zI_36, zI_37, zI_38, zI_39, zI_40, zI_41, zI_42, zI_43, zI_44, zI_45, zI_46, zI_47, zI_48, zI_49, zI_50, zI_51, zI_52, zI_53, zI_54, zI_55, zI_56, zI_57, zI_58, zI_59, zI_60, zI_61, zI_62, zI_63, zI_64, zI_65, zI_66, zI_67, zI_74, zI_84, zI_85, zI_88, zI_91, zI_93, zI_97, zI_99, zI_100, zI_102, zI_105, zI_117, zI_122, zI_193, zI_202, zI_205, zI_251, zI_255, zI_256, zI_257, zI_258, zI_259, zI_260, zI_640, zI_999, zI_1000, zI_1024, zI_1600, zI_1602, zI_1700, zI_2040, zI_3200, zI_4100, zI_9728, zI_11784, zI_61440, zI_65536, zI_470536, zI_999999, zI_1000000, Nat.reduceAdd, Nat.reduceSub, Nat.reduceMul, Nat.reduceLT, Nat.reduceEqDiff, eq_self, true_and, and_true, and_false, false_and, if_true, if_false, and_self, Bool.true_eq_false, Bool.false_eq_true, Option.bind_some]
  | succ j =>
    rw [hw, m1_s] at wd
    by_cases c : j ≤ 24
    · rw [if_pos (by omega)]
      simp (disch := first | omega | decide) only [f_Rd_name, wd, zI_0, zI_1, zI_2, zI_3, zI_4, zI_5, zI_6, zI_7, zI_8, zI_9, zI_10, zI_11, zI_12, zI_13, zI_14, zI_15, zI_16, zI_17, zI_18, zI_19, zI_20, zI_21, zI_22, zI_23, zI_24, zI_25, zI_26, zI_27, zI_28, zI_29, zI_30, zI_31, zI_32, zI_33, zI_34, zI_35, zI_36, zI_37, zI_38, zI_39, zI_40, zI_41, zI_42, zI_43, zI_44, zI_45, zI_46, zI_47, zI_48, zI_49, zI_50, zI_51, zI_52, zI_53, zI_54, zI_55, zI_56, zI_57, zI_58, zI_59, zI_60, zI_61, zI_62, zI_63, zI_64, zI_65, zI_66, zI_67, zI_74, zI_84, zI_85, zI_88, zI_91, zI_93, zI_97, zI_99, zI_100, zI_102, zI_105, zI_117, zI_122, zI_193, zI_202, zI_205, zI_251, zI_255, zI_256, zI_257, zI_258, zI_259, zI_260, zI_640, zI_999, zI_1000, zI_1024, zI_1600, zI_1602, zI_1700, zI_2040, zI_3200, zI_4100, zI_9728, zI_11784, zI_61440, zI_65536, zI_470536, zI_999999, zI_1000000, lt_T, lt_F, le_T, le_F, eq_T, eq_F, neg_1, cn_m1p, cn_m11, nI_add, cn_sub, pk_mul, cn_div, cn_irm, cn_lt, cn_eq, cn_ltm1, cn_m1lt, cn_eqm1, cn_m1eq, cn_ix, cn_inb, cn_ninb, cn_irs, cn_ils, cn_and, cn_or, cn_xor, grd_t, grd_bt, grd_bl, Nat.add_zero, Nat.zero_add, Nat.reduceAdd, Nat.reduceSub, Nat.reduceMul, Nat.reduceLT, Nat.reduceEqDiff, eq_self, true_and, and_true, and_false, false_and, if_true, if_false, and_self, Bool.true_eq_false, Bool.false_eq_true, Option.bind_some]
    · rw [if_neg (by omega)]
      simp (disch := first | omega | decide) only [f_Rd_name, wd, zI_0, zI_1, zI_2, zI_3, zI_4, zI_5, zI_6, zI_7, zI_8, zI_9, zI_10, zI_11, zI_12, zI_13, zI_14, zI_15, zI_16, zI_17, zI_18, zI_19, zI_20, zI_21, zI_22, zI_23, zI_24, zI_25, zI_26, zI_27, zI_28, zI_29, zI_30, zI_31, zI_32, zI_33, zI_34, zI_35, zI_36, zI_37, zI_38, zI_39, zI_40, zI_41, zI_42, zI_43, zI_44, zI_45, zI_46, zI_47, zI_48, zI_49, zI_50, zI_51, zI_52, zI_53, zI_54, zI_55, zI_56, zI_57, zI_58, zI_59, zI_60, zI_61, zI_62, zI_63, zI_64, zI_65, zI_66, zI_67, zI_74, zI_84, zI_85, zI_88, zI_91, zI_93, zI_97, zI_99, zI_100, zI_102, zI_105, zI_117, zI_122, zI_193, zI_202, zI_205, zI_251, zI_255, zI_256, zI_257, zI_258, zI_259, zI_260, zI_640, zI_999, zI_1000, zI_1024, zI_1600, zI_1602, zI_1700, zI_2040, zI_3200, zI_4100, zI_9728, zI_11784, zI_61440, zI_65536, zI_470536, zI_999999, zI_1000000, lt_T, lt_F, le_T, le_F, eq_T, eq_F, neg_1, cn_m1p, cn_m11, nI_add, cn_sub, pk_mul, cn_div, cn_irm, cn_lt, cn_eq, cn_ltm1, cn_m1lt, cn_eqm1, cn_m1eq, cn_ix, cn_inb, cn_ninb, cn_irs, cn_ils, cn_and, cn_or, cn_xor, grd_t, grd_bt, grd_bl, Nat.add_zero, Nat.zero_add, Nat.reduceAdd, Nat.reduceSub, Nat.reduceMul, Nat.reduceLT, Nat.reduceEqDiff, eq_self, true_and, and_true, and_false, false_and, if_true, if_false, and_self, Bool.true_eq_false, Bool.false_eq_true, Option.bind_some]
theorem j117_f {v : Int32} {s1 s2 s3 : mS} (f : f_Rd_advance N s = some s1) (wd : f_Rd_word N s1 = some (v, s1)) (q : (v = nI 8) = False) (g : f_Rd_fail N (nI 1) (gI s1 606 18) s1 = some s2) (h : f_Rd_advance N s2 = some s3) : f_Rd_name_j117 N s = some s3 := by
  simp (disch := first | omega | decide) only [f_Rd_name_j117, f, wd, q, g, h, zI_0, zI_1, zI_2, zI_3, zI_4, zI_5, zI_6, zI_7, zI_8, zI_9, zI_10, zI_11, zI_12, zI_13, zI_14, zI_15, zI_16, zI_17, zI_18, zI_19, zI_20, zI_21, zI_22, zI_23, zI_24, zI_25, zI_26, zI_27, zI_28, zI_29, zI_30, zI_31, zI_32, zI_33, zI_34, zI_35, zI_36, zI_37, zI_38, zI_39, zI_40, zI_41, zI_42, zI_43, zI_44, zI_45, zI_46, zI_47, zI_48, zI_49, zI_50, zI_51, zI_52, zI_53, zI_54, zI_55, zI_56, zI_57, zI_58, zI_59, zI_60, zI_61, zI_62, zI_63, zI_64, zI_65, zI_66, zI_67, zI_74, zI_84, zI_85, zI_88, zI_91, zI_93, zI_97, zI_99, zI_100, zI_102, zI_105, zI_117, zI_122, zI_193, zI_202, zI_205, zI_251, zI_255, zI_256, zI_257, zI_258, zI_259, zI_260, zI_640, zI_999, zI_1000, zI_1024, zI_1600, zI_1602, zI_1700, zI_2040, zI_3200, zI_4100, zI_9728, zI_11784, zI_61440, zI_65536, zI_470536, zI_999999, zI_1000000, Nat.reduceAdd, Nat.reduceSub, Nat.reduceMul, Nat.reduceLT, Nat.reduceEqDiff, eq_self, true_and, and_true, and_false, false_and, if_true, if_false, and_self, Bool.true_eq_false, Bool.false_eq_true, Option.bind_some]
theorem name_c1 (E : CE tp n 12 mk s0) (h : CX tp n 12 s0 p b 0 L s) (hl : L.length ≤ 1602) (hb : kK tp n p b ≠ 256 ∨ (1 ≤ wdA tp n p b ∧ wdA tp n p b ≤ 25)) : ∃ s', f_Rd_name N s = some s' ∧ CD 12 s0 1 (skp tp n p) s' := by
  obtain ⟨hT, hO, hm, ht⟩ := CE_x E h
  have kle := kK_le (b := b) (p := p) ht
  obtain ⟨k1, k2, k3, k4, k5, k6⟩ := h.2.1
  obtain ⟨s1, f1, D1⟩ := c_fail (N := N) (k := 1) (w := skp tp n p) E h hl (by omega)
  have j := j117_d (N := N) D1.1.1
  refine ⟨s1, ?_, D1⟩
  rw [name_h ht h.2.1]
  have j36 : f_Rd_name_j36 N s = some s1 := by simp (disch := first | omega | decide) only [f_Rd_name_j36, k2, f1, j, zI_0, zI_1, zI_2, zI_3, zI_4, zI_5, zI_6, zI_7, zI_8, zI_9, zI_10, zI_11, zI_12, zI_13, zI_14, zI_15, zI_16, zI_17, zI_18, zI_19, zI_20, zI_21, zI_22, zI_23, zI_24, zI_25, zI_26, zI_27, zI_28, zI_29, zI_30, zI_31, zI_32, zI_33, zI_34, zI_35, zI_36, zI_37, zI_38, zI_39, zI_40, zI_41, zI_42, zI_43, zI_44, zI_45, zI_46, zI_47, zI_48, zI_49, zI_50, zI_51, zI_52, zI_53, zI_54, zI_55, zI_56, zI_57, zI_58, zI_59, zI_60, zI_61, zI_62, zI_63, zI_64, zI_65, zI_66, zI_67, zI_74, zI_84, zI_85, zI_88, zI_91, zI_93, zI_97, zI_99, zI_100, zI_102, zI_105, zI_117, zI_122, zI_193, zI_202, zI_205, zI_251, zI_255, zI_256, zI_257, zI_258, zI_259, zI_260, zI_640, zI_999, zI_1000, zI_1024, zI_1600, zI_1602, zI_1700, zI_2040, zI_3200, zI_4100, zI_9728, zI_11784, zI_61440, zI_65536, zI_470536, zI_999999, zI_1000000, lt_T, lt_F, le_T, le_F, eq_T, eq_F, neg_1, cn_m1p, cn_m11, nI_add, cn_sub, pk_mul, cn_div, cn_irm, cn_lt, cn_eq, cn_ltm1, cn_m1lt, cn_eqm1, cn_m1eq, cn_ix, cn_inb, cn_ninb, cn_irs, cn_ils, cn_and, cn_or, cn_xor, grd_t, grd_bt, grd_bl, Nat.add_zero, Nat.zero_add, Nat.reduceAdd, Nat.reduceSub, Nat.reduceMul, Nat.reduceLT, Nat.reduceEqDiff, eq_self, true_and, and_true, and_false, false_and, if_true, if_false, and_self, Bool.true_eq_false, Bool.false_eq_true, Option.bind_some]
  by_cases c : kK tp n p b = 256
  · rw [if_pos (hb.resolve_left (fun h => h c))]
    rw [c] at k1
    simp (disch := first | omega | decide) only [f_Rd_name_j21, k1, j36, zI_0, zI_1, zI_2, zI_3, zI_4, zI_5, zI_6, zI_7, zI_8, zI_9, zI_10, zI_11, zI_12, zI_13, zI_14, zI_15, zI_16, zI_17, zI_18, zI_19, zI_20, zI_21, zI_22, zI_23, zI_24, zI_25, zI_26, zI_27, zI_28, zI_29, zI_30, zI_31, zI_32, zI_33, zI_34, zI_35, zI_36, zI_37, zI_38, zI_39, zI_40, zI_41, zI_42, zI_43, zI_44, zI_45, zI_46, zI_47, zI_48, zI_49, zI_50, zI_51, zI_52, zI_53, zI_54, zI_55, zI_56, zI_57, zI_58, zI_59, zI_60, zI_61, zI_62, zI_63, zI_64, zI_65, zI_66, zI_67, zI_74, zI_84, zI_85, zI_88, zI_91, zI_93, zI_97, zI_99, zI_100, zI_102, zI_105, zI_117, zI_122, zI_193, zI_202, zI_205, zI_251, zI_255, zI_256, zI_257, zI_258, zI_259, zI_260, zI_640, zI_999, zI_1000, zI_1024, zI_1600, zI_1602, zI_1700, zI_2040, zI_3200, zI_4100, zI_9728, zI_11784, zI_61440, zI_65536, zI_470536, zI_999999, zI_1000000, lt_T, lt_F, le_T, le_F, eq_T, eq_F, neg_1, cn_m1p, cn_m11, nI_add, cn_sub, pk_mul, cn_div, cn_irm, cn_lt, cn_eq, cn_ltm1, cn_m1lt, cn_eqm1, cn_m1eq, cn_ix, cn_inb, cn_ninb, cn_irs, cn_ils, cn_and, cn_or, cn_xor, grd_t, grd_bt, grd_bl, Nat.add_zero, Nat.zero_add, Nat.reduceAdd, Nat.reduceSub, Nat.reduceMul, Nat.reduceLT, Nat.reduceEqDiff, eq_self, true_and, and_true, and_false, false_and, if_true, if_false, and_self, Bool.true_eq_false, Bool.false_eq_true]
  · have q : (nI (kK tp n p b) = nI 256) = False := by rw [cn_eq (by omega)]; exact eq_false c
    simp (disch := first | omega | decide) only [f_Rd_name_j21, k1, q, j36, zI_0, zI_1, zI_2, zI_3, zI_4, zI_5, zI_6, zI_7, zI_8, zI_9, zI_10, zI_11, zI_12, zI_13, zI_14, zI_15, zI_16, zI_17, zI_18, zI_19, zI_20, zI_21, zI_22, zI_23, zI_24, zI_25, zI_26, zI_27, zI_28, zI_29, zI_30, zI_31, zI_32, zI_33, zI_34, zI_35, zI_36, zI_37, zI_38, zI_39, zI_40, zI_41, zI_42, zI_43, zI_44, zI_45, zI_46, zI_47, zI_48, zI_49, zI_50, zI_51, zI_52, zI_53, zI_54, zI_55, zI_56, zI_57, zI_58, zI_59, zI_60, zI_61, zI_62, zI_63, zI_64, zI_65, zI_66, zI_67, zI_74, zI_84, zI_85, zI_88, zI_91, zI_93, zI_97, zI_99, zI_100, zI_102, zI_105, zI_117, zI_122, zI_193, zI_202, zI_205, zI_251, zI_255, zI_256, zI_257, zI_258, zI_259, zI_260, zI_640, zI_999, zI_1000, zI_1024, zI_1600, zI_1602, zI_1700, zI_2040, zI_3200, zI_4100, zI_9728, zI_11784, zI_61440, zI_65536, zI_470536, zI_999999, zI_1000000, Nat.reduceAdd, Nat.reduceSub, Nat.reduceMul, Nat.reduceLT, Nat.reduceEqDiff, eq_self, true_and, and_true, and_false, false_and, if_true, if_false, and_self, Bool.true_eq_false, Bool.false_eq_true]
theorem name_c2 (E : CE tp n 12 mk s0) (h : CX tp n 12 s0 p b 0 L s) (hl : L.length ≤ 1602) (hk : kK tp n p b = 256) (ho : ¬ (1 ≤ wdA tp n p b ∧ wdA tp n p b ≤ 25)) (hz : 6 < kZ tp n p) : ∃ s', f_Rd_name N s = some s' ∧ CD 12 s0 1 (skp tp n p + 6) s' := by
  obtain ⟨hT, hO, hm, ht⟩ := CE_x E h
  have hn := hT.1
  obtain ⟨h1, h2, h3, h4, h5, h6, _⟩ := word_l ht h.1 hk
  obtain ⟨k1, k2, k3, k4, k5, k6⟩ := h.2.1
  obtain ⟨s1, f1, D1⟩ := c_fail (N := N) (k := 1) (w := skp tp n p + 6) E h hl (by omega)
  have j := j117_d (N := N) D1.1.1
  refine ⟨s1, ?_, D1⟩
  rw [name_h ht h.2.1, if_neg ho]
  rw [hk] at k1
  simp (disch := first | omega | decide) only [f_Rd_name_j21, k1, k2, k3, f1, j, zI_0, zI_1, zI_2, zI_3, zI_4, zI_5, zI_6, zI_7, zI_8, zI_9, zI_10, zI_11, zI_12, zI_13, zI_14, zI_15, zI_16, zI_17, zI_18, zI_19, zI_20, zI_21, zI_22, zI_23, zI_24, zI_25, zI_26, zI_27, zI_28, zI_29, zI_30, zI_31, zI_32, zI_33, zI_34, zI_35, zI_36, zI_37, zI_38, zI_39, zI_40, zI_41, zI_42, zI_43, zI_44, zI_45, zI_46, zI_47, zI_48, zI_49, zI_50, zI_51, zI_52, zI_53, zI_54, zI_55, zI_56, zI_57, zI_58, zI_59, zI_60, zI_61, zI_62, zI_63, zI_64, zI_65, zI_66, zI_67, zI_74, zI_84, zI_85, zI_88, zI_91, zI_93, zI_97, zI_99, zI_100, zI_102, zI_105, zI_117, zI_122, zI_193, zI_202, zI_205, zI_251, zI_255, zI_256, zI_257, zI_258, zI_259, zI_260, zI_640, zI_999, zI_1000, zI_1024, zI_1600, zI_1602, zI_1700, zI_2040, zI_3200, zI_4100, zI_9728, zI_11784, zI_61440, zI_65536, zI_470536, zI_999999, zI_1000000, lt_T, lt_F, le_T, le_F, eq_T, eq_F, neg_1, cn_m1p, cn_m11, nI_add, cn_sub, pk_mul, cn_div, cn_irm, cn_lt, cn_eq, cn_ltm1, cn_m1lt, cn_eqm1, cn_m1eq, cn_ix, cn_inb, cn_ninb, cn_irs, cn_ils, cn_and, cn_or, cn_xor, grd_t, grd_bt, grd_bl, Nat.add_zero, Nat.zero_add, Nat.reduceAdd, Nat.reduceSub, Nat.reduceMul, Nat.reduceLT, Nat.reduceEqDiff, eq_self, true_and, and_true, and_false, false_and, if_true, if_false, and_self, Bool.true_eq_false, Bool.false_eq_true, Option.bind_some]
theorem name_c3 (E : CE tp n 12 mk s0) (h : CX tp n 12 s0 p b 0 L s) (hl : L.length ≤ 1602) (hk : kK tp n p b = 256) (ho : ¬ (1 ≤ wdA tp n p b ∧ wdA tp n p b ≤ 25)) (hz : kZ tp n p ≤ 6) (hnp : np ≤ 10) (hp1 : gI s 401 9 = nI np) (hc : ∀ p, p < np → gQ s 11 p = lN (nmX (nm p)) ∧ NmO (nm p)) {j : Nat} (hj : j < np) (he : nm j = nmL tp (skp tp n p) (kZ tp n p)) (hN : 10000 ≤ N) : ∃ s', f_Rd_name N s = some s' ∧ CD 12 s0 3 (skp tp n p) s' := by
  obtain ⟨hT, hO, hm, ht⟩ := CE_x E h
  have hn := hT.1
  obtain ⟨h1, h2, h3, h4, h5, h6, _⟩ := word_l ht h.1 hk
  obtain ⟨m1', m2'⟩ := nm_ok ht h.1 hk hz
  obtain ⟨k1, k2, k3, k4, k5, k6⟩ := h.2.1
  obtain ⟨s1, f1, D1⟩ := c_fail (N := N) (k := 3) (w := skp tp n p) E h hl (by omega)
  have jd := j117_d (N := N) D1.1.1
  have fu := fullName_n (N := N) (s := s) m1' (nmL_len _) hN
  have hh := hasN_1 (N := N) hj hnp hp1 hc m1' he j 0 N (by omega) (by omega)
  rw [m2'] at k5
  refine ⟨s1, ?_, D1⟩
  rw [name_h ht h.2.1, if_neg ho]
  rw [hk] at k1
  simp (disch := first | omega | decide) only [f_Rd_name_j21, f_Pl_hasName, k1, k2, k3, k5, fu, hh, f1, jd, zI_0, zI_1, zI_2, zI_3, zI_4, zI_5, zI_6, zI_7, zI_8, zI_9, zI_10, zI_11, zI_12, zI_13, zI_14, zI_15, zI_16, zI_17, zI_18, zI_19, zI_20, zI_21, zI_22, zI_23, zI_24, zI_25, zI_26, zI_27, zI_28, zI_29, zI_30, zI_31, zI_32, zI_33, zI_34, zI_35, zI_36, zI_37, zI_38, zI_39, zI_40, zI_41, zI_42, zI_43, zI_44, zI_45, zI_46, zI_47, zI_48, zI_49, zI_50, zI_51, zI_52, zI_53, zI_54, zI_55, zI_56, zI_57, zI_58, zI_59, zI_60, zI_61, zI_62, zI_63, zI_64, zI_65, zI_66, zI_67, zI_74, zI_84, zI_85, zI_88, zI_91, zI_93, zI_97, zI_99, zI_100, zI_102, zI_105, zI_117, zI_122, zI_193, zI_202, zI_205, zI_251, zI_255, zI_256, zI_257, zI_258, zI_259, zI_260, zI_640, zI_999, zI_1000, zI_1024, zI_1600, zI_1602, zI_1700, zI_2040, zI_3200, zI_4100, zI_9728, zI_11784, zI_61440, zI_65536, zI_470536, zI_999999, zI_1000000, lt_T, lt_F, le_T, le_F, eq_T, eq_F, neg_1, cn_m1p, cn_m11, nI_add, cn_sub, pk_mul, cn_div, cn_irm, cn_lt, cn_eq, cn_ltm1, cn_m1lt, cn_eqm1, cn_m1eq, cn_ix, cn_inb, cn_ninb, cn_irs, cn_ils, cn_and, cn_or, cn_xor, grd_t, grd_bt, grd_bl, Nat.add_zero, Nat.zero_add, Nat.reduceAdd, Nat.reduceSub, Nat.reduceMul, Nat.reduceLT, Nat.reduceEqDiff, eq_self, true_and, and_true, and_false, false_and, if_true, if_false, and_self, Bool.true_eq_false, Bool.false_eq_true, Option.bind_some]
/-- a name is put down -/
noncomputable def nmS (np : Nat) (l : List Nat) (s : mS) : mS := sI (sQ s 11 np (lN (nmX l))) 401 9 (nI (np + 1))
theorem Fr_nm {l : List Nat} : Fr [5011, 50109] s (nmS np l s) := Fr_t (Fr_sQ 11 _ _ (by decide)) (Fr_sI _ _ _ (by decide))
theorem name_c4 (E : CE tp n 12 mk s0) (h : CX tp n 12 s0 p b 0 L s) (hl : L.length ≤ 1602) (hk : kK tp n p b = 256) (ho : ¬ (1 ≤ wdA tp n p b ∧ wdA tp n p b ≤ 25)) (hz : kZ tp n p ≤ 6) (hnp : np < 10) (hp1 : gI s 401 9 = nI np) (hc : ∀ p, p < np → gQ s 11 p = lN (nmX (nm p)) ∧ NmO (nm p)) (he : ∀ j, j < np → nm j ≠ nmL tp (skp tp n p) (kZ tp n p)) (hN : 10000 ≤ N) :
    (wdA tp n (kE tp n p) true ≠ 9 → ∃ s', f_Rd_name N s = some s' ∧ CD 12 (nmS np (nmL tp (skp tp n p) (kZ tp n p)) s) 1 (skp tp n (kE tp n p)) s') ∧
    (wdA tp n (kE tp n p) true = 9 → ∃ s', f_Rd_name N s = some s' ∧ CE tp n 12 mk (nmS np (nmL tp (skp tp n p) (kZ tp n p)) s) ∧ CX tp n 12 (nmS np (nmL tp (skp tp n p) (kZ tp n p)) s) (kE tp n (kE tp n p)) true 0 L s' ∧ kE tp n p < kE tp n (kE tp n p)) := by
  obtain ⟨hT, hO, hm, ht⟩ := CE_x E h
  have hn := hT.1
  obtain ⟨h1, h2, h3, h4, h5, h6, _⟩ := word_l ht h.1 hk
  obtain ⟨m1', m2'⟩ := nm_ok ht h.1 hk hz
  obtain ⟨k1, k2, k3, k4, k5, k6⟩ := h.2.1
  obtain ⟨E1, X1⟩ := CX_re E h
  have fu := fullName_n (N := N) (s := s) m1' (nmL_len _) hN
  have hh := hasN_0 (N := N) (by omega) hp1 hc m1' he np 0 N (by omega) (by omega)
  have ad := addName_n (N := N) hnp hp1 m1' (nmL_len _) hN
  rw [m2'] at k5
  have E2 := CE_fr (Fr_nm (np := np) (l := nmL tp (skp tp n p) (kZ tp n p))) (by decide) E1
  have X2 := CX_fr (Fr_nm (np := np) (l := nmL tp (skp tp n p) (kZ tp n p))) (by decide) X1
  obtain ⟨s3, f3, X3⟩ := c_adv (N := N) E2 X2 hN
  rw [hk, show nbK 256 = true from rfl] at X3
  have wd := word_w (N := N) ht X3.2.1
  have wl := wdA_le (tp := tp) (n := n) (p := kE tp n p) (b := true)
  have head : f_Rd_name N s = f_Rd_name_j117 N (nmS np (nmL tp (skp tp n p) (kZ tp n p)) s) := by
    rw [name_h ht h.2.1, if_neg ho]
    rw [hk] at k1
    unfold nmS
    simp (disch := first | omega | decide) only [f_Rd_name_j21, f_Pl_hasName, k1, k2, k3, k5, fu, hh, ad, zI_0, zI_1, zI_2, zI_3, zI_4, zI_5, zI_6, zI_7, zI_8, zI_9, zI_10, zI_11, zI_12, zI_13, zI_14, zI_15, zI_16, zI_17, zI_18, zI_19, zI_20, zI_21, zI_22, zI_23, zI_24, zI_25, zI_26, zI_27, zI_28, zI_29, zI_30, zI_31, zI_32, zI_33, zI_34, zI_35, zI_36, zI_37, zI_38, zI_39, zI_40, zI_41, zI_42, zI_43, zI_44, zI_45, zI_46, zI_47, zI_48, zI_49, zI_50, zI_51, zI_52, zI_53, zI_54, zI_55, zI_56, zI_57, zI_58, zI_59, zI_60, zI_61, zI_62, zI_63, zI_64, zI_65, zI_66, zI_67, zI_74, zI_84, zI_85, zI_88, zI_91, zI_93, zI_97, zI_99, zI_100, zI_102, zI_105, zI_117, zI_122, zI_193, zI_202, zI_205, zI_251, zI_255, zI_256, zI_257, zI_258, zI_259, zI_260, zI_640, zI_999, zI_1000, zI_1024, zI_1600, zI_1602, zI_1700, zI_2040, zI_3200, zI_4100, zI_9728, zI_11784, zI_61440, zI_65536, zI_470536, zI_999999, zI_1000000, lt_T, lt_F, le_T, le_F, eq_T, eq_F, neg_1, cn_m1p, cn_m11, nI_add, cn_sub, pk_mul, cn_div, cn_irm, cn_lt, cn_eq, cn_ltm1, cn_m1lt, cn_eqm1, cn_m1eq, cn_ix, cn_inb, cn_ninb, cn_irs, cn_ils, cn_and, cn_or, cn_xor, grd_t, grd_bt, grd_bl, Nat.add_zero, Nat.zero_add, Nat.reduceAdd, Nat.reduceSub, Nat.reduceMul, Nat.reduceLT, Nat.reduceEqDiff, eq_self, true_and, and_true, and_false, false_and, if_true, if_false, and_self, Bool.true_eq_false, Bool.false_eq_true, Option.bind_some]
  rw [head]
  refine ⟨fun hw => ?_, fun hw => ?_⟩
  · have q : (nI (wdA tp n (kE tp n p) true) + m1 = nI 8) = False := by rw [wm_n wl (by omega)]; exact eq_false hw
    obtain ⟨s4, f4, D4⟩ := c_fail (N := N) (k := 1) (w := skp tp n (kE tp n p)) E2 X3 hl (by omega)
    have a4 := adv_d (N := N) D4.1.1
    have k2' := X3.2.1.2.1
    exact ⟨s4, j117_f f3 wd q (by rw [k2']; exact f4) a4, D4⟩
  · rw [hw, m1_s] at wd
    obtain ⟨s4, f4, X4, p4, _⟩ := c_wd E2 X3 hw hN
    refine ⟨s4, ?_, E2, X4, p4⟩
    simp (disch := first | omega | decide) only [f_Rd_name_j117, f3, wd, f4, zI_0, zI_1, zI_2, zI_3, zI_4, zI_5, zI_6, zI_7, zI_8, zI_9, zI_10, zI_11, zI_12, zI_13, zI_14, zI_15, zI_16, zI_17, zI_18, zI_19, zI_20, zI_21, zI_22, zI_23, zI_24, zI_25, zI_26, zI_27, zI_28, zI_29, zI_30, zI_31, zI_32, zI_33, zI_34, zI_35, zI_36, zI_37, zI_38, zI_39, zI_40, zI_41, zI_42, zI_43, zI_44, zI_45, zI_46, zI_47, zI_48, zI_49, zI_50, zI_51, zI_52, zI_53, zI_54, zI_55, zI_56, zI_57, zI_58, zI_59, zI_60, zI_61, zI_62, zI_63, zI_64, zI_65, zI_66, zI_67, zI_74, zI_84, zI_85, zI_88, zI_91, zI_93, zI_97, zI_99, zI_100, zI_102, zI_105, zI_117, zI_122, zI_193, zI_202, zI_205, zI_251, zI_255, zI_256, zI_257, zI_258, zI_259, zI_260, zI_640, zI_999, zI_1000, zI_1024, zI_1600, zI_1602, zI_1700, zI_2040, zI_3200, zI_4100, zI_9728, zI_11784, zI_61440, zI_65536, zI_470536, zI_999999, zI_1000000, lt_T, lt_F, le_T, le_F, eq_T, eq_F, neg_1, cn_m1p, cn_m11, nI_add, cn_sub, pk_mul, cn_div, cn_irm, cn_lt, cn_eq, cn_ltm1, cn_m1lt, cn_eqm1, cn_m1eq, cn_ix, cn_inb, cn_ninb, cn_irs, cn_ils, cn_and, cn_or, cn_xor, grd_t, grd_bt, grd_bl, Nat.add_zero, Nat.zero_add, Nat.reduceAdd, Nat.reduceSub, Nat.reduceMul, Nat.reduceLT, Nat.reduceEqDiff, eq_self, true_and, and_true, and_false, false_and, if_true, if_false, and_self, Bool.true_eq_false, Bool.false_eq_true, Option.bind_some]
/-- the other side -/
def kNm : List Nat := [110200, 110400, 110500, 110600, 113600]
def kNh : List Nat := [110200, 110400, 113600]
theorem name_r1 (h : RB tp n p b t) (hb : kK tp n p b ≠ 256 ∨ (1 ≤ wdA tp n p b ∧ wdA tp n p b ≤ 25)) (hN : 10000 ≤ N) : ∃ t', f_M_name N t = some (0, t') ∧ BdM 1 (skp tp n p) t' ∧ Fr kNm t t' := by
  have l := look_b h hN
  have hL := RB_lk h
  have e2 := hL.2.2.2.2.2
  have h5 := h.2.2.1
  have hT := hL.1
  have en := ended_n hL.2.2.2 hT.1
  have F0 : Fr kNm t (lk tp n p t) := Fr_w Fr_lk (by decide)
  have ow := own_b (N := N) (RL_RB hL) hN
  rw [lk_RL hL] at ow
  obtain ⟨t', f, B, F⟩ := mfail_l (N := N) (k := 1) (w := skp tp n p) hL.2.2.1 (by omega)
  have j : f_M_name_j37 N (lk tp n p t) = some (0, t') := by simp (disch := first | omega | decide) only [f_M_name_j37, e2, f, zI_1, Option.bind_some]
  refine ⟨t', ?_, B, Fr_t F0 (Fr_w F (by decide))⟩
  by_cases c : skp tp n p < n
  · have hb' := (hT.2.2 _ c).1
    have ch : chM tp n p = nI (tp (skp tp n p)) := by unfold chM; rw [if_pos c]
    have d := isLetter_n (N := N) (t := lk tp n p t) hb'
    by_cases cl : isLe (tp (skp tp n p)) = true
    · rw [cl] at d
      by_cases ct : b = true ∧ skp tp n p = p
      · have en' := en.trans (eq_true ct)
        simp (disch := first | omega | decide) only [f_M_name, h5, l, ch, d, en', j, zI_0, zI_1, zI_2, zI_3, zI_4, zI_5, zI_6, zI_7, zI_8, zI_9, zI_10, zI_11, zI_12, zI_13, zI_14, zI_15, zI_16, zI_17, zI_18, zI_19, zI_20, zI_21, zI_22, zI_23, zI_24, zI_25, zI_26, zI_27, zI_28, zI_29, zI_30, zI_31, zI_32, zI_33, zI_34, zI_35, zI_36, zI_37, zI_38, zI_39, zI_40, zI_41, zI_42, zI_43, zI_44, zI_45, zI_46, zI_47, zI_48, zI_49, zI_50, zI_51, zI_52, zI_53, zI_54, zI_55, zI_56, zI_57, zI_58, zI_59, zI_60, zI_61, zI_62, zI_63, zI_64, zI_65, zI_66, zI_67, zI_74, zI_84, zI_85, zI_88, zI_91, zI_93, zI_97, zI_99, zI_100, zI_102, zI_105, zI_117, zI_122, zI_193, zI_202, zI_205, zI_251, zI_255, zI_256, zI_257, zI_258, zI_259, zI_260, zI_640, zI_999, zI_1000, zI_1024, zI_1600, zI_1602, zI_1700, zI_2040, zI_3200, zI_4100, zI_9728, zI_11784, zI_61440, zI_65536, zI_470536, zI_999999, zI_1000000, lt_T, lt_F, le_T, le_F, eq_T, eq_F, neg_1, cn_m1p, cn_m11, nI_add, cn_sub, pk_mul, cn_div, cn_irm, cn_lt, cn_eq, cn_ltm1, cn_m1lt, cn_eqm1, cn_m1eq, cn_ix, cn_inb, cn_ninb, cn_irs, cn_ils, cn_and, cn_or, cn_xor, grd_t, grd_bt, grd_bl, Nat.add_zero, Nat.zero_add, Nat.reduceAdd, Nat.reduceSub, Nat.reduceMul, Nat.reduceLT, Nat.reduceEqDiff, eq_self, true_and, and_true, and_false, false_and, if_true, if_false, and_self, Bool.true_eq_false, Bool.false_eq_true, Option.bind_some]
      · have en' := en.trans (eq_false ct)
        have ek : kK tp n p b = 256 := by unfold kK; rw [if_neg (by omega), if_pos cl, if_neg ct]
        rw [if_pos (hb.resolve_left (fun h => h ek))] at ow
        simp (disch := first | omega | decide) only [f_M_name, h5, l, ch, d, en', ow, j, zI_0, zI_1, zI_2, zI_3, zI_4, zI_5, zI_6, zI_7, zI_8, zI_9, zI_10, zI_11, zI_12, zI_13, zI_14, zI_15, zI_16, zI_17, zI_18, zI_19, zI_20, zI_21, zI_22, zI_23, zI_24, zI_25, zI_26, zI_27, zI_28, zI_29, zI_30, zI_31, zI_32, zI_33, zI_34, zI_35, zI_36, zI_37, zI_38, zI_39, zI_40, zI_41, zI_42, zI_43, zI_44, zI_45, zI_46, zI_47, zI_48, zI_49, zI_50, zI_51, zI_52, zI_53, zI_54, zI_55, zI_56, zI_57, zI_58, zI_59, zI_60, zI_61, zI_62, zI_63, zI_64, zI_65, zI_66, zI_67, zI_74, zI_84, zI_85, zI_88, zI_91, zI_93, zI_97, zI_99, zI_100, zI_102, zI_105, zI_117, zI_122, zI_193, zI_202, zI_205, zI_251, zI_255, zI_256, zI_257, zI_258, zI_259, zI_260, zI_640, zI_999, zI_1000, zI_1024, zI_1600, zI_1602, zI_1700, zI_2040, zI_3200, zI_4100, zI_9728, zI_11784, zI_61440, zI_65536, zI_470536, zI_999999, zI_1000000, lt_T, lt_F, le_T, le_F, eq_T, eq_F, neg_1, cn_m1p, cn_m11, nI_add, cn_sub, pk_mul, cn_div, cn_irm, cn_lt, cn_eq, cn_ltm1, cn_m1lt, cn_eqm1, cn_m1eq, cn_ix, cn_inb, cn_ninb, cn_irs, cn_ils, cn_and, cn_or, cn_xor, grd_t, grd_bt, grd_bl, Nat.add_zero, Nat.zero_add, Nat.reduceAdd, Nat.reduceSub, Nat.reduceMul, Nat.reduceLT, Nat.reduceEqDiff, eq_self, true_and, and_true, and_false, false_and, if_true, if_false, and_self, Bool.true_eq_false, Bool.false_eq_true, Option.bind_some]
    · have clf : isLe (tp (skp tp n p)) = false := by simpa using cl
      rw [clf] at d
      simp (disch := first | omega | decide) only [f_M_name, h5, l, ch, d, j, zI_0, zI_1, zI_2, zI_3, zI_4, zI_5, zI_6, zI_7, zI_8, zI_9, zI_10, zI_11, zI_12, zI_13, zI_14, zI_15, zI_16, zI_17, zI_18, zI_19, zI_20, zI_21, zI_22, zI_23, zI_24, zI_25, zI_26, zI_27, zI_28, zI_29, zI_30, zI_31, zI_32, zI_33, zI_34, zI_35, zI_36, zI_37, zI_38, zI_39, zI_40, zI_41, zI_42, zI_43, zI_44, zI_45, zI_46, zI_47, zI_48, zI_49, zI_50, zI_51, zI_52, zI_53, zI_54, zI_55, zI_56, zI_57, zI_58, zI_59, zI_60, zI_61, zI_62, zI_63, zI_64, zI_65, zI_66, zI_67, zI_74, zI_84, zI_85, zI_88, zI_91, zI_93, zI_97, zI_99, zI_100, zI_102, zI_105, zI_117, zI_122, zI_193, zI_202, zI_205, zI_251, zI_255, zI_256, zI_257, zI_258, zI_259, zI_260, zI_640, zI_999, zI_1000, zI_1024, zI_1600, zI_1602, zI_1700, zI_2040, zI_3200, zI_4100, zI_9728, zI_11784, zI_61440, zI_65536, zI_470536, zI_999999, zI_1000000, lt_T, lt_F, le_T, le_F, eq_T, eq_F, neg_1, cn_m1p, cn_m11, nI_add, cn_sub, pk_mul, cn_div, cn_irm, cn_lt, cn_eq, cn_ltm1, cn_m1lt, cn_eqm1, cn_m1eq, cn_ix, cn_inb, cn_ninb, cn_irs, cn_ils, cn_and, cn_or, cn_xor, grd_t, grd_bt, grd_bl, Nat.add_zero, Nat.zero_add, Nat.reduceAdd, Nat.reduceSub, Nat.reduceMul, Nat.reduceLT, Nat.reduceEqDiff, eq_self, true_and, and_true, and_false, false_and, if_true, if_false, and_self, Bool.true_eq_false, Bool.false_eq_true, Option.bind_some]
  · have ch : chM tp n p = m1 := by unfold chM; rw [if_neg c]
    have d := isLetter_m (N := N) (t := lk tp n p t)
    simp (disch := first | omega | decide) only [f_M_name, h5, l, ch, d, j, zI_0, zI_1, zI_2, zI_3, zI_4, zI_5, zI_6, zI_7, zI_8, zI_9, zI_10, zI_11, zI_12, zI_13, zI_14, zI_15, zI_16, zI_17, zI_18, zI_19, zI_20, zI_21, zI_22, zI_23, zI_24, zI_25, zI_26, zI_27, zI_28, zI_29, zI_30, zI_31, zI_32, zI_33, zI_34, zI_35, zI_36, zI_37, zI_38, zI_39, zI_40, zI_41, zI_42, zI_43, zI_44, zI_45, zI_46, zI_47, zI_48, zI_49, zI_50, zI_51, zI_52, zI_53, zI_54, zI_55, zI_56, zI_57, zI_58, zI_59, zI_60, zI_61, zI_62, zI_63, zI_64, zI_65, zI_66, zI_67, zI_74, zI_84, zI_85, zI_88, zI_91, zI_93, zI_97, zI_99, zI_100, zI_102, zI_105, zI_117, zI_122, zI_193, zI_202, zI_205, zI_251, zI_255, zI_256, zI_257, zI_258, zI_259, zI_260, zI_640, zI_999, zI_1000, zI_1024, zI_1600, zI_1602, zI_1700, zI_2040, zI_3200, zI_4100, zI_9728, zI_11784, zI_61440, zI_65536, zI_470536, zI_999999, zI_1000000, lt_T, lt_F, le_T, le_F, eq_T, eq_F, neg_1, cn_m1p, cn_m11, nI_add, cn_sub, pk_mul, cn_div, cn_irm, cn_lt, cn_eq, cn_ltm1, cn_m1lt, cn_eqm1, cn_m1eq, cn_ix, cn_inb, cn_ninb, cn_irs, cn_ils, cn_and, cn_or, cn_xor, grd_t, grd_bt, grd_bl, Nat.add_zero, Nat.zero_add, Nat.reduceAdd, Nat.reduceSub, Nat.reduceMul, Nat.reduceLT, Nat.reduceEqDiff, eq_self, true_and, and_true, and_false, false_and, if_true, if_false, and_self, Bool.true_eq_false, Bool.false_eq_true, Option.bind_some]
theorem name_rl (h : RB tp n p b t) (hk : kK tp n p b = 256) (ho : ¬ (1 ≤ wdA tp n p b ∧ wdA tp n p b ≤ 25)) (hN : 10000 ≤ N) {R : Int64 × mS → Prop}
    (hR : ∀ k' t1, gI t1 1002 0 = nI (skp tp n p + min 6 (kZ tp n p)) → gI t1 1036 0 = nI (skp tp n p) → Fr [110200, 113600] t t1 → Ok (f_M_name_L58 N k' (lN (vaL 27 (nmL tp (skp tp n p) (min 6 (kZ tp n p)))), t1)) R) : Ok (f_M_name N t) R := by
  have l := look_b h hN
  have hL := RB_lk h
  have e2 := hL.2.2.2.2.2
  have h5 := h.2.2.1
  have hT := hL.1
  have hn := hT.1
  have en := ended_n hL.2.2.2 hn
  have ow := own_b (N := N) (RL_RB hL) hN
  rw [lk_RL hL, if_neg ho] at ow
  have hp := h.2.2.2.1
  have sb := skp_b (tp := tp) hp
  obtain ⟨h1, h2, h3, h4, h5', h6, c, cl, ct⟩ := word_l (RB_ht h) hp hk
  have hb' := (hT.2.2 _ c).1
  have ch : chM tp n p = nI (tp (skp tp n p)) := by unfold chM; rw [if_pos c]
  have d := isLetter_n (N := N) (t := lk tp n p t) hb'
  rw [cl] at d
  have en' := en.trans (eq_false ct)
  have head : f_M_name N t = mfix N (f_M_name_L58 N) (lN 0, sI (lk tp n p t) 1036 0 (nI (skp tp n p))) := by
    rw [e2] at en'
    simp (disch := first | omega | decide) only [f_M_name, h5, l, ch, d, en', ow, e2, show (0 : Int64) = lN 0 from rfl, zI_0, zI_1, zI_2, zI_3, zI_4, zI_5, zI_6, zI_7, zI_8, zI_9, zI_10, zI_11, zI_12, zI_13, zI_14, zI_15, zI_16, zI_17, zI_18, zI_19, zI_20, zI_21, zI_22, zI_23, zI_24, zI_25, zI_26, zI_27, zI_28, zI_29, zI_30, zI_31, zI_32, zI_33, zI_34, zI_35, zI_36, zI_37, zI_38, zI_39, zI_40, zI_41, zI_42, zI_43, zI_44, zI_45, zI_46, zI_47, zI_48, zI_49, zI_50, zI_51, zI_52, zI_53, zI_54, zI_55, zI_56, zI_57, zI_58, zI_59, zI_60, zI_61, zI_62, zI_63, zI_64, zI_65, zI_66, zI_67, zI_74, zI_84, zI_85, zI_88, zI_91, zI_93, zI_97, zI_99, zI_100, zI_102, zI_105, zI_117, zI_122, zI_193, zI_202, zI_205, zI_251, zI_255, zI_256, zI_257, zI_258, zI_259, zI_260, zI_640, zI_999, zI_1000, zI_1024, zI_1600, zI_1602, zI_1700, zI_2040, zI_3200, zI_4100, zI_9728, zI_11784, zI_61440, zI_65536, zI_470536, zI_999999, zI_1000000, lt_T, lt_F, le_T, le_F, eq_T, eq_F, neg_1, cn_m1p, cn_m11, nI_add, cn_sub, pk_mul, cn_div, cn_irm, cn_lt, cn_eq, cn_ltm1, cn_m1lt, cn_eqm1, cn_m1eq, cn_ix, cn_inb, cn_ninb, cn_irs, cn_ils, cn_and, cn_or, cn_xor, grd_t, grd_bt, grd_bl, Nat.add_zero, Nat.zero_add, Nat.reduceAdd, Nat.reduceSub, Nat.reduceMul, Nat.reduceLT, Nat.reduceEqDiff, eq_self, true_and, and_true, and_false, false_and, if_true, if_false, and_self, Bool.true_eq_false, Bool.false_eq_true, Option.bind_some]
  rw [head]
  refine mfix_up (fun i x => ∃ t1, x = (lN (vaL 27 (nmL tp (skp tp n p) i)), t1) ∧ gI t1 1002 0 = nI (skp tp n p + i) ∧ gI t1 1036 0 = nI (skp tp n p) ∧ Fr [110200, 113600] t t1) (min 6 (kZ tp n p)) ?_ ?_ N 0 _ ⟨_, rfl, by simp (disch := first | omega | decide) only [gI_sI, gI_sA, gI_sL, gI_sQ, gI_sC, gI_sO, gI_sD, gA_sI, gA_sL, gA_sQ, gA_sO, gA_sD, gL_sI, gL_sA, gL_sQ, gL_sC, gL_sO, gL_sD, gQ_sI, gQ_sA, gQ_sL, gQ_sC, gQ_sO, gO_sI, gO_sA, gO_sL, gO_sQ, gO_sC, gO_sO, gO_sD, gA_eq, gA_ne, gQ_eq, gQ_ne, gL_sL, gA_cin, gA_cou, gQ_cin, gQ_cou, Nat.reduceAdd, Nat.reduceSub, Nat.reduceMul, Nat.reduceLT, Nat.reduceEqDiff, eq_self, true_and, and_true, and_false, false_and, if_true, if_false, and_self, Bool.true_eq_false, Bool.false_eq_true]; exact e2, by simp (disch := first | omega | decide) only [gI_sI, gI_sA, gI_sL, gI_sQ, gI_sC, gI_sO, gI_sD, gA_sI, gA_sL, gA_sQ, gA_sO, gA_sD, gL_sI, gL_sA, gL_sQ, gL_sC, gL_sO, gL_sD, gQ_sI, gQ_sA, gQ_sL, gQ_sC, gQ_sO, gO_sI, gO_sA, gO_sL, gO_sQ, gO_sC, gO_sO, gO_sD, gA_eq, gA_ne, gQ_eq, gQ_ne, gL_sL, gA_cin, gA_cou, gQ_cin, gQ_cou, Nat.reduceAdd, Nat.reduceSub, Nat.reduceMul, Nat.reduceLT, Nat.reduceEqDiff, eq_self, true_and, and_true, and_false, false_and, if_true, if_false, and_self, Bool.true_eq_false, Bool.false_eq_true], Fr_t (Fr_w Fr_lk (by decide)) (Fr_sI _ _ _ (by decide))⟩ (Nat.zero_le _) (by omega)
  · rintro i k' x hi2 ⟨t1, rfl, g, g2, F⟩ hk
    have T1 := RxM_fr F (by decide) h.1
    have e3 := T1.2.1
    have e4 := (T1.2.2 (skp tp n p + i) (by omega)).2
    have hb := (T1.2.2 (skp tp n p + i) (by omega)).1
    have di := h1 i (by omega)
    have d := isLetter_n (N := N) (t := t1) hb
    rw [show isLe (tp (skp tp n p + i)) = true from decide_eq_true (by omega)] at d
    have ev : lN 27 * lN (vaL 27 (nmL tp (skp tp n p) i)) + (nI (tp (skp tp n p + i))).toInt64 - lN 97 + lN 1 = lN (vaL 27 (nmL tp (skp tp n p) (i + 1))) := by
      rw [nI_l (by omega), qN_mul, qN_add, qN_sub (by omega), qN_add, show nmL tp (skp tp n p) (i + 1) = nmL tp (skp tp n p) i ++ [tp (skp tp n p + i) - 96] from rfl, vaL_snoc]
      congr 1; omega
    have q4 : (nI (skp tp n p + i) - nI (skp tp n p) = nI 6) = False := by rw [cn_sub (by omega), cn_eq (by omega)]; exact eq_false (by omega)
    simp (disch := first | omega | decide) only [f_M_name_L58, g, g2, e3, e4, d, q4, show (27 : Int64) = lN 27 from rfl, show (97 : Int64) = lN 97 from rfl, show (1 : Int64) = lN 1 from rfl, ev, zI_0, zI_1, zI_2, zI_3, zI_4, zI_5, zI_6, zI_7, zI_8, zI_9, zI_10, zI_11, zI_12, zI_13, zI_14, zI_15, zI_16, zI_17, zI_18, zI_19, zI_20, zI_21, zI_22, zI_23, zI_24, zI_25, zI_26, zI_27, zI_28, zI_29, zI_30, zI_31, zI_32, zI_33, zI_34, zI_35, zI_36, zI_37, zI_38, zI_39, zI_40, zI_41, zI_42, zI_43, zI_44, zI_45, zI_46, zI_47, zI_48, zI_49, zI_50, zI_51, zI_52, zI_53, zI_54, zI_55, zI_56, zI_57, zI_58, zI_59, zI_60, zI_61, zI_62, zI_63, zI_64, zI_65, zI_66, zI_67, zI_74, zI_84, zI_85, zI_88, zI_91, zI_93, zI_97, zI_99, zI_100, zI_102, zI_105, zI_117, zI_122, zI_193, zI_202, zI_205, zI_251, zI_255, zI_256, zI_257, zI_258, zI_259, zI_260, zI_640, zI_999, zI_1000, zI_1024, zI_1600, zI_1602, zI_1700, zI_2040, zI_3200, zI_4100, zI_9728, zI_11784, zI_61440, zI_65536, zI_470536, zI_999999, zI_1000000, nI_add, cn_lt, cn_eq, lt_T, cn_inb, cn_ix, grd_t, grd_bt, Nat.reduceAdd, Nat.reduceSub, Nat.reduceMul, Nat.reduceLT, Nat.reduceEqDiff, eq_self, true_and, and_true, and_false, false_and, if_true, if_false, and_self, Bool.true_eq_false, Bool.false_eq_true, Option.bind_some]
    exact hk _ ⟨_, rfl, by simp (disch := first | omega | decide) only [gI_sI, gI_sA, gI_sL, gI_sQ, gI_sC, gI_sO, gI_sD, gA_sI, gA_sL, gA_sQ, gA_sO, gA_sD, gL_sI, gL_sA, gL_sQ, gL_sC, gL_sO, gL_sD, gQ_sI, gQ_sA, gQ_sL, gQ_sC, gQ_sO, gO_sI, gO_sA, gO_sL, gO_sQ, gO_sC, gO_sO, gO_sD, gA_eq, gA_ne, gQ_eq, gQ_ne, gL_sL, gA_cin, gA_cou, gQ_cin, gQ_cou, Nat.reduceAdd, Nat.reduceSub, Nat.reduceMul, Nat.reduceLT, Nat.reduceEqDiff, eq_self, true_and, and_true, and_false, false_and, if_true, if_false, and_self, Bool.true_eq_false, Bool.false_eq_true, Nat.add_assoc], by simp (disch := first | omega | decide) only [gI_sI, gI_sA, gI_sL, gI_sQ, gI_sC, gI_sO, gI_sD, gA_sI, gA_sL, gA_sQ, gA_sO, gA_sD, gL_sI, gL_sA, gL_sQ, gL_sC, gL_sO, gL_sD, gQ_sI, gQ_sA, gQ_sL, gQ_sC, gQ_sO, gO_sI, gO_sA, gO_sL, gO_sQ, gO_sC, gO_sO, gO_sD, gA_eq, gA_ne, gQ_eq, gQ_ne, gL_sL, gA_cin, gA_cou, gQ_cin, gQ_cou, Nat.reduceAdd, Nat.reduceSub, Nat.reduceMul, Nat.reduceLT, Nat.reduceEqDiff, eq_self, true_and, and_true, and_false, false_and, if_true, if_false, and_self, Bool.true_eq_false, Bool.false_eq_true]; exact g2, Fr_t F (Fr_sI _ _ _ (by decide))⟩
  · rintro k' x ⟨t1, rfl, g, g2, F⟩
    exact hR k' t1 g g2 F
theorem name_r2 (h : RB tp n p b t) (hk : kK tp n p b = 256) (ho : ¬ (1 ≤ wdA tp n p b ∧ wdA tp n p b ≤ 25)) (hz : 6 < kZ tp n p) (hN : 10000 ≤ N) : ∃ v t', f_M_name N t = some (v, t') ∧ BdM 1 (skp tp n p + 6) t' ∧ Fr kNm t t' := by
  have hn := h.1.1
  have hp := h.2.2.2.1
  have h5 := h.2.2.1
  obtain ⟨h1, h2, h3, h4, h5', h6, c, cl, ct⟩ := word_l (RB_ht h) hp hk
  obtain ⟨⟨v, x⟩, x1, x2, x3⟩ := name_rl h hk ho hN (R := fun r => BdM 1 (skp tp n p + 6) r.2 ∧ Fr kNm t r.2) (fun k' t1 g g2 F => by
    rw [Nat.min_eq_left (by omega)] at g ⊢
    have T1 := RxM_fr F (by decide) h.1
    have e3 := T1.2.1
    have e4 := (T1.2.2 (skp tp n p + 6) (by omega)).2
    have hb := (T1.2.2 (skp tp n p + 6) (by omega)).1
    have di := h1 6 (by omega)
    have d := isLetter_n (N := N) (t := t1) hb
    rw [show isLe (tp (skp tp n p + 6)) = true from decide_eq_true (by omega)] at d
    have q4 : (nI (skp tp n p + 6) - nI (skp tp n p) = nI 6) = True := by rw [cn_sub (by omega), cn_eq (by omega)]; exact eq_true (by omega)
    obtain ⟨t', f, B, F2⟩ := mfail_l (N := N) (t := t1) (k := 1) (w := skp tp n p + 6) (by rw [F.I 1005 0 (by decide)]; exact h5) (by omega)
    simp (disch := first | omega | decide) only [f_M_name_L58, g, g2, e3, e4, d, q4, f, zI_0, zI_1, zI_2, zI_3, zI_4, zI_5, zI_6, zI_7, zI_8, zI_9, zI_10, zI_11, zI_12, zI_13, zI_14, zI_15, zI_16, zI_17, zI_18, zI_19, zI_20, zI_21, zI_22, zI_23, zI_24, zI_25, zI_26, zI_27, zI_28, zI_29, zI_30, zI_31, zI_32, zI_33, zI_34, zI_35, zI_36, zI_37, zI_38, zI_39, zI_40, zI_41, zI_42, zI_43, zI_44, zI_45, zI_46, zI_47, zI_48, zI_49, zI_50, zI_51, zI_52, zI_53, zI_54, zI_55, zI_56, zI_57, zI_58, zI_59, zI_60, zI_61, zI_62, zI_63, zI_64, zI_65, zI_66, zI_67, zI_74, zI_84, zI_85, zI_88, zI_91, zI_93, zI_97, zI_99, zI_100, zI_102, zI_105, zI_117, zI_122, zI_193, zI_202, zI_205, zI_251, zI_255, zI_256, zI_257, zI_258, zI_259, zI_260, zI_640, zI_999, zI_1000, zI_1024, zI_1600, zI_1602, zI_1700, zI_2040, zI_3200, zI_4100, zI_9728, zI_11784, zI_61440, zI_65536, zI_470536, zI_999999, zI_1000000, nI_add, cn_lt, cn_eq, lt_T, cn_inb, cn_ix, grd_t, grd_bt, Nat.reduceAdd, Nat.reduceSub, Nat.reduceMul, Nat.reduceLT, Nat.reduceEqDiff, eq_self, true_and, and_true, and_false, false_and, if_true, if_false, and_self, Bool.true_eq_false, Bool.false_eq_true, Option.bind_some]
    exact Ok_some ⟨B, Fr_t (Fr_w F (by decide)) (Fr_w F2 (by decide))⟩)
  exact ⟨v, x, x1, x2, x3⟩
theorem name_r3 (h : RB tp n p b t) (hk : kK tp n p b = 256) (ho : ¬ (1 ≤ wdA tp n p b ∧ wdA tp n p b ≤ 25)) (hz : kZ tp n p ≤ 6) (hN : 10000 ≤ N) : ∃ t', f_M_name N t = some (lN (vaL 27 (nmL tp (skp tp n p) (kZ tp n p))), t') ∧ RB tp n (kE tp n p) true t' ∧ gI t' 1036 0 = nI (skp tp n p) ∧ Fr kNh t t' := by
  have hn := h.1.1
  have hp := h.2.2.2.1
  have h5 := h.2.2.1
  obtain ⟨h1, h2, h3, h4, h5', h6, c, cl, ct⟩ := word_l (RB_ht h) hp hk
  obtain ⟨⟨v, x⟩, x1, x2, x3, x4, x5⟩ := name_rl h hk ho hN (R := fun r => r.1 = lN (vaL 27 (nmL tp (skp tp n p) (kZ tp n p))) ∧ RB tp n (kE tp n p) true r.2 ∧ gI r.2 1036 0 = nI (skp tp n p) ∧ Fr kNh t r.2) (fun k' t1 g g2 F => by
    rw [Nat.min_eq_right hz] at g ⊢
    rw [← h3] at g
    have T1 := RxM_fr F (by decide) h.1
    have e3 := T1.2.1
    have F2 : Fr [110400] t1 (sI t1 1004 0 (nI (kE tp n p))) := Fr_sI _ _ _ (by decide)
    have F3 : Fr kNh t (sI t1 1004 0 (nI (kE tp n p))) := Fr_t (Fr_w F (by decide)) (Fr_w F2 (by decide))
    have fin : Ok (some (lN (vaL 27 (nmL tp (skp tp n p) (kZ tp n p))), sI t1 1004 0 (nI (kE tp n p)))) (fun r => r.1 = lN (vaL 27 (nmL tp (skp tp n p) (kZ tp n p))) ∧ RB tp n (kE tp n p) true r.2 ∧ gI r.2 1036 0 = nI (skp tp n p) ∧ Fr kNh t r.2) :=
      Ok_some ⟨rfl, ⟨RxM_fr F3 (by decide) h.1, MWd_fr F3 (by decide) h.2.1, by simp (disch := first | omega | decide) only [gI_sI, gI_sA, gI_sL, gI_sQ, gI_sC, gI_sO, gI_sD, gA_sI, gA_sL, gA_sQ, gA_sO, gA_sD, gL_sI, gL_sA, gL_sQ, gL_sC, gL_sO, gL_sD, gQ_sI, gQ_sA, gQ_sL, gQ_sC, gQ_sO, gO_sI, gO_sA, gO_sL, gO_sQ, gO_sC, gO_sO, gO_sD, gA_eq, gA_ne, gQ_eq, gQ_ne, gL_sL, gA_cin, gA_cou, gQ_cin, gQ_cou, Nat.reduceAdd, Nat.reduceSub, Nat.reduceMul, Nat.reduceLT, Nat.reduceEqDiff, eq_self, true_and, and_true, and_false, false_and, if_true, if_false, and_self, Bool.true_eq_false, Bool.false_eq_true]; rw [F.I 1005 0 (by decide)]; exact h5, h4, ⟨kE tp n p + 1, by simp (disch := first | omega | decide) only [gI_sI, gI_sA, gI_sL, gI_sQ, gI_sC, gI_sO, gI_sD, gA_sI, gA_sL, gA_sQ, gA_sO, gA_sD, gL_sI, gL_sA, gL_sQ, gL_sC, gL_sO, gL_sD, gQ_sI, gQ_sA, gQ_sL, gQ_sC, gQ_sO, gO_sI, gO_sA, gO_sL, gO_sQ, gO_sC, gO_sO, gO_sD, gA_eq, gA_ne, gQ_eq, gQ_ne, gL_sL, gA_cin, gA_cou, gQ_cin, gQ_cou, Nat.reduceAdd, Nat.reduceSub, Nat.reduceMul, Nat.reduceLT, Nat.reduceEqDiff, eq_self, true_and, and_true, and_false, false_and, if_true, if_false, and_self, Bool.true_eq_false, Bool.false_eq_true]; exact (m1_s _).symm, fun _ => rfl, fun h => by cases h⟩, kE tp n p, by simp (disch := first | omega | decide) only [gI_sI, gI_sA, gI_sL, gI_sQ, gI_sC, gI_sO, gI_sD, gA_sI, gA_sL, gA_sQ, gA_sO, gA_sD, gL_sI, gL_sA, gL_sQ, gL_sC, gL_sO, gL_sD, gQ_sI, gQ_sA, gQ_sL, gQ_sC, gQ_sO, gO_sI, gO_sA, gO_sL, gO_sQ, gO_sC, gO_sO, gO_sD, gA_eq, gA_ne, gQ_eq, gQ_ne, gL_sL, gA_cin, gA_cou, gQ_cin, gQ_cou, Nat.reduceAdd, Nat.reduceSub, Nat.reduceMul, Nat.reduceLT, Nat.reduceEqDiff, eq_self, true_and, and_true, and_false, false_and, if_true, if_false, and_self, Bool.true_eq_false, Bool.false_eq_true]; exact g, Nat.le_refl _, (skp_b h4).1⟩, by simp (disch := first | omega | decide) only [gI_sI, gI_sA, gI_sL, gI_sQ, gI_sC, gI_sO, gI_sD, gA_sI, gA_sL, gA_sQ, gA_sO, gA_sD, gL_sI, gL_sA, gL_sQ, gL_sC, gL_sO, gL_sD, gQ_sI, gQ_sA, gQ_sL, gQ_sC, gQ_sO, gO_sI, gO_sA, gO_sL, gO_sQ, gO_sC, gO_sO, gO_sD, gA_eq, gA_ne, gQ_eq, gQ_ne, gL_sL, gA_cin, gA_cou, gQ_cin, gQ_cou, Nat.reduceAdd, Nat.reduceSub, Nat.reduceMul, Nat.reduceLT, Nat.reduceEqDiff, eq_self, true_and, and_true, and_false, false_and, if_true, if_false, and_self, Bool.true_eq_false, Bool.false_eq_true]; exact g2, F3⟩
    by_cases ce : kE tp n p < n
    · have e4 := (T1.2.2 (kE tp n p) ce).2
      have hb := (T1.2.2 (kE tp n p) ce).1
      have d := isLetter_n (N := N) (t := t1) hb
      rw [h5' ce] at d
      simp (disch := first | omega | decide) only [f_M_name_L58, g, e3, e4, d, zI_0, zI_1, zI_2, zI_3, zI_4, zI_5, zI_6, zI_7, zI_8, zI_9, zI_10, zI_11, zI_12, zI_13, zI_14, zI_15, zI_16, zI_17, zI_18, zI_19, zI_20, zI_21, zI_22, zI_23, zI_24, zI_25, zI_26, zI_27, zI_28, zI_29, zI_30, zI_31, zI_32, zI_33, zI_34, zI_35, zI_36, zI_37, zI_38, zI_39, zI_40, zI_41, zI_42, zI_43, zI_44, zI_45, zI_46, zI_47, zI_48, zI_49, zI_50, zI_51, zI_52, zI_53, zI_54, zI_55, zI_56, zI_57, zI_58, zI_59, zI_60, zI_61, zI_62, zI_63, zI_64, zI_65, zI_66, zI_67, zI_74, zI_84, zI_85, zI_88, zI_91, zI_93, zI_97, zI_99, zI_100, zI_102, zI_105, zI_117, zI_122, zI_193, zI_202, zI_205, zI_251, zI_255, zI_256, zI_257, zI_258, zI_259, zI_260, zI_640, zI_999, zI_1000, zI_1024, zI_1600, zI_1602, zI_1700, zI_2040, zI_3200, zI_4100, zI_9728, zI_11784, zI_61440, zI_65536, zI_470536, zI_999999, zI_1000000, cn_lt, cn_eq, lt_T, cn_inb, cn_ix, grd_t, grd_bt, Nat.reduceAdd, Nat.reduceSub, Nat.reduceMul, Nat.reduceLT, Nat.reduceEqDiff, eq_self, true_and, and_true, and_false, false_and, if_true, if_false, and_self, Bool.true_eq_false, Bool.false_eq_true, Option.bind_some]
      exact fin
    · simp (disch := first | omega | decide) only [f_M_name_L58, g, e3, zI_0, zI_1, zI_2, zI_3, zI_4, zI_5, zI_6, zI_7, zI_8, zI_9, zI_10, zI_11, zI_12, zI_13, zI_14, zI_15, zI_16, zI_17, zI_18, zI_19, zI_20, zI_21, zI_22, zI_23, zI_24, zI_25, zI_26, zI_27, zI_28, zI_29, zI_30, zI_31, zI_32, zI_33, zI_34, zI_35, zI_36, zI_37, zI_38, zI_39, zI_40, zI_41, zI_42, zI_43, zI_44, zI_45, zI_46, zI_47, zI_48, zI_49, zI_50, zI_51, zI_52, zI_53, zI_54, zI_55, zI_56, zI_57, zI_58, zI_59, zI_60, zI_61, zI_62, zI_63, zI_64, zI_65, zI_66, zI_67, zI_74, zI_84, zI_85, zI_88, zI_91, zI_93, zI_97, zI_99, zI_100, zI_102, zI_105, zI_117, zI_122, zI_193, zI_202, zI_205, zI_251, zI_255, zI_256, zI_257, zI_258, zI_259, zI_260, zI_640, zI_999, zI_1000, zI_1024, zI_1600, zI_1602, zI_1700, zI_2040, zI_3200, zI_4100, zI_9728, zI_11784, zI_61440, zI_65536, zI_470536, zI_999999, zI_1000000, cn_lt, lt_F, Nat.reduceAdd, Nat.reduceSub, Nat.reduceMul, Nat.reduceLT, Nat.reduceEqDiff, eq_self, true_and, and_true, and_false, false_and, if_true, if_false, and_self, Bool.true_eq_false, Bool.false_eq_true]
      exact fin)
  exact ⟨x, by rw [x1, show v = _ from x2], x3, x4, x5⟩
end NAME2
