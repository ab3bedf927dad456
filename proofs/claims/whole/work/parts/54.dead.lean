/-! BEHIND A FAULT the reader asks for nothing more -/
section DEAD
variable {N : Nat} {s : mS} {kt kf ks kp : mS → Option mS}
def DPX (pg k w : Nat) (s : mS) : Prop := DdX k w s ∧ gO s = pg ∧ ∃ sz, sz ≤ 1602 ∧ gI s 501 pg = nI sz
def kDP (pg : Nat) : List Nat := [60100 + pg, pg + 1]
theorem add_d {pg k w : Nat} (hp : PgO pg) (h : DPX pg k w s) (x : Int32) : ∃ s', f_Pg_add N pg x s = some s' ∧ DPX pg k w s' ∧ Fr (kDP pg) s s' := by
  obtain ⟨h1, h2, sz, h3, h4⟩ := h
  obtain ⟨s', e, F, _, g⟩ := add_n (N := N) hp x h4 h3
  refine ⟨s', e, ⟨DdX_fr F (by rcases hp with rfl | rfl <;> decide) h1, ?_, _, Nat.min_le_left _ _, g⟩, F⟩
  rw [F.O (by rcases hp with rfl | rfl <;> decide)]; exact h2
theorem allowed_m (s : mS) : f_Rd_isAllowed N m1 s = some (nI 0, s) := by
  have e : (m1 < nI 0) = True := eq_true (by decide)
  simp only [f_Rd_isAllowed, zI_0, e, if_true]
theorem part_d {k w : Nat} (h : DdX k w s) : f_Rd_part_B N kt kf ks kp s = some s := by
  have wd := word_d (N := N) h
  have fd := fail_d (N := N) h
  have al := allowed_m (N := N) s
  have k5 := h.2.2.2.2
  have q1 : (m1 = nI 23) = False := eq_false (by decide)
  have q2 : (m1 = nI 24) = False := eq_false (by decide)
  simp (disch := first | omega | decide) only [f_Rd_part_B, wd, k5, al, fd, q1, q2, zI_0, zI_1, zI_2, zI_3, zI_4, zI_5, zI_6, zI_7, zI_8, zI_9, zI_10, zI_11, zI_12, zI_13, zI_14, zI_15, zI_16, zI_17, zI_18, zI_19, zI_20, zI_21, zI_22, zI_23, zI_24, zI_25, zI_26, zI_27, zI_28, zI_29, zI_30, zI_31, zI_32, zI_33, zI_34, zI_35, zI_36, zI_37, zI_38, zI_39, zI_40, zI_41, zI_42, zI_43, zI_44, zI_45, zI_46, zI_47, zI_48, zI_49, zI_50, zI_51, zI_52, zI_53, zI_54, zI_55, zI_56, zI_57, zI_58, zI_59, zI_60, zI_61, zI_62, zI_63, zI_64, zI_65, zI_66, zI_67, zI_74, zI_84, zI_85, zI_88, zI_91, zI_93, zI_97, zI_99, zI_100, zI_102, zI_105, zI_117, zI_122, zI_193, zI_202, zI_205, zI_251, zI_255, zI_256, zI_257, zI_258, zI_259, zI_260, zI_640, zI_999, zI_1000, zI_1024, zI_1600, zI_1602, zI_1700, zI_2040, zI_3200, zI_4100, zI_9728, zI_11784, zI_61440, zI_65536, zI_470536, zI_999999, zI_1000000, lt_T, lt_F, le_T, le_F, eq_T, eq_F, neg_1, cn_m1p, cn_m11, nI_add, cn_sub, pk_mul, cn_div, cn_irm, cn_lt, cn_eq, cn_ltm1, cn_m1lt, cn_eqm1, cn_m1eq, cn_ix, cn_inb, cn_ninb, cn_irs, cn_ils, cn_and, cn_or, cn_xor, grd_t, grd_bt, grd_bl, Nat.add_zero, Nat.zero_add, Nat.reduceAdd, Nat.reduceSub, Nat.reduceMul, Nat.reduceLT, Nat.reduceEqDiff, eq_self, true_and, and_true, and_false, false_and, if_true, if_false, and_self, Bool.true_eq_false, Bool.false_eq_true, Option.bind_some]
theorem mfix_1 {α β : Type} {n : Nat} {b : (α → Option β) → α → Option β} {x : α} (h : 0 < n) : mfix n b x = b (mfix (n - 1) b) x := by
  cases n with
  | zero => omega
  | succ n => rfl
theorem sum_d {k w : Nat} (h : DdX k w s) (hk : kp s = some s) (hN : 10000 ≤ N) : f_Rd_sum_B N kt kf ks kp s = some s := by
  have k5 := h.2.2.2.2
  have e2 : ∀ k6 x, f_Rd_sum_L6 N kt kf ks kp k6 (x, nI 0, nI 1, s) = some s := fun k6 x => by
    simp (disch := first | omega | decide) only [f_Rd_sum_L6, zI_0, zI_1, zI_2, zI_3, zI_4, zI_5, zI_6, zI_7, zI_8, zI_9, zI_10, zI_11, zI_12, zI_13, zI_14, zI_15, zI_16, zI_17, zI_18, zI_19, zI_20, zI_21, zI_22, zI_23, zI_24, zI_25, zI_26, zI_27, zI_28, zI_29, zI_30, zI_31, zI_32, zI_33, zI_34, zI_35, zI_36, zI_37, zI_38, zI_39, zI_40, zI_41, zI_42, zI_43, zI_44, zI_45, zI_46, zI_47, zI_48, zI_49, zI_50, zI_51, zI_52, zI_53, zI_54, zI_55, zI_56, zI_57, zI_58, zI_59, zI_60, zI_61, zI_62, zI_63, zI_64, zI_65, zI_66, zI_67, zI_74, zI_84, zI_85, zI_88, zI_91, zI_93, zI_97, zI_99, zI_100, zI_102, zI_105, zI_117, zI_122, zI_193, zI_202, zI_205, zI_251, zI_255, zI_256, zI_257, zI_258, zI_259, zI_260, zI_640, zI_999, zI_1000, zI_1024, zI_1600, zI_1602, zI_1700, zI_2040, zI_3200, zI_4100, zI_9728, zI_11784, zI_61440, zI_65536, zI_470536, zI_999999, zI_1000000, lt_T, lt_F, le_T, le_F, eq_T, eq_F, neg_1, cn_m1p, cn_m11, nI_add, cn_sub, pk_mul, cn_div, cn_irm, cn_lt, cn_eq, cn_ltm1, cn_m1lt, cn_eqm1, cn_m1eq, cn_ix, cn_inb, cn_ninb, cn_irs, cn_ils, cn_and, cn_or, cn_xor, grd_t, grd_bt, grd_bl, Nat.add_zero, Nat.zero_add, Nat.reduceAdd, Nat.reduceSub, Nat.reduceMul, Nat.reduceLT, Nat.reduceEqDiff, eq_self, true_and, and_true, and_false, false_and, if_true, if_false, and_self, Bool.true_eq_false, Bool.false_eq_true]
  have e24 : ∀ k6 k24, f_Rd_sum_L24 N kt kf ks kp k6 k24 (m1, nI 0, nI 0, s) = k6 (nI 260, nI 0, nI 1, s) := fun k6 k24 => by
    simp (disch := first | omega | decide) only [f_Rd_sum_L24, f_Rd_sum_j79, f_Rd_sum_j92, f_Rd_sum_j120, k5, zI_0, zI_1, zI_2, zI_3, zI_4, zI_5, zI_6, zI_7, zI_8, zI_9, zI_10, zI_11, zI_12, zI_13, zI_14, zI_15, zI_16, zI_17, zI_18, zI_19, zI_20, zI_21, zI_22, zI_23, zI_24, zI_25, zI_26, zI_27, zI_28, zI_29, zI_30, zI_31, zI_32, zI_33, zI_34, zI_35, zI_36, zI_37, zI_38, zI_39, zI_40, zI_41, zI_42, zI_43, zI_44, zI_45, zI_46, zI_47, zI_48, zI_49, zI_50, zI_51, zI_52, zI_53, zI_54, zI_55, zI_56, zI_57, zI_58, zI_59, zI_60, zI_61, zI_62, zI_63, zI_64, zI_65, zI_66, zI_67, zI_74, zI_84, zI_85, zI_88, zI_91, zI_93, zI_97, zI_99, zI_100, zI_102, zI_105, zI_117, zI_122, zI_193, zI_202, zI_205, zI_251, zI_255, zI_256, zI_257, zI_258, zI_259, zI_260, zI_640, zI_999, zI_1000, zI_1024, zI_1600, zI_1602, zI_1700, zI_2040, zI_3200, zI_4100, zI_9728, zI_11784, zI_61440, zI_65536, zI_470536, zI_999999, zI_1000000, lt_T, lt_F, le_T, le_F, eq_T, eq_F, neg_1, cn_m1p, cn_m11, nI_add, cn_sub, pk_mul, cn_div, cn_irm, cn_lt, cn_eq, cn_ltm1, cn_m1lt, cn_eqm1, cn_m1eq, cn_ix, cn_inb, cn_ninb, cn_irs, cn_ils, cn_and, cn_or, cn_xor, grd_t, grd_bt, grd_bl, Nat.add_zero, Nat.zero_add, Nat.reduceAdd, Nat.reduceSub, Nat.reduceMul, Nat.reduceLT, Nat.reduceEqDiff, eq_self, true_and, and_true, and_false, false_and, if_true, if_false, and_self, Bool.true_eq_false, Bool.false_eq_true]
  have e1 : ∀ k6, f_Rd_sum_L6 N kt kf ks kp k6 (m1, nI 1, nI 0, s) = mfix N (f_Rd_sum_L24 N kt kf ks kp k6) (m1, nI 0, nI 0, s) := fun k6 => by
    simp (disch := first | omega | decide) only [f_Rd_sum_L6, zI_0, zI_1, zI_2, zI_3, zI_4, zI_5, zI_6, zI_7, zI_8, zI_9, zI_10, zI_11, zI_12, zI_13, zI_14, zI_15, zI_16, zI_17, zI_18, zI_19, zI_20, zI_21, zI_22, zI_23, zI_24, zI_25, zI_26, zI_27, zI_28, zI_29, zI_30, zI_31, zI_32, zI_33, zI_34, zI_35, zI_36, zI_37, zI_38, zI_39, zI_40, zI_41, zI_42, zI_43, zI_44, zI_45, zI_46, zI_47, zI_48, zI_49, zI_50, zI_51, zI_52, zI_53, zI_54, zI_55, zI_56, zI_57, zI_58, zI_59, zI_60, zI_61, zI_62, zI_63, zI_64, zI_65, zI_66, zI_67, zI_74, zI_84, zI_85, zI_88, zI_91, zI_93, zI_97, zI_99, zI_100, zI_102, zI_105, zI_117, zI_122, zI_193, zI_202, zI_205, zI_251, zI_255, zI_256, zI_257, zI_258, zI_259, zI_260, zI_640, zI_999, zI_1000, zI_1024, zI_1600, zI_1602, zI_1700, zI_2040, zI_3200, zI_4100, zI_9728, zI_11784, zI_61440, zI_65536, zI_470536, zI_999999, zI_1000000, lt_T, lt_F, le_T, le_F, eq_T, eq_F, neg_1, cn_m1p, cn_m11, nI_add, cn_sub, pk_mul, cn_div, cn_irm, cn_lt, cn_eq, cn_ltm1, cn_m1lt, cn_eqm1, cn_m1eq, cn_ix, cn_inb, cn_ninb, cn_irs, cn_ils, cn_and, cn_or, cn_xor, grd_t, grd_bt, grd_bl, Nat.add_zero, Nat.zero_add, Nat.reduceAdd, Nat.reduceSub, Nat.reduceMul, Nat.reduceLT, Nat.reduceEqDiff, eq_self, true_and, and_true, and_false, false_and, if_true, if_false, and_self, Bool.true_eq_false, Bool.false_eq_true, hk, Option.bind_some]
  unfold f_Rd_sum_B
  rw [mfix_1 (by omega)]
  refine (e1 _).trans ?_
  rw [mfix_1 (by omega), e24, mfix_1 (by omega)]
  exact e2 _ _
theorem fact_d {pg k w : Nat} (hp : PgO pg) (h : DPX pg k w s) (hk : ∀ s', DdX k w s' → ks s' = some s') : ∃ s', f_Rd_fact_B N kt kf ks kp s = some s' ∧ DPX pg k w s' ∧ Fr (kDP pg) s s' := by
  have hd := h.1
  have wd := word_d (N := N) hd
  have fd := fail_d (N := N) hd
  have ad := adv_d (N := N) hd
  have k5 := hd.2.2.2.2
  have k1 := hk s hd
  have kg := h.2.1
  obtain ⟨o1, _⟩ := pgo_ok hp
  obtain ⟨s', e, D, F⟩ := add_d (N := N) hp h (nI 260)
  have q1 : (m1 = nI 21) = False := eq_false (by decide)
  have q2 : (m1 = nI 22) = False := eq_false (by decide)
  refine ⟨s', ?_, D, F⟩
  simp (disch := first | omega | decide) only [f_Rd_fact_B, f_Rd_fact_j154, wd, k5, fd, ad, k1, kg, o1, e, q1, q2, zI_0, zI_1, zI_2, zI_3, zI_4, zI_5, zI_6, zI_7, zI_8, zI_9, zI_10, zI_11, zI_12, zI_13, zI_14, zI_15, zI_16, zI_17, zI_18, zI_19, zI_20, zI_21, zI_22, zI_23, zI_24, zI_25, zI_26, zI_27, zI_28, zI_29, zI_30, zI_31, zI_32, zI_33, zI_34, zI_35, zI_36, zI_37, zI_38, zI_39, zI_40, zI_41, zI_42, zI_43, zI_44, zI_45, zI_46, zI_47, zI_48, zI_49, zI_50, zI_51, zI_52, zI_53, zI_54, zI_55, zI_56, zI_57, zI_58, zI_59, zI_60, zI_61, zI_62, zI_63, zI_64, zI_65, zI_66, zI_67, zI_74, zI_84, zI_85, zI_88, zI_91, zI_93, zI_97, zI_99, zI_100, zI_102, zI_105, zI_117, zI_122, zI_193, zI_202, zI_205, zI_251, zI_255, zI_256, zI_257, zI_258, zI_259, zI_260, zI_640, zI_999, zI_1000, zI_1024, zI_1600, zI_1602, zI_1700, zI_2040, zI_3200, zI_4100, zI_9728, zI_11784, zI_61440, zI_65536, zI_470536, zI_999999, zI_1000000, lt_T, lt_F, le_T, le_F, eq_T, eq_F, neg_1, cn_m1p, cn_m11, nI_add, cn_sub, pk_mul, cn_div, cn_irm, cn_lt, cn_eq, cn_ltm1, cn_m1lt, cn_eqm1, cn_m1eq, cn_ix, cn_inb, cn_ninb, cn_irs, cn_ils, cn_and, cn_or, cn_xor, grd_t, grd_bt, grd_bl, Nat.add_zero, Nat.zero_add, Nat.reduceAdd, Nat.reduceSub, Nat.reduceMul, Nat.reduceLT, Nat.reduceEqDiff, eq_self, true_and, and_true, and_false, false_and, if_true, if_false, and_self, Bool.true_eq_false, Bool.false_eq_true, Option.bind_some]
theorem test_d {pg k w : Nat} (hf : ∀ s', DPX pg k w s' → ∃ s2, kf s' = some s2 ∧ DPX pg k w s2 ∧ Fr (kDP pg) s' s2) (h : DPX pg k w s) (hN : 10000 ≤ N) : ∃ s', f_Rd_test_B N kt kf ks kp s = some s' ∧ DPX pg k w s' ∧ Fr (kDP pg) s s' := by
  obtain ⟨s1, e, D, F⟩ := hf s h
  have wd := word_d (N := N) D.1
  refine ⟨s1, ?_, D, F⟩
  have q1 : (m1 = nI 20) = False := eq_false (by decide)
  have q2 : (m1 = nI 19) = False := eq_false (by decide)
  have e2 : ∀ k4, f_Rd_test_L4 N kt kf ks kp k4 (nI 1, nI 0, s1) = some s1 := fun k4 => by
    simp (disch := first | omega | decide) only [f_Rd_test_L4, zI_0, zI_1, zI_2, zI_3, zI_4, zI_5, zI_6, zI_7, zI_8, zI_9, zI_10, zI_11, zI_12, zI_13, zI_14, zI_15, zI_16, zI_17, zI_18, zI_19, zI_20, zI_21, zI_22, zI_23, zI_24, zI_25, zI_26, zI_27, zI_28, zI_29, zI_30, zI_31, zI_32, zI_33, zI_34, zI_35, zI_36, zI_37, zI_38, zI_39, zI_40, zI_41, zI_42, zI_43, zI_44, zI_45, zI_46, zI_47, zI_48, zI_49, zI_50, zI_51, zI_52, zI_53, zI_54, zI_55, zI_56, zI_57, zI_58, zI_59, zI_60, zI_61, zI_62, zI_63, zI_64, zI_65, zI_66, zI_67, zI_74, zI_84, zI_85, zI_88, zI_91, zI_93, zI_97, zI_99, zI_100, zI_102, zI_105, zI_117, zI_122, zI_193, zI_202, zI_205, zI_251, zI_255, zI_256, zI_257, zI_258, zI_259, zI_260, zI_640, zI_999, zI_1000, zI_1024, zI_1600, zI_1602, zI_1700, zI_2040, zI_3200, zI_4100, zI_9728, zI_11784, zI_61440, zI_65536, zI_470536, zI_999999, zI_1000000, lt_T, lt_F, le_T, le_F, eq_T, eq_F, neg_1, cn_m1p, cn_m11, nI_add, cn_sub, pk_mul, cn_div, cn_irm, cn_lt, cn_eq, cn_ltm1, cn_m1lt, cn_eqm1, cn_m1eq, cn_ix, cn_inb, cn_ninb, cn_irs, cn_ils, cn_and, cn_or, cn_xor, grd_t, grd_bt, grd_bl, Nat.add_zero, Nat.zero_add, Nat.reduceAdd, Nat.reduceSub, Nat.reduceMul, Nat.reduceLT, Nat.reduceEqDiff, eq_self, true_and, and_true, and_false, false_and, if_true, if_false, and_self, Bool.true_eq_false, Bool.false_eq_true]
  have e21 : ∀ k4 k21, f_Rd_test_L21 N kt kf ks kp k4 k21 (nI 0, nI 0, s1) = k4 (nI 1, nI 0, s1) := fun k4 k21 => by
    simp (disch := first | omega | decide) only [f_Rd_test_L21, f_Rd_test_j60, f_Rd_test_j73, f_Rd_test_j90, wd, q1, q2, zI_0, zI_1, zI_2, zI_3, zI_4, zI_5, zI_6, zI_7, zI_8, zI_9, zI_10, zI_11, zI_12, zI_13, zI_14, zI_15, zI_16, zI_17, zI_18, zI_19, zI_20, zI_21, zI_22, zI_23, zI_24, zI_25, zI_26, zI_27, zI_28, zI_29, zI_30, zI_31, zI_32, zI_33, zI_34, zI_35, zI_36, zI_37, zI_38, zI_39, zI_40, zI_41, zI_42, zI_43, zI_44, zI_45, zI_46, zI_47, zI_48, zI_49, zI_50, zI_51, zI_52, zI_53, zI_54, zI_55, zI_56, zI_57, zI_58, zI_59, zI_60, zI_61, zI_62, zI_63, zI_64, zI_65, zI_66, zI_67, zI_74, zI_84, zI_85, zI_88, zI_91, zI_93, zI_97, zI_99, zI_100, zI_102, zI_105, zI_117, zI_122, zI_193, zI_202, zI_205, zI_251, zI_255, zI_256, zI_257, zI_258, zI_259, zI_260, zI_640, zI_999, zI_1000, zI_1024, zI_1600, zI_1602, zI_1700, zI_2040, zI_3200, zI_4100, zI_9728, zI_11784, zI_61440, zI_65536, zI_470536, zI_999999, zI_1000000, lt_T, lt_F, le_T, le_F, eq_T, eq_F, neg_1, cn_m1p, cn_m11, nI_add, cn_sub, pk_mul, cn_div, cn_irm, cn_lt, cn_eq, cn_ltm1, cn_m1lt, cn_eqm1, cn_m1eq, cn_ix, cn_inb, cn_ninb, cn_irs, cn_ils, cn_and, cn_or, cn_xor, grd_t, grd_bt, grd_bl, Nat.add_zero, Nat.zero_add, Nat.reduceAdd, Nat.reduceSub, Nat.reduceMul, Nat.reduceLT, Nat.reduceEqDiff, eq_self, true_and, and_true, and_false, false_and, if_true, if_false, and_self, Bool.true_eq_false, Bool.false_eq_true, Option.bind_some]
  have e1 : ∀ k4, f_Rd_test_L4 N kt kf ks kp k4 (nI 0, nI 1, s) = mfix N (f_Rd_test_L21 N kt kf ks kp k4) (nI 0, nI 0, s1) := fun k4 => by
    simp (disch := first | omega | decide) only [f_Rd_test_L4, zI_0, zI_1, zI_2, zI_3, zI_4, zI_5, zI_6, zI_7, zI_8, zI_9, zI_10, zI_11, zI_12, zI_13, zI_14, zI_15, zI_16, zI_17, zI_18, zI_19, zI_20, zI_21, zI_22, zI_23, zI_24, zI_25, zI_26, zI_27, zI_28, zI_29, zI_30, zI_31, zI_32, zI_33, zI_34, zI_35, zI_36, zI_37, zI_38, zI_39, zI_40, zI_41, zI_42, zI_43, zI_44, zI_45, zI_46, zI_47, zI_48, zI_49, zI_50, zI_51, zI_52, zI_53, zI_54, zI_55, zI_56, zI_57, zI_58, zI_59, zI_60, zI_61, zI_62, zI_63, zI_64, zI_65, zI_66, zI_67, zI_74, zI_84, zI_85, zI_88, zI_91, zI_93, zI_97, zI_99, zI_100, zI_102, zI_105, zI_117, zI_122, zI_193, zI_202, zI_205, zI_251, zI_255, zI_256, zI_257, zI_258, zI_259, zI_260, zI_640, zI_999, zI_1000, zI_1024, zI_1600, zI_1602, zI_1700, zI_2040, zI_3200, zI_4100, zI_9728, zI_11784, zI_61440, zI_65536, zI_470536, zI_999999, zI_1000000, lt_T, lt_F, le_T, le_F, eq_T, eq_F, neg_1, cn_m1p, cn_m11, nI_add, cn_sub, pk_mul, cn_div, cn_irm, cn_lt, cn_eq, cn_ltm1, cn_m1lt, cn_eqm1, cn_m1eq, cn_ix, cn_inb, cn_ninb, cn_irs, cn_ils, cn_and, cn_or, cn_xor, grd_t, grd_bt, grd_bl, Nat.add_zero, Nat.zero_add, Nat.reduceAdd, Nat.reduceSub, Nat.reduceMul, Nat.reduceLT, Nat.reduceEqDiff, eq_self, true_and, and_true, and_false, false_and, if_true, if_false, and_self, Bool.true_eq_false, Bool.false_eq_true, e, Option.bind_some]
  unfold f_Rd_test_B
  rw [mfix_1 (by omega)]
  refine (e1 _).trans ?_
  rw [mfix_1 (by omega), e21, mfix_1 (by omega)]
  exact e2 _
/-- all four behind a fault -/
theorem grp_d {pg k w : Nat} (hp : PgO pg) (hN : 10000 ≤ N) (r : Nat) :
    (∀ s, DdX k w s → f_Rd_grp N (r + 1) 3 s = some s) ∧ (∀ s, DdX k w s → f_Rd_grp N (r + 2) 2 s = some s) ∧
    (∀ s, DPX pg k w s → ∃ s', f_Rd_grp N (r + 3) 1 s = some s' ∧ DPX pg k w s' ∧ Fr (kDP pg) s s') ∧
    (∀ s, DPX pg k w s → ∃ s', f_Rd_grp N (r + 4) 0 s = some s' ∧ DPX pg k w s' ∧ Fr (kDP pg) s s') := by
  have h3 : ∀ r s, DdX k w s → f_Rd_grp N (r + 1) 3 s = some s := fun r s h => part_d h
  have h2 : ∀ r s, DdX k w s → f_Rd_grp N (r + 2) 2 s = some s := fun r s h => sum_d h (h3 r s h) hN
  have h1 : ∀ r s, DPX pg k w s → ∃ s', f_Rd_grp N (r + 3) 1 s = some s' ∧ DPX pg k w s' ∧ Fr (kDP pg) s s' := fun r s h => fact_d hp h (h2 r)
  have h0 : ∀ r s, DPX pg k w s → ∃ s', f_Rd_grp N (r + 4) 0 s = some s' ∧ DPX pg k w s' ∧ Fr (kDP pg) s s' := fun r s h => test_d (h1 r) h hN
  exact ⟨h3 r, h2 r, h1 r, h0 r⟩
end DEAD
