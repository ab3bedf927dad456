/-! WHERE A TEST GOES ON: and, or, its end -/
section TESTGO
variable {N n p o : Nat} {tp : Nat → Nat} {b : Bool} {s s0 t t0 : mS} {kd mk pg r k w m c x : Nat} {al : Nat → Bool} {L C W V pend l : List Nat} {Q : mS → Prop}
theorem TL87_n (hV : ∀ x V', V = x :: V' → x ≠ 10 ∧ x < 10000) : ∀ {l C : List Nat} {t : mS} (k : Nat), (∀ x ∈ l, x = 10) → RT tp n kd t0 p b o C (l ++ V) 0 t → C.length + (l ++ V).length < 1600 → l.length < k → ∃ t', mfix k (f_M_qGoesOnTest_L87 N) t = some (nI 1, t') ∧ RT tp n kd t0 p b o (C ++ l) (10 :: V) 0 t'
  | [], C, t, k, hl, h, hn, hk => by
    rw [mfix_1 (by omega)]
    rw [List.nil_append] at h hn
    have e1 := h.2.2.2.1.1
    refine ⟨_, ?_, by rw [List.append_nil]; exact r_push (by omega) h⟩
    cases hv : V with
    | nil =>
      rw [hv] at h e1
      have i : ∀ a, f_M_qIsOn N a t = some (nI 0, t) := fun a => isOn_0 h.2.2.2.1
      simp (disch := first | omega | decide) only [f_M_qGoesOnTest_L87, i, e1, zI_0, zI_1, zI_2, zI_3, zI_4, zI_5, zI_6, zI_7, zI_8, zI_9, zI_10, zI_11, zI_12, zI_13, zI_14, zI_15, zI_16, zI_17, zI_18, zI_19, zI_20, zI_21, zI_22, zI_23, zI_24, zI_25, zI_26, zI_27, zI_28, zI_29, zI_30, zI_31, zI_32, zI_33, zI_34, zI_35, zI_36, zI_37, zI_38, zI_39, zI_40, zI_41, zI_42, zI_43, zI_44, zI_45, zI_46, zI_47, zI_48, zI_49, zI_50, zI_51, zI_52, zI_53, zI_54, zI_55, zI_56, zI_57, zI_58, zI_59, zI_60, zI_61, zI_62, zI_63, zI_64, zI_65, zI_66, zI_67, zI_74, zI_84, zI_85, zI_88, zI_91, zI_93, zI_97, zI_99, zI_100, zI_102, zI_105, zI_117, zI_122, zI_193, zI_202, zI_205, zI_251, zI_255, zI_256, zI_257, zI_258, zI_259, zI_260, zI_640, zI_999, zI_1000, zI_1024, zI_1600, zI_1602, zI_1700, zI_2040, zI_3200, zI_4100, zI_9728, zI_11784, zI_61440, zI_65536, zI_470536, zI_999999, zI_1000000, lt_T, lt_F, le_T, le_F, eq_T, eq_F, neg_1, cn_m1p, cn_m11, nI_add, cn_sub, pk_mul, cn_div, cn_irm, cn_lt, cn_eq, cn_ltm1, cn_m1lt, cn_eqm1, cn_m1eq, cn_ix, cn_inb, cn_ninb, cn_irs, cn_ils, cn_and, cn_or, cn_xor, grd_t, grd_bt, grd_bl, Nat.add_zero, Nat.zero_add, Nat.reduceAdd, Nat.reduceSub, Nat.reduceMul, Nat.reduceLT, Nat.reduceEqDiff, eq_self, true_and, and_true, and_false, false_and, if_true, if_false, and_self, Bool.true_eq_false, Bool.false_eq_true, gI_sI, gI_sA, gI_sL, gI_sQ, gI_sC, gI_sO, gI_sD, gA_sI, gA_sL, gA_sQ, gA_sO, gA_sD, gL_sI, gL_sA, gL_sQ, gL_sC, gL_sO, gL_sD, gQ_sI, gQ_sA, gQ_sL, gQ_sC, gQ_sO, gO_sI, gO_sA, gO_sL, gO_sQ, gO_sC, gO_sO, gO_sD, gA_eq, gA_ne, gQ_eq, gQ_ne, gL_sL, gA_cin, gA_cou, gQ_cin, gQ_cou, List.length_nil, Option.bind_some]
    | cons x V' =>
      rw [hv] at h e1 hn
      rw [List.length_cons] at hn e1
      have hx := hV x V' hv
      have i3 := isOn_c (N := N) (a := 10) h.2.2.2.1 (by omega) (by omega) (by omega)
      rw [if_neg (by omega)] at i3
      simp (disch := first | omega | decide) only [f_M_qGoesOnTest_L87, i3, e1, zI_0, zI_1, zI_2, zI_3, zI_4, zI_5, zI_6, zI_7, zI_8, zI_9, zI_10, zI_11, zI_12, zI_13, zI_14, zI_15, zI_16, zI_17, zI_18, zI_19, zI_20, zI_21, zI_22, zI_23, zI_24, zI_25, zI_26, zI_27, zI_28, zI_29, zI_30, zI_31, zI_32, zI_33, zI_34, zI_35, zI_36, zI_37, zI_38, zI_39, zI_40, zI_41, zI_42, zI_43, zI_44, zI_45, zI_46, zI_47, zI_48, zI_49, zI_50, zI_51, zI_52, zI_53, zI_54, zI_55, zI_56, zI_57, zI_58, zI_59, zI_60, zI_61, zI_62, zI_63, zI_64, zI_65, zI_66, zI_67, zI_74, zI_84, zI_85, zI_88, zI_91, zI_93, zI_97, zI_99, zI_100, zI_102, zI_105, zI_117, zI_122, zI_193, zI_202, zI_205, zI_251, zI_255, zI_256, zI_257, zI_258, zI_259, zI_260, zI_640, zI_999, zI_1000, zI_1024, zI_1600, zI_1602, zI_1700, zI_2040, zI_3200, zI_4100, zI_9728, zI_11784, zI_61440, zI_65536, zI_470536, zI_999999, zI_1000000, lt_T, lt_F, le_T, le_F, eq_T, eq_F, neg_1, cn_m1p, cn_m11, nI_add, cn_sub, pk_mul, cn_div, cn_irm, cn_lt, cn_eq, cn_ltm1, cn_m1lt, cn_eqm1, cn_m1eq, cn_ix, cn_inb, cn_ninb, cn_irs, cn_ils, cn_and, cn_or, cn_xor, grd_t, grd_bt, grd_bl, Nat.add_zero, Nat.zero_add, Nat.reduceAdd, Nat.reduceSub, Nat.reduceMul, Nat.reduceLT, Nat.reduceEqDiff, eq_self, true_and, and_true, and_false, false_and, if_true, if_false, and_self, Bool.true_eq_false, Bool.false_eq_true, gI_sI, gI_sA, gI_sL, gI_sQ, gI_sC, gI_sO, gI_sD, gA_sI, gA_sL, gA_sQ, gA_sO, gA_sD, gL_sI, gL_sA, gL_sQ, gL_sC, gL_sO, gL_sD, gQ_sI, gQ_sA, gQ_sL, gQ_sC, gQ_sO, gO_sI, gO_sA, gO_sL, gO_sQ, gO_sC, gO_sO, gO_sD, gA_eq, gA_ne, gQ_eq, gQ_ne, gL_sL, gA_cin, gA_cou, gQ_cin, gQ_cou, List.length_cons, Option.bind_some]
  | x :: l, C, t, k, hl, h, hn, hk => by
    rw [mfix_1 (by omega)]
    have hn' := hn
    rw [List.cons_append, List.length_cons] at hn'
    obtain ⟨t1, f, R⟩ := r_drop (N := N) (c := x) (W := l ++ V) (by omega) h
    rw [List.length_cons] at hk
    obtain ⟨t2, f2, R2⟩ := TL87_n hV (l := l) (C := C ++ [x]) (t := t1) (k - 1) (fun z hz => hl z (List.mem_cons_of_mem _ hz)) R (by rw [List.length_append, List.length_singleton]; omega) (by omega)
    rw [List.append_assoc] at R2
    refine ⟨t2, ?_, R2⟩
    have hx := hl x (List.mem_cons_self ..)
    subst hx
    have i3 := isOn_c (N := N) (W := l ++ V) (a := 10) h.2.2.2.1 (by omega) (by omega) (by omega)
    simp (disch := first | omega | decide) only [f_M_qGoesOnTest_L87, i3, f, zI_0, zI_1, zI_2, zI_3, zI_4, zI_5, zI_6, zI_7, zI_8, zI_9, zI_10, zI_11, zI_12, zI_13, zI_14, zI_15, zI_16, zI_17, zI_18, zI_19, zI_20, zI_21, zI_22, zI_23, zI_24, zI_25, zI_26, zI_27, zI_28, zI_29, zI_30, zI_31, zI_32, zI_33, zI_34, zI_35, zI_36, zI_37, zI_38, zI_39, zI_40, zI_41, zI_42, zI_43, zI_44, zI_45, zI_46, zI_47, zI_48, zI_49, zI_50, zI_51, zI_52, zI_53, zI_54, zI_55, zI_56, zI_57, zI_58, zI_59, zI_60, zI_61, zI_62, zI_63, zI_64, zI_65, zI_66, zI_67, zI_74, zI_84, zI_85, zI_88, zI_91, zI_93, zI_97, zI_99, zI_100, zI_102, zI_105, zI_117, zI_122, zI_193, zI_202, zI_205, zI_251, zI_255, zI_256, zI_257, zI_258, zI_259, zI_260, zI_640, zI_999, zI_1000, zI_1024, zI_1600, zI_1602, zI_1700, zI_2040, zI_3200, zI_4100, zI_9728, zI_11784, zI_61440, zI_65536, zI_470536, zI_999999, zI_1000000, lt_T, lt_F, le_T, le_F, eq_T, eq_F, neg_1, cn_m1p, cn_m11, nI_add, cn_sub, pk_mul, cn_div, cn_irm, cn_lt, cn_eq, cn_ltm1, cn_m1lt, cn_eqm1, cn_m1eq, cn_ix, cn_inb, cn_ninb, cn_irs, cn_ils, cn_and, cn_or, cn_xor, grd_t, grd_bt, grd_bl, Nat.add_zero, Nat.zero_add, Nat.reduceAdd, Nat.reduceSub, Nat.reduceMul, Nat.reduceLT, Nat.reduceEqDiff, eq_self, true_and, and_true, and_false, false_and, if_true, if_false, and_self, Bool.true_eq_false, Bool.false_eq_true, Option.bind_some]
    exact f2
theorem TL137_n (hV : ∀ x V', V = x :: V' → x ≠ 10 ∧ x ≠ 11 ∧ x < 10000) : ∀ {l C : List Nat} {t : mS} (k : Nat), OpT l → RT tp n kd t0 p b o C (l ++ V) 0 t → C.length + (l ++ V).length < 1600 → l.length < k → ∃ t', mfix k (f_M_qGoesOnTest_L137 N) t = some (nI 1, t') ∧ RT tp n kd t0 p b o (C ++ l) (11 :: V) 0 t'
  | [], C, t, k, hl, h, hn, hk => by
    rw [mfix_1 (by omega)]
    rw [List.nil_append] at h hn
    have e1 := h.2.2.2.1.1
    refine ⟨_, ?_, by rw [List.append_nil]; exact r_push (by omega) h⟩
    cases hv : V with
    | nil =>
      rw [hv] at h e1
      have i : ∀ a, f_M_qIsOn N a t = some (nI 0, t) := fun a => isOn_0 h.2.2.2.1
      simp (disch := first | omega | decide) only [f_M_qGoesOnTest_L137, i, e1, zI_0, zI_1, zI_2, zI_3, zI_4, zI_5, zI_6, zI_7, zI_8, zI_9, zI_10, zI_11, zI_12, zI_13, zI_14, zI_15, zI_16, zI_17, zI_18, zI_19, zI_20, zI_21, zI_22, zI_23, zI_24, zI_25, zI_26, zI_27, zI_28, zI_29, zI_30, zI_31, zI_32, zI_33, zI_34, zI_35, zI_36, zI_37, zI_38, zI_39, zI_40, zI_41, zI_42, zI_43, zI_44, zI_45, zI_46, zI_47, zI_48, zI_49, zI_50, zI_51, zI_52, zI_53, zI_54, zI_55, zI_56, zI_57, zI_58, zI_59, zI_60, zI_61, zI_62, zI_63, zI_64, zI_65, zI_66, zI_67, zI_74, zI_84, zI_85, zI_88, zI_91, zI_93, zI_97, zI_99, zI_100, zI_102, zI_105, zI_117, zI_122, zI_193, zI_202, zI_205, zI_251, zI_255, zI_256, zI_257, zI_258, zI_259, zI_260, zI_640, zI_999, zI_1000, zI_1024, zI_1600, zI_1602, zI_1700, zI_2040, zI_3200, zI_4100, zI_9728, zI_11784, zI_61440, zI_65536, zI_470536, zI_999999, zI_1000000, lt_T, lt_F, le_T, le_F, eq_T, eq_F, neg_1, cn_m1p, cn_m11, nI_add, cn_sub, pk_mul, cn_div, cn_irm, cn_lt, cn_eq, cn_ltm1, cn_m1lt, cn_eqm1, cn_m1eq, cn_ix, cn_inb, cn_ninb, cn_irs, cn_ils, cn_and, cn_or, cn_xor, grd_t, grd_bt, grd_bl, Nat.add_zero, Nat.zero_add, Nat.reduceAdd, Nat.reduceSub, Nat.reduceMul, Nat.reduceLT, Nat.reduceEqDiff, eq_self, true_and, and_true, and_false, false_and, if_true, if_false, and_self, Bool.true_eq_false, Bool.false_eq_true, gI_sI, gI_sA, gI_sL, gI_sQ, gI_sC, gI_sO, gI_sD, gA_sI, gA_sL, gA_sQ, gA_sO, gA_sD, gL_sI, gL_sA, gL_sQ, gL_sC, gL_sO, gL_sD, gQ_sI, gQ_sA, gQ_sL, gQ_sC, gQ_sO, gO_sI, gO_sA, gO_sL, gO_sQ, gO_sC, gO_sO, gO_sD, gA_eq, gA_ne, gQ_eq, gQ_ne, gL_sL, gA_cin, gA_cou, gQ_cin, gQ_cou, List.length_nil, Option.bind_some]
    | cons x V' =>
      rw [hv] at h e1 hn
      rw [List.length_cons] at hn e1
      have hx := hV x V' hv
      have i3 := isOn_c (N := N) (a := 10) h.2.2.2.1 (by omega) (by omega) (by omega)
      have i4 := isOn_c (N := N) (a := 11) h.2.2.2.1 (by omega) (by omega) (by omega)
      rw [if_neg (by omega)] at i3 i4
      simp (disch := first | omega | decide) only [f_M_qGoesOnTest_L137, i3, i4, e1, zI_0, zI_1, zI_2, zI_3, zI_4, zI_5, zI_6, zI_7, zI_8, zI_9, zI_10, zI_11, zI_12, zI_13, zI_14, zI_15, zI_16, zI_17, zI_18, zI_19, zI_20, zI_21, zI_22, zI_23, zI_24, zI_25, zI_26, zI_27, zI_28, zI_29, zI_30, zI_31, zI_32, zI_33, zI_34, zI_35, zI_36, zI_37, zI_38, zI_39, zI_40, zI_41, zI_42, zI_43, zI_44, zI_45, zI_46, zI_47, zI_48, zI_49, zI_50, zI_51, zI_52, zI_53, zI_54, zI_55, zI_56, zI_57, zI_58, zI_59, zI_60, zI_61, zI_62, zI_63, zI_64, zI_65, zI_66, zI_67, zI_74, zI_84, zI_85, zI_88, zI_91, zI_93, zI_97, zI_99, zI_100, zI_102, zI_105, zI_117, zI_122, zI_193, zI_202, zI_205, zI_251, zI_255, zI_256, zI_257, zI_258, zI_259, zI_260, zI_640, zI_999, zI_1000, zI_1024, zI_1600, zI_1602, zI_1700, zI_2040, zI_3200, zI_4100, zI_9728, zI_11784, zI_61440, zI_65536, zI_470536, zI_999999, zI_1000000, lt_T, lt_F, le_T, le_F, eq_T, eq_F, neg_1, cn_m1p, cn_m11, nI_add, cn_sub, pk_mul, cn_div, cn_irm, cn_lt, cn_eq, cn_ltm1, cn_m1lt, cn_eqm1, cn_m1eq, cn_ix, cn_inb, cn_ninb, cn_irs, cn_ils, cn_and, cn_or, cn_xor, grd_t, grd_bt, grd_bl, Nat.add_zero, Nat.zero_add, Nat.reduceAdd, Nat.reduceSub, Nat.reduceMul, Nat.reduceLT, Nat.reduceEqDiff, eq_self, true_and, and_true, and_false, false_and, if_true, if_false, and_self, Bool.true_eq_false, Bool.false_eq_true, gI_sI, gI_sA, gI_sL, gI_sQ, gI_sC, gI_sO, gI_sD, gA_sI, gA_sL, gA_sQ, gA_sO, gA_sD, gL_sI, gL_sA, gL_sQ, gL_sC, gL_sO, gL_sD, gQ_sI, gQ_sA, gQ_sL, gQ_sC, gQ_sO, gO_sI, gO_sA, gO_sL, gO_sQ, gO_sC, gO_sO, gO_sD, gA_eq, gA_ne, gQ_eq, gQ_ne, gL_sL, gA_cin, gA_cou, gQ_cin, gQ_cou, List.length_cons, Option.bind_some]
  | x :: l, C, t, k, hl, h, hn, hk => by
    rw [mfix_1 (by omega)]
    have hn' := hn
    rw [List.cons_append, List.length_cons] at hn'
    obtain ⟨t1, f, R⟩ := r_drop (N := N) (c := x) (W := l ++ V) (by omega) h
    rw [List.length_cons] at hk
    obtain ⟨t2, f2, R2⟩ := TL137_n hV (l := l) (C := C ++ [x]) (t := t1) (k - 1) (fun z hz => hl z (List.mem_cons_of_mem _ hz)) R (by rw [List.length_append, List.length_singleton]; omega) (by omega)
    rw [List.append_assoc] at R2
    refine ⟨t2, ?_, R2⟩
    have hx := hl x (List.mem_cons_self ..)
    have i3 := isOn_c (N := N) (W := l ++ V) (a := 10) h.2.2.2.1 (by omega) (by omega) (by omega)
    have i4 := isOn_c (N := N) (W := l ++ V) (a := 11) h.2.2.2.1 (by omega) (by omega) (by omega)
    rcases hx with rfl | rfl
    · simp (disch := first | omega | decide) only [f_M_qGoesOnTest_L137, i3, f, zI_0, zI_1, zI_2, zI_3, zI_4, zI_5, zI_6, zI_7, zI_8, zI_9, zI_10, zI_11, zI_12, zI_13, zI_14, zI_15, zI_16, zI_17, zI_18, zI_19, zI_20, zI_21, zI_22, zI_23, zI_24, zI_25, zI_26, zI_27, zI_28, zI_29, zI_30, zI_31, zI_32, zI_33, zI_34, zI_35, zI_36, zI_37, zI_38, zI_39, zI_40, zI_41, zI_42, zI_43, zI_44, zI_45, zI_46, zI_47, zI_48, zI_49, zI_50, zI_51, zI_52, zI_53, zI_54, zI_55, zI_56, zI_57, zI_58, zI_59, zI_60, zI_61, zI_62, zI_63, zI_64, zI_65, zI_66, zI_67, zI_74, zI_84, zI_85, zI_88, zI_91, zI_93, zI_97, zI_99, zI_100, zI_102, zI_105, zI_117, zI_122, zI_193, zI_202, zI_205, zI_251, zI_255, zI_256, zI_257, zI_258, zI_259, zI_260, zI_640, zI_999, zI_1000, zI_1024, zI_1600, zI_1602, zI_1700, zI_2040, zI_3200, zI_4100, zI_9728, zI_11784, zI_61440, zI_65536, zI_470536, zI_999999, zI_1000000, lt_T, lt_F, le_T, le_F, eq_T, eq_F, neg_1, cn_m1p, cn_m11, nI_add, cn_sub, pk_mul, cn_div, cn_irm, cn_lt, cn_eq, cn_ltm1, cn_m1lt, cn_eqm1, cn_m1eq, cn_ix, cn_inb, cn_ninb, cn_irs, cn_ils, cn_and, cn_or, cn_xor, grd_t, grd_bt, grd_bl, Nat.add_zero, Nat.zero_add, Nat.reduceAdd, Nat.reduceSub, Nat.reduceMul, Nat.reduceLT, Nat.reduceEqDiff, eq_self, true_and, and_true, and_false, false_and, if_true, if_false, and_self, Bool.true_eq_false, Bool.false_eq_true, Option.bind_some]
      exact f2
    · simp (disch := first | omega | decide) only [f_M_qGoesOnTest_L137, i3, i4, f, zI_0, zI_1, zI_2, zI_3, zI_4, zI_5, zI_6, zI_7, zI_8, zI_9, zI_10, zI_11, zI_12, zI_13, zI_14, zI_15, zI_16, zI_17, zI_18, zI_19, zI_20, zI_21, zI_22, zI_23, zI_24, zI_25, zI_26, zI_27, zI_28, zI_29, zI_30, zI_31, zI_32, zI_33, zI_34, zI_35, zI_36, zI_37, zI_38, zI_39, zI_40, zI_41, zI_42, zI_43, zI_44, zI_45, zI_46, zI_47, zI_48, zI_49, zI_50, zI_51, zI_52, zI_53, zI_54, zI_55, zI_56, zI_57, zI_58, zI_59, zI_60, zI_61, zI_62, zI_63, zI_64, zI_65, zI_66, zI_67, zI_74, zI_84, zI_85, zI_88, zI_91, zI_93, zI_97, zI_99, zI_100, zI_102, zI_105, zI_117, zI_122, zI_193, zI_202, zI_205, zI_251, zI_255, zI_256, zI_257, zI_258, zI_259, zI_260, zI_640, zI_999, zI_1000, zI_1024, zI_1600, zI_1602, zI_1700, zI_2040, zI_3200, zI_4100, zI_9728, zI_11784, zI_61440, zI_65536, zI_470536, zI_999999, zI_1000000, lt_T, lt_F, le_T, le_F, eq_T, eq_F, neg_1, cn_m1p, cn_m11, nI_add, cn_sub, pk_mul, cn_div, cn_irm, cn_lt, cn_eq, cn_ltm1, cn_m1lt, cn_eqm1, cn_m1eq, cn_ix, cn_inb, cn_ninb, cn_irs, cn_ils, cn_and, cn_or, cn_xor, grd_t, grd_bt, grd_bl, Nat.add_zero, Nat.zero_add, Nat.reduceAdd, Nat.reduceSub, Nat.reduceMul, Nat.reduceLT, Nat.reduceEqDiff, eq_self, true_and, and_true, and_false, false_and, if_true, if_false, and_self, Bool.true_eq_false, Bool.false_eq_true, Option.bind_some]
      exact f2
/-- no closing square stands there: to the joining words -/
theorem TG_pre (hh : RT tp n kd t0 p b o C W 0 t) (hk : kK tp n p b ≠ 93) (hN : 10000 ≤ N) (k0 : mS → Option (Int32 × mS)) : f_M_qGoesOnTest_L0 N k0 t = f_M_qGoesOnTest_j76 N (lk tp n p t) := by
  obtain ⟨e1, e2, e3, e4⟩ := r_eq hh
  have l := look_b hh.2.1 hN
  have sg := (chM_sg (b := b) (p := p) (c := 93) ⟨by decide, by decide⟩ (RB_ht hh.2.1)).trans (eq_false hk)
  simp (disch := first | omega | decide) only [f_M_qGoesOnTest_L0, e2, l, sg, zI_0, zI_1, zI_2, zI_3, zI_4, zI_5, zI_6, zI_7, zI_8, zI_9, zI_10, zI_11, zI_12, zI_13, zI_14, zI_15, zI_16, zI_17, zI_18, zI_19, zI_20, zI_21, zI_22, zI_23, zI_24, zI_25, zI_26, zI_27, zI_28, zI_29, zI_30, zI_31, zI_32, zI_33, zI_34, zI_35, zI_36, zI_37, zI_38, zI_39, zI_40, zI_41, zI_42, zI_43, zI_44, zI_45, zI_46, zI_47, zI_48, zI_49, zI_50, zI_51, zI_52, zI_53, zI_54, zI_55, zI_56, zI_57, zI_58, zI_59, zI_60, zI_61, zI_62, zI_63, zI_64, zI_65, zI_66, zI_67, zI_74, zI_84, zI_85, zI_88, zI_91, zI_93, zI_97, zI_99, zI_100, zI_102, zI_105, zI_117, zI_122, zI_193, zI_202, zI_205, zI_251, zI_255, zI_256, zI_257, zI_258, zI_259, zI_260, zI_640, zI_999, zI_1000, zI_1024, zI_1600, zI_1602, zI_1700, zI_2040, zI_3200, zI_4100, zI_9728, zI_11784, zI_61440, zI_65536, zI_470536, zI_999999, zI_1000000, lt_T, lt_F, le_T, le_F, eq_T, eq_F, neg_1, cn_m1p, cn_m11, nI_add, cn_sub, pk_mul, cn_div, cn_irm, cn_lt, cn_eq, cn_ltm1, cn_m1lt, cn_eqm1, cn_m1eq, cn_ix, cn_inb, cn_ninb, cn_irs, cn_ils, cn_and, cn_or, cn_xor, grd_t, grd_bt, grd_bl, Nat.add_zero, Nat.zero_add, Nat.reduceAdd, Nat.reduceSub, Nat.reduceMul, Nat.reduceLT, Nat.reduceEqDiff, eq_self, true_and, and_true, and_false, false_and, if_true, if_false, and_self, Bool.true_eq_false, Bool.false_eq_true, Option.bind_some]
/-- on at the test's loop -/
theorem kT_on {k2 : Nat} (hm : m ≤ k2) (hk : rTS N Q m t) : Ok (kTm N k2 (nI 1, t)) Q := by
  unfold kTm
  simp (disch := first | omega | decide) only [zI_0, zI_1, zI_2, zI_3, zI_4, zI_5, zI_6, zI_7, zI_8, zI_9, zI_10, zI_11, zI_12, zI_13, zI_14, zI_15, zI_16, zI_17, zI_18, zI_19, zI_20, zI_21, zI_22, zI_23, zI_24, zI_25, zI_26, zI_27, zI_28, zI_29, zI_30, zI_31, zI_32, zI_33, zI_34, zI_35, zI_36, zI_37, zI_38, zI_39, zI_40, zI_41, zI_42, zI_43, zI_44, zI_45, zI_46, zI_47, zI_48, zI_49, zI_50, zI_51, zI_52, zI_53, zI_54, zI_55, zI_56, zI_57, zI_58, zI_59, zI_60, zI_61, zI_62, zI_63, zI_64, zI_65, zI_66, zI_67, zI_74, zI_84, zI_85, zI_88, zI_91, zI_93, zI_97, zI_99, zI_100, zI_102, zI_105, zI_117, zI_122, zI_193, zI_202, zI_205, zI_251, zI_255, zI_256, zI_257, zI_258, zI_259, zI_260, zI_640, zI_999, zI_1000, zI_1024, zI_1600, zI_1602, zI_1700, zI_2040, zI_3200, zI_4100, zI_9728, zI_11784, zI_61440, zI_65536, zI_470536, zI_999999, zI_1000000, lt_T, lt_F, le_T, le_F, eq_T, eq_F, neg_1, cn_m1p, cn_m11, nI_add, cn_sub, pk_mul, cn_div, cn_irm, cn_lt, cn_eq, cn_ltm1, cn_m1lt, cn_eqm1, cn_m1eq, cn_ix, cn_inb, cn_ninb, cn_irs, cn_ils, cn_and, cn_or, cn_xor, grd_t, grd_bt, grd_bl, Nat.add_zero, Nat.zero_add, Nat.reduceAdd, Nat.reduceSub, Nat.reduceMul, Nat.reduceLT, Nat.reduceEqDiff, eq_self, true_and, and_true, and_false, false_and, if_true, if_false, and_self, Bool.true_eq_false, Bool.false_eq_true]
  exact hk k2 hm
theorem TG_and (hh : RT tp n kd t0 p b o C (l ++ V) 0 t) (hV : ∀ x V', V = x :: V' → x ≠ 10 ∧ x < 10000) (hl : ∀ x ∈ l, x = 10) (hn : C.length + (l ++ V).length < 1600) (hw : wdA tp n p b = 21) (hN : 10000 ≤ N)
    (hc : ∀ t', RT tp n kd t0 (kE tp n p) true o (C ++ l) (10 :: V) 0 t' → rTS N Q m t') : rTG N Q (m + 1) t := by
  intro kg k2 h1 h2
  have kk := wdA_k hw
  rw [mfix_1 (by omega), TG_pre hh (by omega) hN]
  have hl2 := hn
  rw [List.length_append] at hl2
  obtain ⟨h, hL, g2⟩ := RT_lk hh
  generalize lk tp n p t = t1 at *
  obtain ⟨t2, f, R, F⟩ := (takes_b (N := N) (RL_RB hL) (show 48 ∈ kWo by decide) hN).1 hw
  have R2 := RT_st F (by decide) R h
  obtain ⟨t3, f3, R3⟩ := TL87_n (N := N) hV N hl R2 hn (by omega)
  simp (disch := first | omega | decide) only [f_M_qGoesOnTest_j76, f, f3, zI_0, zI_1, zI_2, zI_3, zI_4, zI_5, zI_6, zI_7, zI_8, zI_9, zI_10, zI_11, zI_12, zI_13, zI_14, zI_15, zI_16, zI_17, zI_18, zI_19, zI_20, zI_21, zI_22, zI_23, zI_24, zI_25, zI_26, zI_27, zI_28, zI_29, zI_30, zI_31, zI_32, zI_33, zI_34, zI_35, zI_36, zI_37, zI_38, zI_39, zI_40, zI_41, zI_42, zI_43, zI_44, zI_45, zI_46, zI_47, zI_48, zI_49, zI_50, zI_51, zI_52, zI_53, zI_54, zI_55, zI_56, zI_57, zI_58, zI_59, zI_60, zI_61, zI_62, zI_63, zI_64, zI_65, zI_66, zI_67, zI_74, zI_84, zI_85, zI_88, zI_91, zI_93, zI_97, zI_99, zI_100, zI_102, zI_105, zI_117, zI_122, zI_193, zI_202, zI_205, zI_251, zI_255, zI_256, zI_257, zI_258, zI_259, zI_260, zI_640, zI_999, zI_1000, zI_1024, zI_1600, zI_1602, zI_1700, zI_2040, zI_3200, zI_4100, zI_9728, zI_11784, zI_61440, zI_65536, zI_470536, zI_999999, zI_1000000, lt_T, lt_F, le_T, le_F, eq_T, eq_F, neg_1, cn_m1p, cn_m11, nI_add, cn_sub, pk_mul, cn_div, cn_irm, cn_lt, cn_eq, cn_ltm1, cn_m1lt, cn_eqm1, cn_m1eq, cn_ix, cn_inb, cn_ninb, cn_irs, cn_ils, cn_and, cn_or, cn_xor, grd_t, grd_bt, grd_bl, Nat.add_zero, Nat.zero_add, Nat.reduceAdd, Nat.reduceSub, Nat.reduceMul, Nat.reduceLT, Nat.reduceEqDiff, eq_self, true_and, and_true, and_false, false_and, if_true, if_false, and_self, Bool.true_eq_false, Bool.false_eq_true, Option.bind_some]
  exact kT_on (by omega) (hc t3 R3)
theorem TG_or (hh : RT tp n kd t0 p b o C (l ++ V) 0 t) (hV : ∀ x V', V = x :: V' → x ≠ 10 ∧ x ≠ 11 ∧ x < 10000) (hl : OpT l) (hn : C.length + (l ++ V).length < 1600) (hw : wdA tp n p b = 20) (hN : 10000 ≤ N)
    (hc : ∀ t', RT tp n kd t0 (kE tp n p) true o (C ++ l) (11 :: V) 0 t' → rTS N Q m t') : rTG N Q (m + 1) t := by
  intro kg k2 h1 h2
  have kk := wdA_k hw
  rw [mfix_1 (by omega), TG_pre hh (by omega) hN]
  have hl2 := hn
  rw [List.length_append] at hl2
  obtain ⟨h, hL, g2⟩ := RT_lk hh
  have ll := lk_RL hL
  generalize lk tp n p t = t1 at *
  have f0 := (takes_b (N := N) (RL_RB hL) (show 48 ∈ kWo by decide) hN).2 (by rw [hw]; decide)
  rw [ll] at f0
  obtain ⟨t2, f, R, F⟩ := (takes_b (N := N) (RL_RB hL) (show 49 ∈ kWo by decide) hN).1 hw
  have R2 := RT_st F (by decide) R h
  obtain ⟨t3, f3, R3⟩ := TL137_n (N := N) hV N hl R2 hn (by omega)
  simp (disch := first | omega | decide) only [f_M_qGoesOnTest_j76, f0, f, f3, zI_0, zI_1, zI_2, zI_3, zI_4, zI_5, zI_6, zI_7, zI_8, zI_9, zI_10, zI_11, zI_12, zI_13, zI_14, zI_15, zI_16, zI_17, zI_18, zI_19, zI_20, zI_21, zI_22, zI_23, zI_24, zI_25, zI_26, zI_27, zI_28, zI_29, zI_30, zI_31, zI_32, zI_33, zI_34, zI_35, zI_36, zI_37, zI_38, zI_39, zI_40, zI_41, zI_42, zI_43, zI_44, zI_45, zI_46, zI_47, zI_48, zI_49, zI_50, zI_51, zI_52, zI_53, zI_54, zI_55, zI_56, zI_57, zI_58, zI_59, zI_60, zI_61, zI_62, zI_63, zI_64, zI_65, zI_66, zI_67, zI_74, zI_84, zI_85, zI_88, zI_91, zI_93, zI_97, zI_99, zI_100, zI_102, zI_105, zI_117, zI_122, zI_193, zI_202, zI_205, zI_251, zI_255, zI_256, zI_257, zI_258, zI_259, zI_260, zI_640, zI_999, zI_1000, zI_1024, zI_1600, zI_1602, zI_1700, zI_2040, zI_3200, zI_4100, zI_9728, zI_11784, zI_61440, zI_65536, zI_470536, zI_999999, zI_1000000, lt_T, lt_F, le_T, le_F, eq_T, eq_F, neg_1, cn_m1p, cn_m11, nI_add, cn_sub, pk_mul, cn_div, cn_irm, cn_lt, cn_eq, cn_ltm1, cn_m1lt, cn_eqm1, cn_m1eq, cn_ix, cn_inb, cn_ninb, cn_irs, cn_ils, cn_and, cn_or, cn_xor, grd_t, grd_bt, grd_bl, Nat.add_zero, Nat.zero_add, Nat.reduceAdd, Nat.reduceSub, Nat.reduceMul, Nat.reduceLT, Nat.reduceEqDiff, eq_self, true_and, and_true, and_false, false_and, if_true, if_false, and_self, Bool.true_eq_false, Bool.false_eq_true, Option.bind_some]
  exact kT_on (by omega) (hc t3 R3)
theorem TL110_n : ∀ {W C : List Nat} {t : mS} (k : Nat), RT tp n kd t0 p b o C W 0 t → C.length + W.length < 1650 → W.length < k → ∃ t', mfix k (f_M_qTest_L110 N) t = some t' ∧ RT tp n kd t0 p b o (C ++ W) [] 0 t'
  | [], C, t, k, h, hn, hk => by
    rw [mfix_1 (by omega)]
    obtain ⟨e1, e2, e3, e4⟩ := r_eq h
    rw [List.length_nil] at e1
    refine ⟨t, ?_, by rw [List.append_nil]; exact h⟩
    simp (disch := first | omega | decide) only [f_M_qTest_L110, e1, e2, zI_0, zI_1, zI_2, zI_3, zI_4, zI_5, zI_6, zI_7, zI_8, zI_9, zI_10, zI_11, zI_12, zI_13, zI_14, zI_15, zI_16, zI_17, zI_18, zI_19, zI_20, zI_21, zI_22, zI_23, zI_24, zI_25, zI_26, zI_27, zI_28, zI_29, zI_30, zI_31, zI_32, zI_33, zI_34, zI_35, zI_36, zI_37, zI_38, zI_39, zI_40, zI_41, zI_42, zI_43, zI_44, zI_45, zI_46, zI_47, zI_48, zI_49, zI_50, zI_51, zI_52, zI_53, zI_54, zI_55, zI_56, zI_57, zI_58, zI_59, zI_60, zI_61, zI_62, zI_63, zI_64, zI_65, zI_66, zI_67, zI_74, zI_84, zI_85, zI_88, zI_91, zI_93, zI_97, zI_99, zI_100, zI_102, zI_105, zI_117, zI_122, zI_193, zI_202, zI_205, zI_251, zI_255, zI_256, zI_257, zI_258, zI_259, zI_260, zI_640, zI_999, zI_1000, zI_1024, zI_1600, zI_1602, zI_1700, zI_2040, zI_3200, zI_4100, zI_9728, zI_11784, zI_61440, zI_65536, zI_470536, zI_999999, zI_1000000, lt_T, lt_F, le_T, le_F, eq_T, eq_F, neg_1, cn_m1p, cn_m11, nI_add, cn_sub, pk_mul, cn_div, cn_irm, cn_lt, cn_eq, cn_ltm1, cn_m1lt, cn_eqm1, cn_m1eq, cn_ix, cn_inb, cn_ninb, cn_irs, cn_ils, cn_and, cn_or, cn_xor, grd_t, grd_bt, grd_bl, Nat.add_zero, Nat.zero_add, Nat.reduceAdd, Nat.reduceSub, Nat.reduceMul, Nat.reduceLT, Nat.reduceEqDiff, eq_self, true_and, and_true, and_false, false_and, if_true, if_false, and_self, Bool.true_eq_false, Bool.false_eq_true]
  | y :: W, C, t, k, h, hn, hk => by
    rw [mfix_1 (by omega)]
    obtain ⟨e1, e2, e3, e4⟩ := r_eq h
    rw [List.length_cons] at hn hk e1
    obtain ⟨t1, f, R⟩ := r_drop (N := N) (c := y) (W := W) (by omega) h
    obtain ⟨t2, f2, R2⟩ := TL110_n (W := W) (C := C ++ [y]) (t := t1) (k - 1) R (by rw [List.length_append, List.length_singleton]; omega) (by omega)
    rw [List.append_assoc] at R2
    refine ⟨t2, ?_, R2⟩
    simp (disch := first | omega | decide) only [f_M_qTest_L110, e1, e2, f, zI_0, zI_1, zI_2, zI_3, zI_4, zI_5, zI_6, zI_7, zI_8, zI_9, zI_10, zI_11, zI_12, zI_13, zI_14, zI_15, zI_16, zI_17, zI_18, zI_19, zI_20, zI_21, zI_22, zI_23, zI_24, zI_25, zI_26, zI_27, zI_28, zI_29, zI_30, zI_31, zI_32, zI_33, zI_34, zI_35, zI_36, zI_37, zI_38, zI_39, zI_40, zI_41, zI_42, zI_43, zI_44, zI_45, zI_46, zI_47, zI_48, zI_49, zI_50, zI_51, zI_52, zI_53, zI_54, zI_55, zI_56, zI_57, zI_58, zI_59, zI_60, zI_61, zI_62, zI_63, zI_64, zI_65, zI_66, zI_67, zI_74, zI_84, zI_85, zI_88, zI_91, zI_93, zI_97, zI_99, zI_100, zI_102, zI_105, zI_117, zI_122, zI_193, zI_202, zI_205, zI_251, zI_255, zI_256, zI_257, zI_258, zI_259, zI_260, zI_640, zI_999, zI_1000, zI_1024, zI_1600, zI_1602, zI_1700, zI_2040, zI_3200, zI_4100, zI_9728, zI_11784, zI_61440, zI_65536, zI_470536, zI_999999, zI_1000000, lt_T, lt_F, le_T, le_F, eq_T, eq_F, neg_1, cn_m1p, cn_m11, nI_add, cn_sub, pk_mul, cn_div, cn_irm, cn_lt, cn_eq, cn_ltm1, cn_m1lt, cn_eqm1, cn_m1eq, cn_ix, cn_inb, cn_ninb, cn_irs, cn_ils, cn_and, cn_or, cn_xor, grd_t, grd_bt, grd_bl, Nat.add_zero, Nat.zero_add, Nat.reduceAdd, Nat.reduceSub, Nat.reduceMul, Nat.reduceLT, Nat.reduceEqDiff, eq_self, true_and, and_true, and_false, false_and, if_true, if_false, and_self, Bool.true_eq_false, Bool.false_eq_true, Option.bind_some]
    exact f2
/-- a test ends, no square is told -/
theorem TG_end (hh : RT tp n kd t0 p b o C pend 0 t) (hp : OpT pend) (hl : C.length + pend.length < 1650) (hno : NoBo (wdA tp n p b)) (hm : 1 ≤ m) (hN : 10000 ≤ N) (hQ : ∀ t', RT tp n kd t0 p b o (C ++ pend) [] 0 t' → Q t') : rTG N Q m t := by
  intro kg k2 h1 h2
  rw [mfix_1 (by omega)]
  obtain ⟨e1, e2, e3, e4⟩ := r_eq hh
  have l := look_b hh.2.1 hN
  have sg := chM_sg (b := b) (p := p) (c := 93) ⟨by decide, by decide⟩ (RB_ht hh.2.1)
  obtain ⟨h, hL, g2⟩ := RT_lk hh
  generalize lk tp n p t = t1 at *
  have hs := hs_0 (N := N) h.2.2.2.1 (fun x hx => by have := hp x hx; omega) (fun hx => by have := hp 25 hx; omega) (by omega) hN
  have g := TG_no h hL hno hN
  have j : f_M_qGoesOnTest_L0 N (mfix (kg - 1) (f_M_qGoesOnTest_L0 N)) t = some (nI 0, t1) := by
    by_cases c : kK tp n p b = 93
    · have sg := sg.trans (eq_true c)
      simp (disch := first | omega | decide) only [f_M_qGoesOnTest_L0, e2, l, sg, g, hs, zI_0, zI_1, zI_2, zI_3, zI_4, zI_5, zI_6, zI_7, zI_8, zI_9, zI_10, zI_11, zI_12, zI_13, zI_14, zI_15, zI_16, zI_17, zI_18, zI_19, zI_20, zI_21, zI_22, zI_23, zI_24, zI_25, zI_26, zI_27, zI_28, zI_29, zI_30, zI_31, zI_32, zI_33, zI_34, zI_35, zI_36, zI_37, zI_38, zI_39, zI_40, zI_41, zI_42, zI_43, zI_44, zI_45, zI_46, zI_47, zI_48, zI_49, zI_50, zI_51, zI_52, zI_53, zI_54, zI_55, zI_56, zI_57, zI_58, zI_59, zI_60, zI_61, zI_62, zI_63, zI_64, zI_65, zI_66, zI_67, zI_74, zI_84, zI_85, zI_88, zI_91, zI_93, zI_97, zI_99, zI_100, zI_102, zI_105, zI_117, zI_122, zI_193, zI_202, zI_205, zI_251, zI_255, zI_256, zI_257, zI_258, zI_259, zI_260, zI_640, zI_999, zI_1000, zI_1024, zI_1600, zI_1602, zI_1700, zI_2040, zI_3200, zI_4100, zI_9728, zI_11784, zI_61440, zI_65536, zI_470536, zI_999999, zI_1000000, lt_T, lt_F, le_T, le_F, eq_T, eq_F, neg_1, cn_m1p, cn_m11, nI_add, cn_sub, pk_mul, cn_div, cn_irm, cn_lt, cn_eq, cn_ltm1, cn_m1lt, cn_eqm1, cn_m1eq, cn_ix, cn_inb, cn_ninb, cn_irs, cn_ils, cn_and, cn_or, cn_xor, grd_t, grd_bt, grd_bl, Nat.add_zero, Nat.zero_add, Nat.reduceAdd, Nat.reduceSub, Nat.reduceMul, Nat.reduceLT, Nat.reduceEqDiff, eq_self, true_and, and_true, and_false, false_and, if_true, if_false, and_self, Bool.true_eq_false, Bool.false_eq_true, Option.bind_some]
    · have sg := sg.trans (eq_false c)
      simp (disch := first | omega | decide) only [f_M_qGoesOnTest_L0, e2, l, sg, g, hs, zI_0, zI_1, zI_2, zI_3, zI_4, zI_5, zI_6, zI_7, zI_8, zI_9, zI_10, zI_11, zI_12, zI_13, zI_14, zI_15, zI_16, zI_17, zI_18, zI_19, zI_20, zI_21, zI_22, zI_23, zI_24, zI_25, zI_26, zI_27, zI_28, zI_29, zI_30, zI_31, zI_32, zI_33, zI_34, zI_35, zI_36, zI_37, zI_38, zI_39, zI_40, zI_41, zI_42, zI_43, zI_44, zI_45, zI_46, zI_47, zI_48, zI_49, zI_50, zI_51, zI_52, zI_53, zI_54, zI_55, zI_56, zI_57, zI_58, zI_59, zI_60, zI_61, zI_62, zI_63, zI_64, zI_65, zI_66, zI_67, zI_74, zI_84, zI_85, zI_88, zI_91, zI_93, zI_97, zI_99, zI_100, zI_102, zI_105, zI_117, zI_122, zI_193, zI_202, zI_205, zI_251, zI_255, zI_256, zI_257, zI_258, zI_259, zI_260, zI_640, zI_999, zI_1000, zI_1024, zI_1600, zI_1602, zI_1700, zI_2040, zI_3200, zI_4100, zI_9728, zI_11784, zI_61440, zI_65536, zI_470536, zI_999999, zI_1000000, lt_T, lt_F, le_T, le_F, eq_T, eq_F, neg_1, cn_m1p, cn_m11, nI_add, cn_sub, pk_mul, cn_div, cn_irm, cn_lt, cn_eq, cn_ltm1, cn_m1lt, cn_eqm1, cn_m1eq, cn_ix, cn_inb, cn_ninb, cn_irs, cn_ils, cn_and, cn_or, cn_xor, grd_t, grd_bt, grd_bl, Nat.add_zero, Nat.zero_add, Nat.reduceAdd, Nat.reduceSub, Nat.reduceMul, Nat.reduceLT, Nat.reduceEqDiff, eq_self, true_and, and_true, and_false, false_and, if_true, if_false, and_self, Bool.true_eq_false, Bool.false_eq_true, Option.bind_some]
  obtain ⟨t2, f2, R2⟩ := TL110_n (N := N) N h (by omega) (by omega)
  rw [j, Option.bind_some]
  unfold kTm
  rw [mfix_1 (n := k2) (x := (0, (nI 0, t1).2)) (by omega)]
  simp (disch := first | omega | decide) only [f_M_qTest_L2, f2, zI_0, zI_1, zI_2, zI_3, zI_4, zI_5, zI_6, zI_7, zI_8, zI_9, zI_10, zI_11, zI_12, zI_13, zI_14, zI_15, zI_16, zI_17, zI_18, zI_19, zI_20, zI_21, zI_22, zI_23, zI_24, zI_25, zI_26, zI_27, zI_28, zI_29, zI_30, zI_31, zI_32, zI_33, zI_34, zI_35, zI_36, zI_37, zI_38, zI_39, zI_40, zI_41, zI_42, zI_43, zI_44, zI_45, zI_46, zI_47, zI_48, zI_49, zI_50, zI_51, zI_52, zI_53, zI_54, zI_55, zI_56, zI_57, zI_58, zI_59, zI_60, zI_61, zI_62, zI_63, zI_64, zI_65, zI_66, zI_67, zI_74, zI_84, zI_85, zI_88, zI_91, zI_93, zI_97, zI_99, zI_100, zI_102, zI_105, zI_117, zI_122, zI_193, zI_202, zI_205, zI_251, zI_255, zI_256, zI_257, zI_258, zI_259, zI_260, zI_640, zI_999, zI_1000, zI_1024, zI_1600, zI_1602, zI_1700, zI_2040, zI_3200, zI_4100, zI_9728, zI_11784, zI_61440, zI_65536, zI_470536, zI_999999, zI_1000000, lt_T, lt_F, le_T, le_F, eq_T, eq_F, neg_1, cn_m1p, cn_m11, nI_add, cn_sub, pk_mul, cn_div, cn_irm, cn_lt, cn_eq, cn_ltm1, cn_m1lt, cn_eqm1, cn_m1eq, cn_ix, cn_inb, cn_ninb, cn_irs, cn_ils, cn_and, cn_or, cn_xor, grd_t, grd_bt, grd_bl, Nat.add_zero, Nat.zero_add, Nat.reduceAdd, Nat.reduceSub, Nat.reduceMul, Nat.reduceLT, Nat.reduceEqDiff, eq_self, true_and, and_true, and_false, false_and, if_true, if_false, and_self, Bool.true_eq_false, Bool.false_eq_true]
  exact Ok_some (hQ t2 R2)
end TESTGO
