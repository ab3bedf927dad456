/-! CALLS that ask: row, door -/
section OPS4
variable {N : Nat} {A : pL} {H : hL} {pa : Nat × (Nat → hL)} {se : Nat × (Nat → Nat × Bool)} {s s' t t' : mS}
theorem xTold_n (hA : WA A) (hP : XP A s) : f_X_isTold N s = some (nI (if 0 < pD A then 1 else 0), s) := by
  have := hA.1
  by_cases c : 0 < pD A
  · simp (disch := first | omega | decide) only [f_X_isTold, hP.1, zI_0, zI_1, zI_2, zI_3, zI_4, zI_5, zI_6, zI_7, zI_8, zI_9, zI_10, zI_11, zI_12, zI_13, zI_14, zI_15, zI_16, zI_17, zI_18, zI_19, zI_20, zI_21, zI_22, zI_23, zI_24, zI_25, zI_26, zI_27, zI_28, zI_29, zI_30, zI_31, zI_32, zI_33, zI_34, zI_35, zI_36, zI_37, zI_38, zI_39, zI_40, zI_41, zI_42, zI_43, zI_44, zI_45, zI_46, zI_47, zI_48, zI_49, zI_50, zI_51, zI_52, zI_53, zI_54, zI_55, zI_56, zI_57, zI_58, zI_59, zI_60, zI_61, zI_62, zI_63, zI_64, zI_65, zI_66, zI_67, zI_74, zI_84, zI_85, zI_88, zI_91, zI_93, zI_97, zI_99, zI_100, zI_102, zI_105, zI_117, zI_122, zI_193, zI_202, zI_205, zI_251, zI_255, zI_256, zI_257, zI_258, zI_259, zI_260, zI_640, zI_999, zI_1000, zI_1024, zI_1600, zI_1602, zI_1700, zI_2040, zI_3200, zI_4100, zI_9728, zI_11784, zI_61440, zI_65536, zI_470536, zI_999999, zI_1000000, lt_T, lt_F, le_T, le_F, eq_T, eq_F, neg_1, cn_m1p, cn_m11, nI_add, cn_sub, pk_mul, cn_div, cn_irm, cn_lt, cn_eq, cn_ltm1, cn_m1lt, cn_eqm1, cn_m1eq, cn_ix, cn_inb, cn_ninb, cn_irs, cn_ils, cn_and, cn_or, cn_xor, grd_t, grd_bt, grd_bl, Nat.add_zero, Nat.zero_add, Nat.reduceAdd, Nat.reduceSub, Nat.reduceMul, Nat.reduceLT, Nat.reduceEqDiff, eq_self, true_and, and_true, and_false, false_and, if_true, if_false, and_self, Bool.true_eq_false, Bool.false_eq_true, c]
  · simp (disch := first | omega | decide) only [f_X_isTold, hP.1, zI_0, zI_1, zI_2, zI_3, zI_4, zI_5, zI_6, zI_7, zI_8, zI_9, zI_10, zI_11, zI_12, zI_13, zI_14, zI_15, zI_16, zI_17, zI_18, zI_19, zI_20, zI_21, zI_22, zI_23, zI_24, zI_25, zI_26, zI_27, zI_28, zI_29, zI_30, zI_31, zI_32, zI_33, zI_34, zI_35, zI_36, zI_37, zI_38, zI_39, zI_40, zI_41, zI_42, zI_43, zI_44, zI_45, zI_46, zI_47, zI_48, zI_49, zI_50, zI_51, zI_52, zI_53, zI_54, zI_55, zI_56, zI_57, zI_58, zI_59, zI_60, zI_61, zI_62, zI_63, zI_64, zI_65, zI_66, zI_67, zI_74, zI_84, zI_85, zI_88, zI_91, zI_93, zI_97, zI_99, zI_100, zI_102, zI_105, zI_117, zI_122, zI_193, zI_202, zI_205, zI_251, zI_255, zI_256, zI_257, zI_258, zI_259, zI_260, zI_640, zI_999, zI_1000, zI_1024, zI_1600, zI_1602, zI_1700, zI_2040, zI_3200, zI_4100, zI_9728, zI_11784, zI_61440, zI_65536, zI_470536, zI_999999, zI_1000000, lt_T, lt_F, le_T, le_F, eq_T, eq_F, neg_1, cn_m1p, cn_m11, nI_add, cn_sub, pk_mul, cn_div, cn_irm, cn_lt, cn_eq, cn_ltm1, cn_m1lt, cn_eqm1, cn_m1eq, cn_ix, cn_inb, cn_ninb, cn_irs, cn_ils, cn_and, cn_or, cn_xor, grd_t, grd_bt, grd_bl, Nat.add_zero, Nat.zero_add, Nat.reduceAdd, Nat.reduceSub, Nat.reduceMul, Nat.reduceLT, Nat.reduceEqDiff, eq_self, true_and, and_true, and_false, false_and, if_true, if_false, and_self, Bool.true_eq_false, Bool.false_eq_true, c]
/-- the longest row so far, the row at hand -/
def rwS (op i : Nat) (x : Nat × Nat) : Nat × Nat := if op.testBit i then (max x.1 (x.2 + 1), x.2 + 1) else (max x.1 0, 0)
def rwN (op n : Nat) : Nat × Nat := itN (rwS op) n (0, 0)
theorem rwN_le (op n : Nat) : (rwN op n).1 ≤ n ∧ (rwN op n).2 ≤ n :=
  itN_inv (fun i (x : Nat × Nat) => x.1 ≤ i ∧ x.2 ≤ i) ⟨Nat.le_refl _, Nat.le_refl _⟩ (fun i x hx => by
    have h1 : x.1 ≤ i := hx.1
    have h2 : x.2 ≤ i := hx.2
    unfold rwS
    split
    · exact ⟨by show max x.1 (x.2 + 1) ≤ i + 1; omega, by show x.2 + 1 ≤ i + 1; omega⟩
    · exact ⟨by show max x.1 0 ≤ i + 1; omega, Nat.zero_le _⟩) n
theorem xRow_n (hA : WA A) (hB : HB A H) (hP : XP A s) (hR : HR 19 H s) (hN : 10000 ≤ N) : mfix N (f_X_row_L15 N) (nI 0, nI 0, nI 0, s) = some (nI (rwN (H.1 2) (pD A)).1, s) := by
  have hD := hA.1
  have hl : Ok (mfix N (f_X_row_L15 N) (nI 0, nI 0, nI 0, s)) (fun r => r = (nI (rwN (H.1 2) (pD A)).1, s)) := by
    refine mfix_up (fun i x => x = (nI (rwN (H.1 2) i).1, nI (rwN (H.1 2) i).2, nI i, s)) (pD A) ?_ ?_ N 0 _ rfl (Nat.zero_le _) (by omega)
    · rintro i k x hi hx hk
      rw [hx]
      obtain ⟨l1, l2⟩ := rwN_le (H.1 2) i
      have e := isOpen_n (N := N) (Or.inl rfl) hA hB hR (show i < 24 by omega)
      cases c : (H.1 2).testBit i
      · rw [c] at e
        simp (disch := first | omega | decide) only [f_X_row_L15, f_X_row_j45, hP.1, e, zI_0, zI_1, zI_2, zI_3, zI_4, zI_5, zI_6, zI_7, zI_8, zI_9, zI_10, zI_11, zI_12, zI_13, zI_14, zI_15, zI_16, zI_17, zI_18, zI_19, zI_20, zI_21, zI_22, zI_23, zI_24, zI_25, zI_26, zI_27, zI_28, zI_29, zI_30, zI_31, zI_32, zI_33, zI_34, zI_35, zI_36, zI_37, zI_38, zI_39, zI_40, zI_41, zI_42, zI_43, zI_44, zI_45, zI_46, zI_47, zI_48, zI_49, zI_50, zI_51, zI_52, zI_53, zI_54, zI_55, zI_56, zI_57, zI_58, zI_59, zI_60, zI_61, zI_62, zI_63, zI_64, zI_65, zI_66, zI_67, zI_74, zI_84, zI_85, zI_88, zI_91, zI_93, zI_97, zI_99, zI_100, zI_102, zI_105, zI_117, zI_122, zI_193, zI_202, zI_205, zI_251, zI_255, zI_256, zI_257, zI_258, zI_259, zI_260, zI_640, zI_999, zI_1000, zI_1024, zI_1600, zI_1602, zI_1700, zI_2040, zI_3200, zI_4100, zI_9728, zI_11784, zI_61440, zI_65536, zI_470536, zI_999999, zI_1000000, lt_T, lt_F, le_T, le_F, eq_T, eq_F, neg_1, cn_m1p, cn_m11, nI_add, cn_sub, pk_mul, cn_div, cn_irm, cn_lt, cn_eq, cn_ltm1, cn_m1lt, cn_eqm1, cn_m1eq, cn_ix, cn_inb, cn_ninb, cn_irs, cn_ils, cn_and, cn_or, cn_xor, grd_t, grd_bt, grd_bl, Nat.add_zero, Nat.zero_add, Nat.reduceAdd, Nat.reduceSub, Nat.reduceMul, Nat.reduceLT, Nat.reduceEqDiff, eq_self, true_and, and_true, and_false, false_and, if_true, if_false, and_self, Bool.true_eq_false, Bool.false_eq_true, Option.bind_some, show zi (b01 false) = nI 0 from rfl, max_n]
        refine hk _ ?_
        rw [show rwN (H.1 2) (i + 1) = (max (rwN (H.1 2) i).1 0, 0) from by show rwS _ _ _ = _; unfold rwS; rw [c]; rfl]
      · rw [c] at e
        simp (disch := first | omega | decide) only [f_X_row_L15, f_X_row_j45, hP.1, e, zI_0, zI_1, zI_2, zI_3, zI_4, zI_5, zI_6, zI_7, zI_8, zI_9, zI_10, zI_11, zI_12, zI_13, zI_14, zI_15, zI_16, zI_17, zI_18, zI_19, zI_20, zI_21, zI_22, zI_23, zI_24, zI_25, zI_26, zI_27, zI_28, zI_29, zI_30, zI_31, zI_32, zI_33, zI_34, zI_35, zI_36, zI_37, zI_38, zI_39, zI_40, zI_41, zI_42, zI_43, zI_44, zI_45, zI_46, zI_47, zI_48, zI_49, zI_50, zI_51, zI_52, zI_53, zI_54, zI_55, zI_56, zI_57, zI_58, zI_59, zI_60, zI_61, zI_62, zI_63, zI_64, zI_65, zI_66, zI_67, zI_74, zI_84, zI_85, zI_88, zI_91, zI_93, zI_97, zI_99, zI_100, zI_102, zI_105, zI_117, zI_122, zI_193, zI_202, zI_205, zI_251, zI_255, zI_256, zI_257, zI_258, zI_259, zI_260, zI_640, zI_999, zI_1000, zI_1024, zI_1600, zI_1602, zI_1700, zI_2040, zI_3200, zI_4100, zI_9728, zI_11784, zI_61440, zI_65536, zI_470536, zI_999999, zI_1000000, lt_T, lt_F, le_T, le_F, eq_T, eq_F, neg_1, cn_m1p, cn_m11, nI_add, cn_sub, pk_mul, cn_div, cn_irm, cn_lt, cn_eq, cn_ltm1, cn_m1lt, cn_eqm1, cn_m1eq, cn_ix, cn_inb, cn_ninb, cn_irs, cn_ils, cn_and, cn_or, cn_xor, grd_t, grd_bt, grd_bl, Nat.add_zero, Nat.zero_add, Nat.reduceAdd, Nat.reduceSub, Nat.reduceMul, Nat.reduceLT, Nat.reduceEqDiff, eq_self, true_and, and_true, and_false, false_and, if_true, if_false, and_self, Bool.true_eq_false, Bool.false_eq_true, Option.bind_some, show zi (b01 true) = nI 1 from rfl, max_n]
        refine hk _ ?_
        rw [show rwN (H.1 2) (i + 1) = (max (rwN (H.1 2) i).1 ((rwN (H.1 2) i).2 + 1), (rwN (H.1 2) i).2 + 1) from by show rwS _ _ _ = _; unfold rwS; rw [c]; rfl]
    · rintro k x hx
      rw [hx]
      simp (disch := first | omega | decide) only [f_X_row_L15, hP.1, zI_0, zI_1, zI_2, zI_3, zI_4, zI_5, zI_6, zI_7, zI_8, zI_9, zI_10, zI_11, zI_12, zI_13, zI_14, zI_15, zI_16, zI_17, zI_18, zI_19, zI_20, zI_21, zI_22, zI_23, zI_24, zI_25, zI_26, zI_27, zI_28, zI_29, zI_30, zI_31, zI_32, zI_33, zI_34, zI_35, zI_36, zI_37, zI_38, zI_39, zI_40, zI_41, zI_42, zI_43, zI_44, zI_45, zI_46, zI_47, zI_48, zI_49, zI_50, zI_51, zI_52, zI_53, zI_54, zI_55, zI_56, zI_57, zI_58, zI_59, zI_60, zI_61, zI_62, zI_63, zI_64, zI_65, zI_66, zI_67, zI_74, zI_84, zI_85, zI_88, zI_91, zI_93, zI_97, zI_99, zI_100, zI_102, zI_105, zI_117, zI_122, zI_193, zI_202, zI_205, zI_251, zI_255, zI_256, zI_257, zI_258, zI_259, zI_260, zI_640, zI_999, zI_1000, zI_1024, zI_1600, zI_1602, zI_1700, zI_2040, zI_3200, zI_4100, zI_9728, zI_11784, zI_61440, zI_65536, zI_470536, zI_999999, zI_1000000, lt_T, lt_F, le_T, le_F, eq_T, eq_F, neg_1, cn_m1p, cn_m11, nI_add, cn_sub, pk_mul, cn_div, cn_irm, cn_lt, cn_eq, cn_ltm1, cn_m1lt, cn_eqm1, cn_m1eq, cn_ix, cn_inb, cn_ninb, cn_irs, cn_ils, cn_and, cn_or, cn_xor, grd_t, grd_bt, grd_bl, Nat.add_zero, Nat.zero_add, Nat.reduceAdd, Nat.reduceSub, Nat.reduceMul, Nat.reduceLT, Nat.reduceEqDiff, eq_self, true_and, and_true, and_false, false_and, if_true, if_false, and_self, Bool.true_eq_false, Bool.false_eq_true]
      exact Ok_some rfl
  obtain ⟨x, h1, h2⟩ := hl
  rw [h1, h2]
theorem mRow_n (hA : WA A) (hB : HB A H) (hP : MP A t) (hR : MRow A H t) (hN : 10000 ≤ N) : mfix N (f_M_row_L15 N) (nI 0, nI 0, nI 0, t) = some (nI (rwN (H.1 2) (pD A)).1, t) := by
  have hD := hA.1
  have hl : Ok (mfix N (f_M_row_L15 N) (nI 0, nI 0, nI 0, t)) (fun r => r = (nI (rwN (H.1 2) (pD A)).1, t)) := by
    refine mfix_up (fun i x => x = (nI (rwN (H.1 2) i).1, nI (rwN (H.1 2) i).2, nI i, t)) (pD A) ?_ ?_ N 0 _ rfl (Nat.zero_le _) (by omega)
    · rintro i k x hi hx hk
      rw [hx]
      obtain ⟨l1, l2⟩ := rwN_le (H.1 2) i
      have e := mOpenOf_n (N := N) hA hR hi
      have jj : ∀ v, v ≤ i + 1 → f_M_row_j39 N k (nI (rwN (H.1 2) i).1, nI i, nI v, t) = k (nI (max (rwN (H.1 2) i).1 v), nI v, nI (i + 1), t) := by
        intro v hv
        by_cases c : (rwN (H.1 2) i).1 < v
        · simp (disch := first | omega | decide) only [f_M_row_j39, zI_0, zI_1, zI_2, zI_3, zI_4, zI_5, zI_6, zI_7, zI_8, zI_9, zI_10, zI_11, zI_12, zI_13, zI_14, zI_15, zI_16, zI_17, zI_18, zI_19, zI_20, zI_21, zI_22, zI_23, zI_24, zI_25, zI_26, zI_27, zI_28, zI_29, zI_30, zI_31, zI_32, zI_33, zI_34, zI_35, zI_36, zI_37, zI_38, zI_39, zI_40, zI_41, zI_42, zI_43, zI_44, zI_45, zI_46, zI_47, zI_48, zI_49, zI_50, zI_51, zI_52, zI_53, zI_54, zI_55, zI_56, zI_57, zI_58, zI_59, zI_60, zI_61, zI_62, zI_63, zI_64, zI_65, zI_66, zI_67, zI_74, zI_84, zI_85, zI_88, zI_91, zI_93, zI_97, zI_99, zI_100, zI_102, zI_105, zI_117, zI_122, zI_193, zI_202, zI_205, zI_251, zI_255, zI_256, zI_257, zI_258, zI_259, zI_260, zI_640, zI_999, zI_1000, zI_1024, zI_1600, zI_1602, zI_1700, zI_2040, zI_3200, zI_4100, zI_9728, zI_11784, zI_61440, zI_65536, zI_470536, zI_999999, zI_1000000, lt_T, lt_F, le_T, le_F, eq_T, eq_F, neg_1, cn_m1p, cn_m11, nI_add, cn_sub, pk_mul, cn_div, cn_irm, cn_lt, cn_eq, cn_ltm1, cn_m1lt, cn_eqm1, cn_m1eq, cn_ix, cn_inb, cn_ninb, cn_irs, cn_ils, cn_and, cn_or, cn_xor, grd_t, grd_bt, grd_bl, Nat.add_zero, Nat.zero_add, Nat.reduceAdd, Nat.reduceSub, Nat.reduceMul, Nat.reduceLT, Nat.reduceEqDiff, eq_self, true_and, and_true, and_false, false_and, if_true, if_false, and_self, Bool.true_eq_false, Bool.false_eq_true]
          rw [Nat.max_eq_right (by omega)]
        · simp (disch := first | omega | decide) only [f_M_row_j39, zI_0, zI_1, zI_2, zI_3, zI_4, zI_5, zI_6, zI_7, zI_8, zI_9, zI_10, zI_11, zI_12, zI_13, zI_14, zI_15, zI_16, zI_17, zI_18, zI_19, zI_20, zI_21, zI_22, zI_23, zI_24, zI_25, zI_26, zI_27, zI_28, zI_29, zI_30, zI_31, zI_32, zI_33, zI_34, zI_35, zI_36, zI_37, zI_38, zI_39, zI_40, zI_41, zI_42, zI_43, zI_44, zI_45, zI_46, zI_47, zI_48, zI_49, zI_50, zI_51, zI_52, zI_53, zI_54, zI_55, zI_56, zI_57, zI_58, zI_59, zI_60, zI_61, zI_62, zI_63, zI_64, zI_65, zI_66, zI_67, zI_74, zI_84, zI_85, zI_88, zI_91, zI_93, zI_97, zI_99, zI_100, zI_102, zI_105, zI_117, zI_122, zI_193, zI_202, zI_205, zI_251, zI_255, zI_256, zI_257, zI_258, zI_259, zI_260, zI_640, zI_999, zI_1000, zI_1024, zI_1600, zI_1602, zI_1700, zI_2040, zI_3200, zI_4100, zI_9728, zI_11784, zI_61440, zI_65536, zI_470536, zI_999999, zI_1000000, lt_T, lt_F, le_T, le_F, eq_T, eq_F, neg_1, cn_m1p, cn_m11, nI_add, cn_sub, pk_mul, cn_div, cn_irm, cn_lt, cn_eq, cn_ltm1, cn_m1lt, cn_eqm1, cn_m1eq, cn_ix, cn_inb, cn_ninb, cn_irs, cn_ils, cn_and, cn_or, cn_xor, grd_t, grd_bt, grd_bl, Nat.add_zero, Nat.zero_add, Nat.reduceAdd, Nat.reduceSub, Nat.reduceMul, Nat.reduceLT, Nat.reduceEqDiff, eq_self, true_and, and_true, and_false, false_and, if_true, if_false, and_self, Bool.true_eq_false, Bool.false_eq_true]
          rw [Nat.max_eq_left (by omega)]
      cases c : (H.1 2).testBit i
      · rw [c] at e
        have j0 := jj 0 (by omega)
        simp (disch := first | omega | decide) only [f_M_row_L15, f_M_doorMany, hP.1, e, zI_0, zI_1, zI_2, zI_3, zI_4, zI_5, zI_6, zI_7, zI_8, zI_9, zI_10, zI_11, zI_12, zI_13, zI_14, zI_15, zI_16, zI_17, zI_18, zI_19, zI_20, zI_21, zI_22, zI_23, zI_24, zI_25, zI_26, zI_27, zI_28, zI_29, zI_30, zI_31, zI_32, zI_33, zI_34, zI_35, zI_36, zI_37, zI_38, zI_39, zI_40, zI_41, zI_42, zI_43, zI_44, zI_45, zI_46, zI_47, zI_48, zI_49, zI_50, zI_51, zI_52, zI_53, zI_54, zI_55, zI_56, zI_57, zI_58, zI_59, zI_60, zI_61, zI_62, zI_63, zI_64, zI_65, zI_66, zI_67, zI_74, zI_84, zI_85, zI_88, zI_91, zI_93, zI_97, zI_99, zI_100, zI_102, zI_105, zI_117, zI_122, zI_193, zI_202, zI_205, zI_251, zI_255, zI_256, zI_257, zI_258, zI_259, zI_260, zI_640, zI_999, zI_1000, zI_1024, zI_1600, zI_1602, zI_1700, zI_2040, zI_3200, zI_4100, zI_9728, zI_11784, zI_61440, zI_65536, zI_470536, zI_999999, zI_1000000, lt_T, lt_F, le_T, le_F, eq_T, eq_F, neg_1, cn_m1p, cn_m11, nI_add, cn_sub, pk_mul, cn_div, cn_irm, cn_lt, cn_eq, cn_ltm1, cn_m1lt, cn_eqm1, cn_m1eq, cn_ix, cn_inb, cn_ninb, cn_irs, cn_ils, cn_and, cn_or, cn_xor, grd_t, grd_bt, grd_bl, Nat.add_zero, Nat.zero_add, Nat.reduceAdd, Nat.reduceSub, Nat.reduceMul, Nat.reduceLT, Nat.reduceEqDiff, eq_self, true_and, and_true, and_false, false_and, if_true, if_false, and_self, Bool.true_eq_false, Bool.false_eq_true, Option.bind_some, show zi (b01 false) = nI 0 from rfl, j0]
        refine hk _ ?_
        rw [show rwN (H.1 2) (i + 1) = (max (rwN (H.1 2) i).1 0, 0) from by show rwS _ _ _ = _; unfold rwS; rw [c]; rfl]
      · rw [c] at e
        have j1 := jj ((rwN (H.1 2) i).2 + 1) (by omega)
        simp (disch := first | omega | decide) only [f_M_row_L15, f_M_doorMany, hP.1, e, zI_0, zI_1, zI_2, zI_3, zI_4, zI_5, zI_6, zI_7, zI_8, zI_9, zI_10, zI_11, zI_12, zI_13, zI_14, zI_15, zI_16, zI_17, zI_18, zI_19, zI_20, zI_21, zI_22, zI_23, zI_24, zI_25, zI_26, zI_27, zI_28, zI_29, zI_30, zI_31, zI_32, zI_33, zI_34, zI_35, zI_36, zI_37, zI_38, zI_39, zI_40, zI_41, zI_42, zI_43, zI_44, zI_45, zI_46, zI_47, zI_48, zI_49, zI_50, zI_51, zI_52, zI_53, zI_54, zI_55, zI_56, zI_57, zI_58, zI_59, zI_60, zI_61, zI_62, zI_63, zI_64, zI_65, zI_66, zI_67, zI_74, zI_84, zI_85, zI_88, zI_91, zI_93, zI_97, zI_99, zI_100, zI_102, zI_105, zI_117, zI_122, zI_193, zI_202, zI_205, zI_251, zI_255, zI_256, zI_257, zI_258, zI_259, zI_260, zI_640, zI_999, zI_1000, zI_1024, zI_1600, zI_1602, zI_1700, zI_2040, zI_3200, zI_4100, zI_9728, zI_11784, zI_61440, zI_65536, zI_470536, zI_999999, zI_1000000, lt_T, lt_F, le_T, le_F, eq_T, eq_F, neg_1, cn_m1p, cn_m11, nI_add, cn_sub, pk_mul, cn_div, cn_irm, cn_lt, cn_eq, cn_ltm1, cn_m1lt, cn_eqm1, cn_m1eq, cn_ix, cn_inb, cn_ninb, cn_irs, cn_ils, cn_and, cn_or, cn_xor, grd_t, grd_bt, grd_bl, Nat.add_zero, Nat.zero_add, Nat.reduceAdd, Nat.reduceSub, Nat.reduceMul, Nat.reduceLT, Nat.reduceEqDiff, eq_self, true_and, and_true, and_false, false_and, if_true, if_false, and_self, Bool.true_eq_false, Bool.false_eq_true, Option.bind_some, show zi (b01 true) = nI 1 from rfl, j1]
        refine hk _ ?_
        rw [show rwN (H.1 2) (i + 1) = (max (rwN (H.1 2) i).1 ((rwN (H.1 2) i).2 + 1), (rwN (H.1 2) i).2 + 1) from by show rwS _ _ _ = _; unfold rwS; rw [c]; rfl]
    · rintro k x hx
      rw [hx]
      simp (disch := first | omega | decide) only [f_M_row_L15, f_M_doorMany, hP.1, zI_0, zI_1, zI_2, zI_3, zI_4, zI_5, zI_6, zI_7, zI_8, zI_9, zI_10, zI_11, zI_12, zI_13, zI_14, zI_15, zI_16, zI_17, zI_18, zI_19, zI_20, zI_21, zI_22, zI_23, zI_24, zI_25, zI_26, zI_27, zI_28, zI_29, zI_30, zI_31, zI_32, zI_33, zI_34, zI_35, zI_36, zI_37, zI_38, zI_39, zI_40, zI_41, zI_42, zI_43, zI_44, zI_45, zI_46, zI_47, zI_48, zI_49, zI_50, zI_51, zI_52, zI_53, zI_54, zI_55, zI_56, zI_57, zI_58, zI_59, zI_60, zI_61, zI_62, zI_63, zI_64, zI_65, zI_66, zI_67, zI_74, zI_84, zI_85, zI_88, zI_91, zI_93, zI_97, zI_99, zI_100, zI_102, zI_105, zI_117, zI_122, zI_193, zI_202, zI_205, zI_251, zI_255, zI_256, zI_257, zI_258, zI_259, zI_260, zI_640, zI_999, zI_1000, zI_1024, zI_1600, zI_1602, zI_1700, zI_2040, zI_3200, zI_4100, zI_9728, zI_11784, zI_61440, zI_65536, zI_470536, zI_999999, zI_1000000, lt_T, lt_F, le_T, le_F, eq_T, eq_F, neg_1, cn_m1p, cn_m11, nI_add, cn_sub, pk_mul, cn_div, cn_irm, cn_lt, cn_eq, cn_ltm1, cn_m1lt, cn_eqm1, cn_m1eq, cn_ix, cn_inb, cn_ninb, cn_irs, cn_ils, cn_and, cn_or, cn_xor, grd_t, grd_bt, grd_bl, Nat.add_zero, Nat.zero_add, Nat.reduceAdd, Nat.reduceSub, Nat.reduceMul, Nat.reduceLT, Nat.reduceEqDiff, eq_self, true_and, and_true, and_false, false_and, if_true, if_false, and_self, Bool.true_eq_false, Bool.false_eq_true, Option.bind_some]
      exact Ok_some rfl
  obtain ⟨x, h1, h2⟩ := hl
  rw [h1, h2]
theorem P_row (hN : 10000 ≤ N) : Pure_13 Inv N := by
  rintro s t ⟨A, H, pa, se, hW, hX, hM, hR⟩
  have hI : Inv s t := ⟨A, H, pa, se, hW, hX, hM, hR⟩
  have e1 := xTold_n (N := N) hW.1 hX.1
  have e2 := hM.2.2.2.2.2
  have eX := xRow_n hW.1 hW.2.1 hX.1 hX.2.2.1 hN
  have eM := mRow_n hW.1 hW.2.1 hM.1 hM.2.2.1.1 hN
  by_cases c : 0 < pD A
  · rw [if_pos c] at e1 e2
    refine ⟨nI (rwN (H.1 2) (pD A)).1, s, t, ?_, ?_, hI⟩
    · simp (disch := first | omega | decide) only [f_X_row, e1, zI_0, zI_1, zI_2, zI_3, zI_4, zI_5, zI_6, zI_7, zI_8, zI_9, zI_10, zI_11, zI_12, zI_13, zI_14, zI_15, zI_16, zI_17, zI_18, zI_19, zI_20, zI_21, zI_22, zI_23, zI_24, zI_25, zI_26, zI_27, zI_28, zI_29, zI_30, zI_31, zI_32, zI_33, zI_34, zI_35, zI_36, zI_37, zI_38, zI_39, zI_40, zI_41, zI_42, zI_43, zI_44, zI_45, zI_46, zI_47, zI_48, zI_49, zI_50, zI_51, zI_52, zI_53, zI_54, zI_55, zI_56, zI_57, zI_58, zI_59, zI_60, zI_61, zI_62, zI_63, zI_64, zI_65, zI_66, zI_67, zI_74, zI_84, zI_85, zI_88, zI_91, zI_93, zI_97, zI_99, zI_100, zI_102, zI_105, zI_117, zI_122, zI_193, zI_202, zI_205, zI_251, zI_255, zI_256, zI_257, zI_258, zI_259, zI_260, zI_640, zI_999, zI_1000, zI_1024, zI_1600, zI_1602, zI_1700, zI_2040, zI_3200, zI_4100, zI_9728, zI_11784, zI_61440, zI_65536, zI_470536, zI_999999, zI_1000000, lt_T, lt_F, le_T, le_F, eq_T, eq_F, neg_1, cn_m1p, cn_m11, nI_add, cn_sub, pk_mul, cn_div, cn_irm, cn_lt, cn_eq, cn_ltm1, cn_m1lt, cn_eqm1, cn_m1eq, cn_ix, cn_inb, cn_ninb, cn_irs, cn_ils, cn_and, cn_or, cn_xor, grd_t, grd_bt, grd_bl, Nat.add_zero, Nat.zero_add, Nat.reduceAdd, Nat.reduceSub, Nat.reduceMul, Nat.reduceLT, Nat.reduceEqDiff, eq_self, true_and, and_true, and_false, false_and, if_true, if_false, and_self, Bool.true_eq_false, Bool.false_eq_true, Option.bind_some, eX]
    · simp (disch := first | omega | decide) only [f_M_row, e2, zI_0, zI_1, zI_2, zI_3, zI_4, zI_5, zI_6, zI_7, zI_8, zI_9, zI_10, zI_11, zI_12, zI_13, zI_14, zI_15, zI_16, zI_17, zI_18, zI_19, zI_20, zI_21, zI_22, zI_23, zI_24, zI_25, zI_26, zI_27, zI_28, zI_29, zI_30, zI_31, zI_32, zI_33, zI_34, zI_35, zI_36, zI_37, zI_38, zI_39, zI_40, zI_41, zI_42, zI_43, zI_44, zI_45, zI_46, zI_47, zI_48, zI_49, zI_50, zI_51, zI_52, zI_53, zI_54, zI_55, zI_56, zI_57, zI_58, zI_59, zI_60, zI_61, zI_62, zI_63, zI_64, zI_65, zI_66, zI_67, zI_74, zI_84, zI_85, zI_88, zI_91, zI_93, zI_97, zI_99, zI_100, zI_102, zI_105, zI_117, zI_122, zI_193, zI_202, zI_205, zI_251, zI_255, zI_256, zI_257, zI_258, zI_259, zI_260, zI_640, zI_999, zI_1000, zI_1024, zI_1600, zI_1602, zI_1700, zI_2040, zI_3200, zI_4100, zI_9728, zI_11784, zI_61440, zI_65536, zI_470536, zI_999999, zI_1000000, lt_T, lt_F, le_T, le_F, eq_T, eq_F, neg_1, cn_m1p, cn_m11, nI_add, cn_sub, pk_mul, cn_div, cn_irm, cn_lt, cn_eq, cn_ltm1, cn_m1lt, cn_eqm1, cn_m1eq, cn_ix, cn_inb, cn_ninb, cn_irs, cn_ils, cn_and, cn_or, cn_xor, grd_t, grd_bt, grd_bl, Nat.add_zero, Nat.zero_add, Nat.reduceAdd, Nat.reduceSub, Nat.reduceMul, Nat.reduceLT, Nat.reduceEqDiff, eq_self, true_and, and_true, and_false, false_and, if_true, if_false, and_self, Bool.true_eq_false, Bool.false_eq_true, eM]
  · rw [if_neg c] at e1 e2
    refine ⟨-1, s, t, ?_, ?_, hI⟩
    · simp (disch := first | omega | decide) only [f_X_row, e1, zI_0, zI_1, zI_2, zI_3, zI_4, zI_5, zI_6, zI_7, zI_8, zI_9, zI_10, zI_11, zI_12, zI_13, zI_14, zI_15, zI_16, zI_17, zI_18, zI_19, zI_20, zI_21, zI_22, zI_23, zI_24, zI_25, zI_26, zI_27, zI_28, zI_29, zI_30, zI_31, zI_32, zI_33, zI_34, zI_35, zI_36, zI_37, zI_38, zI_39, zI_40, zI_41, zI_42, zI_43, zI_44, zI_45, zI_46, zI_47, zI_48, zI_49, zI_50, zI_51, zI_52, zI_53, zI_54, zI_55, zI_56, zI_57, zI_58, zI_59, zI_60, zI_61, zI_62, zI_63, zI_64, zI_65, zI_66, zI_67, zI_74, zI_84, zI_85, zI_88, zI_91, zI_93, zI_97, zI_99, zI_100, zI_102, zI_105, zI_117, zI_122, zI_193, zI_202, zI_205, zI_251, zI_255, zI_256, zI_257, zI_258, zI_259, zI_260, zI_640, zI_999, zI_1000, zI_1024, zI_1600, zI_1602, zI_1700, zI_2040, zI_3200, zI_4100, zI_9728, zI_11784, zI_61440, zI_65536, zI_470536, zI_999999, zI_1000000, lt_T, lt_F, le_T, le_F, eq_T, eq_F, neg_1, cn_m1p, cn_m11, nI_add, cn_sub, pk_mul, cn_div, cn_irm, cn_lt, cn_eq, cn_ltm1, cn_m1lt, cn_eqm1, cn_m1eq, cn_ix, cn_inb, cn_ninb, cn_irs, cn_ils, cn_and, cn_or, cn_xor, grd_t, grd_bt, grd_bl, Nat.add_zero, Nat.zero_add, Nat.reduceAdd, Nat.reduceSub, Nat.reduceMul, Nat.reduceLT, Nat.reduceEqDiff, eq_self, true_and, and_true, and_false, false_and, if_true, if_false, and_self, Bool.true_eq_false, Bool.false_eq_true, Option.bind_some]
    · simp (disch := first | omega | decide) only [f_M_row, e2, zI_0, zI_1, zI_2, zI_3, zI_4, zI_5, zI_6, zI_7, zI_8, zI_9, zI_10, zI_11, zI_12, zI_13, zI_14, zI_15, zI_16, zI_17, zI_18, zI_19, zI_20, zI_21, zI_22, zI_23, zI_24, zI_25, zI_26, zI_27, zI_28, zI_29, zI_30, zI_31, zI_32, zI_33, zI_34, zI_35, zI_36, zI_37, zI_38, zI_39, zI_40, zI_41, zI_42, zI_43, zI_44, zI_45, zI_46, zI_47, zI_48, zI_49, zI_50, zI_51, zI_52, zI_53, zI_54, zI_55, zI_56, zI_57, zI_58, zI_59, zI_60, zI_61, zI_62, zI_63, zI_64, zI_65, zI_66, zI_67, zI_74, zI_84, zI_85, zI_88, zI_91, zI_93, zI_97, zI_99, zI_100, zI_102, zI_105, zI_117, zI_122, zI_193, zI_202, zI_205, zI_251, zI_255, zI_256, zI_257, zI_258, zI_259, zI_260, zI_640, zI_999, zI_1000, zI_1024, zI_1600, zI_1602, zI_1700, zI_2040, zI_3200, zI_4100, zI_9728, zI_11784, zI_61440, zI_65536, zI_470536, zI_999999, zI_1000000, lt_T, lt_F, le_T, le_F, eq_T, eq_F, neg_1, cn_m1p, cn_m11, nI_add, cn_sub, pk_mul, cn_div, cn_irm, cn_lt, cn_eq, cn_ltm1, cn_m1lt, cn_eqm1, cn_m1eq, cn_ix, cn_inb, cn_ninb, cn_irs, cn_ils, cn_and, cn_or, cn_xor, grd_t, grd_bt, grd_bl, Nat.add_zero, Nat.zero_add, Nat.reduceAdd, Nat.reduceSub, Nat.reduceMul, Nat.reduceLT, Nat.reduceEqDiff, eq_self, true_and, and_true, and_false, false_and, if_true, if_false, and_self, Bool.true_eq_false, Bool.false_eq_true]
def pofS (A : pL) (H : hL) (d n : Nat) : Nat := itN (fun p c => c + (ordS A H p >>> d &&& 1)) n 0
theorem pofS_le (A : pL) (H : hL) (d n : Nat) : pofS A H d n ≤ n :=
  itN_inv (fun i (x : Nat) => x ≤ i) (Nat.le_refl _) (fun i x hx => by
    have hx : x ≤ i := hx
    have := bit_le (ordS A H i) d
    show x + (ordS A H i >>> d &&& 1) ≤ i + 1
    omega) n
theorem xPof_n {d : Nat} (hA : WA A) (hB : HB A H) (hP : XP A s) (hR : HR 19 H s) (hO : XO A (ptH H) s) (hd : d < 24) (hN : 10000 ≤ N) : ∃ s', f_X_portersOf N (nI d) s = some (nI (pofS A H d (pP A)), s') ∧ Fr kXs s s' ∧ XO A (ptH H) s' := by
  have hp10 := hA.2.1
  have hl : Ok (mfix N (f_X_portersOf_L4 N) (nI d, nI 0, nI 0, s)) (fun r => r.1 = nI (pofS A H d (pP A)) ∧ Fr kXs s r.2 ∧ XO A (ptH H) r.2) := by
    refine mfix_up (fun i x => ∃ s1, x = (nI d, nI (pofS A H d i), nI i, s1) ∧ Fr kXs s s1 ∧ XO A (ptH H) s1) (pP A) ?_ ?_ N 0 _ ⟨s, rfl, Fr_r _ _, hO⟩ (Nat.zero_le _) (by omega)
    · rintro i k x hi ⟨s1, rfl, F, X⟩ hk
      have hP1 := XP_fr F (by decide) hP
      obtain ⟨s2, e2, F2, X2⟩ := orderOf_n (N := N) (Or.inl rfl) hA hB hP1 (HR_fr F (by decide) hR) X hi (by omega)
      have hol : ordS A H i < 16777216 := Nat.lt_of_lt_of_le (ordN_lt _ _ _ _) (pw_le hA.1)
      have := bit_le (ordS A H i) d
      simp (disch := first | omega | decide) only [f_X_portersOf_L4, hP1.2.1, zI_0, zI_1, zI_2, zI_3, zI_4, zI_5, zI_6, zI_7, zI_8, zI_9, zI_10, zI_11, zI_12, zI_13, zI_14, zI_15, zI_16, zI_17, zI_18, zI_19, zI_20, zI_21, zI_22, zI_23, zI_24, zI_25, zI_26, zI_27, zI_28, zI_29, zI_30, zI_31, zI_32, zI_33, zI_34, zI_35, zI_36, zI_37, zI_38, zI_39, zI_40, zI_41, zI_42, zI_43, zI_44, zI_45, zI_46, zI_47, zI_48, zI_49, zI_50, zI_51, zI_52, zI_53, zI_54, zI_55, zI_56, zI_57, zI_58, zI_59, zI_60, zI_61, zI_62, zI_63, zI_64, zI_65, zI_66, zI_67, zI_74, zI_84, zI_85, zI_88, zI_91, zI_93, zI_97, zI_99, zI_100, zI_102, zI_105, zI_117, zI_122, zI_193, zI_202, zI_205, zI_251, zI_255, zI_256, zI_257, zI_258, zI_259, zI_260, zI_640, zI_999, zI_1000, zI_1024, zI_1600, zI_1602, zI_1700, zI_2040, zI_3200, zI_4100, zI_9728, zI_11784, zI_61440, zI_65536, zI_470536, zI_999999, zI_1000000, lt_T, lt_F, le_T, le_F, eq_T, eq_F, neg_1, cn_m1p, cn_m11, nI_add, cn_sub, pk_mul, cn_div, cn_irm, cn_lt, cn_eq, cn_ltm1, cn_m1lt, cn_eqm1, cn_m1eq, cn_ix, cn_inb, cn_ninb, cn_irs, cn_ils, cn_and, cn_or, cn_xor, grd_t, grd_bt, grd_bl, Nat.add_zero, Nat.zero_add, Nat.reduceAdd, Nat.reduceSub, Nat.reduceMul, Nat.reduceLT, Nat.reduceEqDiff, eq_self, true_and, and_true, and_false, false_and, if_true, if_false, and_self, Bool.true_eq_false, Bool.false_eq_true, e2, Option.bind_some]
      exact hk _ ⟨s2, rfl, Fr_t F F2, X2⟩
    · rintro k x ⟨s1, rfl, F, X⟩
      have hP1 := XP_fr F (by decide) hP
      simp (disch := first | omega | decide) only [f_X_portersOf_L4, hP1.2.1, zI_0, zI_1, zI_2, zI_3, zI_4, zI_5, zI_6, zI_7, zI_8, zI_9, zI_10, zI_11, zI_12, zI_13, zI_14, zI_15, zI_16, zI_17, zI_18, zI_19, zI_20, zI_21, zI_22, zI_23, zI_24, zI_25, zI_26, zI_27, zI_28, zI_29, zI_30, zI_31, zI_32, zI_33, zI_34, zI_35, zI_36, zI_37, zI_38, zI_39, zI_40, zI_41, zI_42, zI_43, zI_44, zI_45, zI_46, zI_47, zI_48, zI_49, zI_50, zI_51, zI_52, zI_53, zI_54, zI_55, zI_56, zI_57, zI_58, zI_59, zI_60, zI_61, zI_62, zI_63, zI_64, zI_65, zI_66, zI_67, zI_74, zI_84, zI_85, zI_88, zI_91, zI_93, zI_97, zI_99, zI_100, zI_102, zI_105, zI_117, zI_122, zI_193, zI_202, zI_205, zI_251, zI_255, zI_256, zI_257, zI_258, zI_259, zI_260, zI_640, zI_999, zI_1000, zI_1024, zI_1600, zI_1602, zI_1700, zI_2040, zI_3200, zI_4100, zI_9728, zI_11784, zI_61440, zI_65536, zI_470536, zI_999999, zI_1000000, lt_T, lt_F, le_T, le_F, eq_T, eq_F, neg_1, cn_m1p, cn_m11, nI_add, cn_sub, pk_mul, cn_div, cn_irm, cn_lt, cn_eq, cn_ltm1, cn_m1lt, cn_eqm1, cn_m1eq, cn_ix, cn_inb, cn_ninb, cn_irs, cn_ils, cn_and, cn_or, cn_xor, grd_t, grd_bt, grd_bl, Nat.add_zero, Nat.zero_add, Nat.reduceAdd, Nat.reduceSub, Nat.reduceMul, Nat.reduceLT, Nat.reduceEqDiff, eq_self, true_and, and_true, and_false, false_and, if_true, if_false, and_self, Bool.true_eq_false, Bool.false_eq_true]
      exact Ok_some ⟨rfl, F, X⟩
  obtain ⟨x, h1, h2, h3, h4⟩ := hl
  exact ⟨x.2, by unfold f_X_portersOf; rw [show (0 : Int32) = nI 0 from rfl, h1, ← h2], h3, h4⟩
theorem mOby_n {d : Nat} (hA : WA A) (hB : HB A H) (hP : MP A t) (hR : MRow A H t) (hd : d < 24) (hN : 10000 ≤ N) : ∃ t', f_M_orderedBy N (nI d) t = some (nI (pofS A H d (pP A)), t') ∧ Fr kMs t t' := by
  have hp10 := hA.2.1
  obtain ⟨t1, e1, g1, F1⟩ := mLays_n hA hB hP hR hN
  have hP1 := MP_fr F1 (by decide) hP
  have hl : Ok (mfix N (f_M_orderedBy_L8 N) (nI d, nI 0, nI 0, t1)) (fun r => r = (nI (pofS A H d (pP A)), t1)) := by
    refine mfix_up (fun i x => x = (nI d, nI (pofS A H d i), nI i, t1)) (pP A) ?_ ?_ N 0 _ rfl (Nat.zero_le _) (by omega)
    · rintro i k x hi hx hk
      rw [hx]
      have hol : ordS A H i < 16777216 := Nat.lt_of_lt_of_le (ordN_lt _ _ _ _) (pw_le hA.1)
      have := bit_le (ordS A H i) d
      have gi := g1 i hi
      simp (disch := first | omega | decide) only [f_M_orderedBy_L8, f_M_porterMany, hP1.2.1, zI_0, zI_1, zI_2, zI_3, zI_4, zI_5, zI_6, zI_7, zI_8, zI_9, zI_10, zI_11, zI_12, zI_13, zI_14, zI_15, zI_16, zI_17, zI_18, zI_19, zI_20, zI_21, zI_22, zI_23, zI_24, zI_25, zI_26, zI_27, zI_28, zI_29, zI_30, zI_31, zI_32, zI_33, zI_34, zI_35, zI_36, zI_37, zI_38, zI_39, zI_40, zI_41, zI_42, zI_43, zI_44, zI_45, zI_46, zI_47, zI_48, zI_49, zI_50, zI_51, zI_52, zI_53, zI_54, zI_55, zI_56, zI_57, zI_58, zI_59, zI_60, zI_61, zI_62, zI_63, zI_64, zI_65, zI_66, zI_67, zI_74, zI_84, zI_85, zI_88, zI_91, zI_93, zI_97, zI_99, zI_100, zI_102, zI_105, zI_117, zI_122, zI_193, zI_202, zI_205, zI_251, zI_255, zI_256, zI_257, zI_258, zI_259, zI_260, zI_640, zI_999, zI_1000, zI_1024, zI_1600, zI_1602, zI_1700, zI_2040, zI_3200, zI_4100, zI_9728, zI_11784, zI_61440, zI_65536, zI_470536, zI_999999, zI_1000000, lt_T, lt_F, le_T, le_F, eq_T, eq_F, neg_1, cn_m1p, cn_m11, nI_add, cn_sub, pk_mul, cn_div, cn_irm, cn_lt, cn_eq, cn_ltm1, cn_m1lt, cn_eqm1, cn_m1eq, cn_ix, cn_inb, cn_ninb, cn_irs, cn_ils, cn_and, cn_or, cn_xor, grd_t, grd_bt, grd_bl, Nat.add_zero, Nat.zero_add, Nat.reduceAdd, Nat.reduceSub, Nat.reduceMul, Nat.reduceLT, Nat.reduceEqDiff, eq_self, true_and, and_true, and_false, false_and, if_true, if_false, and_self, Bool.true_eq_false, Bool.false_eq_true, gi, Option.bind_some]
      exact hk _ rfl
    · rintro k x hx
      rw [hx]
      simp (disch := first | omega | decide) only [f_M_orderedBy_L8, f_M_porterMany, hP1.2.1, zI_0, zI_1, zI_2, zI_3, zI_4, zI_5, zI_6, zI_7, zI_8, zI_9, zI_10, zI_11, zI_12, zI_13, zI_14, zI_15, zI_16, zI_17, zI_18, zI_19, zI_20, zI_21, zI_22, zI_23, zI_24, zI_25, zI_26, zI_27, zI_28, zI_29, zI_30, zI_31, zI_32, zI_33, zI_34, zI_35, zI_36, zI_37, zI_38, zI_39, zI_40, zI_41, zI_42, zI_43, zI_44, zI_45, zI_46, zI_47, zI_48, zI_49, zI_50, zI_51, zI_52, zI_53, zI_54, zI_55, zI_56, zI_57, zI_58, zI_59, zI_60, zI_61, zI_62, zI_63, zI_64, zI_65, zI_66, zI_67, zI_74, zI_84, zI_85, zI_88, zI_91, zI_93, zI_97, zI_99, zI_100, zI_102, zI_105, zI_117, zI_122, zI_193, zI_202, zI_205, zI_251, zI_255, zI_256, zI_257, zI_258, zI_259, zI_260, zI_640, zI_999, zI_1000, zI_1024, zI_1600, zI_1602, zI_1700, zI_2040, zI_3200, zI_4100, zI_9728, zI_11784, zI_61440, zI_65536, zI_470536, zI_999999, zI_1000000, lt_T, lt_F, le_T, le_F, eq_T, eq_F, neg_1, cn_m1p, cn_m11, nI_add, cn_sub, pk_mul, cn_div, cn_irm, cn_lt, cn_eq, cn_ltm1, cn_m1lt, cn_eqm1, cn_m1eq, cn_ix, cn_inb, cn_ninb, cn_irs, cn_ils, cn_and, cn_or, cn_xor, grd_t, grd_bt, grd_bl, Nat.add_zero, Nat.zero_add, Nat.reduceAdd, Nat.reduceSub, Nat.reduceMul, Nat.reduceLT, Nat.reduceEqDiff, eq_self, true_and, and_true, and_false, false_and, if_true, if_false, and_self, Bool.true_eq_false, Bool.false_eq_true, Option.bind_some]
      exact Ok_some rfl
  obtain ⟨x, h1, h2⟩ := hl
  refine ⟨t1, ?_, Fr_w F1 (by decide)⟩
  simp only [f_M_orderedBy, e1, Option.bind_some, zI_0]
  rw [h1, h2]
theorem P_door (hN : 10000 ≤ N) : Pure_6 Inv N := by
  rintro a b s t ⟨A, H, pa, se, hW, hX, hM, hR⟩
  have hI : Inv s t := ⟨A, H, pa, se, hW, hX, hM, hR⟩
  have hA := hW.1
  have hB := hW.2.1
  have hD := hA.1
  obtain ⟨v, hv1, hv2, rfl⟩ := arg_z a
  have q1 := xIsDoor_n (N := N) hA hX.1 ⟨hv1, hv2⟩
  have q2 := mIsDoor_n (N := N) hA hM.1 ⟨hv1, hv2⟩
  by_cases c : 0 ≤ v ∧ v < pD A
  · rw [if_pos c] at q1 q2
    obtain ⟨d, rfl⟩ := Int.eq_ofNat_of_zero_le c.1
    have hd : d < pD A := by omega
    rw [zi_nI] at q1 q2 ⊢
    have i0 : (nI 1 = 0) = False := eq_false (by decide)
    by_cases c0 : b = 0
    · refine ⟨zi (b01 ((H.1 2).testBit d)), s, t, ?_, ?_, hI⟩
      · simp only [f_X_door, q1, Option.bind_some, i0, if_false]
        rw [if_pos c0, isOpen_n (Or.inl rfl) hA hB hX.2.2.1 (show d < 24 by omega)]; rfl
      · simp only [f_M_door, q2, Option.bind_some, i0, if_false]
        rw [if_pos c0, mOpenOf_n hA hM.2.2.1.1 hd]; rfl
    · by_cases c1 : b = 1
      · have r : gA s 20 (28 + d) = nI (H.1 (28 + d)) := hX.2.2.1.1 (28 + d) (by omega)
        refine ⟨nI (H.1 (28 + d)), s, t, ?_, ?_, hI⟩
        · simp only [f_X_door, q1, Option.bind_some, i0, if_false, c0]
          rw [if_pos c1]
          simp (disch := first | omega | decide) only [show (28 : Int32) = nI 28 from rfl, nI_add, cn_inb, cn_ix, grd_t, r]
        · simp only [f_M_door, q2, Option.bind_some, i0, if_false, c0]
          rw [if_pos c1, mPaintOf_n hA hM.2.2.1.1 hd]; rfl
      · by_cases c2 : b = 2
        · have r : gA s 20 (4 + d) = nI (H.1 (4 + d)) := hX.2.2.1.1 (4 + d) (by omega)
          refine ⟨nI (H.1 (4 + d)), s, t, ?_, ?_, hI⟩
          · simp only [f_X_door, q1, Option.bind_some, i0, if_false, c0, c1]
            rw [if_pos c2]
            simp (disch := first | omega | decide) only [show (4 : Int32) = nI 4 from rfl, nI_add, cn_inb, cn_ix, grd_t, r]
          · simp only [f_M_door, q2, Option.bind_some, i0, if_false, c0, c1]
            rw [if_pos c2, mTurnedOf_n hA hM.2.2.1.1 hd]; rfl
        · by_cases c3 : b = 3
          · refine ⟨zi (b01 (jm A H d)), s, t, ?_, ?_, hI⟩
            · simp only [f_X_door, q1, Option.bind_some, i0, if_false, c0, c1, c2]
              rw [if_pos c3, hX.1.2.2.1, isJammed_n (Or.inl rfl) hA hB hX.2.2.1 (show d < 24 by omega)]
              cases jm A H d <;> rfl
            · simp only [f_M_door, q2, Option.bind_some, i0, if_false, c0, c1, c2]
              rw [if_pos c3, mIsJammed_n hA hB hM.1 hM.2.2.1.1 hd]
              cases jm A H d <;> rfl
          · by_cases c4 : b = 4
            · obtain ⟨s1, e1, F1, X1⟩ := xPof_n (N := N) hA hB hX.1 hX.2.2.1 hX.2.2.2.1 (show d < 24 by omega) hN
              obtain ⟨t1, e2, F2⟩ := mOby_n (N := N) hA hB hM.1 hM.2.2.1.1 (show d < 24 by omega) hN
              refine ⟨nI (pofS A H d (pP A)), s1, t1, ?_, ?_, Inv_q hW hX hM hR F1 X1 F2⟩
              · simp only [f_X_door, q1, Option.bind_some, i0, if_false, c0, c1, c2, c3, e1]
                rw [if_pos c4]
              · simp only [f_M_door, q2, Option.bind_some, i0, if_false, c0, c1, c2, c3, e2]
                rw [if_pos c4]
            · refine ⟨-1, s, t, ?_, ?_, hI⟩
              · simp only [f_X_door, q1, Option.bind_some, i0, if_false, c0, c1, c2, c3, c4]
              · simp only [f_M_door, q2, Option.bind_some, i0, if_false, c0, c1, c2, c3, c4]
  · rw [if_neg c] at q1 q2
    refine ⟨-1, s, t, ?_, ?_, hI⟩
    · simp only [f_X_door, q1, Option.bind_some]; rfl
    · simp only [f_M_door, q2, Option.bind_some]; rfl
end OPS4
