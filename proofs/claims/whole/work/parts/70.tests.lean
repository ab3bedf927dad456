/-! A TEST's loop, on both sides -/
def JwT (cnt : Nat) : List Nat := if cnt = 0 then [] else [11]
def TyT (al : Nat → Bool) (es mw : List Nat) (cnt D : Nat) : Prop := ∀ ts : List Bool, ts.length + D ≤ 50 → ckL al (es ++ mw) ts = some (if cnt = 0 then true :: ts else true :: true :: ts)
def MwT (mw : List Nat) : Prop := mw = [] ∨ mw = [10]
def GoT (N : Nat) (tp : Nat → Nat) (n kd pg : Nat) (al : Nat → Bool) (o : Nat) (s0 : mS) (p0 : Nat) (L : List Nat) (res : Option mS) (p : Nat) (b : Bool) (es mw jw : List Nat) : Prop :=
  (∃ k w s', res = some s' ∧ CD pg s0 k w s' ∧ ∀ t0 Q C W t, RT tp n kd t0 p b o (C ++ es) (mw ++ (jw ++ W)) 0 t → C.length + W.length ≤ p0 → AllT W → SWT W → (∀ t', BU t0 k w t' → Q t') → rTG N Q (n - p + 5) t) ∨
  (∃ es' pend p2 b2 s', res = some s' ∧ CX tp n pg s0 p2 b2 o (L ++ (es' ++ pend)) s' ∧ p ≤ p2 ∧ (es' ++ pend).length ≤ p2 - p0 ∧ ckN al (es' ++ pend) (6 + 3 * (6 - o)) true ∧ OpT pend ∧ NoBo (wdA tp n p2 b2) ∧
    ∀ t0 Q C W t, RT tp n kd t0 p b o (C ++ es) (mw ++ (jw ++ W)) 0 t → C.length + W.length ≤ p0 → AllT W → SWT W → (∀ t', RT tp n kd t0 p2 b2 o (C ++ es') (pend ++ W) 0 t' → rTG N Q (n - p2 + 5) t') → rTG N Q (n - p + 5) t)
section TESTT
variable {N n p p0 o cnt : Nat} {tp : Nat → Nat} {b : Bool} {s s0 t t0 : mS} {kd mk pg r k w m c x : Nat} {al : Nat → Bool} {L C W V l es mw : List Nat} {Q : mS → Prop} {kt kf ks kp : mS → Option mS}
theorem JwT_o : OpT (JwT cnt) ∧ (JwT cnt).length ≤ 1 := by
  unfold JwT
  split
  · exact ⟨fun x h => (by cases h), by decide⟩
  · exact ⟨fun x h => by rcases List.mem_singleton.mp h with rfl; omega, by decide⟩
theorem MwT_o (h : MwT mw) : (∀ x ∈ mw, x = 10) ∧ mw.length ≤ 1 := by
  rcases h with rfl | rfl
  · exact ⟨fun x h => (by cases h), by decide⟩
  · exact ⟨fun x h => by rcases List.mem_singleton.mp h with rfl; omega, by decide⟩
theorem OpT_app {l m : List Nat} (h : OpT l) (h2 : OpT m) : OpT (l ++ m) := fun x hx => (List.mem_append.mp hx).elim (h x) (h2 x)
theorem AllT_app {l m : List Nat} (h : AllT l) (h2 : AllT m) : AllT (l ++ m) := fun x hx => (List.mem_append.mp hx).elim (h x) (h2 x)
theorem OpT_all {l : List Nat} (h : OpT l) : AllT l := fun x hx => by have := h x hx; omega
/-- what waits for a join, put down by the one side -/
theorem j60_n (hpo : PgO pg) (E : CE tp n pg mk s0) (h : CX tp n pg s0 p b o L s) (hl : L.length + 1 < 1602) (hc : cnt < 2000) {k4 : Int32 × Int32 × mS → Option mS} :
    ∃ s', f_Rd_test_j60 N kt kf ks kp k4 (nI cnt, s) = f_Rd_test_j73 N kt kf ks kp k4 (nI cnt, s') ∧ CX tp n pg s0 p b o (L ++ JwT cnt) s' := by
  obtain ⟨o1, _⟩ := pgo_ok hpo
  have g := (CE_x E h).2.1
  unfold JwT
  by_cases c : cnt = 0
  · rw [if_pos c]
    refine ⟨s, ?_, by rw [List.append_nil]; exact h⟩
    simp (disch := first | omega | decide) only [f_Rd_test_j60, c, zI_0, zI_1, zI_2, zI_3, zI_4, zI_5, zI_6, zI_7, zI_8, zI_9, zI_10, zI_11, zI_12, zI_13, zI_14, zI_15, zI_16, zI_17, zI_18, zI_19, zI_20, zI_21, zI_22, zI_23, zI_24, zI_25, zI_26, zI_27, zI_28, zI_29, zI_30, zI_31, zI_32, zI_33, zI_34, zI_35, zI_36, zI_37, zI_38, zI_39, zI_40, zI_41, zI_42, zI_43, zI_44, zI_45, zI_46, zI_47, zI_48, zI_49, zI_50, zI_51, zI_52, zI_53, zI_54, zI_55, zI_56, zI_57, zI_58, zI_59, zI_60, zI_61, zI_62, zI_63, zI_64, zI_65, zI_66, zI_67, zI_74, zI_84, zI_85, zI_88, zI_91, zI_93, zI_97, zI_99, zI_100, zI_102, zI_105, zI_117, zI_122, zI_193, zI_202, zI_205, zI_251, zI_255, zI_256, zI_257, zI_258, zI_259, zI_260, zI_640, zI_999, zI_1000, zI_1024, zI_1600, zI_1602, zI_1700, zI_2040, zI_3200, zI_4100, zI_9728, zI_11784, zI_61440, zI_65536, zI_470536, zI_999999, zI_1000000, lt_T, lt_F, le_T, le_F, eq_T, eq_F, neg_1, cn_m1p, cn_m11, nI_add, cn_sub, pk_mul, cn_div, cn_irm, cn_lt, cn_eq, cn_ltm1, cn_m1lt, cn_eqm1, cn_m1eq, cn_ix, cn_inb, cn_ninb, cn_irs, cn_ils, cn_and, cn_or, cn_xor, grd_t, grd_bt, grd_bl, Nat.add_zero, Nat.zero_add, Nat.reduceAdd, Nat.reduceSub, Nat.reduceMul, Nat.reduceLT, Nat.reduceEqDiff, eq_self, true_and, and_true, and_false, false_and, if_true, if_false, and_self, Bool.true_eq_false, Bool.false_eq_true]
  · rw [if_neg c]
    obtain ⟨s', f, X⟩ := c_add (N := N) (c := 11) E h (by omega) (x := nI 19) rfl
    refine ⟨s', ?_, X⟩
    simp (disch := first | omega | decide) only [f_Rd_test_j60, g, o1, f, zI_0, zI_1, zI_2, zI_3, zI_4, zI_5, zI_6, zI_7, zI_8, zI_9, zI_10, zI_11, zI_12, zI_13, zI_14, zI_15, zI_16, zI_17, zI_18, zI_19, zI_20, zI_21, zI_22, zI_23, zI_24, zI_25, zI_26, zI_27, zI_28, zI_29, zI_30, zI_31, zI_32, zI_33, zI_34, zI_35, zI_36, zI_37, zI_38, zI_39, zI_40, zI_41, zI_42, zI_43, zI_44, zI_45, zI_46, zI_47, zI_48, zI_49, zI_50, zI_51, zI_52, zI_53, zI_54, zI_55, zI_56, zI_57, zI_58, zI_59, zI_60, zI_61, zI_62, zI_63, zI_64, zI_65, zI_66, zI_67, zI_74, zI_84, zI_85, zI_88, zI_91, zI_93, zI_97, zI_99, zI_100, zI_102, zI_105, zI_117, zI_122, zI_193, zI_202, zI_205, zI_251, zI_255, zI_256, zI_257, zI_258, zI_259, zI_260, zI_640, zI_999, zI_1000, zI_1024, zI_1600, zI_1602, zI_1700, zI_2040, zI_3200, zI_4100, zI_9728, zI_11784, zI_61440, zI_65536, zI_470536, zI_999999, zI_1000000, lt_T, lt_F, le_T, le_F, eq_T, eq_F, neg_1, cn_m1p, cn_m11, nI_add, cn_sub, pk_mul, cn_div, cn_irm, cn_lt, cn_eq, cn_ltm1, cn_m1lt, cn_eqm1, cn_m1eq, cn_ix, cn_inb, cn_ninb, cn_irs, cn_ils, cn_and, cn_or, cn_xor, grd_t, grd_bt, grd_bl, Nat.add_zero, Nat.zero_add, Nat.reduceAdd, Nat.reduceSub, Nat.reduceMul, Nat.reduceLT, Nat.reduceEqDiff, eq_self, true_and, and_true, and_false, false_and, if_true, if_false, and_self, Bool.true_eq_false, Bool.false_eq_true, Option.bind_some]
/-- the one side's loop behind a fault -/
theorem L21_dead (hpo : PgO pg) (D : CD pg s0 k w s) {i kk k4 : Nat} (hc : cnt < 2000) (hi : i < 1600) (hk : 1 ≤ kk) (hk4 : 1 ≤ k4) :
    ∃ s', mfix kk (f_Rd_test_L21 N kt kf ks kp (mfix k4 (f_Rd_test_L4 N kt kf ks kp))) (nI cnt, nI i, s) = some s' ∧ CD pg s0 k w s' := by
  obtain ⟨o1, _⟩ := pgo_ok hpo
  have g := D.1.2.1
  have wd := word_d (N := N) D.1.1
  have q1 : (m1 = nI 20) = False := eq_false (by decide)
  have q2 : (m1 = nI 19) = False := eq_false (by decide)
  have j73 : ∀ s, CD pg s0 k w s → f_Rd_test_j73 N kt kf ks kp (mfix k4 (f_Rd_test_L4 N kt kf ks kp)) (nI cnt, s) = some s := by
    intro s D
    have wd := word_d (N := N) D.1.1
    simp (disch := first | omega | decide) only [f_Rd_test_j73, f_Rd_test_j90, wd, q2, zI_0, zI_1, zI_2, zI_3, zI_4, zI_5, zI_6, zI_7, zI_8, zI_9, zI_10, zI_11, zI_12, zI_13, zI_14, zI_15, zI_16, zI_17, zI_18, zI_19, zI_20, zI_21, zI_22, zI_23, zI_24, zI_25, zI_26, zI_27, zI_28, zI_29, zI_30, zI_31, zI_32, zI_33, zI_34, zI_35, zI_36, zI_37, zI_38, zI_39, zI_40, zI_41, zI_42, zI_43, zI_44, zI_45, zI_46, zI_47, zI_48, zI_49, zI_50, zI_51, zI_52, zI_53, zI_54, zI_55, zI_56, zI_57, zI_58, zI_59, zI_60, zI_61, zI_62, zI_63, zI_64, zI_65, zI_66, zI_67, zI_74, zI_84, zI_85, zI_88, zI_91, zI_93, zI_97, zI_99, zI_100, zI_102, zI_105, zI_117, zI_122, zI_193, zI_202, zI_205, zI_251, zI_255, zI_256, zI_257, zI_258, zI_259, zI_260, zI_640, zI_999, zI_1000, zI_1024, zI_1600, zI_1602, zI_1700, zI_2040, zI_3200, zI_4100, zI_9728, zI_11784, zI_61440, zI_65536, zI_470536, zI_999999, zI_1000000, lt_T, lt_F, le_T, le_F, eq_T, eq_F, neg_1, cn_m1p, cn_m11, nI_add, cn_sub, pk_mul, cn_div, cn_irm, cn_lt, cn_eq, cn_ltm1, cn_m1lt, cn_eqm1, cn_m1eq, cn_ix, cn_inb, cn_ninb, cn_irs, cn_ils, cn_and, cn_or, cn_xor, grd_t, grd_bt, grd_bl, Nat.add_zero, Nat.zero_add, Nat.reduceAdd, Nat.reduceSub, Nat.reduceMul, Nat.reduceLT, Nat.reduceEqDiff, eq_self, true_and, and_true, and_false, false_and, if_true, if_false, and_self, Bool.true_eq_false, Bool.false_eq_true, Option.bind_some]
    rw [mfix_1 (by omega)]
    simp (disch := first | omega | decide) only [f_Rd_test_L4, zI_0, zI_1, zI_2, zI_3, zI_4, zI_5, zI_6, zI_7, zI_8, zI_9, zI_10, zI_11, zI_12, zI_13, zI_14, zI_15, zI_16, zI_17, zI_18, zI_19, zI_20, zI_21, zI_22, zI_23, zI_24, zI_25, zI_26, zI_27, zI_28, zI_29, zI_30, zI_31, zI_32, zI_33, zI_34, zI_35, zI_36, zI_37, zI_38, zI_39, zI_40, zI_41, zI_42, zI_43, zI_44, zI_45, zI_46, zI_47, zI_48, zI_49, zI_50, zI_51, zI_52, zI_53, zI_54, zI_55, zI_56, zI_57, zI_58, zI_59, zI_60, zI_61, zI_62, zI_63, zI_64, zI_65, zI_66, zI_67, zI_74, zI_84, zI_85, zI_88, zI_91, zI_93, zI_97, zI_99, zI_100, zI_102, zI_105, zI_117, zI_122, zI_193, zI_202, zI_205, zI_251, zI_255, zI_256, zI_257, zI_258, zI_259, zI_260, zI_640, zI_999, zI_1000, zI_1024, zI_1600, zI_1602, zI_1700, zI_2040, zI_3200, zI_4100, zI_9728, zI_11784, zI_61440, zI_65536, zI_470536, zI_999999, zI_1000000, lt_T, lt_F, le_T, le_F, eq_T, eq_F, neg_1, cn_m1p, cn_m11, nI_add, cn_sub, pk_mul, cn_div, cn_irm, cn_lt, cn_eq, cn_ltm1, cn_m1lt, cn_eqm1, cn_m1eq, cn_ix, cn_inb, cn_ninb, cn_irs, cn_ils, cn_and, cn_or, cn_xor, grd_t, grd_bt, grd_bl, Nat.add_zero, Nat.zero_add, Nat.reduceAdd, Nat.reduceSub, Nat.reduceMul, Nat.reduceLT, Nat.reduceEqDiff, eq_self, true_and, and_true, and_false, false_and, if_true, if_false, and_self, Bool.true_eq_false, Bool.false_eq_true]
  rw [mfix_1 (by omega)]
  have head : f_Rd_test_L21 N kt kf ks kp (mfix k4 (f_Rd_test_L4 N kt kf ks kp)) (mfix (kk - 1) (f_Rd_test_L21 N kt kf ks kp (mfix k4 (f_Rd_test_L4 N kt kf ks kp)))) (nI cnt, nI i, s) = f_Rd_test_j60 N kt kf ks kp (mfix k4 (f_Rd_test_L4 N kt kf ks kp)) (nI cnt, s) := by
    simp (disch := first | omega | decide) only [f_Rd_test_L21, wd, q1, zI_0, zI_1, zI_2, zI_3, zI_4, zI_5, zI_6, zI_7, zI_8, zI_9, zI_10, zI_11, zI_12, zI_13, zI_14, zI_15, zI_16, zI_17, zI_18, zI_19, zI_20, zI_21, zI_22, zI_23, zI_24, zI_25, zI_26, zI_27, zI_28, zI_29, zI_30, zI_31, zI_32, zI_33, zI_34, zI_35, zI_36, zI_37, zI_38, zI_39, zI_40, zI_41, zI_42, zI_43, zI_44, zI_45, zI_46, zI_47, zI_48, zI_49, zI_50, zI_51, zI_52, zI_53, zI_54, zI_55, zI_56, zI_57, zI_58, zI_59, zI_60, zI_61, zI_62, zI_63, zI_64, zI_65, zI_66, zI_67, zI_74, zI_84, zI_85, zI_88, zI_91, zI_93, zI_97, zI_99, zI_100, zI_102, zI_105, zI_117, zI_122, zI_193, zI_202, zI_205, zI_251, zI_255, zI_256, zI_257, zI_258, zI_259, zI_260, zI_640, zI_999, zI_1000, zI_1024, zI_1600, zI_1602, zI_1700, zI_2040, zI_3200, zI_4100, zI_9728, zI_11784, zI_61440, zI_65536, zI_470536, zI_999999, zI_1000000, lt_T, lt_F, le_T, le_F, eq_T, eq_F, neg_1, cn_m1p, cn_m11, nI_add, cn_sub, pk_mul, cn_div, cn_irm, cn_lt, cn_eq, cn_ltm1, cn_m1lt, cn_eqm1, cn_m1eq, cn_ix, cn_inb, cn_ninb, cn_irs, cn_ils, cn_and, cn_or, cn_xor, grd_t, grd_bt, grd_bl, Nat.add_zero, Nat.zero_add, Nat.reduceAdd, Nat.reduceSub, Nat.reduceMul, Nat.reduceLT, Nat.reduceEqDiff, eq_self, true_and, and_true, and_false, false_and, if_true, if_false, and_self, Bool.true_eq_false, Bool.false_eq_true, Option.bind_some]
  rw [head]
  by_cases c : cnt = 0
  · refine ⟨s, ?_, D⟩
    rw [← j73 s D]
    simp (disch := first | omega | decide) only [f_Rd_test_j60, c, zI_0, zI_1, zI_2, zI_3, zI_4, zI_5, zI_6, zI_7, zI_8, zI_9, zI_10, zI_11, zI_12, zI_13, zI_14, zI_15, zI_16, zI_17, zI_18, zI_19, zI_20, zI_21, zI_22, zI_23, zI_24, zI_25, zI_26, zI_27, zI_28, zI_29, zI_30, zI_31, zI_32, zI_33, zI_34, zI_35, zI_36, zI_37, zI_38, zI_39, zI_40, zI_41, zI_42, zI_43, zI_44, zI_45, zI_46, zI_47, zI_48, zI_49, zI_50, zI_51, zI_52, zI_53, zI_54, zI_55, zI_56, zI_57, zI_58, zI_59, zI_60, zI_61, zI_62, zI_63, zI_64, zI_65, zI_66, zI_67, zI_74, zI_84, zI_85, zI_88, zI_91, zI_93, zI_97, zI_99, zI_100, zI_102, zI_105, zI_117, zI_122, zI_193, zI_202, zI_205, zI_251, zI_255, zI_256, zI_257, zI_258, zI_259, zI_260, zI_640, zI_999, zI_1000, zI_1024, zI_1600, zI_1602, zI_1700, zI_2040, zI_3200, zI_4100, zI_9728, zI_11784, zI_61440, zI_65536, zI_470536, zI_999999, zI_1000000, lt_T, lt_F, le_T, le_F, eq_T, eq_F, neg_1, cn_m1p, cn_m11, nI_add, cn_sub, pk_mul, cn_div, cn_irm, cn_lt, cn_eq, cn_ltm1, cn_m1lt, cn_eqm1, cn_m1eq, cn_ix, cn_inb, cn_ninb, cn_irs, cn_ils, cn_and, cn_or, cn_xor, grd_t, grd_bt, grd_bl, Nat.add_zero, Nat.zero_add, Nat.reduceAdd, Nat.reduceSub, Nat.reduceMul, Nat.reduceLT, Nat.reduceEqDiff, eq_self, true_and, and_true, and_false, false_and, if_true, if_false, and_self, Bool.true_eq_false, Bool.false_eq_true]
  · obtain ⟨s', f, D'⟩ := c_dadd (N := N) hpo D (nI 19)
    refine ⟨s', ?_, D'⟩
    rw [← j73 s' D']
    simp (disch := first | omega | decide) only [f_Rd_test_j60, g, o1, f, zI_0, zI_1, zI_2, zI_3, zI_4, zI_5, zI_6, zI_7, zI_8, zI_9, zI_10, zI_11, zI_12, zI_13, zI_14, zI_15, zI_16, zI_17, zI_18, zI_19, zI_20, zI_21, zI_22, zI_23, zI_24, zI_25, zI_26, zI_27, zI_28, zI_29, zI_30, zI_31, zI_32, zI_33, zI_34, zI_35, zI_36, zI_37, zI_38, zI_39, zI_40, zI_41, zI_42, zI_43, zI_44, zI_45, zI_46, zI_47, zI_48, zI_49, zI_50, zI_51, zI_52, zI_53, zI_54, zI_55, zI_56, zI_57, zI_58, zI_59, zI_60, zI_61, zI_62, zI_63, zI_64, zI_65, zI_66, zI_67, zI_74, zI_84, zI_85, zI_88, zI_91, zI_93, zI_97, zI_99, zI_100, zI_102, zI_105, zI_117, zI_122, zI_193, zI_202, zI_205, zI_251, zI_255, zI_256, zI_257, zI_258, zI_259, zI_260, zI_640, zI_999, zI_1000, zI_1024, zI_1600, zI_1602, zI_1700, zI_2040, zI_3200, zI_4100, zI_9728, zI_11784, zI_61440, zI_65536, zI_470536, zI_999999, zI_1000000, lt_T, lt_F, le_T, le_F, eq_T, eq_F, neg_1, cn_m1p, cn_m11, nI_add, cn_sub, pk_mul, cn_div, cn_irm, cn_lt, cn_eq, cn_ltm1, cn_m1lt, cn_eqm1, cn_m1eq, cn_ix, cn_inb, cn_ninb, cn_irs, cn_ils, cn_and, cn_or, cn_xor, grd_t, grd_bt, grd_bl, Nat.add_zero, Nat.zero_add, Nat.reduceAdd, Nat.reduceSub, Nat.reduceMul, Nat.reduceLT, Nat.reduceEqDiff, eq_self, true_and, and_true, and_false, false_and, if_true, if_false, and_self, Bool.true_eq_false, Bool.false_eq_true, Option.bind_some]
theorem TyT_and {e : List Nat} {o : Nat} (h : TyT al es mw cnt (6 + 3 * (6 - o))) (he : ckN al e (4 + 3 * (6 - o)) true) : TyT al (es ++ mw ++ e) [10] cnt (6 + 3 * (6 - o)) := by
  intro ts hts
  rw [List.append_assoc (es ++ mw), ckL_ap2 al (h ts hts)]
  by_cases cj : cnt = 0
  · rw [if_pos cj, ckL_ap2 al (he (true :: ts) (by rw [List.length_cons]; omega))]
    exact ckL_1 al (ck1_bo al (Or.inl rfl) ts)
  · rw [if_neg cj, ckL_ap2 al (he (true :: true :: ts) (by rw [List.length_cons, List.length_cons]; omega))]
    exact ckL_1 al (ck1_bo al (Or.inl rfl) (true :: ts))
theorem TyT_end {o : Nat} (h : TyT al es mw cnt (6 + 3 * (6 - o))) : ckN al (es ++ (mw ++ JwT cnt)) (6 + 3 * (6 - o)) true := by
  intro ts hts
  rw [← List.append_assoc, ckL_ap2 al (h ts hts)]
  unfold JwT
  by_cases cj : cnt = 0
  · rw [if_pos cj, if_pos cj]; rfl
  · rw [if_neg cj, if_neg cj]
    exact ckL_1 al (ck1_bo al (Or.inr rfl) ts)
theorem TyT_or {e : List Nat} {o : Nat} (h : TyT al es mw cnt (6 + 3 * (6 - o))) (he : ckN al e (4 + 3 * (6 - o)) true) : TyT al (es ++ (mw ++ JwT cnt) ++ e) [] (cnt + 1) (6 + 3 * (6 - o)) := by
  intro ts hts
  rw [List.append_nil, ckL_ap2 al (TyT_end h ts hts), if_neg (by omega)]
  exact he (true :: ts) (by rw [List.length_cons]; omega)
theorem L21_h {v : Int32} {i : Nat} {k4 k21 : Int32 × Int32 × mS → Option mS} (wd : f_Rd_word N s = some (v, s)) (q1 : (v = nI 20) = False) (hi : i < 1600) : f_Rd_test_L21 N kt kf ks kp k4 k21 (nI cnt, nI i, s) = f_Rd_test_j60 N kt kf ks kp k4 (nI cnt, s) := by
  simp (disch := first | omega | decide) only [f_Rd_test_L21, wd, q1, zI_0, zI_1, zI_2, zI_3, zI_4, zI_5, zI_6, zI_7, zI_8, zI_9, zI_10, zI_11, zI_12, zI_13, zI_14, zI_15, zI_16, zI_17, zI_18, zI_19, zI_20, zI_21, zI_22, zI_23, zI_24, zI_25, zI_26, zI_27, zI_28, zI_29, zI_30, zI_31, zI_32, zI_33, zI_34, zI_35, zI_36, zI_37, zI_38, zI_39, zI_40, zI_41, zI_42, zI_43, zI_44, zI_45, zI_46, zI_47, zI_48, zI_49, zI_50, zI_51, zI_52, zI_53, zI_54, zI_55, zI_56, zI_57, zI_58, zI_59, zI_60, zI_61, zI_62, zI_63, zI_64, zI_65, zI_66, zI_67, zI_74, zI_84, zI_85, zI_88, zI_91, zI_93, zI_97, zI_99, zI_100, zI_102, zI_105, zI_117, zI_122, zI_193, zI_202, zI_205, zI_251, zI_255, zI_256, zI_257, zI_258, zI_259, zI_260, zI_640, zI_999, zI_1000, zI_1024, zI_1600, zI_1602, zI_1700, zI_2040, zI_3200, zI_4100, zI_9728, zI_11784, zI_61440, zI_65536, zI_470536, zI_999999, zI_1000000, lt_T, lt_F, le_T, le_F, eq_T, eq_F, neg_1, cn_m1p, cn_m11, nI_add, cn_sub, pk_mul, cn_div, cn_irm, cn_lt, cn_eq, cn_ltm1, cn_m1lt, cn_eqm1, cn_m1eq, cn_ix, cn_inb, cn_ninb, cn_irs, cn_ils, cn_and, cn_or, cn_xor, grd_t, grd_bt, grd_bl, Nat.add_zero, Nat.zero_add, Nat.reduceAdd, Nat.reduceSub, Nat.reduceMul, Nat.reduceLT, Nat.reduceEqDiff, eq_self, true_and, and_true, and_false, false_and, if_true, if_false, and_self, Bool.true_eq_false, Bool.false_eq_true, Option.bind_some]
theorem j73_h {v : Int32} {k4 : Int32 × Int32 × mS → Option mS} (wd : f_Rd_word N s = some (v, s)) (q2 : (v = nI 19) = False) : f_Rd_test_j73 N kt kf ks kp k4 (nI cnt, s) = k4 (nI (cnt + 1), nI 0, s) := by
  simp (disch := first | omega | decide) only [f_Rd_test_j73, f_Rd_test_j90, wd, q2, zI_0, zI_1, zI_2, zI_3, zI_4, zI_5, zI_6, zI_7, zI_8, zI_9, zI_10, zI_11, zI_12, zI_13, zI_14, zI_15, zI_16, zI_17, zI_18, zI_19, zI_20, zI_21, zI_22, zI_23, zI_24, zI_25, zI_26, zI_27, zI_28, zI_29, zI_30, zI_31, zI_32, zI_33, zI_34, zI_35, zI_36, zI_37, zI_38, zI_39, zI_40, zI_41, zI_42, zI_43, zI_44, zI_45, zI_46, zI_47, zI_48, zI_49, zI_50, zI_51, zI_52, zI_53, zI_54, zI_55, zI_56, zI_57, zI_58, zI_59, zI_60, zI_61, zI_62, zI_63, zI_64, zI_65, zI_66, zI_67, zI_74, zI_84, zI_85, zI_88, zI_91, zI_93, zI_97, zI_99, zI_100, zI_102, zI_105, zI_117, zI_122, zI_193, zI_202, zI_205, zI_251, zI_255, zI_256, zI_257, zI_258, zI_259, zI_260, zI_640, zI_999, zI_1000, zI_1024, zI_1600, zI_1602, zI_1700, zI_2040, zI_3200, zI_4100, zI_9728, zI_11784, zI_61440, zI_65536, zI_470536, zI_999999, zI_1000000, lt_T, lt_F, le_T, le_F, eq_T, eq_F, neg_1, cn_m1p, cn_m11, nI_add, cn_sub, pk_mul, cn_div, cn_irm, cn_lt, cn_eq, cn_ltm1, cn_m1lt, cn_eqm1, cn_m1eq, cn_ix, cn_inb, cn_ninb, cn_irs, cn_ils, cn_and, cn_or, cn_xor, grd_t, grd_bt, grd_bl, Nat.add_zero, Nat.zero_add, Nat.reduceAdd, Nat.reduceSub, Nat.reduceMul, Nat.reduceLT, Nat.reduceEqDiff, eq_self, true_and, and_true, and_false, false_and, if_true, if_false, and_self, Bool.true_eq_false, Bool.false_eq_true, Option.bind_some]
theorem L4_h {i k4 : Nat} (hk4 : 1 ≤ k4) (hc : cnt < 2000) : mfix k4 (f_Rd_test_L4 N kt kf ks kp) (nI cnt, nI 0, s) = some s := by
  rw [mfix_1 (by omega)]
  simp (disch := first | omega | decide) only [f_Rd_test_L4, zI_0, zI_1, zI_2, zI_3, zI_4, zI_5, zI_6, zI_7, zI_8, zI_9, zI_10, zI_11, zI_12, zI_13, zI_14, zI_15, zI_16, zI_17, zI_18, zI_19, zI_20, zI_21, zI_22, zI_23, zI_24, zI_25, zI_26, zI_27, zI_28, zI_29, zI_30, zI_31, zI_32, zI_33, zI_34, zI_35, zI_36, zI_37, zI_38, zI_39, zI_40, zI_41, zI_42, zI_43, zI_44, zI_45, zI_46, zI_47, zI_48, zI_49, zI_50, zI_51, zI_52, zI_53, zI_54, zI_55, zI_56, zI_57, zI_58, zI_59, zI_60, zI_61, zI_62, zI_63, zI_64, zI_65, zI_66, zI_67, zI_74, zI_84, zI_85, zI_88, zI_91, zI_93, zI_97, zI_99, zI_100, zI_102, zI_105, zI_117, zI_122, zI_193, zI_202, zI_205, zI_251, zI_255, zI_256, zI_257, zI_258, zI_259, zI_260, zI_640, zI_999, zI_1000, zI_1024, zI_1600, zI_1602, zI_1700, zI_2040, zI_3200, zI_4100, zI_9728, zI_11784, zI_61440, zI_65536, zI_470536, zI_999999, zI_1000000, lt_T, lt_F, le_T, le_F, eq_T, eq_F, neg_1, cn_m1p, cn_m11, nI_add, cn_sub, pk_mul, cn_div, cn_irm, cn_lt, cn_eq, cn_ltm1, cn_m1lt, cn_eqm1, cn_m1eq, cn_ix, cn_inb, cn_ninb, cn_irs, cn_ils, cn_and, cn_or, cn_xor, grd_t, grd_bt, grd_bl, Nat.add_zero, Nat.zero_add, Nat.reduceAdd, Nat.reduceSub, Nat.reduceMul, Nat.reduceLT, Nat.reduceEqDiff, eq_self, true_and, and_true, and_false, false_and, if_true, if_false, and_self, Bool.true_eq_false, Bool.false_eq_true]
theorem test_end (E : CE tp n pg mk s0) (hL : L.length ≤ p0) {kk k4 i : Nat} (X : CX tp n pg s0 p b o (L ++ (es ++ mw)) s) (hp : p0 < p) (hle : (es ++ (mw ++ JwT cnt)).length ≤ p - p0) (hm : MwT mw) (hi : 2 * i + 1 ≤ p) (hcn : 2 * cnt + 1 ≤ p) (hT : TyT al es mw cnt (6 + 3 * (6 - o))) (hkk : 1 ≤ kk) (hk4 : 1 ≤ k4) (hno : NoBo (wdA tp n p b)) :
    GoT N tp n kd pg al o s0 p0 L (mfix kk (f_Rd_test_L21 N kt kf ks kp (mfix k4 (f_Rd_test_L4 N kt kf ks kp))) (nI cnt, nI i, s)) p b es mw (JwT cnt) := by
  obtain ⟨hTx, hO, hmm, ht⟩ := CE_x E X
  have hn := hTx.1
  have hpn := X.1
  have wl := wdA_le (tp := tp) (n := n) (p := p) (b := b)
  obtain ⟨n1, n2⟩ := hno
  have wd := word_w (N := N) ht X.2.1
  have hle' := hle
  rw [List.length_append, List.length_append] at hle'
  have jl := (JwT_o (cnt := cnt)).2
  obtain ⟨s1, f1, X1⟩ := j60_n (N := N) (kt := kt) (kf := kf) (ks := ks) (kp := kp) (cnt := cnt) (k4 := mfix k4 (f_Rd_test_L4 N kt kf ks kp)) E.2.1 E X (by rw [List.length_append, List.length_append]; omega) (by omega)
  have wd1 := word_w (N := N) ht X1.2.1
  right
  rw [List.append_assoc, List.append_assoc] at X1
  refine ⟨es, mw ++ JwT cnt, p, b, s1, ?_, X1, Nat.le_refl _, hle, TyT_end hT, OpT_app (fun x hx => Or.inl ((MwT_o hm).1 x hx)) JwT_o.1, ⟨n1, n2⟩, fun t0 Q C W t hR hCW hA hS hQ => hQ t (by rw [List.append_assoc]; exact hR)⟩
  have q1 : (nI (wdA tp n p b) + m1 = nI 20) = False := by rw [wm_n wl (by omega)]; exact eq_false n1
  have q2 : (nI (wdA tp n p b) + m1 = nI 19) = False := by rw [wm_n wl (by omega)]; exact eq_false n2
  rw [mfix_1 (by omega), L21_h wd q1 (by omega), f1, j73_h wd1 q2, L4_h (i := 0) hk4 (by omega)]
theorem test_go (E : CE tp n pg mk s0) (hP : FactC N tp n kd mk pg al r o) (hN : 10000 ≤ N) (hL : L.length ≤ p0) :
    ∀ d p b s es mw cnt i kk k4, n - p ≤ d → CX tp n pg s0 p b o (L ++ (es ++ mw)) s → p0 < p → (es ++ (mw ++ JwT cnt)).length ≤ p - p0 → MwT mw → 2 * cnt + 1 ≤ p → 2 * i + 1 ≤ p → TyT al es mw cnt (6 + 3 * (6 - o)) → n - p + 5 ≤ kk → n - p + 5 ≤ k4 →
      GoT N tp n kd pg al o s0 p0 L (mfix kk (f_Rd_test_L21 N kt (f_Rd_grp N r 1) ks kp (mfix k4 (f_Rd_test_L4 N kt (f_Rd_grp N r 1) ks kp))) (nI cnt, nI i, s)) p b es mw (JwT cnt) := by
  intro d
  induction d with
  | zero =>
    intro p b s es mw cnt i kk k4 hd X hp hle hm hcnt hi hT hkk hk4
    have sb := skp_b (tp := tp) X.1
    have e : kK tp n p b = 258 := by unfold kK; rw [if_pos (by omega)]
    have w0 : wdA tp n p b = 0 := wdA_0 (by omega)
    exact test_end E hL X hp hle hm hi hcnt hT (by omega) (by omega) (by unfold NoBo; omega)
  | succ d ih =>
    intro p b s es mw cnt i kk k4 hd X hp hle hm hcnt hi hT hkk hk4
    obtain ⟨hTx, hO, hmm, ht⟩ := CE_x E X
    have hn := hTx.1
    have hpn := X.1
    have hpo := E.2.1
    obtain ⟨o1, _⟩ := pgo_ok hpo
    have wl := wdA_le (tp := tp) (n := n) (p := p) (b := b)
    have wd := word_w (N := N) ht X.2.1
    have jl := (JwT_o (cnt := cnt)).2
    have ml := (MwT_o hm).2
    have hle' := hle
    rw [List.length_append, List.length_append] at hle'
    by_cases cm : wdA tp n p b = 21
    · rw [cm, m1_s] at wd
      obtain ⟨s1, f1, X1, p1, p2⟩ := c_wd E X cm hN
      have ref : ∀ t0 Q C W t, RT tp n kd t0 p b o (C ++ es) (mw ++ (JwT cnt ++ W)) 0 t → C.length + W.length ≤ p0 → AllT W → SWT W → (∀ t', RT tp n kd t0 (kE tp n p) true o (C ++ (es ++ mw)) (10 :: (JwT cnt ++ W)) 0 t' → rTS N Q (n - kE tp n p + 5) t') → rTG N Q (n - p + 5) t := by
        intro t0 Q C W t hR hCW hA hS hB
        have g := TG_and (N := N) (Q := Q) (m := n - kE tp n p + 5) hR (fun x V' e => by
          unfold JwT at e
          split at e
          · have h1 := hS x V' e
            omega
          · cases e; omega) (MwT_o hm).1 (by rw [List.length_append, List.length_append, List.length_append]; omega) cm hN (fun t' R => hB t' (by rw [← List.append_assoc]; exact R))
        intro kg k2 h1 h2
        exact g kg k2 (by omega) (by omega)
      have head : mfix kk (f_Rd_test_L21 N kt (f_Rd_grp N r 1) ks kp (mfix k4 (f_Rd_test_L4 N kt (f_Rd_grp N r 1) ks kp))) (nI cnt, nI i, s) = (f_Rd_grp N r 1 s1).bind fun p3 => grd (isO Sx (gO p3) 5) ((f_Pg_add N (gO p3) (nI 20) p3).bind fun p4 => mfix (kk - 1) (f_Rd_test_L21 N kt (f_Rd_grp N r 1) ks kp (mfix k4 (f_Rd_test_L4 N kt (f_Rd_grp N r 1) ks kp))) (nI cnt, nI (i + 1), p4)) := by
        rw [mfix_1 (by omega)]
        simp (disch := first | omega | decide) only [f_Rd_test_L21, wd, f1, zI_0, zI_1, zI_2, zI_3, zI_4, zI_5, zI_6, zI_7, zI_8, zI_9, zI_10, zI_11, zI_12, zI_13, zI_14, zI_15, zI_16, zI_17, zI_18, zI_19, zI_20, zI_21, zI_22, zI_23, zI_24, zI_25, zI_26, zI_27, zI_28, zI_29, zI_30, zI_31, zI_32, zI_33, zI_34, zI_35, zI_36, zI_37, zI_38, zI_39, zI_40, zI_41, zI_42, zI_43, zI_44, zI_45, zI_46, zI_47, zI_48, zI_49, zI_50, zI_51, zI_52, zI_53, zI_54, zI_55, zI_56, zI_57, zI_58, zI_59, zI_60, zI_61, zI_62, zI_63, zI_64, zI_65, zI_66, zI_67, zI_74, zI_84, zI_85, zI_88, zI_91, zI_93, zI_97, zI_99, zI_100, zI_102, zI_105, zI_117, zI_122, zI_193, zI_202, zI_205, zI_251, zI_255, zI_256, zI_257, zI_258, zI_259, zI_260, zI_640, zI_999, zI_1000, zI_1024, zI_1600, zI_1602, zI_1700, zI_2040, zI_3200, zI_4100, zI_9728, zI_11784, zI_61440, zI_65536, zI_470536, zI_999999, zI_1000000, lt_T, lt_F, le_T, le_F, eq_T, eq_F, neg_1, cn_m1p, cn_m11, nI_add, cn_sub, pk_mul, cn_div, cn_irm, cn_lt, cn_eq, cn_ltm1, cn_m1lt, cn_eqm1, cn_m1eq, cn_ix, cn_inb, cn_ninb, cn_irs, cn_ils, cn_and, cn_or, cn_xor, grd_t, grd_bt, grd_bl, Nat.add_zero, Nat.zero_add, Nat.reduceAdd, Nat.reduceSub, Nat.reduceMul, Nat.reduceLT, Nat.reduceEqDiff, eq_self, true_and, and_true, and_false, false_and, if_true, if_false, and_self, Bool.true_eq_false, Bool.false_eq_true, Option.bind_some]
      rw [head]
      have hll : (L ++ (es ++ mw)).length ≤ kE tp n p := by rw [List.length_append, List.length_append]; omega
      rcases hP s0 _ _ _ s1 E X1 hll with ⟨k', w', s2, f2, D2, hB⟩ | ⟨e, p', b', s2, f2, X2, hp', hle2, hck, hG⟩
      · left
        obtain ⟨s3, f3, D3⟩ := c_dadd (N := N) hpo D2 (nI 20)
        obtain ⟨s4, f4, D4⟩ := L21_dead (N := N) (kt := kt) (kf := f_Rd_grp N r 1) (ks := ks) (kp := kp) hpo D3 (cnt := cnt) (i := i + 1) (kk := kk - 1) (k4 := k4) (by omega) (by omega) (by omega) (by omega)
        have g2 := D2.1.2.1
        refine ⟨k', w', s4, ?_, D4, fun t0 Q C W t hR hCW hA hS hQ => ref t0 Q C W t hR hCW hA hS (fun t' R => hB t0 Q _ _ t' R (by rw [List.length_append, List.length_append, List.length_cons, List.length_append]; omega) (AllT_c (by omega) (AllT_app (OpT_all JwT_o.1) hA)) hQ)⟩
        simp (disch := first | omega | decide) only [f2, g2, o1, f3, grd_t, Option.bind_some]
        exact f4
      · have hp2 := X2.1
        obtain ⟨s3, f3, X3⟩ := c_add (N := N) (c := 10) E X2 (by rw [List.length_append, List.length_append, List.length_append]; omega) (x := nI 20) rfl
        have g2 := (CE_x E X2).2.1
        rw [show L ++ (es ++ mw) ++ e ++ [10] = L ++ (es ++ mw ++ e ++ [10]) by rw [List.append_assoc, List.append_assoc, List.append_assoc (es ++ mw)]] at X3
        have J := ih p' b' s3 (es ++ mw ++ e) [10] cnt (i + 1) (kk - 1) k4 (by omega) X3 (by omega) (by rw [List.length_append, List.length_append, List.length_append, List.length_append, List.length_singleton]; omega) (Or.inr rfl) (by omega) (by omega) (TyT_and hT hck) (by omega) (by omega)
        have res : ((f_Rd_grp N r 1 s1).bind fun p3 => grd (isO Sx (gO p3) 5) ((f_Pg_add N (gO p3) (nI 20) p3).bind fun p4 => mfix (kk - 1) (f_Rd_test_L21 N kt (f_Rd_grp N r 1) ks kp (mfix k4 (f_Rd_test_L4 N kt (f_Rd_grp N r 1) ks kp))) (nI cnt, nI (i + 1), p4))) = mfix (kk - 1) (f_Rd_test_L21 N kt (f_Rd_grp N r 1) ks kp (mfix k4 (f_Rd_test_L4 N kt (f_Rd_grp N r 1) ks kp))) (nI cnt, nI (i + 1), s3) := by
          simp (disch := first | omega | decide) only [f2, g2, o1, f3, grd_t, Option.bind_some]
        rw [res]
        have step : ∀ t0 Q C W t, RT tp n kd t0 p b o (C ++ es) (mw ++ (JwT cnt ++ W)) 0 t → C.length + W.length ≤ p0 → AllT W → SWT W → (∀ t', RT tp n kd t0 p' b' o (C ++ (es ++ mw ++ e)) ([10] ++ (JwT cnt ++ W)) 0 t' → rTG N Q (n - p' + 5) t') → rTG N Q (n - p + 5) t := by
          intro t0 Q C W t hR hCW hA hS hB
          refine ref t0 Q C W t hR hCW hA hS (fun t' R => hG t0 Q _ _ t' R (by rw [List.length_append, List.length_append, List.length_cons, List.length_append]; omega) (AllT_c (by omega) (AllT_app (OpT_all JwT_o.1) hA)) (fun t2 R2 => ?_))
          refine DN_stop R2 (by rw [List.length_cons, List.length_append]; omega) (fun x W' e => by cases e; omega) (hB t2 ?_)
          rw [← List.append_assoc C]
          exact R2
        rcases J with ⟨k', w', s', g1, g3, g4⟩ | ⟨es', pend, p3, b3, s', g1, g3, g4, g5, g6, g7, g8, g9⟩
        · left
          exact ⟨k', w', s', g1, g3, fun t0 Q C W t hR hCW hA hS hQ => step t0 Q C W t hR hCW hA hS (fun t' R => g4 t0 Q C W t' R hCW hA hS hQ)⟩
        · right
          exact ⟨es', pend, p3, b3, s', g1, g3, by omega, g5, g6, g7, g8, fun t0 Q C W t hR hCW hA hS hQ => step t0 Q C W t hR hCW hA hS (fun t' R => g9 t0 Q C W t' R hCW hA hS hQ)⟩
    · by_cases ca : wdA tp n p b = 20
      · rw [ca, m1_s] at wd
        obtain ⟨s0', f0, X0⟩ := j60_n (N := N) (kt := kt) (kf := f_Rd_grp N r 1) (ks := ks) (kp := kp) (cnt := cnt) (k4 := mfix k4 (f_Rd_test_L4 N kt (f_Rd_grp N r 1) ks kp)) hpo E X (by rw [List.length_append, List.length_append]; omega) (by omega)
        obtain ⟨s1, f1, X1, p1, p2⟩ := c_wd E X0 ca hN
        have wd0 := word_w (N := N) ht X0.2.1
        rw [ca, m1_s] at wd0
        have ref : ∀ t0 Q C W t, RT tp n kd t0 p b o (C ++ es) (mw ++ (JwT cnt ++ W)) 0 t → C.length + W.length ≤ p0 → AllT W → SWT W → (∀ t', RT tp n kd t0 (kE tp n p) true o (C ++ (es ++ (mw ++ JwT cnt))) (11 :: W) 0 t' → rTS N Q (n - kE tp n p + 5) t') → rTG N Q (n - p + 5) t := by
          intro t0 Q C W t hR hCW hA hS hB
          rw [← List.append_assoc mw] at hR
          have g := TG_or (N := N) (Q := Q) (m := n - kE tp n p + 5) hR (fun x V' e => by
            have h1 := hS x V' e
            omega) (OpT_app (fun x hx => Or.inl ((MwT_o hm).1 x hx)) JwT_o.1) (by rw [List.length_append, List.length_append, List.length_append]; omega) ca hN (fun t' R => hB t' (by rw [← List.append_assoc C]; exact R))
          intro kg k2 h1 h2
          exact g kg k2 (by omega) (by omega)
        have head : mfix kk (f_Rd_test_L21 N kt (f_Rd_grp N r 1) ks kp (mfix k4 (f_Rd_test_L4 N kt (f_Rd_grp N r 1) ks kp))) (nI cnt, nI i, s) = (f_Rd_grp N r 1 s1).bind fun p1 => mfix N (f_Rd_test_L21 N kt (f_Rd_grp N r 1) ks kp (mfix (k4 - 1) (f_Rd_test_L4 N kt (f_Rd_grp N r 1) ks kp))) (nI (cnt + 1), nI 0, p1) := by
          rw [mfix_1 (by omega)]
          have h1 : f_Rd_test_L21 N kt (f_Rd_grp N r 1) ks kp (mfix k4 (f_Rd_test_L4 N kt (f_Rd_grp N r 1) ks kp)) (mfix (kk - 1) (f_Rd_test_L21 N kt (f_Rd_grp N r 1) ks kp (mfix k4 (f_Rd_test_L4 N kt (f_Rd_grp N r 1) ks kp)))) (nI cnt, nI i, s) = f_Rd_test_j60 N kt (f_Rd_grp N r 1) ks kp (mfix k4 (f_Rd_test_L4 N kt (f_Rd_grp N r 1) ks kp)) (nI cnt, s) := by
            simp (disch := first | omega | decide) only [f_Rd_test_L21, wd, zI_0, zI_1, zI_2, zI_3, zI_4, zI_5, zI_6, zI_7, zI_8, zI_9, zI_10, zI_11, zI_12, zI_13, zI_14, zI_15, zI_16, zI_17, zI_18, zI_19, zI_20, zI_21, zI_22, zI_23, zI_24, zI_25, zI_26, zI_27, zI_28, zI_29, zI_30, zI_31, zI_32, zI_33, zI_34, zI_35, zI_36, zI_37, zI_38, zI_39, zI_40, zI_41, zI_42, zI_43, zI_44, zI_45, zI_46, zI_47, zI_48, zI_49, zI_50, zI_51, zI_52, zI_53, zI_54, zI_55, zI_56, zI_57, zI_58, zI_59, zI_60, zI_61, zI_62, zI_63, zI_64, zI_65, zI_66, zI_67, zI_74, zI_84, zI_85, zI_88, zI_91, zI_93, zI_97, zI_99, zI_100, zI_102, zI_105, zI_117, zI_122, zI_193, zI_202, zI_205, zI_251, zI_255, zI_256, zI_257, zI_258, zI_259, zI_260, zI_640, zI_999, zI_1000, zI_1024, zI_1600, zI_1602, zI_1700, zI_2040, zI_3200, zI_4100, zI_9728, zI_11784, zI_61440, zI_65536, zI_470536, zI_999999, zI_1000000, lt_T, lt_F, le_T, le_F, eq_T, eq_F, neg_1, cn_m1p, cn_m11, nI_add, cn_sub, pk_mul, cn_div, cn_irm, cn_lt, cn_eq, cn_ltm1, cn_m1lt, cn_eqm1, cn_m1eq, cn_ix, cn_inb, cn_ninb, cn_irs, cn_ils, cn_and, cn_or, cn_xor, grd_t, grd_bt, grd_bl, Nat.add_zero, Nat.zero_add, Nat.reduceAdd, Nat.reduceSub, Nat.reduceMul, Nat.reduceLT, Nat.reduceEqDiff, eq_self, true_and, and_true, and_false, false_and, if_true, if_false, and_self, Bool.true_eq_false, Bool.false_eq_true, Option.bind_some]
          rw [h1, f0]
          have h2 : f_Rd_test_j73 N kt (f_Rd_grp N r 1) ks kp (mfix k4 (f_Rd_test_L4 N kt (f_Rd_grp N r 1) ks kp)) (nI cnt, s0') = mfix k4 (f_Rd_test_L4 N kt (f_Rd_grp N r 1) ks kp) (nI (cnt + 1), nI 1, s1) := by
            simp (disch := first | omega | decide) only [f_Rd_test_j73, f_Rd_test_j90, wd0, f1, zI_0, zI_1, zI_2, zI_3, zI_4, zI_5, zI_6, zI_7, zI_8, zI_9, zI_10, zI_11, zI_12, zI_13, zI_14, zI_15, zI_16, zI_17, zI_18, zI_19, zI_20, zI_21, zI_22, zI_23, zI_24, zI_25, zI_26, zI_27, zI_28, zI_29, zI_30, zI_31, zI_32, zI_33, zI_34, zI_35, zI_36, zI_37, zI_38, zI_39, zI_40, zI_41, zI_42, zI_43, zI_44, zI_45, zI_46, zI_47, zI_48, zI_49, zI_50, zI_51, zI_52, zI_53, zI_54, zI_55, zI_56, zI_57, zI_58, zI_59, zI_60, zI_61, zI_62, zI_63, zI_64, zI_65, zI_66, zI_67, zI_74, zI_84, zI_85, zI_88, zI_91, zI_93, zI_97, zI_99, zI_100, zI_102, zI_105, zI_117, zI_122, zI_193, zI_202, zI_205, zI_251, zI_255, zI_256, zI_257, zI_258, zI_259, zI_260, zI_640, zI_999, zI_1000, zI_1024, zI_1600, zI_1602, zI_1700, zI_2040, zI_3200, zI_4100, zI_9728, zI_11784, zI_61440, zI_65536, zI_470536, zI_999999, zI_1000000, lt_T, lt_F, le_T, le_F, eq_T, eq_F, neg_1, cn_m1p, cn_m11, nI_add, cn_sub, pk_mul, cn_div, cn_irm, cn_lt, cn_eq, cn_ltm1, cn_m1lt, cn_eqm1, cn_m1eq, cn_ix, cn_inb, cn_ninb, cn_irs, cn_ils, cn_and, cn_or, cn_xor, grd_t, grd_bt, grd_bl, Nat.add_zero, Nat.zero_add, Nat.reduceAdd, Nat.reduceSub, Nat.reduceMul, Nat.reduceLT, Nat.reduceEqDiff, eq_self, true_and, and_true, and_false, false_and, if_true, if_false, and_self, Bool.true_eq_false, Bool.false_eq_true, Option.bind_some]
          rw [h2, mfix_1 (by omega)]
          simp (disch := first | omega | decide) only [f_Rd_test_L4, zI_0, zI_1, zI_2, zI_3, zI_4, zI_5, zI_6, zI_7, zI_8, zI_9, zI_10, zI_11, zI_12, zI_13, zI_14, zI_15, zI_16, zI_17, zI_18, zI_19, zI_20, zI_21, zI_22, zI_23, zI_24, zI_25, zI_26, zI_27, zI_28, zI_29, zI_30, zI_31, zI_32, zI_33, zI_34, zI_35, zI_36, zI_37, zI_38, zI_39, zI_40, zI_41, zI_42, zI_43, zI_44, zI_45, zI_46, zI_47, zI_48, zI_49, zI_50, zI_51, zI_52, zI_53, zI_54, zI_55, zI_56, zI_57, zI_58, zI_59, zI_60, zI_61, zI_62, zI_63, zI_64, zI_65, zI_66, zI_67, zI_74, zI_84, zI_85, zI_88, zI_91, zI_93, zI_97, zI_99, zI_100, zI_102, zI_105, zI_117, zI_122, zI_193, zI_202, zI_205, zI_251, zI_255, zI_256, zI_257, zI_258, zI_259, zI_260, zI_640, zI_999, zI_1000, zI_1024, zI_1600, zI_1602, zI_1700, zI_2040, zI_3200, zI_4100, zI_9728, zI_11784, zI_61440, zI_65536, zI_470536, zI_999999, zI_1000000, lt_T, lt_F, le_T, le_F, eq_T, eq_F, neg_1, cn_m1p, cn_m11, nI_add, cn_sub, pk_mul, cn_div, cn_irm, cn_lt, cn_eq, cn_ltm1, cn_m1lt, cn_eqm1, cn_m1eq, cn_ix, cn_inb, cn_ninb, cn_irs, cn_ils, cn_and, cn_or, cn_xor, grd_t, grd_bt, grd_bl, Nat.add_zero, Nat.zero_add, Nat.reduceAdd, Nat.reduceSub, Nat.reduceMul, Nat.reduceLT, Nat.reduceEqDiff, eq_self, true_and, and_true, and_false, false_and, if_true, if_false, and_self, Bool.true_eq_false, Bool.false_eq_true]
        rw [head]
        have hll : (L ++ (es ++ mw) ++ JwT cnt).length ≤ kE tp n p := by rw [List.length_append, List.length_append, List.length_append]; omega
        rcases hP s0 _ _ _ s1 E X1 hll with ⟨k', w', s2, f2, D2, hB⟩ | ⟨e, p', b', s2, f2, X2, hp', hle2, hck, hG⟩
        · left
          obtain ⟨s4, f4, D4⟩ := L21_dead (N := N) (kt := kt) (kf := f_Rd_grp N r 1) (ks := ks) (kp := kp) hpo D2 (cnt := cnt + 1) (i := 0) (kk := N) (k4 := k4 - 1) (by omega) (by omega) (by omega) (by omega)
          refine ⟨k', w', s4, ?_, D4, fun t0 Q C W t hR hCW hA hS hQ => ref t0 Q C W t hR hCW hA hS (fun t' R => hB t0 Q _ _ t' R (by rw [List.length_append, List.length_append, List.length_append, List.length_cons]; omega) (AllT_c (by omega) hA) hQ)⟩
          rw [f2, Option.bind_some]
          exact f4
        · have hp2 := X2.1
          have j1 : JwT (cnt + 1) = [11] := if_neg (by omega)
          rw [show L ++ (es ++ mw) ++ JwT cnt ++ e = L ++ (es ++ (mw ++ JwT cnt) ++ e ++ []) by rw [List.append_nil, List.append_assoc, List.append_assoc, List.append_assoc, List.append_assoc, List.append_assoc]] at X2
          have J := ih p' b' s2 (es ++ (mw ++ JwT cnt) ++ e) [] (cnt + 1) 0 N (k4 - 1) (by omega) X2 (by omega) (by rw [j1, List.length_append, List.length_append, List.length_append, List.length_append, List.length_append, List.length_singleton, List.length_nil]; omega) (Or.inl rfl) (by omega) (by omega) (TyT_or hT hck) (by omega) (by omega)
          rw [f2, Option.bind_some]
          have step : ∀ t0 Q C W t, RT tp n kd t0 p b o (C ++ es) (mw ++ (JwT cnt ++ W)) 0 t → C.length + W.length ≤ p0 → AllT W → SWT W → (∀ t', RT tp n kd t0 p' b' o (C ++ (es ++ (mw ++ JwT cnt) ++ e)) ([] ++ (JwT (cnt + 1) ++ W)) 0 t' → rTG N Q (n - p' + 5) t') → rTG N Q (n - p + 5) t := by
            intro t0 Q C W t hR hCW hA hS hB
            refine ref t0 Q C W t hR hCW hA hS (fun t' R => hG t0 Q _ _ t' R (by rw [List.length_append, List.length_append, List.length_append, List.length_cons]; omega) (AllT_c (by omega) hA) (fun t2 R2 => ?_))
            refine DN_stop R2 (by rw [List.length_cons]; omega) (fun x W' e => by cases e; omega) (hB t2 ?_)
            rw [← List.append_assoc C, j1]
            exact R2
          rcases J with ⟨k', w', s', g1, g3, g4⟩ | ⟨es', pend, p3, b3, s', g1, g3, g4, g5, g6, g7, g8, g9⟩
          · left
            exact ⟨k', w', s', g1, g3, fun t0 Q C W t hR hCW hA hS hQ => step t0 Q C W t hR hCW hA hS (fun t' R => g4 t0 Q C W t' R hCW hA hS hQ)⟩
          · right
            exact ⟨es', pend, p3, b3, s', g1, g3, by omega, g5, g6, g7, g8, fun t0 Q C W t hR hCW hA hS hQ => step t0 Q C W t hR hCW hA hS (fun t' R => g9 t0 Q C W t' R hCW hA hS hQ)⟩
      · exact test_end E hL X hp hle hm hi hcnt hT (by omega) (by omega) ⟨cm, ca⟩
/-- a test -/
theorem test_j (hN : 10000 ≤ N) (hP : FactC N tp n kd mk pg al r o) : TestC N tp n kd mk pg al (r + 1) o := by
  intro s0 p b L s E h hl
  obtain ⟨hTx, hO, hmm, ht⟩ := CE_x E h
  have hn := hTx.1
  have hpo := E.2.1
  have hpn := h.1
  have head : f_Rd_grp N (r + 1) 0 s = (f_Rd_grp N r 1 s).bind fun p1 => mfix N (f_Rd_test_L21 N (f_Rd_grp N r 0) (f_Rd_grp N r 1) (f_Rd_grp N r 2) (f_Rd_grp N r 3) (mfix (N - 1) (f_Rd_test_L4 N (f_Rd_grp N r 0) (f_Rd_grp N r 1) (f_Rd_grp N r 2) (f_Rd_grp N r 3)))) (nI 0, nI 0, p1) := by
    show f_Rd_test_B N _ _ _ _ s = _
    unfold f_Rd_test_B
    rw [mfix_1 (by omega)]
    simp (disch := first | omega | decide) only [f_Rd_test_L4, zI_0, zI_1, zI_2, zI_3, zI_4, zI_5, zI_6, zI_7, zI_8, zI_9, zI_10, zI_11, zI_12, zI_13, zI_14, zI_15, zI_16, zI_17, zI_18, zI_19, zI_20, zI_21, zI_22, zI_23, zI_24, zI_25, zI_26, zI_27, zI_28, zI_29, zI_30, zI_31, zI_32, zI_33, zI_34, zI_35, zI_36, zI_37, zI_38, zI_39, zI_40, zI_41, zI_42, zI_43, zI_44, zI_45, zI_46, zI_47, zI_48, zI_49, zI_50, zI_51, zI_52, zI_53, zI_54, zI_55, zI_56, zI_57, zI_58, zI_59, zI_60, zI_61, zI_62, zI_63, zI_64, zI_65, zI_66, zI_67, zI_74, zI_84, zI_85, zI_88, zI_91, zI_93, zI_97, zI_99, zI_100, zI_102, zI_105, zI_117, zI_122, zI_193, zI_202, zI_205, zI_251, zI_255, zI_256, zI_257, zI_258, zI_259, zI_260, zI_640, zI_999, zI_1000, zI_1024, zI_1600, zI_1602, zI_1700, zI_2040, zI_3200, zI_4100, zI_9728, zI_11784, zI_61440, zI_65536, zI_470536, zI_999999, zI_1000000, lt_T, lt_F, le_T, le_F, eq_T, eq_F, neg_1, cn_m1p, cn_m11, nI_add, cn_sub, pk_mul, cn_div, cn_irm, cn_lt, cn_eq, cn_ltm1, cn_m1lt, cn_eqm1, cn_m1eq, cn_ix, cn_inb, cn_ninb, cn_irs, cn_ils, cn_and, cn_or, cn_xor, grd_t, grd_bt, grd_bl, Nat.add_zero, Nat.zero_add, Nat.reduceAdd, Nat.reduceSub, Nat.reduceMul, Nat.reduceLT, Nat.reduceEqDiff, eq_self, true_and, and_true, and_false, false_and, if_true, if_false, and_self, Bool.true_eq_false, Bool.false_eq_true]
  unfold TestR
  rw [head]
  rcases hP s0 p b L s E h hl with ⟨k', w', s2, f2, D2, hB⟩ | ⟨e, p', b', s2, f2, X2, hp', hle2, hck, hG⟩
  · left
    obtain ⟨s4, f4, D4⟩ := L21_dead (N := N) (kt := f_Rd_grp N r 0) (kf := f_Rd_grp N r 1) (ks := f_Rd_grp N r 2) (kp := f_Rd_grp N r 3) hpo D2 (cnt := 0) (i := 0) (kk := N) (k4 := N - 1) (by omega) (by omega) (by omega) (by omega)
    refine ⟨k', w', s4, ?_, D4, fun t0 Q C W t hR hCW hA hS hQ => hB t0 Q C W t hR hCW hA hQ⟩
    rw [f2, Option.bind_some]
    exact f4
  · have hp2 := X2.1
    rw [f2, Option.bind_some]
    have J := test_go (N := N) (kt := f_Rd_grp N r 0) (ks := f_Rd_grp N r 2) (kp := f_Rd_grp N r 3) E hP hN hl (n - p') p' b' s2 e [] 0 0 N (N - 1) (Nat.le_refl _) (by rw [List.append_nil]; exact X2) hp' (by rw [List.nil_append, show JwT 0 = [] from rfl, List.append_nil]; exact hle2) (Or.inl rfl) (by omega) (by omega) (fun ts hts => by rw [List.append_nil, if_pos rfl]; exact hck ts (by omega)) (by omega) (by omega)
    have step : ∀ t0 Q C W t, RT tp n kd t0 p b o C W 0 t → C.length + W.length ≤ p → AllT W → SWT W → (∀ t', RT tp n kd t0 p' b' o (C ++ e) ([] ++ (JwT 0 ++ W)) 0 t' → rTG N Q (n - p' + 5) t') → rTS N Q (n - p + 5) t := by
      intro t0 Q C W t hR hCW hA hS hB
      refine hG t0 Q C W t hR hCW hA (fun t2 R2 => ?_)
      exact DN_stop R2 (by omega) (fun x W' e => by have := hS x W' e; omega) (hB t2 R2)
    rcases J with ⟨k', w', s', g1, g3, g4⟩ | ⟨es', pend, p3, b3, s', g1, g3, g4, g5, g6, g7, g8, g9⟩
    · left
      exact ⟨k', w', s', g1, g3, fun t0 Q C W t hR hCW hA hS hQ => step t0 Q C W t hR hCW hA hS (fun t' R => g4 t0 Q C W t' R hCW hA hS hQ)⟩
    · right
      exact ⟨es', pend, p3, b3, s', g1, g3, by omega, g5, g6, g7, g8, fun t0 Q C W t hR hCW hA hS hQ => step t0 Q C W t hR hCW hA hS (fun t' R => g9 t0 Q C W t' R hCW hA hS hQ)⟩
end TESTT
