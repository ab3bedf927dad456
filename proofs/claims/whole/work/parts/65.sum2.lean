/-! A SUM's loop, on both sides -/
def JvI (jw : List Nat) : Int32 := if jw = [1] then nI 43 else if jw = [2] then nI 45 else m1
def JwO (jw : List Nat) : Prop := jw = [] ∨ jw = [1] ∨ jw = [2]
def MwO (mw : List Nat) : Prop := mw = [] ∨ mw = [3] ∨ mw = [4]
def TyJ (al : Nat → Bool) (es mw jw : List Nat) (D : Nat) : Prop := ∀ ts : List Bool, ts.length + D ≤ 50 → ckL al (es ++ mw) ts = some (if jw = [] then false :: ts else false :: false :: ts)
def GoR (N : Nat) (tp : Nat → Nat) (n kd pg : Nat) (al : Nat → Bool) (o : Nat) (s0 : mS) (p0 : Nat) (L : List Nat) (res : Option mS) (p : Nat) (b : Bool) (es mw jw : List Nat) : Prop :=
  (∃ k w s', res = some s' ∧ CD pg s0 k w s' ∧ ∀ t0 B0 Q C W B t, RT tp n kd t0 p b o (C ++ es) (mw ++ (jw ++ W)) B t → C.length + W.length ≤ p0 → B ≤ W.length → SW W B → (∀ t', BT t0 k w t' → Q t') → rGO N B0 Q (n - p + 5) t) ∨
  (∃ es' pend p2 b2 s', res = some s' ∧ CX tp n pg s0 p2 b2 o (L ++ (es' ++ pend)) s' ∧ p ≤ p2 ∧ (es' ++ pend).length ≤ p2 - p0 ∧ ckN al (es' ++ pend) (3 + 3 * (6 - o)) false ∧ OpL pend ∧ NoOp (kK tp n p2 b2) ∧
    ∀ t0 B0 Q C W B t, RT tp n kd t0 p b o (C ++ es) (mw ++ (jw ++ W)) B t → C.length + W.length ≤ p0 → B ≤ W.length → SW W B → (∀ t', RT tp n kd t0 p2 b2 o (C ++ es') (pend ++ W) B t' → rGO N B0 Q (n - p2 + 5) t') → rGO N B0 Q (n - p + 5) t)
section SUMT
variable {N n p p0 o : Nat} {tp : Nat → Nat} {b : Bool} {s s0 t t0 : mS} {kd mk pg r k w B m c x : Nat} {al : Nat → Bool} {L C W V l es mw jw : List Nat} {B0 : Int32} {Q : mS → Prop} {kt kf ks kp : mS → Option mS}
theorem JwO_o (h : JwO jw) : OpL jw ∧ jw.length ≤ 1 := by
  rcases h with rfl | rfl | rfl
  · exact ⟨fun x h => (by cases h), by decide⟩
  · exact ⟨fun x h => by rcases List.mem_singleton.mp h with rfl; omega, by decide⟩
  · exact ⟨fun x h => by rcases List.mem_singleton.mp h with rfl; omega, by decide⟩
theorem MwO_o (h : MwO mw) : (∀ x ∈ mw, x = 3 ∨ x = 4) ∧ mw.length ≤ 1 := by
  rcases h with rfl | rfl | rfl
  · exact ⟨fun x h => (by cases h), by decide⟩
  · exact ⟨fun x h => by rcases List.mem_singleton.mp h with rfl; omega, by decide⟩
  · exact ⟨fun x h => by rcases List.mem_singleton.mp h with rfl; omega, by decide⟩
theorem OpL_app {l m : List Nat} (h : OpL l) (h2 : OpL m) : OpL (l ++ m) := fun x hx => (List.mem_append.mp hx).elim (h x) (h2 x)
/-- what waits for a join, put down by the one side -/
theorem j79_n (hpo : PgO pg) (hj : JwO jw) (E : CE tp n pg mk s0) (h : CX tp n pg s0 p b o L s) (hl : L.length + 1 < 1602) {cnt : Int32} {k6 : Int32 × Int32 × Int32 × mS → Option mS} :
    ∃ s', f_Rd_sum_j79 N kt kf ks kp k6 (JvI jw, cnt, s) = f_Rd_sum_j92 N kt kf ks kp k6 (cnt, s') ∧ CX tp n pg s0 p b o (L ++ jw) s' := by
  obtain ⟨o1, _⟩ := pgo_ok hpo
  have g := (CE_x E h).2.1
  rcases hj with rfl | rfl | rfl
  · refine ⟨s, ?_, by rw [List.append_nil]; exact h⟩
    simp (disch := first | omega | decide) only [f_Rd_sum_j79, show JvI [] = m1 from rfl, zI_0, zI_1, zI_2, zI_3, zI_4, zI_5, zI_6, zI_7, zI_8, zI_9, zI_10, zI_11, zI_12, zI_13, zI_14, zI_15, zI_16, zI_17, zI_18, zI_19, zI_20, zI_21, zI_22, zI_23, zI_24, zI_25, zI_26, zI_27, zI_28, zI_29, zI_30, zI_31, zI_32, zI_33, zI_34, zI_35, zI_36, zI_37, zI_38, zI_39, zI_40, zI_41, zI_42, zI_43, zI_44, zI_45, zI_46, zI_47, zI_48, zI_49, zI_50, zI_51, zI_52, zI_53, zI_54, zI_55, zI_56, zI_57, zI_58, zI_59, zI_60, zI_61, zI_62, zI_63, zI_64, zI_65, zI_66, zI_67, zI_74, zI_84, zI_85, zI_88, zI_91, zI_93, zI_97, zI_99, zI_100, zI_102, zI_105, zI_117, zI_122, zI_193, zI_202, zI_205, zI_251, zI_255, zI_256, zI_257, zI_258, zI_259, zI_260, zI_640, zI_999, zI_1000, zI_1024, zI_1600, zI_1602, zI_1700, zI_2040, zI_3200, zI_4100, zI_9728, zI_11784, zI_61440, zI_65536, zI_470536, zI_999999, zI_1000000, lt_T, lt_F, le_T, le_F, eq_T, eq_F, neg_1, cn_m1p, cn_m11, nI_add, cn_sub, pk_mul, cn_div, cn_irm, cn_lt, cn_eq, cn_ltm1, cn_m1lt, cn_eqm1, cn_m1eq, cn_ix, cn_inb, cn_ninb, cn_irs, cn_ils, cn_and, cn_or, cn_xor, grd_t, grd_bt, grd_bl, Nat.add_zero, Nat.zero_add, Nat.reduceAdd, Nat.reduceSub, Nat.reduceMul, Nat.reduceLT, Nat.reduceEqDiff, eq_self, true_and, and_true, and_false, false_and, if_true, if_false, and_self, Bool.true_eq_false, Bool.false_eq_true]
  · obtain ⟨s', f, X⟩ := c_add (N := N) (c := 1) E h (by omega) (x := nI 43) rfl
    refine ⟨s', ?_, X⟩
    simp (disch := first | omega | decide) only [f_Rd_sum_j79, show JvI [1] = nI 43 from rfl, g, o1, f, zI_0, zI_1, zI_2, zI_3, zI_4, zI_5, zI_6, zI_7, zI_8, zI_9, zI_10, zI_11, zI_12, zI_13, zI_14, zI_15, zI_16, zI_17, zI_18, zI_19, zI_20, zI_21, zI_22, zI_23, zI_24, zI_25, zI_26, zI_27, zI_28, zI_29, zI_30, zI_31, zI_32, zI_33, zI_34, zI_35, zI_36, zI_37, zI_38, zI_39, zI_40, zI_41, zI_42, zI_43, zI_44, zI_45, zI_46, zI_47, zI_48, zI_49, zI_50, zI_51, zI_52, zI_53, zI_54, zI_55, zI_56, zI_57, zI_58, zI_59, zI_60, zI_61, zI_62, zI_63, zI_64, zI_65, zI_66, zI_67, zI_74, zI_84, zI_85, zI_88, zI_91, zI_93, zI_97, zI_99, zI_100, zI_102, zI_105, zI_117, zI_122, zI_193, zI_202, zI_205, zI_251, zI_255, zI_256, zI_257, zI_258, zI_259, zI_260, zI_640, zI_999, zI_1000, zI_1024, zI_1600, zI_1602, zI_1700, zI_2040, zI_3200, zI_4100, zI_9728, zI_11784, zI_61440, zI_65536, zI_470536, zI_999999, zI_1000000, lt_T, lt_F, le_T, le_F, eq_T, eq_F, neg_1, cn_m1p, cn_m11, nI_add, cn_sub, pk_mul, cn_div, cn_irm, cn_lt, cn_eq, cn_ltm1, cn_m1lt, cn_eqm1, cn_m1eq, cn_ix, cn_inb, cn_ninb, cn_irs, cn_ils, cn_and, cn_or, cn_xor, grd_t, grd_bt, grd_bl, Nat.add_zero, Nat.zero_add, Nat.reduceAdd, Nat.reduceSub, Nat.reduceMul, Nat.reduceLT, Nat.reduceEqDiff, eq_self, true_and, and_true, and_false, false_and, if_true, if_false, and_self, Bool.true_eq_false, Bool.false_eq_true, Option.bind_some]
  · obtain ⟨s', f, X⟩ := c_add (N := N) (c := 2) E h (by omega) (x := nI 45) rfl
    refine ⟨s', ?_, X⟩
    simp (disch := first | omega | decide) only [f_Rd_sum_j79, show JvI [2] = nI 45 from rfl, g, o1, f, zI_0, zI_1, zI_2, zI_3, zI_4, zI_5, zI_6, zI_7, zI_8, zI_9, zI_10, zI_11, zI_12, zI_13, zI_14, zI_15, zI_16, zI_17, zI_18, zI_19, zI_20, zI_21, zI_22, zI_23, zI_24, zI_25, zI_26, zI_27, zI_28, zI_29, zI_30, zI_31, zI_32, zI_33, zI_34, zI_35, zI_36, zI_37, zI_38, zI_39, zI_40, zI_41, zI_42, zI_43, zI_44, zI_45, zI_46, zI_47, zI_48, zI_49, zI_50, zI_51, zI_52, zI_53, zI_54, zI_55, zI_56, zI_57, zI_58, zI_59, zI_60, zI_61, zI_62, zI_63, zI_64, zI_65, zI_66, zI_67, zI_74, zI_84, zI_85, zI_88, zI_91, zI_93, zI_97, zI_99, zI_100, zI_102, zI_105, zI_117, zI_122, zI_193, zI_202, zI_205, zI_251, zI_255, zI_256, zI_257, zI_258, zI_259, zI_260, zI_640, zI_999, zI_1000, zI_1024, zI_1600, zI_1602, zI_1700, zI_2040, zI_3200, zI_4100, zI_9728, zI_11784, zI_61440, zI_65536, zI_470536, zI_999999, zI_1000000, lt_T, lt_F, le_T, le_F, eq_T, eq_F, neg_1, cn_m1p, cn_m11, nI_add, cn_sub, pk_mul, cn_div, cn_irm, cn_lt, cn_eq, cn_ltm1, cn_m1lt, cn_eqm1, cn_m1eq, cn_ix, cn_inb, cn_ninb, cn_irs, cn_ils, cn_and, cn_or, cn_xor, grd_t, grd_bt, grd_bl, Nat.add_zero, Nat.zero_add, Nat.reduceAdd, Nat.reduceSub, Nat.reduceMul, Nat.reduceLT, Nat.reduceEqDiff, eq_self, true_and, and_true, and_false, false_and, if_true, if_false, and_self, Bool.true_eq_false, Bool.false_eq_true, Option.bind_some]
/-- the one side's loop behind a fault -/
theorem L24_dead (hpo : PgO pg) (hj : JwO jw) (D : CD pg s0 k w s) {cnt : Int32} {i kk k6 : Nat} (hi : i < 1600) (hk : 1 ≤ kk) (hk6 : 1 ≤ k6) :
    ∃ s', mfix kk (f_Rd_sum_L24 N kt kf ks kp (mfix k6 (f_Rd_sum_L6 N kt kf ks kp))) (JvI jw, cnt, nI i, s) = some s' ∧ CD pg s0 k w s' := by
  obtain ⟨o1, _⟩ := pgo_ok hpo
  have g := D.1.2.1
  have k5 := D.1.1.2.2.2.2
  have z1600 : (1600 : Int32) = nI 1600 := rfl
  have j92 : ∀ s, CD pg s0 k w s → f_Rd_sum_j92 N kt kf ks kp (mfix k6 (f_Rd_sum_L6 N kt kf ks kp)) (cnt, s) = some s := by
    intro s D
    have k5 := D.1.1.2.2.2.2
    simp (disch := first | omega | decide) only [f_Rd_sum_j92, f_Rd_sum_j120, k5, zI_0, zI_1, zI_2, zI_3, zI_4, zI_5, zI_6, zI_7, zI_8, zI_9, zI_10, zI_11, zI_12, zI_13, zI_14, zI_15, zI_16, zI_17, zI_18, zI_19, zI_20, zI_21, zI_22, zI_23, zI_24, zI_25, zI_26, zI_27, zI_28, zI_29, zI_30, zI_31, zI_32, zI_33, zI_34, zI_35, zI_36, zI_37, zI_38, zI_39, zI_40, zI_41, zI_42, zI_43, zI_44, zI_45, zI_46, zI_47, zI_48, zI_49, zI_50, zI_51, zI_52, zI_53, zI_54, zI_55, zI_56, zI_57, zI_58, zI_59, zI_60, zI_61, zI_62, zI_63, zI_64, zI_65, zI_66, zI_67, zI_74, zI_84, zI_85, zI_88, zI_91, zI_93, zI_97, zI_99, zI_100, zI_102, zI_105, zI_117, zI_122, zI_193, zI_202, zI_205, zI_251, zI_255, zI_256, zI_257, zI_258, zI_259, zI_260, zI_640, zI_999, zI_1000, zI_1024, zI_1600, zI_1602, zI_1700, zI_2040, zI_3200, zI_4100, zI_9728, zI_11784, zI_61440, zI_65536, zI_470536, zI_999999, zI_1000000, lt_T, lt_F, le_T, le_F, eq_T, eq_F, neg_1, cn_m1p, cn_m11, nI_add, cn_sub, pk_mul, cn_div, cn_irm, cn_lt, cn_eq, cn_ltm1, cn_m1lt, cn_eqm1, cn_m1eq, cn_ix, cn_inb, cn_ninb, cn_irs, cn_ils, cn_and, cn_or, cn_xor, grd_t, grd_bt, grd_bl, Nat.add_zero, Nat.zero_add, Nat.reduceAdd, Nat.reduceSub, Nat.reduceMul, Nat.reduceLT, Nat.reduceEqDiff, eq_self, true_and, and_true, and_false, false_and, if_true, if_false, and_self, Bool.true_eq_false, Bool.false_eq_true]
    rw [mfix_1 (by omega)]
    simp (disch := first | omega | decide) only [f_Rd_sum_L6, zI_0, zI_1, zI_2, zI_3, zI_4, zI_5, zI_6, zI_7, zI_8, zI_9, zI_10, zI_11, zI_12, zI_13, zI_14, zI_15, zI_16, zI_17, zI_18, zI_19, zI_20, zI_21, zI_22, zI_23, zI_24, zI_25, zI_26, zI_27, zI_28, zI_29, zI_30, zI_31, zI_32, zI_33, zI_34, zI_35, zI_36, zI_37, zI_38, zI_39, zI_40, zI_41, zI_42, zI_43, zI_44, zI_45, zI_46, zI_47, zI_48, zI_49, zI_50, zI_51, zI_52, zI_53, zI_54, zI_55, zI_56, zI_57, zI_58, zI_59, zI_60, zI_61, zI_62, zI_63, zI_64, zI_65, zI_66, zI_67, zI_74, zI_84, zI_85, zI_88, zI_91, zI_93, zI_97, zI_99, zI_100, zI_102, zI_105, zI_117, zI_122, zI_193, zI_202, zI_205, zI_251, zI_255, zI_256, zI_257, zI_258, zI_259, zI_260, zI_640, zI_999, zI_1000, zI_1024, zI_1600, zI_1602, zI_1700, zI_2040, zI_3200, zI_4100, zI_9728, zI_11784, zI_61440, zI_65536, zI_470536, zI_999999, zI_1000000, lt_T, lt_F, le_T, le_F, eq_T, eq_F, neg_1, cn_m1p, cn_m11, nI_add, cn_sub, pk_mul, cn_div, cn_irm, cn_lt, cn_eq, cn_ltm1, cn_m1lt, cn_eqm1, cn_m1eq, cn_ix, cn_inb, cn_ninb, cn_irs, cn_ils, cn_and, cn_or, cn_xor, grd_t, grd_bt, grd_bl, Nat.add_zero, Nat.zero_add, Nat.reduceAdd, Nat.reduceSub, Nat.reduceMul, Nat.reduceLT, Nat.reduceEqDiff, eq_self, true_and, and_true, and_false, false_and, if_true, if_false, and_self, Bool.true_eq_false, Bool.false_eq_true]
  rw [mfix_1 (by omega)]
  have head : f_Rd_sum_L24 N kt kf ks kp (mfix k6 (f_Rd_sum_L6 N kt kf ks kp)) (mfix (kk - 1) (f_Rd_sum_L24 N kt kf ks kp (mfix k6 (f_Rd_sum_L6 N kt kf ks kp)))) (JvI jw, cnt, nI i, s) = f_Rd_sum_j79 N kt kf ks kp (mfix k6 (f_Rd_sum_L6 N kt kf ks kp)) (JvI jw, cnt, s) := by
    simp (disch := first | omega | decide) only [f_Rd_sum_L24, k5, zI_0, zI_1, zI_2, zI_3, zI_4, zI_5, zI_6, zI_7, zI_8, zI_9, zI_10, zI_11, zI_12, zI_13, zI_14, zI_15, zI_16, zI_17, zI_18, zI_19, zI_20, zI_21, zI_22, zI_23, zI_24, zI_25, zI_26, zI_27, zI_28, zI_29, zI_30, zI_31, zI_32, zI_33, zI_34, zI_35, zI_36, zI_37, zI_38, zI_39, zI_40, zI_41, zI_42, zI_43, zI_44, zI_45, zI_46, zI_47, zI_48, zI_49, zI_50, zI_51, zI_52, zI_53, zI_54, zI_55, zI_56, zI_57, zI_58, zI_59, zI_60, zI_61, zI_62, zI_63, zI_64, zI_65, zI_66, zI_67, zI_74, zI_84, zI_85, zI_88, zI_91, zI_93, zI_97, zI_99, zI_100, zI_102, zI_105, zI_117, zI_122, zI_193, zI_202, zI_205, zI_251, zI_255, zI_256, zI_257, zI_258, zI_259, zI_260, zI_640, zI_999, zI_1000, zI_1024, zI_1600, zI_1602, zI_1700, zI_2040, zI_3200, zI_4100, zI_9728, zI_11784, zI_61440, zI_65536, zI_470536, zI_999999, zI_1000000, lt_T, lt_F, le_T, le_F, eq_T, eq_F, neg_1, cn_m1p, cn_m11, nI_add, cn_sub, pk_mul, cn_div, cn_irm, cn_lt, cn_eq, cn_ltm1, cn_m1lt, cn_eqm1, cn_m1eq, cn_ix, cn_inb, cn_ninb, cn_irs, cn_ils, cn_and, cn_or, cn_xor, grd_t, grd_bt, grd_bl, Nat.add_zero, Nat.zero_add, Nat.reduceAdd, Nat.reduceSub, Nat.reduceMul, Nat.reduceLT, Nat.reduceEqDiff, eq_self, true_and, and_true, and_false, false_and, if_true, if_false, and_self, Bool.true_eq_false, Bool.false_eq_true]
  rw [head]
  rcases hj with rfl | rfl | rfl
  · refine ⟨s, ?_, D⟩
    simp (disch := first | omega | decide) only [f_Rd_sum_j79, show JvI [] = m1 from rfl, zI_0, zI_1, zI_2, zI_3, zI_4, zI_5, zI_6, zI_7, zI_8, zI_9, zI_10, zI_11, zI_12, zI_13, zI_14, zI_15, zI_16, zI_17, zI_18, zI_19, zI_20, zI_21, zI_22, zI_23, zI_24, zI_25, zI_26, zI_27, zI_28, zI_29, zI_30, zI_31, zI_32, zI_33, zI_34, zI_35, zI_36, zI_37, zI_38, zI_39, zI_40, zI_41, zI_42, zI_43, zI_44, zI_45, zI_46, zI_47, zI_48, zI_49, zI_50, zI_51, zI_52, zI_53, zI_54, zI_55, zI_56, zI_57, zI_58, zI_59, zI_60, zI_61, zI_62, zI_63, zI_64, zI_65, zI_66, zI_67, zI_74, zI_84, zI_85, zI_88, zI_91, zI_93, zI_97, zI_99, zI_100, zI_102, zI_105, zI_117, zI_122, zI_193, zI_202, zI_205, zI_251, zI_255, zI_256, zI_257, zI_258, zI_259, zI_260, zI_640, zI_999, zI_1000, zI_1024, zI_1600, zI_1602, zI_1700, zI_2040, zI_3200, zI_4100, zI_9728, zI_11784, zI_61440, zI_65536, zI_470536, zI_999999, zI_1000000, lt_T, lt_F, le_T, le_F, eq_T, eq_F, neg_1, cn_m1p, cn_m11, nI_add, cn_sub, pk_mul, cn_div, cn_irm, cn_lt, cn_eq, cn_ltm1, cn_m1lt, cn_eqm1, cn_m1eq, cn_ix, cn_inb, cn_ninb, cn_irs, cn_ils, cn_and, cn_or, cn_xor, grd_t, grd_bt, grd_bl, Nat.add_zero, Nat.zero_add, Nat.reduceAdd, Nat.reduceSub, Nat.reduceMul, Nat.reduceLT, Nat.reduceEqDiff, eq_self, true_and, and_true, and_false, false_and, if_true, if_false, and_self, Bool.true_eq_false, Bool.false_eq_true]
    exact j92 s D
  · obtain ⟨s', f, D'⟩ := c_dadd (N := N) hpo D (nI 43)
    refine ⟨s', ?_, D'⟩
    simp (disch := first | omega | decide) only [f_Rd_sum_j79, show JvI [1] = nI 43 from rfl, g, o1, f, zI_0, zI_1, zI_2, zI_3, zI_4, zI_5, zI_6, zI_7, zI_8, zI_9, zI_10, zI_11, zI_12, zI_13, zI_14, zI_15, zI_16, zI_17, zI_18, zI_19, zI_20, zI_21, zI_22, zI_23, zI_24, zI_25, zI_26, zI_27, zI_28, zI_29, zI_30, zI_31, zI_32, zI_33, zI_34, zI_35, zI_36, zI_37, zI_38, zI_39, zI_40, zI_41, zI_42, zI_43, zI_44, zI_45, zI_46, zI_47, zI_48, zI_49, zI_50, zI_51, zI_52, zI_53, zI_54, zI_55, zI_56, zI_57, zI_58, zI_59, zI_60, zI_61, zI_62, zI_63, zI_64, zI_65, zI_66, zI_67, zI_74, zI_84, zI_85, zI_88, zI_91, zI_93, zI_97, zI_99, zI_100, zI_102, zI_105, zI_117, zI_122, zI_193, zI_202, zI_205, zI_251, zI_255, zI_256, zI_257, zI_258, zI_259, zI_260, zI_640, zI_999, zI_1000, zI_1024, zI_1600, zI_1602, zI_1700, zI_2040, zI_3200, zI_4100, zI_9728, zI_11784, zI_61440, zI_65536, zI_470536, zI_999999, zI_1000000, lt_T, lt_F, le_T, le_F, eq_T, eq_F, neg_1, cn_m1p, cn_m11, nI_add, cn_sub, pk_mul, cn_div, cn_irm, cn_lt, cn_eq, cn_ltm1, cn_m1lt, cn_eqm1, cn_m1eq, cn_ix, cn_inb, cn_ninb, cn_irs, cn_ils, cn_and, cn_or, cn_xor, grd_t, grd_bt, grd_bl, Nat.add_zero, Nat.zero_add, Nat.reduceAdd, Nat.reduceSub, Nat.reduceMul, Nat.reduceLT, Nat.reduceEqDiff, eq_self, true_and, and_true, and_false, false_and, if_true, if_false, and_self, Bool.true_eq_false, Bool.false_eq_true, Option.bind_some]
    exact j92 s' D'
  · obtain ⟨s', f, D'⟩ := c_dadd (N := N) hpo D (nI 45)
    refine ⟨s', ?_, D'⟩
    simp (disch := first | omega | decide) only [f_Rd_sum_j79, show JvI [2] = nI 45 from rfl, g, o1, f, zI_0, zI_1, zI_2, zI_3, zI_4, zI_5, zI_6, zI_7, zI_8, zI_9, zI_10, zI_11, zI_12, zI_13, zI_14, zI_15, zI_16, zI_17, zI_18, zI_19, zI_20, zI_21, zI_22, zI_23, zI_24, zI_25, zI_26, zI_27, zI_28, zI_29, zI_30, zI_31, zI_32, zI_33, zI_34, zI_35, zI_36, zI_37, zI_38, zI_39, zI_40, zI_41, zI_42, zI_43, zI_44, zI_45, zI_46, zI_47, zI_48, zI_49, zI_50, zI_51, zI_52, zI_53, zI_54, zI_55, zI_56, zI_57, zI_58, zI_59, zI_60, zI_61, zI_62, zI_63, zI_64, zI_65, zI_66, zI_67, zI_74, zI_84, zI_85, zI_88, zI_91, zI_93, zI_97, zI_99, zI_100, zI_102, zI_105, zI_117, zI_122, zI_193, zI_202, zI_205, zI_251, zI_255, zI_256, zI_257, zI_258, zI_259, zI_260, zI_640, zI_999, zI_1000, zI_1024, zI_1600, zI_1602, zI_1700, zI_2040, zI_3200, zI_4100, zI_9728, zI_11784, zI_61440, zI_65536, zI_470536, zI_999999, zI_1000000, lt_T, lt_F, le_T, le_F, eq_T, eq_F, neg_1, cn_m1p, cn_m11, nI_add, cn_sub, pk_mul, cn_div, cn_irm, cn_lt, cn_eq, cn_ltm1, cn_m1lt, cn_eqm1, cn_m1eq, cn_ix, cn_inb, cn_ninb, cn_irs, cn_ils, cn_and, cn_or, cn_xor, grd_t, grd_bt, grd_bl, Nat.add_zero, Nat.zero_add, Nat.reduceAdd, Nat.reduceSub, Nat.reduceMul, Nat.reduceLT, Nat.reduceEqDiff, eq_self, true_and, and_true, and_false, false_and, if_true, if_false, and_self, Bool.true_eq_false, Bool.false_eq_true, Option.bind_some]
    exact j92 s' D'
theorem TyJ_mul {e : List Nat} {o c : Nat} (h : TyJ al es mw jw (3 + 3 * (6 - o))) (he : ckN al e (1 + 3 * (6 - o)) false) (hc : c = 3 ∨ c = 4) : TyJ al (es ++ mw ++ e) [c] jw (3 + 3 * (6 - o)) := by
  intro ts hts
  rw [List.append_assoc (es ++ mw), ckL_ap2 al (h ts hts)]
  by_cases cj : jw = []
  · rw [if_pos cj, ckL_ap2 al (he (false :: ts) (by rw [List.length_cons]; omega))]
    exact ckL_1 al (ck1_op al (by omega) ts)
  · rw [if_neg cj, ckL_ap2 al (he (false :: false :: ts) (by rw [List.length_cons, List.length_cons]; omega))]
    exact ckL_1 al (ck1_op al (by omega) (false :: ts))
theorem TyJ_end {o : Nat} (h : TyJ al es mw jw (3 + 3 * (6 - o))) (hj : JwO jw) : ckN al (es ++ (mw ++ jw)) (3 + 3 * (6 - o)) false := by
  intro ts hts
  rw [← List.append_assoc, ckL_ap2 al (h ts hts)]
  rcases hj with rfl | rfl | rfl
  · rw [if_pos rfl]; rfl
  · rw [if_neg (by simp)]
    exact ckL_1 al (ck1_op al (by omega) ts)
  · rw [if_neg (by simp)]
    exact ckL_1 al (ck1_op al (by omega) ts)
theorem TyJ_add {e : List Nat} {o : Nat} (h : TyJ al es mw jw (3 + 3 * (6 - o))) (hj : JwO jw) (he : ckN al e (1 + 3 * (6 - o)) false) {c : Nat} : TyJ al (es ++ (mw ++ jw) ++ e) [] [c] (3 + 3 * (6 - o)) := by
  intro ts hts
  rw [List.append_nil, ckL_ap2 al (TyJ_end h hj ts hts), if_neg (by simp)]
  exact he (false :: ts) (by rw [List.length_cons]; omega)
theorem sum_end (E : CE tp n pg mk s0) (hL : L.length ≤ p0) {kk k6 cnt i : Nat} (X : CX tp n pg s0 p b o (L ++ (es ++ mw)) s) (hp : p0 < p) (hle : (es ++ (mw ++ jw)).length ≤ p - p0) (hj : JwO jw) (hm : MwO mw) (hi : 2 * i + 1 ≤ p) (hT : TyJ al es mw jw (3 + 3 * (6 - o))) (hkk : 1 ≤ kk) (hk6 : 1 ≤ k6) (hno : NoOp (kK tp n p b)) :
    GoR N tp n kd pg al o s0 p0 L (mfix kk (f_Rd_sum_L24 N kt kf ks kp (mfix k6 (f_Rd_sum_L6 N kt kf ks kp))) (JvI jw, nI cnt, nI i, s)) p b es mw jw := by
  obtain ⟨hTx, hO, hmm, ht⟩ := CE_x E X
  have hn := hTx.1
  have hpn := X.1
  have kle := kK_le (b := b) (p := p) ht
  obtain ⟨n1, n2, n3, n4⟩ := hno
  obtain ⟨k1, k2, k3, k4, k5, k6'⟩ := X.2.1
  have hle' := hle
  rw [List.length_append, List.length_append] at hle'
  obtain ⟨s1, f1, X1⟩ := j79_n (N := N) (kt := kt) (kf := kf) (ks := ks) (kp := kp) (cnt := nI cnt) (k6 := mfix k6 (f_Rd_sum_L6 N kt kf ks kp)) E.2.1 hj E X (by rw [List.length_append, List.length_append]; have := (JwO_o hj).2; omega)
  have k1' := X1.2.1.1
  right
  rw [List.append_assoc, List.append_assoc] at X1
  refine ⟨es, mw ++ jw, p, b, s1, ?_, X1, Nat.le_refl _, hle, TyJ_end hT hj, OpL_app (fun x hx => by have := (MwO_o hm).1 x hx; omega) (JwO_o hj).1, ⟨n1, n2, n3, n4⟩, fun t0 B0 Q C W B t hR hCW hB hS hQ => hQ t (by rw [List.append_assoc]; exact hR)⟩
  generalize kK tp n p b = K at *
  have q1 : (nI K = nI 42) = False := by rw [cn_eq (by omega)]; exact eq_false n1
  have q2 : (nI K = nI 47) = False := by rw [cn_eq (by omega)]; exact eq_false n2
  have q3 : (nI K = nI 43) = False := by rw [cn_eq (by omega)]; exact eq_false n3
  have q4 : (nI K = nI 45) = False := by rw [cn_eq (by omega)]; exact eq_false n4
  rw [mfix_1 (by omega)]
  have head : f_Rd_sum_L24 N kt kf ks kp (mfix k6 (f_Rd_sum_L6 N kt kf ks kp)) (mfix (kk - 1) (f_Rd_sum_L24 N kt kf ks kp (mfix k6 (f_Rd_sum_L6 N kt kf ks kp)))) (JvI jw, nI cnt, nI i, s) = f_Rd_sum_j79 N kt kf ks kp (mfix k6 (f_Rd_sum_L6 N kt kf ks kp)) (JvI jw, nI cnt, s) := by
    simp (disch := first | omega | decide) only [f_Rd_sum_L24, k1, q1, q2, zI_0, zI_1, zI_2, zI_3, zI_4, zI_5, zI_6, zI_7, zI_8, zI_9, zI_10, zI_11, zI_12, zI_13, zI_14, zI_15, zI_16, zI_17, zI_18, zI_19, zI_20, zI_21, zI_22, zI_23, zI_24, zI_25, zI_26, zI_27, zI_28, zI_29, zI_30, zI_31, zI_32, zI_33, zI_34, zI_35, zI_36, zI_37, zI_38, zI_39, zI_40, zI_41, zI_42, zI_43, zI_44, zI_45, zI_46, zI_47, zI_48, zI_49, zI_50, zI_51, zI_52, zI_53, zI_54, zI_55, zI_56, zI_57, zI_58, zI_59, zI_60, zI_61, zI_62, zI_63, zI_64, zI_65, zI_66, zI_67, zI_74, zI_84, zI_85, zI_88, zI_91, zI_93, zI_97, zI_99, zI_100, zI_102, zI_105, zI_117, zI_122, zI_193, zI_202, zI_205, zI_251, zI_255, zI_256, zI_257, zI_258, zI_259, zI_260, zI_640, zI_999, zI_1000, zI_1024, zI_1600, zI_1602, zI_1700, zI_2040, zI_3200, zI_4100, zI_9728, zI_11784, zI_61440, zI_65536, zI_470536, zI_999999, zI_1000000, cn_lt, lt_T, Nat.reduceAdd, Nat.reduceSub, Nat.reduceMul, Nat.reduceLT, Nat.reduceEqDiff, eq_self, true_and, and_true, and_false, false_and, if_true, if_false, and_self, Bool.true_eq_false, Bool.false_eq_true]
  rw [head, f1]
  simp (disch := first | omega | decide) only [f_Rd_sum_j92, f_Rd_sum_j120, k1', q3, q4, zI_0, zI_1, zI_2, zI_3, zI_4, zI_5, zI_6, zI_7, zI_8, zI_9, zI_10, zI_11, zI_12, zI_13, zI_14, zI_15, zI_16, zI_17, zI_18, zI_19, zI_20, zI_21, zI_22, zI_23, zI_24, zI_25, zI_26, zI_27, zI_28, zI_29, zI_30, zI_31, zI_32, zI_33, zI_34, zI_35, zI_36, zI_37, zI_38, zI_39, zI_40, zI_41, zI_42, zI_43, zI_44, zI_45, zI_46, zI_47, zI_48, zI_49, zI_50, zI_51, zI_52, zI_53, zI_54, zI_55, zI_56, zI_57, zI_58, zI_59, zI_60, zI_61, zI_62, zI_63, zI_64, zI_65, zI_66, zI_67, zI_74, zI_84, zI_85, zI_88, zI_91, zI_93, zI_97, zI_99, zI_100, zI_102, zI_105, zI_117, zI_122, zI_193, zI_202, zI_205, zI_251, zI_255, zI_256, zI_257, zI_258, zI_259, zI_260, zI_640, zI_999, zI_1000, zI_1024, zI_1600, zI_1602, zI_1700, zI_2040, zI_3200, zI_4100, zI_9728, zI_11784, zI_61440, zI_65536, zI_470536, zI_999999, zI_1000000, nI_add, Nat.reduceAdd, Nat.reduceSub, Nat.reduceMul, Nat.reduceLT, Nat.reduceEqDiff, eq_self, true_and, and_true, and_false, false_and, if_true, if_false, and_self, Bool.true_eq_false, Bool.false_eq_true]
  rw [mfix_1 (by omega)]
  simp (disch := first | omega | decide) only [f_Rd_sum_L6, zI_0, zI_1, zI_2, zI_3, zI_4, zI_5, zI_6, zI_7, zI_8, zI_9, zI_10, zI_11, zI_12, zI_13, zI_14, zI_15, zI_16, zI_17, zI_18, zI_19, zI_20, zI_21, zI_22, zI_23, zI_24, zI_25, zI_26, zI_27, zI_28, zI_29, zI_30, zI_31, zI_32, zI_33, zI_34, zI_35, zI_36, zI_37, zI_38, zI_39, zI_40, zI_41, zI_42, zI_43, zI_44, zI_45, zI_46, zI_47, zI_48, zI_49, zI_50, zI_51, zI_52, zI_53, zI_54, zI_55, zI_56, zI_57, zI_58, zI_59, zI_60, zI_61, zI_62, zI_63, zI_64, zI_65, zI_66, zI_67, zI_74, zI_84, zI_85, zI_88, zI_91, zI_93, zI_97, zI_99, zI_100, zI_102, zI_105, zI_117, zI_122, zI_193, zI_202, zI_205, zI_251, zI_255, zI_256, zI_257, zI_258, zI_259, zI_260, zI_640, zI_999, zI_1000, zI_1024, zI_1600, zI_1602, zI_1700, zI_2040, zI_3200, zI_4100, zI_9728, zI_11784, zI_61440, zI_65536, zI_470536, zI_999999, zI_1000000, lt_T, lt_F, le_T, le_F, eq_T, eq_F, neg_1, cn_m1p, cn_m11, nI_add, cn_sub, pk_mul, cn_div, cn_irm, cn_lt, cn_eq, cn_ltm1, cn_m1lt, cn_eqm1, cn_m1eq, cn_ix, cn_inb, cn_ninb, cn_irs, cn_ils, cn_and, cn_or, cn_xor, grd_t, grd_bt, grd_bl, Nat.add_zero, Nat.zero_add, Nat.reduceAdd, Nat.reduceSub, Nat.reduceMul, Nat.reduceLT, Nat.reduceEqDiff, eq_self, true_and, and_true, and_false, false_and, if_true, if_false, and_self, Bool.true_eq_false, Bool.false_eq_true]
theorem sum_go (hK : KdA kd mk al) (E : CE tp n pg mk s0) (hP : PartC N tp n kd mk pg al r o) (hr : 4 ≤ r) (ho : o ≤ 6) (hN : 10000 ≤ N) (hL : L.length ≤ p0) :
    ∀ d p b s es mw jw cnt i kk k6, n - p ≤ d → CX tp n pg s0 p b o (L ++ (es ++ mw)) s → p0 < p → (es ++ (mw ++ jw)).length ≤ p - p0 → JwO jw → MwO mw → 2 * cnt + 1 ≤ p → 2 * i + 1 ≤ p → TyJ al es mw jw (3 + 3 * (6 - o)) → n - p + 5 ≤ kk → n - p + 5 ≤ k6 →
      GoR N tp n kd pg al o s0 p0 L (mfix kk (f_Rd_sum_L24 N kt kf ks (f_Rd_grp N r 3) (mfix k6 (f_Rd_sum_L6 N kt kf ks (f_Rd_grp N r 3)))) (JvI jw, nI cnt, nI i, s)) p b es mw jw := by
  intro d
  induction d with
  | zero =>
    intro p b s es mw jw cnt i kk k6 hd X hp hle hj hm hcnt hi hT hkk hk6
    have sb := skp_b (tp := tp) X.1
    have e : kK tp n p b = 258 := by unfold kK; rw [if_pos (by omega)]
    exact sum_end E hL X hp hle hj hm hi hT (by omega) (by omega) (by unfold NoOp; omega)
  | succ d ih =>
    intro p b s es mw jw cnt i kk k6 hd X hp hle hj hm hcnt hi hT hkk hk6
    obtain ⟨hTx, hO, hmm, ht⟩ := CE_x E X
    have hn := hTx.1
    have hpn := X.1
    have hpo := E.2.1
    obtain ⟨o1, _⟩ := pgo_ok hpo
    have kle := kK_le (b := b) (p := p) ht
    obtain ⟨k1, k2, k3, k4, k5, k6'⟩ := X.2.1
    have jl := (JwO_o hj).2
    have ml := (MwO_o hm).2
    have hle' := hle
    rw [List.length_append, List.length_append] at hle'
    by_cases cm : kK tp n p b = 42 ∨ kK tp n p b = 47
    · obtain ⟨c, hc, hcK, hcs⟩ : ∃ c, (c = 3 ∨ c = 4) ∧ ((kK tp n p b = 42 ∧ c = 3) ∨ (kK tp n p b = 47 ∧ c = 4)) ∧ nI (kK tp n p b) = cSt c := by
        rcases cm with e | e
        · exact ⟨3, Or.inl rfl, Or.inl ⟨e, rfl⟩, by rw [e]; rfl⟩
        · exact ⟨4, Or.inr rfl, Or.inr ⟨e, rfl⟩, by rw [e]; rfl⟩
      have sgc : SgC (kK tp n p b) := by unfold SgC; omega
      obtain ⟨s1, f1, X1, p1, p2⟩ := c_sg sgc E X rfl hN
      have ref : ∀ t0 B0 Q C W B t, RT tp n kd t0 p b o (C ++ es) (mw ++ (jw ++ W)) B t → C.length + W.length ≤ p0 → SW W B → (∀ t', RT tp n kd t0 (skp tp n p + 1) false o (C ++ (es ++ mw)) (c :: (jw ++ W)) B t' → rPS N B0 Q (n - (skp tp n p + 1) + 5) t') → rGO N B0 Q (n - p + 5) t := by
        intro t0 B0 Q C W B t hR hCW hS hA
        have g := GO_mul (N := N) (B0 := B0) (Q := Q) (m := n - (skp tp n p + 1) + 5) (c := c) hR (fun x V' e => by
          rcases hj with rfl | rfl | rfl
          · have h1 := hS.2 x V' e
            omega
          · cases e; omega
          · cases e; omega) (MwO_o hm).1 (by rw [List.length_append, List.length_append, List.length_append]; omega) hcK hN (by omega) (fun t' R => hA t' (by rw [← List.append_assoc]; exact R))
        intro kg k15 h1 h2
        exact g kg k15 (by omega) (by omega)
      have head : mfix kk (f_Rd_sum_L24 N kt kf ks (f_Rd_grp N r 3) (mfix k6 (f_Rd_sum_L6 N kt kf ks (f_Rd_grp N r 3)))) (JvI jw, nI cnt, nI i, s) = (f_Rd_grp N r 3 s1).bind fun p2 => grd (isO Sx (gO p2) 5) ((f_Pg_add N (gO p2) (cSt c) p2).bind fun p3 => mfix (kk - 1) (f_Rd_sum_L24 N kt kf ks (f_Rd_grp N r 3) (mfix k6 (f_Rd_sum_L6 N kt kf ks (f_Rd_grp N r 3)))) (JvI jw, nI cnt, nI (i + 1), p3)) := by
        rw [mfix_1 (by omega), ← hcs]
        rcases cm with e | e
        · rw [e] at k1 ⊢
          simp (disch := first | omega | decide) only [f_Rd_sum_L24, f_Rd_sum_j50, k1, f1, zI_0, zI_1, zI_2, zI_3, zI_4, zI_5, zI_6, zI_7, zI_8, zI_9, zI_10, zI_11, zI_12, zI_13, zI_14, zI_15, zI_16, zI_17, zI_18, zI_19, zI_20, zI_21, zI_22, zI_23, zI_24, zI_25, zI_26, zI_27, zI_28, zI_29, zI_30, zI_31, zI_32, zI_33, zI_34, zI_35, zI_36, zI_37, zI_38, zI_39, zI_40, zI_41, zI_42, zI_43, zI_44, zI_45, zI_46, zI_47, zI_48, zI_49, zI_50, zI_51, zI_52, zI_53, zI_54, zI_55, zI_56, zI_57, zI_58, zI_59, zI_60, zI_61, zI_62, zI_63, zI_64, zI_65, zI_66, zI_67, zI_74, zI_84, zI_85, zI_88, zI_91, zI_93, zI_97, zI_99, zI_100, zI_102, zI_105, zI_117, zI_122, zI_193, zI_202, zI_205, zI_251, zI_255, zI_256, zI_257, zI_258, zI_259, zI_260, zI_640, zI_999, zI_1000, zI_1024, zI_1600, zI_1602, zI_1700, zI_2040, zI_3200, zI_4100, zI_9728, zI_11784, zI_61440, zI_65536, zI_470536, zI_999999, zI_1000000, lt_T, lt_F, le_T, le_F, eq_T, eq_F, neg_1, cn_m1p, cn_m11, nI_add, cn_sub, pk_mul, cn_div, cn_irm, cn_lt, cn_eq, cn_ltm1, cn_m1lt, cn_eqm1, cn_m1eq, cn_ix, cn_inb, cn_ninb, cn_irs, cn_ils, cn_and, cn_or, cn_xor, grd_t, grd_bt, grd_bl, Nat.add_zero, Nat.zero_add, Nat.reduceAdd, Nat.reduceSub, Nat.reduceMul, Nat.reduceLT, Nat.reduceEqDiff, eq_self, true_and, and_true, and_false, false_and, if_true, if_false, and_self, Bool.true_eq_false, Bool.false_eq_true, Option.bind_some]
        · rw [e] at k1 ⊢
          simp (disch := first | omega | decide) only [f_Rd_sum_L24, f_Rd_sum_j50, k1, f1, zI_0, zI_1, zI_2, zI_3, zI_4, zI_5, zI_6, zI_7, zI_8, zI_9, zI_10, zI_11, zI_12, zI_13, zI_14, zI_15, zI_16, zI_17, zI_18, zI_19, zI_20, zI_21, zI_22, zI_23, zI_24, zI_25, zI_26, zI_27, zI_28, zI_29, zI_30, zI_31, zI_32, zI_33, zI_34, zI_35, zI_36, zI_37, zI_38, zI_39, zI_40, zI_41, zI_42, zI_43, zI_44, zI_45, zI_46, zI_47, zI_48, zI_49, zI_50, zI_51, zI_52, zI_53, zI_54, zI_55, zI_56, zI_57, zI_58, zI_59, zI_60, zI_61, zI_62, zI_63, zI_64, zI_65, zI_66, zI_67, zI_74, zI_84, zI_85, zI_88, zI_91, zI_93, zI_97, zI_99, zI_100, zI_102, zI_105, zI_117, zI_122, zI_193, zI_202, zI_205, zI_251, zI_255, zI_256, zI_257, zI_258, zI_259, zI_260, zI_640, zI_999, zI_1000, zI_1024, zI_1600, zI_1602, zI_1700, zI_2040, zI_3200, zI_4100, zI_9728, zI_11784, zI_61440, zI_65536, zI_470536, zI_999999, zI_1000000, lt_T, lt_F, le_T, le_F, eq_T, eq_F, neg_1, cn_m1p, cn_m11, nI_add, cn_sub, pk_mul, cn_div, cn_irm, cn_lt, cn_eq, cn_ltm1, cn_m1lt, cn_eqm1, cn_m1eq, cn_ix, cn_inb, cn_ninb, cn_irs, cn_ils, cn_and, cn_or, cn_xor, grd_t, grd_bt, grd_bl, Nat.add_zero, Nat.zero_add, Nat.reduceAdd, Nat.reduceSub, Nat.reduceMul, Nat.reduceLT, Nat.reduceEqDiff, eq_self, true_and, and_true, and_false, false_and, if_true, if_false, and_self, Bool.true_eq_false, Bool.false_eq_true, Option.bind_some]
      rw [head]
      have hll : (L ++ (es ++ mw)).length ≤ skp tp n p + 1 := by rw [List.length_append, List.length_append]; omega
      rcases hP s0 _ _ _ s1 E X1 hll with ⟨k', w', s2, f2, D2, hB⟩ | ⟨e, p', b', s2, f2, X2, hp', hle2, hck, hG⟩
      · left
        obtain ⟨s3, f3, D3⟩ := c_dadd (N := N) hpo D2 (cSt c)
        obtain ⟨s4, f4, D4⟩ := L24_dead (N := N) (kt := kt) (kf := kf) (ks := ks) (kp := f_Rd_grp N r 3) hpo hj D3 (cnt := nI cnt) (i := i + 1) (kk := kk - 1) (k6 := k6) (by omega) (by omega) (by omega)
        have g2 := D2.1.2.1
        refine ⟨k', w', s4, ?_, D4, fun t0 B0 Q C W B t hR hCW hB2 hS hQ => ref t0 B0 Q C W B t hR hCW hS (fun t' R => hB t0 B0 Q _ _ B t' R (by rw [List.length_append, List.length_append, List.length_cons, List.length_append]; omega) (by rw [List.length_cons, List.length_append]; omega) hQ)⟩
        simp (disch := first | omega | decide) only [f2, g2, o1, f3, grd_t, Option.bind_some]
        exact f4
      · have hp2 := X2.1
        obtain ⟨s3, f3, X3⟩ := c_add (N := N) (c := c) E X2 (by rw [List.length_append, List.length_append, List.length_append]; omega) rfl
        have g2 := (CE_x E X2).2.1
        rw [show L ++ (es ++ mw) ++ e ++ [c] = L ++ (es ++ mw ++ e ++ [c]) by rw [List.append_assoc, List.append_assoc, List.append_assoc (es ++ mw)]] at X3
        have J := ih p' b' s3 (es ++ mw ++ e) [c] jw cnt (i + 1) (kk - 1) k6 (by omega) X3 (by omega) (by rw [List.length_append, List.length_append, List.length_append, List.length_append, List.length_singleton]; omega) hj (by rcases hc with rfl | rfl <;> simp [MwO]) (by omega) (by omega) (TyJ_mul hT hck hc) (by omega) (by omega)
        have res : ((f_Rd_grp N r 3 s1).bind fun p2 => grd (isO Sx (gO p2) 5) ((f_Pg_add N (gO p2) (cSt c) p2).bind fun p3 => mfix (kk - 1) (f_Rd_sum_L24 N kt kf ks (f_Rd_grp N r 3) (mfix k6 (f_Rd_sum_L6 N kt kf ks (f_Rd_grp N r 3)))) (JvI jw, nI cnt, nI (i + 1), p3))) = mfix (kk - 1) (f_Rd_sum_L24 N kt kf ks (f_Rd_grp N r 3) (mfix k6 (f_Rd_sum_L6 N kt kf ks (f_Rd_grp N r 3)))) (JvI jw, nI cnt, nI (i + 1), s3) := by
          simp (disch := first | omega | decide) only [f2, g2, o1, f3, grd_t, Option.bind_some]
        rw [res]
        have step : ∀ t0 B0 Q C W B t, RT tp n kd t0 p b o (C ++ es) (mw ++ (jw ++ W)) B t → C.length + W.length ≤ p0 → B ≤ W.length → SW W B → (∀ t', RT tp n kd t0 p' b' o (C ++ (es ++ mw ++ e)) ([c] ++ (jw ++ W)) B t' → rGO N B0 Q (n - p' + 5) t') → rGO N B0 Q (n - p + 5) t := by
          intro t0 B0 Q C W B t hR hCW hB2 hS hA
          refine ref t0 B0 Q C W B t hR hCW hS (fun t' R => hG t0 B0 Q _ _ B t' R (by rw [List.length_append, List.length_append, List.length_cons, List.length_append]; omega) (by rw [List.length_cons, List.length_append]; omega) (fun t2 R2 => ?_))
          refine EP_stop R2 (by rw [List.length_cons, List.length_append]; omega) (by rw [List.length_cons, List.length_append]; omega) (Or.inr ⟨c, _, rfl, by omega⟩) (hA t2 ?_)
          rw [← List.append_assoc C]
          exact R2
        rcases J with ⟨k', w', s', g1, g3, g4⟩ | ⟨es', pend, p3, b3, s', g1, g3, g4, g5, g6, g7, g8, g9⟩
        · left
          exact ⟨k', w', s', g1, g3, fun t0 B0 Q C W B t hR hCW hB2 hS hQ => step t0 B0 Q C W B t hR hCW hB2 hS (fun t' R => g4 t0 B0 Q C W B t' R hCW hB2 hS hQ)⟩
        · right
          exact ⟨es', pend, p3, b3, s', g1, g3, by omega, g5, g6, g7, g8, fun t0 B0 Q C W B t hR hCW hB2 hS hQ => step t0 B0 Q C W B t hR hCW hB2 hS (fun t' R => g9 t0 B0 Q C W B t' R hCW hB2 hS hQ)⟩
    · by_cases ca : kK tp n p b = 43 ∨ kK tp n p b = 45
      · obtain ⟨c, hc, hcK, hcs⟩ : ∃ c, (c = 1 ∨ c = 2) ∧ ((kK tp n p b = 43 ∧ c = 1) ∨ (kK tp n p b = 45 ∧ c = 2)) ∧ nI (kK tp n p b) = JvI [c] := by
          rcases ca with e | e
          · exact ⟨1, Or.inl rfl, Or.inl ⟨e, rfl⟩, by rw [e]; rfl⟩
          · exact ⟨2, Or.inr rfl, Or.inr ⟨e, rfl⟩, by rw [e]; rfl⟩
        have hjc : JwO [c] := by rcases hc with rfl | rfl <;> simp [JwO]
        have sgc : SgC (kK tp n p b) := by unfold SgC; omega
        obtain ⟨s0', f0, X0⟩ := j79_n (N := N) (kt := kt) (kf := kf) (ks := ks) (kp := f_Rd_grp N r 3) (cnt := nI cnt) (k6 := mfix k6 (f_Rd_sum_L6 N kt kf ks (f_Rd_grp N r 3))) hpo hj E X (by rw [List.length_append, List.length_append]; omega)
        obtain ⟨s1, f1, X1, p1, p2⟩ := c_sg sgc E X0 rfl hN
        have k1' := X0.2.1.1
        have ref : ∀ t0 B0 Q C W B t, RT tp n kd t0 p b o (C ++ es) (mw ++ (jw ++ W)) B t → C.length + W.length ≤ p0 → SW W B → (∀ t', RT tp n kd t0 (skp tp n p + 1) false o (C ++ (es ++ (mw ++ jw))) (c :: W) B t' → rPS N B0 Q (n - (skp tp n p + 1) + 5) t') → rGO N B0 Q (n - p + 5) t := by
          intro t0 B0 Q C W B t hR hCW hS hA
          rw [← List.append_assoc mw] at hR
          have g := GO_add (N := N) (B0 := B0) (Q := Q) (m := n - (skp tp n p + 1) + 5) (c := c) hR (fun x V' e => by
            have h1 := hS.2 x V' e
            omega) (OpL_app (fun x hx => by have := (MwO_o hm).1 x hx; omega) (JwO_o hj).1) (by rw [List.length_append, List.length_append, List.length_append]; omega) hcK hN (by omega) (fun t' R => hA t' (by rw [← List.append_assoc C]; exact R))
          intro kg k15 h1 h2
          exact g kg k15 (by omega) (by omega)
        have head : mfix kk (f_Rd_sum_L24 N kt kf ks (f_Rd_grp N r 3) (mfix k6 (f_Rd_sum_L6 N kt kf ks (f_Rd_grp N r 3)))) (JvI jw, nI cnt, nI i, s) = (f_Rd_grp N r 3 s1).bind fun p1 => mfix N (f_Rd_sum_L24 N kt kf ks (f_Rd_grp N r 3) (mfix (k6 - 1) (f_Rd_sum_L6 N kt kf ks (f_Rd_grp N r 3)))) (JvI [c], nI (cnt + 1), nI 0, p1) := by
          rw [mfix_1 (by omega), ← hcs]
          have h1 : f_Rd_sum_L24 N kt kf ks (f_Rd_grp N r 3) (mfix k6 (f_Rd_sum_L6 N kt kf ks (f_Rd_grp N r 3))) (mfix (kk - 1) (f_Rd_sum_L24 N kt kf ks (f_Rd_grp N r 3) (mfix k6 (f_Rd_sum_L6 N kt kf ks (f_Rd_grp N r 3))))) (JvI jw, nI cnt, nI i, s) = f_Rd_sum_j79 N kt kf ks (f_Rd_grp N r 3) (mfix k6 (f_Rd_sum_L6 N kt kf ks (f_Rd_grp N r 3))) (JvI jw, nI cnt, s) := by
            rcases ca with e | e
            · rw [e] at k1
              simp (disch := first | omega | decide) only [f_Rd_sum_L24, k1, zI_0, zI_1, zI_2, zI_3, zI_4, zI_5, zI_6, zI_7, zI_8, zI_9, zI_10, zI_11, zI_12, zI_13, zI_14, zI_15, zI_16, zI_17, zI_18, zI_19, zI_20, zI_21, zI_22, zI_23, zI_24, zI_25, zI_26, zI_27, zI_28, zI_29, zI_30, zI_31, zI_32, zI_33, zI_34, zI_35, zI_36, zI_37, zI_38, zI_39, zI_40, zI_41, zI_42, zI_43, zI_44, zI_45, zI_46, zI_47, zI_48, zI_49, zI_50, zI_51, zI_52, zI_53, zI_54, zI_55, zI_56, zI_57, zI_58, zI_59, zI_60, zI_61, zI_62, zI_63, zI_64, zI_65, zI_66, zI_67, zI_74, zI_84, zI_85, zI_88, zI_91, zI_93, zI_97, zI_99, zI_100, zI_102, zI_105, zI_117, zI_122, zI_193, zI_202, zI_205, zI_251, zI_255, zI_256, zI_257, zI_258, zI_259, zI_260, zI_640, zI_999, zI_1000, zI_1024, zI_1600, zI_1602, zI_1700, zI_2040, zI_3200, zI_4100, zI_9728, zI_11784, zI_61440, zI_65536, zI_470536, zI_999999, zI_1000000, lt_T, lt_F, le_T, le_F, eq_T, eq_F, neg_1, cn_m1p, cn_m11, nI_add, cn_sub, pk_mul, cn_div, cn_irm, cn_lt, cn_eq, cn_ltm1, cn_m1lt, cn_eqm1, cn_m1eq, cn_ix, cn_inb, cn_ninb, cn_irs, cn_ils, cn_and, cn_or, cn_xor, grd_t, grd_bt, grd_bl, Nat.add_zero, Nat.zero_add, Nat.reduceAdd, Nat.reduceSub, Nat.reduceMul, Nat.reduceLT, Nat.reduceEqDiff, eq_self, true_and, and_true, and_false, false_and, if_true, if_false, and_self, Bool.true_eq_false, Bool.false_eq_true]
            · rw [e] at k1
              simp (disch := first | omega | decide) only [f_Rd_sum_L24, k1, zI_0, zI_1, zI_2, zI_3, zI_4, zI_5, zI_6, zI_7, zI_8, zI_9, zI_10, zI_11, zI_12, zI_13, zI_14, zI_15, zI_16, zI_17, zI_18, zI_19, zI_20, zI_21, zI_22, zI_23, zI_24, zI_25, zI_26, zI_27, zI_28, zI_29, zI_30, zI_31, zI_32, zI_33, zI_34, zI_35, zI_36, zI_37, zI_38, zI_39, zI_40, zI_41, zI_42, zI_43, zI_44, zI_45, zI_46, zI_47, zI_48, zI_49, zI_50, zI_51, zI_52, zI_53, zI_54, zI_55, zI_56, zI_57, zI_58, zI_59, zI_60, zI_61, zI_62, zI_63, zI_64, zI_65, zI_66, zI_67, zI_74, zI_84, zI_85, zI_88, zI_91, zI_93, zI_97, zI_99, zI_100, zI_102, zI_105, zI_117, zI_122, zI_193, zI_202, zI_205, zI_251, zI_255, zI_256, zI_257, zI_258, zI_259, zI_260, zI_640, zI_999, zI_1000, zI_1024, zI_1600, zI_1602, zI_1700, zI_2040, zI_3200, zI_4100, zI_9728, zI_11784, zI_61440, zI_65536, zI_470536, zI_999999, zI_1000000, lt_T, lt_F, le_T, le_F, eq_T, eq_F, neg_1, cn_m1p, cn_m11, nI_add, cn_sub, pk_mul, cn_div, cn_irm, cn_lt, cn_eq, cn_ltm1, cn_m1lt, cn_eqm1, cn_m1eq, cn_ix, cn_inb, cn_ninb, cn_irs, cn_ils, cn_and, cn_or, cn_xor, grd_t, grd_bt, grd_bl, Nat.add_zero, Nat.zero_add, Nat.reduceAdd, Nat.reduceSub, Nat.reduceMul, Nat.reduceLT, Nat.reduceEqDiff, eq_self, true_and, and_true, and_false, false_and, if_true, if_false, and_self, Bool.true_eq_false, Bool.false_eq_true]
          rw [h1, f0]
          have h2 : f_Rd_sum_j92 N kt kf ks (f_Rd_grp N r 3) (mfix k6 (f_Rd_sum_L6 N kt kf ks (f_Rd_grp N r 3))) (nI cnt, s0') = mfix k6 (f_Rd_sum_L6 N kt kf ks (f_Rd_grp N r 3)) (nI (kK tp n p b), nI 1, nI (cnt + 1), s1) := by
            rcases ca with e | e
            · rw [e] at k1' ⊢
              simp (disch := first | omega | decide) only [f_Rd_sum_j92, f_Rd_sum_j120, k1', f1, zI_0, zI_1, zI_2, zI_3, zI_4, zI_5, zI_6, zI_7, zI_8, zI_9, zI_10, zI_11, zI_12, zI_13, zI_14, zI_15, zI_16, zI_17, zI_18, zI_19, zI_20, zI_21, zI_22, zI_23, zI_24, zI_25, zI_26, zI_27, zI_28, zI_29, zI_30, zI_31, zI_32, zI_33, zI_34, zI_35, zI_36, zI_37, zI_38, zI_39, zI_40, zI_41, zI_42, zI_43, zI_44, zI_45, zI_46, zI_47, zI_48, zI_49, zI_50, zI_51, zI_52, zI_53, zI_54, zI_55, zI_56, zI_57, zI_58, zI_59, zI_60, zI_61, zI_62, zI_63, zI_64, zI_65, zI_66, zI_67, zI_74, zI_84, zI_85, zI_88, zI_91, zI_93, zI_97, zI_99, zI_100, zI_102, zI_105, zI_117, zI_122, zI_193, zI_202, zI_205, zI_251, zI_255, zI_256, zI_257, zI_258, zI_259, zI_260, zI_640, zI_999, zI_1000, zI_1024, zI_1600, zI_1602, zI_1700, zI_2040, zI_3200, zI_4100, zI_9728, zI_11784, zI_61440, zI_65536, zI_470536, zI_999999, zI_1000000, lt_T, lt_F, le_T, le_F, eq_T, eq_F, neg_1, cn_m1p, cn_m11, nI_add, cn_sub, pk_mul, cn_div, cn_irm, cn_lt, cn_eq, cn_ltm1, cn_m1lt, cn_eqm1, cn_m1eq, cn_ix, cn_inb, cn_ninb, cn_irs, cn_ils, cn_and, cn_or, cn_xor, grd_t, grd_bt, grd_bl, Nat.add_zero, Nat.zero_add, Nat.reduceAdd, Nat.reduceSub, Nat.reduceMul, Nat.reduceLT, Nat.reduceEqDiff, eq_self, true_and, and_true, and_false, false_and, if_true, if_false, and_self, Bool.true_eq_false, Bool.false_eq_true, Option.bind_some]
            · rw [e] at k1' ⊢
              simp (disch := first | omega | decide) only [f_Rd_sum_j92, f_Rd_sum_j120, k1', f1, zI_0, zI_1, zI_2, zI_3, zI_4, zI_5, zI_6, zI_7, zI_8, zI_9, zI_10, zI_11, zI_12, zI_13, zI_14, zI_15, zI_16, zI_17, zI_18, zI_19, zI_20, zI_21, zI_22, zI_23, zI_24, zI_25, zI_26, zI_27, zI_28, zI_29, zI_30, zI_31, zI_32, zI_33, zI_34, zI_35, zI_36, zI_37, zI_38, zI_39, zI_40, zI_41, zI_42, zI_43, zI_44, zI_45, zI_46, zI_47, zI_48, zI_49, zI_50, zI_51, zI_52, zI_53, zI_54, zI_55, zI_56, zI_57, zI_58, zI_59, zI_60, zI_61, zI_62, zI_63, zI_64, zI_65, zI_66, zI_67, zI_74, zI_84, zI_85, zI_88, zI_91, zI_93, zI_97, zI_99, zI_100, zI_102, zI_105, zI_117, zI_122, zI_193, zI_202, zI_205, zI_251, zI_255, zI_256, zI_257, zI_258, zI_259, zI_260, zI_640, zI_999, zI_1000, zI_1024, zI_1600, zI_1602, zI_1700, zI_2040, zI_3200, zI_4100, zI_9728, zI_11784, zI_61440, zI_65536, zI_470536, zI_999999, zI_1000000, lt_T, lt_F, le_T, le_F, eq_T, eq_F, neg_1, cn_m1p, cn_m11, nI_add, cn_sub, pk_mul, cn_div, cn_irm, cn_lt, cn_eq, cn_ltm1, cn_m1lt, cn_eqm1, cn_m1eq, cn_ix, cn_inb, cn_ninb, cn_irs, cn_ils, cn_and, cn_or, cn_xor, grd_t, grd_bt, grd_bl, Nat.add_zero, Nat.zero_add, Nat.reduceAdd, Nat.reduceSub, Nat.reduceMul, Nat.reduceLT, Nat.reduceEqDiff, eq_self, true_and, and_true, and_false, false_and, if_true, if_false, and_self, Bool.true_eq_false, Bool.false_eq_true, Option.bind_some]
          rw [h2, mfix_1 (by omega)]
          simp (disch := first | omega | decide) only [f_Rd_sum_L6, zI_0, zI_1, zI_2, zI_3, zI_4, zI_5, zI_6, zI_7, zI_8, zI_9, zI_10, zI_11, zI_12, zI_13, zI_14, zI_15, zI_16, zI_17, zI_18, zI_19, zI_20, zI_21, zI_22, zI_23, zI_24, zI_25, zI_26, zI_27, zI_28, zI_29, zI_30, zI_31, zI_32, zI_33, zI_34, zI_35, zI_36, zI_37, zI_38, zI_39, zI_40, zI_41, zI_42, zI_43, zI_44, zI_45, zI_46, zI_47, zI_48, zI_49, zI_50, zI_51, zI_52, zI_53, zI_54, zI_55, zI_56, zI_57, zI_58, zI_59, zI_60, zI_61, zI_62, zI_63, zI_64, zI_65, zI_66, zI_67, zI_74, zI_84, zI_85, zI_88, zI_91, zI_93, zI_97, zI_99, zI_100, zI_102, zI_105, zI_117, zI_122, zI_193, zI_202, zI_205, zI_251, zI_255, zI_256, zI_257, zI_258, zI_259, zI_260, zI_640, zI_999, zI_1000, zI_1024, zI_1600, zI_1602, zI_1700, zI_2040, zI_3200, zI_4100, zI_9728, zI_11784, zI_61440, zI_65536, zI_470536, zI_999999, zI_1000000, lt_T, lt_F, le_T, le_F, eq_T, eq_F, neg_1, cn_m1p, cn_m11, nI_add, cn_sub, pk_mul, cn_div, cn_irm, cn_lt, cn_eq, cn_ltm1, cn_m1lt, cn_eqm1, cn_m1eq, cn_ix, cn_inb, cn_ninb, cn_irs, cn_ils, cn_and, cn_or, cn_xor, grd_t, grd_bt, grd_bl, Nat.add_zero, Nat.zero_add, Nat.reduceAdd, Nat.reduceSub, Nat.reduceMul, Nat.reduceLT, Nat.reduceEqDiff, eq_self, true_and, and_true, and_false, false_and, if_true, if_false, and_self, Bool.true_eq_false, Bool.false_eq_true]
        rw [head]
        have hll : (L ++ (es ++ mw) ++ jw).length ≤ skp tp n p + 1 := by rw [List.length_append, List.length_append, List.length_append]; omega
        rcases hP s0 _ _ _ s1 E X1 hll with ⟨k', w', s2, f2, D2, hB⟩ | ⟨e, p', b', s2, f2, X2, hp', hle2, hck, hG⟩
        · left
          obtain ⟨s4, f4, D4⟩ := L24_dead (N := N) (kt := kt) (kf := kf) (ks := ks) (kp := f_Rd_grp N r 3) hpo hjc D2 (cnt := nI (cnt + 1)) (i := 0) (kk := N) (k6 := k6 - 1) (by omega) (by omega) (by omega)
          refine ⟨k', w', s4, ?_, D4, fun t0 B0 Q C W B t hR hCW hB2 hS hQ => ref t0 B0 Q C W B t hR hCW hS (fun t' R => hB t0 B0 Q _ _ B t' R (by rw [List.length_append, List.length_append, List.length_append, List.length_cons]; omega) (by rw [List.length_cons]; omega) hQ)⟩
          rw [f2, Option.bind_some]
          exact f4
        · have hp2 := X2.1
          rw [show L ++ (es ++ mw) ++ jw ++ e = L ++ (es ++ (mw ++ jw) ++ e ++ []) by rw [List.append_nil, List.append_assoc, List.append_assoc, List.append_assoc, List.append_assoc, List.append_assoc]] at X2
          have J := ih p' b' s2 (es ++ (mw ++ jw) ++ e) [] [c] (cnt + 1) 0 N (k6 - 1) (by omega) X2 (by omega) (by rw [List.length_append, List.length_append, List.length_append, List.length_append, List.length_append, List.length_singleton, List.length_nil]; omega) hjc (Or.inl rfl) (by omega) (by omega) (TyJ_add hT hj hck) (by omega) (by omega)
          rw [f2, Option.bind_some]
          have step : ∀ t0 B0 Q C W B t, RT tp n kd t0 p b o (C ++ es) (mw ++ (jw ++ W)) B t → C.length + W.length ≤ p0 → B ≤ W.length → SW W B → (∀ t', RT tp n kd t0 p' b' o (C ++ (es ++ (mw ++ jw) ++ e)) ([] ++ ([c] ++ W)) B t' → rGO N B0 Q (n - p' + 5) t') → rGO N B0 Q (n - p + 5) t := by
            intro t0 B0 Q C W B t hR hCW hB2 hS hA
            refine ref t0 B0 Q C W B t hR hCW hS (fun t' R => hG t0 B0 Q _ _ B t' R (by rw [List.length_append, List.length_append, List.length_append, List.length_cons]; omega) (by rw [List.length_cons]; omega) (fun t2 R2 => ?_))
            refine EP_stop R2 (by rw [List.length_cons]; omega) (by rw [List.length_cons]; omega) (Or.inr ⟨c, _, rfl, by omega⟩) (hA t2 ?_)
            rw [← List.append_assoc C]
            exact R2
          rcases J with ⟨k', w', s', g1, g3, g4⟩ | ⟨es', pend, p3, b3, s', g1, g3, g4, g5, g6, g7, g8, g9⟩
          · left
            exact ⟨k', w', s', g1, g3, fun t0 B0 Q C W B t hR hCW hB2 hS hQ => step t0 B0 Q C W B t hR hCW hB2 hS (fun t' R => g4 t0 B0 Q C W B t' R hCW hB2 hS hQ)⟩
          · right
            exact ⟨es', pend, p3, b3, s', g1, g3, by omega, g5, g6, g7, g8, fun t0 B0 Q C W B t hR hCW hB2 hS hQ => step t0 B0 Q C W B t hR hCW hB2 hS (fun t' R => g9 t0 B0 Q C W B t' R hCW hB2 hS hQ)⟩
      · exact sum_end E hL X hp hle hj hm hi hT (by omega) (by omega) (by unfold NoOp; omega)
/-- a sum -/
theorem sum_j (hK : KdA kd mk al) (ho : o ≤ 6) (hr : 4 ≤ r) (hN : 10000 ≤ N) (hP : PartC N tp n kd mk pg al r o) : SumC N tp n kd mk pg al (r + 1) o := by
  intro s0 p b L s E h hl
  obtain ⟨hTx, hO, hmm, ht⟩ := CE_x E h
  have hn := hTx.1
  have hpo := E.2.1
  have hpn := h.1
  have head : f_Rd_grp N (r + 1) 2 s = (f_Rd_grp N r 3 s).bind fun p1 => mfix N (f_Rd_sum_L24 N (f_Rd_grp N r 0) (f_Rd_grp N r 1) (f_Rd_grp N r 2) (f_Rd_grp N r 3) (mfix (N - 1) (f_Rd_sum_L6 N (f_Rd_grp N r 0) (f_Rd_grp N r 1) (f_Rd_grp N r 2) (f_Rd_grp N r 3)))) (JvI [], nI 0, nI 0, p1) := by
    show f_Rd_sum_B N _ _ _ _ s = _
    unfold f_Rd_sum_B
    rw [mfix_1 (by omega), show JvI [] = m1 from rfl]
    simp (disch := first | omega | decide) only [f_Rd_sum_L6, zI_0, zI_1, zI_2, zI_3, zI_4, zI_5, zI_6, zI_7, zI_8, zI_9, zI_10, zI_11, zI_12, zI_13, zI_14, zI_15, zI_16, zI_17, zI_18, zI_19, zI_20, zI_21, zI_22, zI_23, zI_24, zI_25, zI_26, zI_27, zI_28, zI_29, zI_30, zI_31, zI_32, zI_33, zI_34, zI_35, zI_36, zI_37, zI_38, zI_39, zI_40, zI_41, zI_42, zI_43, zI_44, zI_45, zI_46, zI_47, zI_48, zI_49, zI_50, zI_51, zI_52, zI_53, zI_54, zI_55, zI_56, zI_57, zI_58, zI_59, zI_60, zI_61, zI_62, zI_63, zI_64, zI_65, zI_66, zI_67, zI_74, zI_84, zI_85, zI_88, zI_91, zI_93, zI_97, zI_99, zI_100, zI_102, zI_105, zI_117, zI_122, zI_193, zI_202, zI_205, zI_251, zI_255, zI_256, zI_257, zI_258, zI_259, zI_260, zI_640, zI_999, zI_1000, zI_1024, zI_1600, zI_1602, zI_1700, zI_2040, zI_3200, zI_4100, zI_9728, zI_11784, zI_61440, zI_65536, zI_470536, zI_999999, zI_1000000, lt_T, lt_F, le_T, le_F, eq_T, eq_F, neg_1, cn_m1p, cn_m11, nI_add, cn_sub, pk_mul, cn_div, cn_irm, cn_lt, cn_eq, cn_ltm1, cn_m1lt, cn_eqm1, cn_m1eq, cn_ix, cn_inb, cn_ninb, cn_irs, cn_ils, cn_and, cn_or, cn_xor, grd_t, grd_bt, grd_bl, Nat.add_zero, Nat.zero_add, Nat.reduceAdd, Nat.reduceSub, Nat.reduceMul, Nat.reduceLT, Nat.reduceEqDiff, eq_self, true_and, and_true, and_false, false_and, if_true, if_false, and_self, Bool.true_eq_false, Bool.false_eq_true]
  unfold SumR
  rw [head]
  rcases hP s0 p b L s E h hl with ⟨k', w', s2, f2, D2, hB⟩ | ⟨e, p', b', s2, f2, X2, hp', hle2, hck, hG⟩
  · left
    obtain ⟨s4, f4, D4⟩ := L24_dead (N := N) (kt := f_Rd_grp N r 0) (kf := f_Rd_grp N r 1) (ks := f_Rd_grp N r 2) (kp := f_Rd_grp N r 3) (jw := []) hpo (Or.inl rfl) D2 (cnt := nI 0) (i := 0) (kk := N) (k6 := N - 1) (by omega) (by omega) (by omega)
    refine ⟨k', w', s4, ?_, D4, fun t0 B0 Q C W B t hR hCW hB2 hS hQ => hB t0 B0 Q C W B t hR hCW hB2 hQ⟩
    rw [f2, Option.bind_some]
    exact f4
  · have hp2 := X2.1
    rw [f2, Option.bind_some]
    have J := sum_go (N := N) (kt := f_Rd_grp N r 0) (kf := f_Rd_grp N r 1) (ks := f_Rd_grp N r 2) hK E hP hr ho hN hl (n - p') p' b' s2 e [] [] 0 0 N (N - 1) (Nat.le_refl _) (by rw [List.append_nil]; exact X2) hp' (by rw [List.append_nil, List.append_nil]; exact hle2) (Or.inl rfl) (Or.inl rfl) (by omega) (by omega) (fun ts hts => by rw [List.append_nil, if_pos rfl]; exact hck ts (by omega)) (by omega) (by omega)
    have step : ∀ t0 B0 Q C W B t, RT tp n kd t0 p b o C W B t → C.length + W.length ≤ p → B ≤ W.length → SW W B → (∀ t', RT tp n kd t0 p' b' o (C ++ e) ([] ++ ([] ++ W)) B t' → rGO N B0 Q (n - p' + 5) t') → rPS N B0 Q (n - p + 5) t := by
      intro t0 B0 Q C W B t hR hCW hB2 hS hA
      refine hG t0 B0 Q C W B t hR hCW hB2 (fun t2 R2 => ?_)
      exact EP_stop R2 hB2 (by omega) (hS.1.imp id (fun ⟨x, W', h1, h2⟩ => ⟨x, W', h1, by omega⟩)) (hA t2 R2)
    rcases J with ⟨k', w', s', g1, g3, g4⟩ | ⟨es', pend, p3, b3, s', g1, g3, g4, g5, g6, g7, g8, g9⟩
    · left
      exact ⟨k', w', s', g1, g3, fun t0 B0 Q C W B t hR hCW hB2 hS hQ => step t0 B0 Q C W B t hR hCW hB2 hS (fun t' R => g4 t0 B0 Q C W B t' R hCW hB2 hS hQ)⟩
    · right
      exact ⟨es', pend, p3, b3, s', g1, g3, by omega, g5, g6, g7, g8, fun t0 B0 Q C W B t hR hCW hB2 hS hQ => step t0 B0 Q C W B t hR hCW hB2 hS (fun t' R => g9 t0 B0 Q C W B t' R hCW hB2 hS hQ)⟩
end SUMT
