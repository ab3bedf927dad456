/-! SUMS, on both sides, all brackets told -/
section QSUM
variable {N n p o : Nat} {tp : Nat → Nat} {b : Bool} {s s0 t t0 : mS} {kd mk pg r k w B m c x : Nat} {al : Nat → Bool} {L C W es pend : List Nat} {B0 : Int32} {Q : mS → Prop}
theorem lay_j (hK : KdA kd mk al) (hN : 10000 ≤ N) : ∀ d o, o + d = 6 → ∀ r, 5 + 2 * d ≤ r → PartC N tp n kd mk pg al r o ∧ SumC N tp n kd mk pg al (r + 1) o := by
  intro d
  induction d with
  | zero =>
    intro o ho r hr
    have hP : PartC N tp n kd mk pg al r o := by
      obtain ⟨r', rfl⟩ : ∃ r', r = r' + 1 := ⟨r - 1, by omega⟩
      exact part_j hK (by omega) (by omega) hN (fun h => by omega) (fun h => by omega)
    exact ⟨hP, sum_j hK (by omega) (by omega) hN hP⟩
  | succ d ih =>
    intro o ho r hr
    have hP : PartC N tp n kd mk pg al r o := by
      obtain ⟨r', rfl⟩ : ∃ r', r = r' + 2 := ⟨r - 2, by omega⟩
      exact part_j hK (by omega) (by omega) hN (fun h => (ih (o + 1) (by omega) (r' + 1) (by omega)).1) (fun h => (ih (o + 1) (by omega) r' (by omega)).2)
    exact ⟨hP, sum_j hK (by omega) (by omega) hN hP⟩
def TopT (W : List Nat) : Prop := ∀ x W', W = x :: W' → 10 ≤ x ∧ x < 10000
theorem L53_n {b0 : Nat} (hb0 : b0 < 2000) : ∀ {pend C : List Nat} {t : mS} (k : Nat), RT tp n kd t0 p b o C (pend ++ W) W.length t → C.length + (pend ++ W).length < 1650 → pend.length < k → ∃ t', mfix k (f_M_qSums_L53 N) (nI b0, t) = some t' ∧ RT tp n kd t0 p b o (C ++ pend) W b0 t'
  | [], C, t, k, h, hn, hk => by
    rw [mfix_1 (by omega)]
    obtain ⟨e1, e2, e3, e4⟩ := r_eq h
    rw [List.nil_append] at e1 h hn
    have F2 : Fr [119200] t (sI t 1092 0 (nI b0)) := Fr_sI _ _ _ (by decide)
    obtain ⟨h1, h2, h3, h4, h5, h6, h7⟩ := h
    refine ⟨sI t 1092 0 (nI b0), ?_, by rw [List.append_nil]; exact ⟨Fr_t h1 (Fr_w F2 (by decide)), RB_fr F2 (by decide) h2, RCd_fr F2 (by decide) h3, RWt_fr F2 (by decide) h4, by rw [F2.I 1091 0 (by decide)]; exact h5, by simp (disch := first | omega | decide) only [gI_sI, gI_sA, gI_sL, gI_sQ, gI_sC, gI_sO, gI_sD, gA_sI, gA_sL, gA_sQ, gA_sO, gA_sD, gL_sI, gL_sA, gL_sQ, gL_sC, gL_sO, gL_sD, gQ_sI, gQ_sA, gQ_sL, gQ_sC, gQ_sO, gO_sI, gO_sA, gO_sL, gO_sQ, gO_sC, gO_sO, gO_sD, gA_eq, gA_ne, gQ_eq, gQ_ne, gL_sL, gA_cin, gA_cou, gQ_cin, gQ_cou, Nat.reduceAdd, Nat.reduceSub, Nat.reduceMul, Nat.reduceLT, Nat.reduceEqDiff, eq_self, true_and, and_true, and_false, false_and, if_true, if_false, and_self, Bool.true_eq_false, Bool.false_eq_true], by rw [F2.I 1047 0 (by decide)]; exact h7⟩⟩
    simp (disch := first | omega | decide) only [f_M_qSums_L53, e1, e2, e3, zI_0, zI_1, zI_2, zI_3, zI_4, zI_5, zI_6, zI_7, zI_8, zI_9, zI_10, zI_11, zI_12, zI_13, zI_14, zI_15, zI_16, zI_17, zI_18, zI_19, zI_20, zI_21, zI_22, zI_23, zI_24, zI_25, zI_26, zI_27, zI_28, zI_29, zI_30, zI_31, zI_32, zI_33, zI_34, zI_35, zI_36, zI_37, zI_38, zI_39, zI_40, zI_41, zI_42, zI_43, zI_44, zI_45, zI_46, zI_47, zI_48, zI_49, zI_50, zI_51, zI_52, zI_53, zI_54, zI_55, zI_56, zI_57, zI_58, zI_59, zI_60, zI_61, zI_62, zI_63, zI_64, zI_65, zI_66, zI_67, zI_74, zI_84, zI_85, zI_88, zI_91, zI_93, zI_97, zI_99, zI_100, zI_102, zI_105, zI_117, zI_122, zI_193, zI_202, zI_205, zI_251, zI_255, zI_256, zI_257, zI_258, zI_259, zI_260, zI_640, zI_999, zI_1000, zI_1024, zI_1600, zI_1602, zI_1700, zI_2040, zI_3200, zI_4100, zI_9728, zI_11784, zI_61440, zI_65536, zI_470536, zI_999999, zI_1000000, lt_T, lt_F, le_T, le_F, eq_T, eq_F, neg_1, cn_m1p, cn_m11, nI_add, cn_sub, pk_mul, cn_div, cn_irm, cn_lt, cn_eq, cn_ltm1, cn_m1lt, cn_eqm1, cn_m1eq, cn_ix, cn_inb, cn_ninb, cn_irs, cn_ils, cn_and, cn_or, cn_xor, grd_t, grd_bt, grd_bl, Nat.add_zero, Nat.zero_add, Nat.reduceAdd, Nat.reduceSub, Nat.reduceMul, Nat.reduceLT, Nat.reduceEqDiff, eq_self, true_and, and_true, and_false, false_and, if_true, if_false, and_self, Bool.true_eq_false, Bool.false_eq_true]
  | y :: pend, C, t, k, h, hn, hk => by
    rw [mfix_1 (by omega)]
    obtain ⟨e1, e2, e3, e4⟩ := r_eq h
    have hn' := hn
    rw [List.cons_append, List.length_cons, List.length_append] at hn'
    rw [List.cons_append, List.length_cons, List.length_append] at e1
    obtain ⟨t1, f, R⟩ := r_drop (N := N) (c := y) (W := pend ++ W) (by rw [List.length_append]; omega) h
    rw [List.length_cons] at hk
    obtain ⟨t2, f2, R2⟩ := L53_n hb0 (pend := pend) (C := C ++ [y]) (t := t1) (k - 1) R (by rw [List.length_append, List.length_singleton, List.length_append]; omega) (by omega)
    rw [List.append_assoc] at R2
    refine ⟨t2, ?_, R2⟩
    simp (disch := first | omega | decide) only [f_M_qSums_L53, e1, e2, e3, f, zI_0, zI_1, zI_2, zI_3, zI_4, zI_5, zI_6, zI_7, zI_8, zI_9, zI_10, zI_11, zI_12, zI_13, zI_14, zI_15, zI_16, zI_17, zI_18, zI_19, zI_20, zI_21, zI_22, zI_23, zI_24, zI_25, zI_26, zI_27, zI_28, zI_29, zI_30, zI_31, zI_32, zI_33, zI_34, zI_35, zI_36, zI_37, zI_38, zI_39, zI_40, zI_41, zI_42, zI_43, zI_44, zI_45, zI_46, zI_47, zI_48, zI_49, zI_50, zI_51, zI_52, zI_53, zI_54, zI_55, zI_56, zI_57, zI_58, zI_59, zI_60, zI_61, zI_62, zI_63, zI_64, zI_65, zI_66, zI_67, zI_74, zI_84, zI_85, zI_88, zI_91, zI_93, zI_97, zI_99, zI_100, zI_102, zI_105, zI_117, zI_122, zI_193, zI_202, zI_205, zI_251, zI_255, zI_256, zI_257, zI_258, zI_259, zI_260, zI_640, zI_999, zI_1000, zI_1024, zI_1600, zI_1602, zI_1700, zI_2040, zI_3200, zI_4100, zI_9728, zI_11784, zI_61440, zI_65536, zI_470536, zI_999999, zI_1000000, lt_T, lt_F, le_T, le_F, eq_T, eq_F, neg_1, cn_m1p, cn_m11, nI_add, cn_sub, pk_mul, cn_div, cn_irm, cn_lt, cn_eq, cn_ltm1, cn_m1lt, cn_eqm1, cn_m1eq, cn_ix, cn_inb, cn_ninb, cn_irs, cn_ils, cn_and, cn_or, cn_xor, grd_t, grd_bt, grd_bl, Nat.add_zero, Nat.zero_add, Nat.reduceAdd, Nat.reduceSub, Nat.reduceMul, Nat.reduceLT, Nat.reduceEqDiff, eq_self, true_and, and_true, and_false, false_and, if_true, if_false, and_self, Bool.true_eq_false, Bool.false_eq_true, Option.bind_some]
    exact f2
/-- a sum ends, no bracket of it is told -/
theorem GO_end {b0 : Nat} (hb0 : b0 < 2000) (hh : RT tp n kd t0 p b o C (pend ++ W) W.length t) (hp : OpL pend) (hl : C.length + (pend ++ W).length < 1650) (hno : NoOp (kK tp n p b)) (hm : 1 ≤ m) (hN : 10000 ≤ N)
    (hQ : ∀ t', RT tp n kd t0 p b o (C ++ pend) W b0 t' → Q t') : rGO N (nI b0) Q m t := by
  intro kg k15 h1 h2
  rw [mfix_1 (by omega)]
  have hl2 := hl
  rw [List.length_append] at hl2
  obtain ⟨e1, e2, e3, e4⟩ := r_eq hh
  have l := look_b hh.2.1 hN
  have sg := chM_sg (b := b) (p := p) (c := 41) ⟨by decide, by decide⟩ (RB_ht hh.2.1)
  obtain ⟨h, hL, g2⟩ := RT_lk hh
  generalize lk tp n p t = t1 at *
  have br := br_0 (N := N) h hp (by omega) hN
  have g := GO_no h hL hno hN
  have j : f_M_qGoesOn_L0 N (mfix (kg - 1) (f_M_qGoesOn_L0 N)) t = f_M_qGoesOn_j122 N t1 := by
    by_cases c : kK tp n p b = 41
    · have sg := sg.trans (eq_true c)
      simp (disch := first | omega | decide) only [f_M_qGoesOn_L0, e2, l, sg, br, zI_0, zI_1, zI_2, zI_3, zI_4, zI_5, zI_6, zI_7, zI_8, zI_9, zI_10, zI_11, zI_12, zI_13, zI_14, zI_15, zI_16, zI_17, zI_18, zI_19, zI_20, zI_21, zI_22, zI_23, zI_24, zI_25, zI_26, zI_27, zI_28, zI_29, zI_30, zI_31, zI_32, zI_33, zI_34, zI_35, zI_36, zI_37, zI_38, zI_39, zI_40, zI_41, zI_42, zI_43, zI_44, zI_45, zI_46, zI_47, zI_48, zI_49, zI_50, zI_51, zI_52, zI_53, zI_54, zI_55, zI_56, zI_57, zI_58, zI_59, zI_60, zI_61, zI_62, zI_63, zI_64, zI_65, zI_66, zI_67, zI_74, zI_84, zI_85, zI_88, zI_91, zI_93, zI_97, zI_99, zI_100, zI_102, zI_105, zI_117, zI_122, zI_193, zI_202, zI_205, zI_251, zI_255, zI_256, zI_257, zI_258, zI_259, zI_260, zI_640, zI_999, zI_1000, zI_1024, zI_1600, zI_1602, zI_1700, zI_2040, zI_3200, zI_4100, zI_9728, zI_11784, zI_61440, zI_65536, zI_470536, zI_999999, zI_1000000, lt_T, lt_F, le_T, le_F, eq_T, eq_F, neg_1, cn_m1p, cn_m11, nI_add, cn_sub, pk_mul, cn_div, cn_irm, cn_lt, cn_eq, cn_ltm1, cn_m1lt, cn_eqm1, cn_m1eq, cn_ix, cn_inb, cn_ninb, cn_irs, cn_ils, cn_and, cn_or, cn_xor, grd_t, grd_bt, grd_bl, Nat.add_zero, Nat.zero_add, Nat.reduceAdd, Nat.reduceSub, Nat.reduceMul, Nat.reduceLT, Nat.reduceEqDiff, eq_self, true_and, and_true, and_false, false_and, if_true, if_false, and_self, Bool.true_eq_false, Bool.false_eq_true, Option.bind_some]
    · have sg := sg.trans (eq_false c)
      simp (disch := first | omega | decide) only [f_M_qGoesOn_L0, e2, l, sg, zI_0, zI_1, zI_2, zI_3, zI_4, zI_5, zI_6, zI_7, zI_8, zI_9, zI_10, zI_11, zI_12, zI_13, zI_14, zI_15, zI_16, zI_17, zI_18, zI_19, zI_20, zI_21, zI_22, zI_23, zI_24, zI_25, zI_26, zI_27, zI_28, zI_29, zI_30, zI_31, zI_32, zI_33, zI_34, zI_35, zI_36, zI_37, zI_38, zI_39, zI_40, zI_41, zI_42, zI_43, zI_44, zI_45, zI_46, zI_47, zI_48, zI_49, zI_50, zI_51, zI_52, zI_53, zI_54, zI_55, zI_56, zI_57, zI_58, zI_59, zI_60, zI_61, zI_62, zI_63, zI_64, zI_65, zI_66, zI_67, zI_74, zI_84, zI_85, zI_88, zI_91, zI_93, zI_97, zI_99, zI_100, zI_102, zI_105, zI_117, zI_122, zI_193, zI_202, zI_205, zI_251, zI_255, zI_256, zI_257, zI_258, zI_259, zI_260, zI_640, zI_999, zI_1000, zI_1024, zI_1600, zI_1602, zI_1700, zI_2040, zI_3200, zI_4100, zI_9728, zI_11784, zI_61440, zI_65536, zI_470536, zI_999999, zI_1000000, Nat.reduceAdd, Nat.reduceSub, Nat.reduceMul, Nat.reduceLT, Nat.reduceEqDiff, eq_self, true_and, and_true, and_false, false_and, if_true, if_false, and_self, Bool.true_eq_false, Bool.false_eq_true, Option.bind_some]
  obtain ⟨t2, f2, R2⟩ := L53_n (N := N) hb0 N h hl (by omega)
  rw [j, g]
  simp (disch := first | omega | decide) only [br, zI_0, zI_1, zI_2, zI_3, zI_4, zI_5, zI_6, zI_7, zI_8, zI_9, zI_10, zI_11, zI_12, zI_13, zI_14, zI_15, zI_16, zI_17, zI_18, zI_19, zI_20, zI_21, zI_22, zI_23, zI_24, zI_25, zI_26, zI_27, zI_28, zI_29, zI_30, zI_31, zI_32, zI_33, zI_34, zI_35, zI_36, zI_37, zI_38, zI_39, zI_40, zI_41, zI_42, zI_43, zI_44, zI_45, zI_46, zI_47, zI_48, zI_49, zI_50, zI_51, zI_52, zI_53, zI_54, zI_55, zI_56, zI_57, zI_58, zI_59, zI_60, zI_61, zI_62, zI_63, zI_64, zI_65, zI_66, zI_67, zI_74, zI_84, zI_85, zI_88, zI_91, zI_93, zI_97, zI_99, zI_100, zI_102, zI_105, zI_117, zI_122, zI_193, zI_202, zI_205, zI_251, zI_255, zI_256, zI_257, zI_258, zI_259, zI_260, zI_640, zI_999, zI_1000, zI_1024, zI_1600, zI_1602, zI_1700, zI_2040, zI_3200, zI_4100, zI_9728, zI_11784, zI_61440, zI_65536, zI_470536, zI_999999, zI_1000000, lt_T, lt_F, le_T, le_F, eq_T, eq_F, neg_1, cn_m1p, cn_m11, nI_add, cn_sub, pk_mul, cn_div, cn_irm, cn_lt, cn_eq, cn_ltm1, cn_m1lt, cn_eqm1, cn_m1eq, cn_ix, cn_inb, cn_ninb, cn_irs, cn_ils, cn_and, cn_or, cn_xor, grd_t, grd_bt, grd_bl, Nat.add_zero, Nat.zero_add, Nat.reduceAdd, Nat.reduceSub, Nat.reduceMul, Nat.reduceLT, Nat.reduceEqDiff, eq_self, true_and, and_true, and_false, false_and, if_true, if_false, and_self, Bool.true_eq_false, Bool.false_eq_true, Option.bind_some]
  rw [GO_z (by omega), f2]
  exact Ok_some (hQ t2 R2)
def SqB (N : Nat) (tp : Nat → Nat) (n kd p : Nat) (b : Bool) (o k w : Nat) : Prop := ∀ t0 C W B t, RT tp n kd t0 p b o C W B t → C.length + W.length ≤ p → B < 2000 → TopT W → ∃ t', f_M_qSums N t = some t' ∧ BT t0 k w t'
def SqG (N : Nat) (tp : Nat → Nat) (n kd p : Nat) (b : Bool) (o : Nat) (e : List Nat) (p' : Nat) (b' : Bool) : Prop := ∀ t0 C W B t, RT tp n kd t0 p b o C W B t → C.length + W.length ≤ p → B < 2000 → TopT W → ∃ t', f_M_qSums N t = some t' ∧ RT tp n kd t0 p' b' o (C ++ e) W B t'
def SqC (N : Nat) (tp : Nat → Nat) (n kd mk pg : Nat) (al : Nat → Bool) (r o : Nat) : Prop := ∀ s0 p b L s, CE tp n pg mk s0 → CX tp n pg s0 p b o L s → L.length ≤ p →
  (∃ k w s', f_Rd_grp N r 2 s = some s' ∧ CD pg s0 k w s' ∧ SqB N tp n kd p b o k w) ∨
  (∃ e p' b' s', f_Rd_grp N r 2 s = some s' ∧ CX tp n pg s0 p' b' o (L ++ e) s' ∧ p < p' ∧ e.length ≤ p' - p ∧ ckN al e (3 + 3 * (6 - o)) false ∧ SqG N tp n kd p b o e p' b')
theorem sums_h (hm : m + 1 ≤ N) (hN : 10000 ≤ N) (hn : n ≤ 1600) (h : RT tp n kd t0 p b o C W B t) (hW : W.length < 1650) (hT : TopT W) (hB : B < 2000)
    (hk : ∀ t1, RT tp n kd t0 p b o C W W.length t1 → SW W W.length → rPS N (nI B) Q m t1) : Ok (f_M_qSums N t) Q := by
  obtain ⟨e1, e2, e3, e4⟩ := r_eq h
  have F2 : Fr [119200] t (sI t 1092 0 (nI W.length)) := Fr_sI _ _ _ (by decide)
  obtain ⟨h1, h2, h3, h4, h5, h6, h7⟩ := h
  have R : RT tp n kd t0 p b o C W W.length (sI t 1092 0 (nI W.length)) := ⟨Fr_t h1 (Fr_w F2 (by decide)), RB_fr F2 (by decide) h2, RCd_fr F2 (by decide) h3, RWt_fr F2 (by decide) h4, by rw [F2.I 1091 0 (by decide)]; exact h5, by simp (disch := first | omega | decide) only [gI_sI, gI_sA, gI_sL, gI_sQ, gI_sC, gI_sO, gI_sD, gA_sI, gA_sL, gA_sQ, gA_sO, gA_sD, gL_sI, gL_sA, gL_sQ, gL_sC, gL_sO, gL_sD, gQ_sI, gQ_sA, gQ_sL, gQ_sC, gQ_sO, gO_sI, gO_sA, gO_sL, gO_sQ, gO_sC, gO_sO, gO_sD, gA_eq, gA_ne, gQ_eq, gQ_ne, gL_sL, gA_cin, gA_cou, gQ_cin, gQ_cou, Nat.reduceAdd, Nat.reduceSub, Nat.reduceMul, Nat.reduceLT, Nat.reduceEqDiff, eq_self, true_and, and_true, and_false, false_and, if_true, if_false, and_self, Bool.true_eq_false, Bool.false_eq_true], by rw [F2.I 1047 0 (by decide)]; exact h7⟩
  have g := GO_PS (N := N) (B0 := nI B) (Q := Q) (k15 := N) (m := m) (r_eq R).2.1 hN hm (by omega) (hk _ R ⟨Or.inl rfl, hT⟩)
  unfold kG at g
  simp (disch := first | omega | decide) only [zI_0, zI_1, zI_2, zI_3, zI_4, zI_5, zI_6, zI_7, zI_8, zI_9, zI_10, zI_11, zI_12, zI_13, zI_14, zI_15, zI_16, zI_17, zI_18, zI_19, zI_20, zI_21, zI_22, zI_23, zI_24, zI_25, zI_26, zI_27, zI_28, zI_29, zI_30, zI_31, zI_32, zI_33, zI_34, zI_35, zI_36, zI_37, zI_38, zI_39, zI_40, zI_41, zI_42, zI_43, zI_44, zI_45, zI_46, zI_47, zI_48, zI_49, zI_50, zI_51, zI_52, zI_53, zI_54, zI_55, zI_56, zI_57, zI_58, zI_59, zI_60, zI_61, zI_62, zI_63, zI_64, zI_65, zI_66, zI_67, zI_74, zI_84, zI_85, zI_88, zI_91, zI_93, zI_97, zI_99, zI_100, zI_102, zI_105, zI_117, zI_122, zI_193, zI_202, zI_205, zI_251, zI_255, zI_256, zI_257, zI_258, zI_259, zI_260, zI_640, zI_999, zI_1000, zI_1024, zI_1600, zI_1602, zI_1700, zI_2040, zI_3200, zI_4100, zI_9728, zI_11784, zI_61440, zI_65536, zI_470536, zI_999999, zI_1000000, lt_T, lt_F, le_T, le_F, eq_T, eq_F, neg_1, cn_m1p, cn_m11, nI_add, cn_sub, pk_mul, cn_div, cn_irm, cn_lt, cn_eq, cn_ltm1, cn_m1lt, cn_eqm1, cn_m1eq, cn_ix, cn_inb, cn_ninb, cn_irs, cn_ils, cn_and, cn_or, cn_xor, grd_t, grd_bt, grd_bl, Nat.add_zero, Nat.zero_add, Nat.reduceAdd, Nat.reduceSub, Nat.reduceMul, Nat.reduceLT, Nat.reduceEqDiff, eq_self, true_and, and_true, and_false, false_and, if_true, if_false, and_self, Bool.true_eq_false, Bool.false_eq_true] at g
  unfold f_M_qSums
  simp only [e1, e3, zI_1]
  exact g
/-- a sum, as it is asked for from without -/
theorem sq_c (hS : SumC N tp n kd mk pg al r o) (hN : 10000 ≤ N) : SqC N tp n kd mk pg al r o := by
  intro s0 p b L s E h hl
  obtain ⟨hTx, hO, hmm, ht⟩ := CE_x E h
  have hn := hTx.1
  have hpn := h.1
  rcases hS s0 p b L s E h hl with ⟨k', w', s', f, D, hB⟩ | ⟨es, pend, p', b', s', f, X, hp', hle, hck, hop, hno, hG⟩
  · left
    refine ⟨k', w', s', f, D, fun t0 C W B t hR hCW hBB hT => ?_⟩
    obtain ⟨t', e, q⟩ := sums_h (m := n - p + 5) (Q := BT t0 k' w') (by omega) hN hn hR (by omega) hT hBB (fun t1 R1 hS1 => hB t0 (nI B) _ C W W.length t1 R1 hCW (Nat.le_refl _) hS1 (fun t' h => h))
    exact ⟨t', e, q⟩
  · right
    have hp2 := X.1
    refine ⟨es ++ pend, p', b', s', f, X, hp', hle, hck, fun t0 C W B t hR hCW hBB hT => ?_⟩
    rw [List.length_append] at hle
    obtain ⟨t', e, q⟩ := sums_h (m := n - p + 5) (Q := fun t' => RT tp n kd t0 p' b' o (C ++ (es ++ pend)) W B t') (by omega) hN hn hR (by omega) hT hBB (fun t1 R1 hS1 => hG t0 (nI B) _ C W W.length t1 R1 hCW (Nat.le_refl _) hS1 (fun t2 R2 => GO_end hBB R2 hop (by simp only [List.length_append] at *; omega) hno (by omega) hN (fun t3 R3 => by rw [List.append_assoc] at R3; exact R3)))
    exact ⟨t', e, q⟩
end QSUM
