/-! THE CALL ask -/
def kLq : List Nat := [119400, 5066, 114900, 309500, 119600]
def kQx : List Nat := [71018, 60116, 17, 70418, 70518, 70618, 70718, 70818, 260918, 71118]
def kQy : List Nat := [71018, 60116, 17, 70418, 70518, 70618, 70718, 70818, 260918, 71118, 71218, 71318]
def kQz : List Nat := [110200, 110400, 110500, 110600, 111000, 118800, 119000, 119100, 119200, 64, 65, 110700, 110800]
section ASK
variable {N n p o d i k w mk j : Nat} {tp : Nat → Nat} {b q : Bool} {A : pL} {H : hL} {s s' s0 t t' t0 : mS} {e : List Nat} {v : Int32}
theorem aQ_b {E : Nat → Int} (hE : ∀ d, -1000000 ≤ E d ∧ E d ≤ 1000000) (hi : i ≤ 24) : -100000000 ≤ aQ E k i ∧ aQ E k i ≤ 100000000 := by
  have b1 := aF_b (E := E) i
  have b2 := aL_b (E := E) i
  have b3 := aO_b (E := E) i
  have b4 := aM_b hE i
  have b5 := aN_b hE i
  have b6 := aT_b hE i
  unfold aQ aK
  repeat' split
  all_goals omega
/-- the other side's doors -/
theorem mans_n (hA : WA A) (hB : HB A H) (hP : MP A t) (hR : MRow A H t) (h0 : 0 < pD A) (he : e.length ≤ 1600) (hC : RCd e t) (hck : ckL alQ e [] = some [q]) (hk : k < 6) (hq : k < 3 → q = true) (h35 : ∀ p, p < pP A → gA t 35 p = nI (ordS A H p)) (h95 : gL t 1095 0 = zl (aQ (qE A H e) k 0)) (h96 : gI t 1096 0 = nI 1) (hN : 10000 ≤ N) :
    Ok (mfix N (f_M_ask_L187 N) (nI k, nI 0, t)) (fun r => r.1 = zl (aK (qE A H e) k (pD A)) ∧ Fr kLq t r.2) := by
  have hD24 := hA.1
  have ty := qE_ty (e := e) hA hB hck
  have hE : ∀ d, -1000000 ≤ qE A H e d ∧ qE A H e d ≤ 1000000 := fun d => zi_tv (ty d)
  have h01 : k < 3 → ∀ d, qE A H e d = 0 ∨ qE A H e d = 1 := fun h d => by
    have := ty d
    rw [hq h] at this
    exact this
  refine mfix_up (fun i x => ∃ t1, x = (nI k, nI i, t1) ∧ gL t1 1095 0 = zl (aQ (qE A H e) k i) ∧ gI t1 1096 0 = nI (if decide (i = 0) = true then 1 else 0) ∧ Fr kLq t t1) (pD A) ?_ ?_ N 0 _ ⟨t, rfl, h95, h96, Fr_r _ _⟩ (Nat.zero_le _) (by omega)
  · rintro i g x hi ⟨t1, rfl, g1, g2, F⟩ hgo
    have hP1 := MP_fr F (by decide) hP
    have F2 : Fr [114900] t1 (sI t1 1049 0 (nI i)) := Fr_sI _ _ _ (by decide)
    have F02 : Fr kLq t (sI t1 1049 0 (nI i)) := Fr_t F (Fr_w F2 (by decide))
    have c49 : gI (sI t1 1049 0 (nI i)) 1049 0 = nI i := by simp (disch := first | omega | decide) only [gI_sI, gI_sA, gI_sL, gI_sQ, gI_sC, gI_sO, gI_sD, gA_sI, gA_sL, gA_sQ, gA_sO, gA_sD, gL_sI, gL_sA, gL_sQ, gL_sC, gL_sO, gL_sD, gQ_sI, gQ_sA, gQ_sL, gQ_sC, gQ_sO, gO_sI, gO_sA, gO_sL, gO_sQ, gO_sC, gO_sO, gO_sD, gA_eq, gA_ne, gQ_eq, gQ_ne, gL_sL, gA_cin, gA_cou, gQ_cin, gQ_cou, Nat.reduceAdd, Nat.reduceSub, Nat.reduceMul, Nat.reduceLT, Nat.reduceEqDiff, eq_self, true_and, and_true, and_false, false_and, if_true, if_false, and_self, Bool.true_eq_false, Bool.false_eq_true]
    have f1 : gL (sI t1 1049 0 (nI i)) 1095 0 = zl (aQ (qE A H e) k i) := by rw [F2.L 1095 0 (by decide)]; exact g1
    have f2 : gI (sI t1 1049 0 (nI i)) 1096 0 = nI (if decide (i = 0) = true then 1 else 0) := by rw [F2.I 1096 0 (by decide)]; exact g2
    have head : f_M_ask_L187 N g (nI k, nI i, t1) = (f_M_qTold N (nI i) (sI t1 1049 0 (nI i))).bind fun p3 => (f_M_qTakes N (nI k) p3.1 (nI i) p3.2).bind fun p4 => g (nI k, nI (i + 1), p4) := by
      simp (disch := first | omega | decide) only [f_M_ask_L187, f_M_doorMany, hP1.1, zI_0, zI_1, zI_2, zI_3, zI_4, zI_5, zI_6, zI_7, zI_8, zI_9, zI_10, zI_11, zI_12, zI_13, zI_14, zI_15, zI_16, zI_17, zI_18, zI_19, zI_20, zI_21, zI_22, zI_23, zI_24, zI_25, zI_26, zI_27, zI_28, zI_29, zI_30, zI_31, zI_32, zI_33, zI_34, zI_35, zI_36, zI_37, zI_38, zI_39, zI_40, zI_41, zI_42, zI_43, zI_44, zI_45, zI_46, zI_47, zI_48, zI_49, zI_50, zI_51, zI_52, zI_53, zI_54, zI_55, zI_56, zI_57, zI_58, zI_59, zI_60, zI_61, zI_62, zI_63, zI_64, zI_65, zI_66, zI_67, zI_74, zI_84, zI_85, zI_88, zI_91, zI_93, zI_97, zI_99, zI_100, zI_102, zI_105, zI_117, zI_122, zI_193, zI_202, zI_205, zI_251, zI_255, zI_256, zI_257, zI_258, zI_259, zI_260, zI_640, zI_999, zI_1000, zI_1024, zI_1600, zI_1602, zI_1700, zI_2040, zI_3200, zI_4100, zI_9728, zI_11784, zI_61440, zI_65536, zI_470536, zI_999999, zI_1000000, nI_add, cn_lt, lt_T, Nat.reduceAdd, Nat.reduceSub, Nat.reduceMul, Nat.reduceLT, Nat.reduceEqDiff, eq_self, true_and, and_true, and_false, false_and, if_true, if_false, and_self, Bool.true_eq_false, Bool.false_eq_true, Option.bind_some]
    rw [head]
    generalize sI t1 1049 0 (nI i) = t2 at *
    obtain ⟨t3, e3, F3⟩ := qtold_n (N := N) (t := t2) (d := i) (g := gv A H i 0) (gb := qB A H i) (gn := qN A H i) (q := q) (by omega) he (RCd_fr F02 (by decide) hC) hck (qGB hA hB (by omega))
      (fun t' F' w hw hal => by
        have hal := of_decide_eq_true hal
        have F0' : Fr kLq t t' := Fr_t F02 (Fr_w F' (by decide))
        exact mPart_n (N := N) (d := i) (p := 0) hA hB (MP_fr F0' (by decide) hP) (MRow_fr F0' (by decide) hR) (by omega) hw (fun _ _ => ⟨hi, by rw [F'.I 1049 0 (by decide)]; exact c49⟩) (fun h => by omega))
      (fun t' F' v hv => by
        have F0' : Fr kLq t t' := Fr_t F02 (Fr_w F' (by decide))
        exact ⟨qOf_0 hA (MP_fr F0' (by decide) hP) (fun p hp => by rw [F0'.A 35 p (by decide)]; exact h35 p hp) (by omega) hv, qOf_1 hA (MP_fr F0' (by decide) hP) (MRow_fr F0' (by decide) hR) (by omega) hv⟩) hN
    have eE : ev (gv A H i 0) (qB A H i) (qN A H i) e = qE A H e i := (if_pos (show i < 24 by omega)).symm
    rw [eE] at e3
    obtain ⟨t4, e4, r1, r2, F4⟩ := qtk_n (N := N) (t := t3) (k := k) (i := i) (v := qE A H e i) (a := aQ (qE A H e) k i) (w := decide (i = 0)) hk (by omega) (hE i) (aQ_b hE (by omega)) (by rw [F3.L 1095 0 (by decide)]; exact f1) (by rw [F3.I 1096 0 (by decide)]; exact f2)
    rw [e3, Option.bind_some, e4, Option.bind_some]
    refine hgo _ ⟨t4, rfl, ?_, ?_, Fr_t F02 (Fr_t (Fr_w F3 (by decide)) (Fr_w F4 (by decide)))⟩
    · rw [r1, aQ_s hE hk h01]
    · rw [r2, decide_eq_false (by omega)]; rfl
  · rintro g x ⟨t1, rfl, g1, g2, F⟩
    have hP1 := MP_fr F (by decide) hP
    rw [aQ_n (by omega)] at g1
    have e : f_M_ask_L187 N g (nI k, nI (pD A), t1) = some (gL t1 1095 0, t1) := by
      simp (disch := first | omega | decide) only [f_M_ask_L187, f_M_doorMany, hP1.1, zI_0, zI_1, zI_2, zI_3, zI_4, zI_5, zI_6, zI_7, zI_8, zI_9, zI_10, zI_11, zI_12, zI_13, zI_14, zI_15, zI_16, zI_17, zI_18, zI_19, zI_20, zI_21, zI_22, zI_23, zI_24, zI_25, zI_26, zI_27, zI_28, zI_29, zI_30, zI_31, zI_32, zI_33, zI_34, zI_35, zI_36, zI_37, zI_38, zI_39, zI_40, zI_41, zI_42, zI_43, zI_44, zI_45, zI_46, zI_47, zI_48, zI_49, zI_50, zI_51, zI_52, zI_53, zI_54, zI_55, zI_56, zI_57, zI_58, zI_59, zI_60, zI_61, zI_62, zI_63, zI_64, zI_65, zI_66, zI_67, zI_74, zI_84, zI_85, zI_88, zI_91, zI_93, zI_97, zI_99, zI_100, zI_102, zI_105, zI_117, zI_122, zI_193, zI_202, zI_205, zI_251, zI_255, zI_256, zI_257, zI_258, zI_259, zI_260, zI_640, zI_999, zI_1000, zI_1024, zI_1600, zI_1602, zI_1700, zI_2040, zI_3200, zI_4100, zI_9728, zI_11784, zI_61440, zI_65536, zI_470536, zI_999999, zI_1000000, cn_lt, lt_F, Nat.reduceAdd, Nat.reduceSub, Nat.reduceMul, Nat.reduceLT, Nat.reduceEqDiff, eq_self, true_and, and_true, and_false, false_and, if_true, if_false, and_self, Bool.true_eq_false, Bool.false_eq_true, Option.bind_some]
    rw [e]
    exact Ok_some ⟨g1, F⟩
/-- a question's head -/
theorem qj47_d (D : DdX k w s) : f_Rd_question_j47 N (v, s) = some (v, s) := by
  have fd := fail_d (N := N) D
  have k5 := D.2.2.2.2
  simp (disch := first | omega | decide) only [f_Rd_question_j47, k5, fd, zI_0, zI_1, zI_2, zI_3, zI_4, zI_5, zI_6, zI_7, zI_8, zI_9, zI_10, zI_11, zI_12, zI_13, zI_14, zI_15, zI_16, zI_17, zI_18, zI_19, zI_20, zI_21, zI_22, zI_23, zI_24, zI_25, zI_26, zI_27, zI_28, zI_29, zI_30, zI_31, zI_32, zI_33, zI_34, zI_35, zI_36, zI_37, zI_38, zI_39, zI_40, zI_41, zI_42, zI_43, zI_44, zI_45, zI_46, zI_47, zI_48, zI_49, zI_50, zI_51, zI_52, zI_53, zI_54, zI_55, zI_56, zI_57, zI_58, zI_59, zI_60, zI_61, zI_62, zI_63, zI_64, zI_65, zI_66, zI_67, zI_74, zI_84, zI_85, zI_88, zI_91, zI_93, zI_97, zI_99, zI_100, zI_102, zI_105, zI_117, zI_122, zI_193, zI_202, zI_205, zI_251, zI_255, zI_256, zI_257, zI_258, zI_259, zI_260, zI_640, zI_999, zI_1000, zI_1024, zI_1600, zI_1602, zI_1700, zI_2040, zI_3200, zI_4100, zI_9728, zI_11784, zI_61440, zI_65536, zI_470536, zI_999999, zI_1000000, lt_T, lt_F, le_T, le_F, eq_T, eq_F, neg_1, cn_m1p, cn_m11, nI_add, cn_sub, pk_mul, cn_div, cn_irm, cn_lt, cn_eq, cn_ltm1, cn_m1lt, cn_eqm1, cn_m1eq, cn_ix, cn_inb, cn_ninb, cn_irs, cn_ils, cn_and, cn_or, cn_xor, grd_t, grd_bt, grd_bl, Nat.add_zero, Nat.zero_add, Nat.reduceAdd, Nat.reduceSub, Nat.reduceMul, Nat.reduceLT, Nat.reduceEqDiff, eq_self, true_and, and_true, and_false, false_and, if_true, if_false, and_self, Bool.true_eq_false, Bool.false_eq_true, Option.bind_some]
theorem qj20_h {s1 : mS} (hk : k < 6) (f : f_Rd_advance N s = some s1) : f_Rd_question_j20 N (nI (25 + k), s) = ((if decide (k < 3) = true then f_Rd_test N else f_Rd_sum N) (sI s1 610 18 (nI 470536))).bind fun p => f_Rd_question_j47 N (nI (25 + k), p) := by
  by_cases c : k < 3
  · rw [decide_eq_true c, if_pos rfl]
    simp (disch := first | omega | decide) only [f_Rd_question_j20, f, zI_0, zI_1, zI_2, zI_3, zI_4, zI_5, zI_6, zI_7, zI_8, zI_9, zI_10, zI_11, zI_12, zI_13, zI_14, zI_15, zI_16, zI_17, zI_18, zI_19, zI_20, zI_21, zI_22, zI_23, zI_24, zI_25, zI_26, zI_27, zI_28, zI_29, zI_30, zI_31, zI_32, zI_33, zI_34, zI_35, zI_36, zI_37, zI_38, zI_39, zI_40, zI_41, zI_42, zI_43, zI_44, zI_45, zI_46, zI_47, zI_48, zI_49, zI_50, zI_51, zI_52, zI_53, zI_54, zI_55, zI_56, zI_57, zI_58, zI_59, zI_60, zI_61, zI_62, zI_63, zI_64, zI_65, zI_66, zI_67, zI_74, zI_84, zI_85, zI_88, zI_91, zI_93, zI_97, zI_99, zI_100, zI_102, zI_105, zI_117, zI_122, zI_193, zI_202, zI_205, zI_251, zI_255, zI_256, zI_257, zI_258, zI_259, zI_260, zI_640, zI_999, zI_1000, zI_1024, zI_1600, zI_1602, zI_1700, zI_2040, zI_3200, zI_4100, zI_9728, zI_11784, zI_61440, zI_65536, zI_470536, zI_999999, zI_1000000, lt_T, lt_F, le_T, le_F, eq_T, eq_F, neg_1, cn_m1p, cn_m11, nI_add, cn_sub, pk_mul, cn_div, cn_irm, cn_lt, cn_eq, cn_ltm1, cn_m1lt, cn_eqm1, cn_m1eq, cn_ix, cn_inb, cn_ninb, cn_irs, cn_ils, cn_and, cn_or, cn_xor, grd_t, grd_bt, grd_bl, Nat.add_zero, Nat.zero_add, Nat.reduceAdd, Nat.reduceSub, Nat.reduceMul, Nat.reduceLT, Nat.reduceEqDiff, eq_self, true_and, and_true, and_false, false_and, if_true, if_false, and_self, Bool.true_eq_false, Bool.false_eq_true, Option.bind_some]
  · rw [decide_eq_false c, if_neg (by decide)]
    simp (disch := first | omega | decide) only [f_Rd_question_j20, f, zI_0, zI_1, zI_2, zI_3, zI_4, zI_5, zI_6, zI_7, zI_8, zI_9, zI_10, zI_11, zI_12, zI_13, zI_14, zI_15, zI_16, zI_17, zI_18, zI_19, zI_20, zI_21, zI_22, zI_23, zI_24, zI_25, zI_26, zI_27, zI_28, zI_29, zI_30, zI_31, zI_32, zI_33, zI_34, zI_35, zI_36, zI_37, zI_38, zI_39, zI_40, zI_41, zI_42, zI_43, zI_44, zI_45, zI_46, zI_47, zI_48, zI_49, zI_50, zI_51, zI_52, zI_53, zI_54, zI_55, zI_56, zI_57, zI_58, zI_59, zI_60, zI_61, zI_62, zI_63, zI_64, zI_65, zI_66, zI_67, zI_74, zI_84, zI_85, zI_88, zI_91, zI_93, zI_97, zI_99, zI_100, zI_102, zI_105, zI_117, zI_122, zI_193, zI_202, zI_205, zI_251, zI_255, zI_256, zI_257, zI_258, zI_259, zI_260, zI_640, zI_999, zI_1000, zI_1024, zI_1600, zI_1602, zI_1700, zI_2040, zI_3200, zI_4100, zI_9728, zI_11784, zI_61440, zI_65536, zI_470536, zI_999999, zI_1000000, lt_T, lt_F, le_T, le_F, eq_T, eq_F, neg_1, cn_m1p, cn_m11, nI_add, cn_sub, pk_mul, cn_div, cn_irm, cn_lt, cn_eq, cn_ltm1, cn_m1lt, cn_eqm1, cn_m1eq, cn_ix, cn_inb, cn_ninb, cn_irs, cn_ils, cn_and, cn_or, cn_xor, grd_t, grd_bt, grd_bl, Nat.add_zero, Nat.zero_add, Nat.reduceAdd, Nat.reduceSub, Nat.reduceMul, Nat.reduceLT, Nat.reduceEqDiff, eq_self, true_and, and_true, and_false, false_and, if_true, if_false, and_self, Bool.true_eq_false, Bool.false_eq_true, Option.bind_some]
theorem quest_b {v : Int32} {s1 : mS} (wd : f_Rd_word N s = some (v, s)) (h1 : (v < nI 25) = True) (h2 : (nI 27 < v) = False) (f : f_Rd_fail N (nI 1) (gI s 606 18) s = some s1) (D : CD 16 s0 k w s1) (hN : 10000 ≤ N) : ∃ s', f_Rd_question N s = some (v, s') ∧ DdX k w s' ∧ Fr kQy s0 s' := by
  have ad := adv_d (N := N) D.1.1
  have F1 : Fr [71018] s1 (sI s1 610 18 (nI 470536)) := Fr_sI _ _ _ (by decide)
  obtain ⟨d1, d2, sz, d3, d4⟩ := D.1
  have D1 : DPX 16 k w (sI s1 610 18 (nI 470536)) := ⟨DdX_fr F1 (by decide) d1, d2, sz, d3, by rw [F1.I 501 16 (by decide)]; exact d4⟩
  obtain ⟨s2, f2, D2, F2⟩ := (grp_d (k := k) (w := w) (Or.inr rfl) hN 96).2.2.2 _ D1
  have f2 : f_Rd_test N (sI s1 610 18 (nI 470536)) = some s2 := f2
  have j := qj47_d (N := N) (v := v) D2.1
  refine ⟨s2, ?_, D2.1, Fr_t (Fr_w D.2 (by decide)) (Fr_t (Fr_w F1 (by decide)) (Fr_w F2 (by decide)))⟩
  simp (disch := first | omega | decide) only [f_Rd_question, f_Rd_question_j20, wd, h1, h2, f, ad, f2, j, zI_0, zI_1, zI_2, zI_3, zI_4, zI_5, zI_6, zI_7, zI_8, zI_9, zI_10, zI_11, zI_12, zI_13, zI_14, zI_15, zI_16, zI_17, zI_18, zI_19, zI_20, zI_21, zI_22, zI_23, zI_24, zI_25, zI_26, zI_27, zI_28, zI_29, zI_30, zI_31, zI_32, zI_33, zI_34, zI_35, zI_36, zI_37, zI_38, zI_39, zI_40, zI_41, zI_42, zI_43, zI_44, zI_45, zI_46, zI_47, zI_48, zI_49, zI_50, zI_51, zI_52, zI_53, zI_54, zI_55, zI_56, zI_57, zI_58, zI_59, zI_60, zI_61, zI_62, zI_63, zI_64, zI_65, zI_66, zI_67, zI_74, zI_84, zI_85, zI_88, zI_91, zI_93, zI_97, zI_99, zI_100, zI_102, zI_105, zI_117, zI_122, zI_193, zI_202, zI_205, zI_251, zI_255, zI_256, zI_257, zI_258, zI_259, zI_260, zI_640, zI_999, zI_1000, zI_1024, zI_1600, zI_1602, zI_1700, zI_2040, zI_3200, zI_4100, zI_9728, zI_11784, zI_61440, zI_65536, zI_470536, zI_999999, zI_1000000, Nat.reduceAdd, Nat.reduceSub, Nat.reduceMul, Nat.reduceLT, Nat.reduceEqDiff, eq_self, true_and, and_true, and_false, false_and, if_true, if_false, and_self, Bool.true_eq_false, Bool.false_eq_true, Option.bind_some]
theorem quest_g (hk : k < 6) (wd : f_Rd_word N s = some (nI (25 + k), s)) : f_Rd_question N s = f_Rd_question_j20 N (nI (25 + k), s) := by
  simp (disch := first | omega | decide) only [f_Rd_question, wd, zI_0, zI_1, zI_2, zI_3, zI_4, zI_5, zI_6, zI_7, zI_8, zI_9, zI_10, zI_11, zI_12, zI_13, zI_14, zI_15, zI_16, zI_17, zI_18, zI_19, zI_20, zI_21, zI_22, zI_23, zI_24, zI_25, zI_26, zI_27, zI_28, zI_29, zI_30, zI_31, zI_32, zI_33, zI_34, zI_35, zI_36, zI_37, zI_38, zI_39, zI_40, zI_41, zI_42, zI_43, zI_44, zI_45, zI_46, zI_47, zI_48, zI_49, zI_50, zI_51, zI_52, zI_53, zI_54, zI_55, zI_56, zI_57, zI_58, zI_59, zI_60, zI_61, zI_62, zI_63, zI_64, zI_65, zI_66, zI_67, zI_74, zI_84, zI_85, zI_88, zI_91, zI_93, zI_97, zI_99, zI_100, zI_102, zI_105, zI_117, zI_122, zI_193, zI_202, zI_205, zI_251, zI_255, zI_256, zI_257, zI_258, zI_259, zI_260, zI_640, zI_999, zI_1000, zI_1024, zI_1600, zI_1602, zI_1700, zI_2040, zI_3200, zI_4100, zI_9728, zI_11784, zI_61440, zI_65536, zI_470536, zI_999999, zI_1000000, lt_T, lt_F, le_T, le_F, eq_T, eq_F, neg_1, cn_m1p, cn_m11, nI_add, cn_sub, pk_mul, cn_div, cn_irm, cn_lt, cn_eq, cn_ltm1, cn_m1lt, cn_eqm1, cn_m1eq, cn_ix, cn_inb, cn_ninb, cn_irs, cn_ils, cn_and, cn_or, cn_xor, grd_t, grd_bt, grd_bl, Nat.add_zero, Nat.zero_add, Nat.reduceAdd, Nat.reduceSub, Nat.reduceMul, Nat.reduceLT, Nat.reduceEqDiff, eq_self, true_and, and_true, and_false, false_and, if_true, if_false, and_self, Bool.true_eq_false, Bool.false_eq_true, Option.bind_some]
/-- the other side -/
noncomputable def askR (N : Nat) (t : mS) : Option (Int64 × mS) := (f_M_qKind N t).bind fun p12 => if gI p12.2 1005 0 = nI 0 then (if p12.1 < nI 3 then (f_M_qTest N p12.2).bind fun p13 => f_M_ask_j109 N (p12.1, p13) else f_M_ask_j98 N (p12.1, p12.2)) else f_M_ask_j98 N (p12.1, p12.2)
def NTH : Int64 := -1000000000000000
theorem j133_b (B : BdM k w t) : f_M_ask_j133 N (v, t) = some (NTH, sI (sI t 1007 0 (nI k)) 1008 0 (nI w)) := by
  obtain ⟨h1, h2, h3, h4⟩ := B
  have e1 : gI (sI t 1007 0 (nI k)) 1006 0 = nI w := by simp (disch := first | omega | decide) only [gI_sI, gI_sA, gI_sL, gI_sQ, gI_sC, gI_sO, gI_sD, gA_sI, gA_sL, gA_sQ, gA_sO, gA_sD, gL_sI, gL_sA, gL_sQ, gL_sC, gL_sO, gL_sD, gQ_sI, gQ_sA, gQ_sL, gQ_sC, gQ_sO, gO_sI, gO_sA, gO_sL, gO_sQ, gO_sC, gO_sO, gO_sD, gA_eq, gA_ne, gQ_eq, gQ_ne, gL_sL, gA_cin, gA_cou, gQ_cin, gQ_cou, Nat.reduceAdd, Nat.reduceSub, Nat.reduceMul, Nat.reduceLT, Nat.reduceEqDiff, eq_self, true_and, and_true, and_false, false_and, if_true, if_false, and_self, Bool.true_eq_false, Bool.false_eq_true]; exact h4
  have e2 : gI (sI (sI t 1007 0 (nI k)) 1008 0 (nI w)) 1005 0 = nI k := by simp (disch := first | omega | decide) only [gI_sI, gI_sA, gI_sL, gI_sQ, gI_sC, gI_sO, gI_sD, gA_sI, gA_sL, gA_sQ, gA_sO, gA_sD, gL_sI, gL_sA, gL_sQ, gL_sC, gL_sO, gL_sD, gQ_sI, gQ_sA, gQ_sL, gQ_sC, gQ_sO, gO_sI, gO_sA, gO_sL, gO_sQ, gO_sC, gO_sO, gO_sD, gA_eq, gA_ne, gQ_eq, gQ_ne, gL_sL, gA_cin, gA_cou, gQ_cin, gQ_cou, Nat.reduceAdd, Nat.reduceSub, Nat.reduceMul, Nat.reduceLT, Nat.reduceEqDiff, eq_self, true_and, and_true, and_false, false_and, if_true, if_false, and_self, Bool.true_eq_false, Bool.false_eq_true]; exact h3
  have q : (nI k = nI 0) = False := by rw [cn_eq (by omega)]; exact eq_false (by omega)
  simp only [f_M_ask_j133, h3, e1, e2, zI_0, q, if_false]
  rfl
theorem j109_b (B : BdM k w t) : f_M_ask_j109 N (v, t) = some (NTH, sI (sI t 1007 0 (nI k)) 1008 0 (nI w)) := by
  have j := j133_b (N := N) (v := v) B
  obtain ⟨h1, h2, h3, h4⟩ := B
  have q : (nI k = nI 0) = False := by rw [cn_eq (by omega)]; exact eq_false (by omega)
  simp only [f_M_ask_j109, h3, zI_0, q, if_false, j]
theorem j98_b (B : BdM k w t) : f_M_ask_j98 N (v, t) = some (NTH, sI (sI t 1007 0 (nI k)) 1008 0 (nI w)) := by
  have j := j109_b (N := N) (v := v) B
  obtain ⟨h1, h2, h3, h4⟩ := B
  have q : (nI k = nI 0) = False := by rw [cn_eq (by omega)]; exact eq_false (by omega)
  simp only [f_M_ask_j98, h3, zI_0, q, if_false, j]
theorem qkind_b (h : RB tp n p b t) (hw : wdA tp n p b ≤ 25) (hN : 10000 ≤ N) : ∃ t', f_M_qKind N t = some (nI 5, t') ∧ BdM 1 (skp tp n p) t' ∧ Fr kAf t t' := by
  have hL := RB_lk h
  have T : ∀ o, o ∈ kWo → 26 ≤ woJ o + 1 → f_M_takes N o (lk tp n p t) = some (nI 0, lk tp n p t) := fun o ho hw2 => tk_0 (N := N) hL ho (by omega) hN
  have T1 := (takes_b (N := N) h (show 41 ∈ kWo by decide) hN).2 (show wdA tp n p b ≠ 26 by omega)
  obtain ⟨t', g, B, F⟩ := (asks_b (N := N) (RL_RB hL) (show 46 ∈ kWo by decide) hN).2 (show wdA tp n p b ≠ 31 by omega)
  refine ⟨t', ?_, B, Fr_t (Fr_w Fr_lk (by decide)) F⟩
  have t2 := T 42 (by decide) (by decide)
  have t3 := T 43 (by decide) (by decide)
  have t4 := T 44 (by decide) (by decide)
  have t5 := T 45 (by decide) (by decide)
  simp (disch := first | omega | decide) only [f_M_qKind, f_M_qKind_j76, T1, t2, t3, t4, t5, g, zI_0, zI_1, zI_2, zI_3, zI_4, zI_5, zI_6, zI_7, zI_8, zI_9, zI_10, zI_11, zI_12, zI_13, zI_14, zI_15, zI_16, zI_17, zI_18, zI_19, zI_20, zI_21, zI_22, zI_23, zI_24, zI_25, zI_26, zI_27, zI_28, zI_29, zI_30, zI_31, zI_32, zI_33, zI_34, zI_35, zI_36, zI_37, zI_38, zI_39, zI_40, zI_41, zI_42, zI_43, zI_44, zI_45, zI_46, zI_47, zI_48, zI_49, zI_50, zI_51, zI_52, zI_53, zI_54, zI_55, zI_56, zI_57, zI_58, zI_59, zI_60, zI_61, zI_62, zI_63, zI_64, zI_65, zI_66, zI_67, zI_74, zI_84, zI_85, zI_88, zI_91, zI_93, zI_97, zI_99, zI_100, zI_102, zI_105, zI_117, zI_122, zI_193, zI_202, zI_205, zI_251, zI_255, zI_256, zI_257, zI_258, zI_259, zI_260, zI_640, zI_999, zI_1000, zI_1024, zI_1600, zI_1602, zI_1700, zI_2040, zI_3200, zI_4100, zI_9728, zI_11784, zI_61440, zI_65536, zI_470536, zI_999999, zI_1000000, lt_T, lt_F, le_T, le_F, eq_T, eq_F, neg_1, cn_m1p, cn_m11, nI_add, cn_sub, pk_mul, cn_div, cn_irm, cn_lt, cn_eq, cn_ltm1, cn_m1lt, cn_eqm1, cn_m1eq, cn_ix, cn_inb, cn_ninb, cn_irs, cn_ils, cn_and, cn_or, cn_xor, grd_t, grd_bt, grd_bl, Nat.add_zero, Nat.zero_add, Nat.reduceAdd, Nat.reduceSub, Nat.reduceMul, Nat.reduceLT, Nat.reduceEqDiff, eq_self, true_and, and_true, and_false, false_and, if_true, if_false, and_self, Bool.true_eq_false, Bool.false_eq_true, Option.bind_some]
theorem qkind_g (h : RB tp n p b t) (hk : k < 6) (hw : wdA tp n p b = 26 + k) (hN : 10000 ≤ N) : ∃ t', f_M_qKind N t = some (nI k, t') ∧ RB tp n (kE tp n p) true t' ∧ Fr kAt t t' := by
  have hL := RB_lk h
  have T : ∀ o, o ∈ kWo → 26 + k ≠ woJ o + 1 → f_M_takes N o (lk tp n p t) = some (nI 0, lk tp n p t) := fun o ho hw2 => tk_0 (N := N) hL ho (by omega) hN
  have T1 : 26 + k ≠ 26 → f_M_takes N 41 t = some (nI 0, lk tp n p t) := fun hw2 => (takes_b (N := N) h (show 41 ∈ kWo by decide) hN).2 (show wdA tp n p b ≠ 26 by omega)
  have Fl : Fr kAt t (lk tp n p t) := Fr_w Fr_lk (by decide)
  rcases (show k = 0 ∨ k = 1 ∨ k = 2 ∨ k = 3 ∨ k = 4 ∨ k = 5 by omega) with rfl | rfl | rfl | rfl | rfl | rfl
  · obtain ⟨t', g, R, F⟩ := (takes_b (N := N) h (show 41 ∈ kWo by decide) hN).1 hw
    refine ⟨t', ?_, R, F⟩
    simp (disch := first | omega | decide) only [f_M_qKind, f_M_qKind_j76, g, zI_0, zI_1, zI_2, zI_3, zI_4, zI_5, zI_6, zI_7, zI_8, zI_9, zI_10, zI_11, zI_12, zI_13, zI_14, zI_15, zI_16, zI_17, zI_18, zI_19, zI_20, zI_21, zI_22, zI_23, zI_24, zI_25, zI_26, zI_27, zI_28, zI_29, zI_30, zI_31, zI_32, zI_33, zI_34, zI_35, zI_36, zI_37, zI_38, zI_39, zI_40, zI_41, zI_42, zI_43, zI_44, zI_45, zI_46, zI_47, zI_48, zI_49, zI_50, zI_51, zI_52, zI_53, zI_54, zI_55, zI_56, zI_57, zI_58, zI_59, zI_60, zI_61, zI_62, zI_63, zI_64, zI_65, zI_66, zI_67, zI_74, zI_84, zI_85, zI_88, zI_91, zI_93, zI_97, zI_99, zI_100, zI_102, zI_105, zI_117, zI_122, zI_193, zI_202, zI_205, zI_251, zI_255, zI_256, zI_257, zI_258, zI_259, zI_260, zI_640, zI_999, zI_1000, zI_1024, zI_1600, zI_1602, zI_1700, zI_2040, zI_3200, zI_4100, zI_9728, zI_11784, zI_61440, zI_65536, zI_470536, zI_999999, zI_1000000, lt_T, lt_F, le_T, le_F, eq_T, eq_F, neg_1, cn_m1p, cn_m11, nI_add, cn_sub, pk_mul, cn_div, cn_irm, cn_lt, cn_eq, cn_ltm1, cn_m1lt, cn_eqm1, cn_m1eq, cn_ix, cn_inb, cn_ninb, cn_irs, cn_ils, cn_and, cn_or, cn_xor, grd_t, grd_bt, grd_bl, Nat.add_zero, Nat.zero_add, Nat.reduceAdd, Nat.reduceSub, Nat.reduceMul, Nat.reduceLT, Nat.reduceEqDiff, eq_self, true_and, and_true, and_false, false_and, if_true, if_false, and_self, Bool.true_eq_false, Bool.false_eq_true, Option.bind_some]
  · obtain ⟨t', g, R, F⟩ := (takes_b (N := N) (RL_RB hL) (show 42 ∈ kWo by decide) hN).1 hw
    have t1 := T1 (by decide)
    refine ⟨t', ?_, R, Fr_t Fl F⟩
    simp (disch := first | omega | decide) only [f_M_qKind, f_M_qKind_j76, t1, g, zI_0, zI_1, zI_2, zI_3, zI_4, zI_5, zI_6, zI_7, zI_8, zI_9, zI_10, zI_11, zI_12, zI_13, zI_14, zI_15, zI_16, zI_17, zI_18, zI_19, zI_20, zI_21, zI_22, zI_23, zI_24, zI_25, zI_26, zI_27, zI_28, zI_29, zI_30, zI_31, zI_32, zI_33, zI_34, zI_35, zI_36, zI_37, zI_38, zI_39, zI_40, zI_41, zI_42, zI_43, zI_44, zI_45, zI_46, zI_47, zI_48, zI_49, zI_50, zI_51, zI_52, zI_53, zI_54, zI_55, zI_56, zI_57, zI_58, zI_59, zI_60, zI_61, zI_62, zI_63, zI_64, zI_65, zI_66, zI_67, zI_74, zI_84, zI_85, zI_88, zI_91, zI_93, zI_97, zI_99, zI_100, zI_102, zI_105, zI_117, zI_122, zI_193, zI_202, zI_205, zI_251, zI_255, zI_256, zI_257, zI_258, zI_259, zI_260, zI_640, zI_999, zI_1000, zI_1024, zI_1600, zI_1602, zI_1700, zI_2040, zI_3200, zI_4100, zI_9728, zI_11784, zI_61440, zI_65536, zI_470536, zI_999999, zI_1000000, lt_T, lt_F, le_T, le_F, eq_T, eq_F, neg_1, cn_m1p, cn_m11, nI_add, cn_sub, pk_mul, cn_div, cn_irm, cn_lt, cn_eq, cn_ltm1, cn_m1lt, cn_eqm1, cn_m1eq, cn_ix, cn_inb, cn_ninb, cn_irs, cn_ils, cn_and, cn_or, cn_xor, grd_t, grd_bt, grd_bl, Nat.add_zero, Nat.zero_add, Nat.reduceAdd, Nat.reduceSub, Nat.reduceMul, Nat.reduceLT, Nat.reduceEqDiff, eq_self, true_and, and_true, and_false, false_and, if_true, if_false, and_self, Bool.true_eq_false, Bool.false_eq_true, Option.bind_some]
  · obtain ⟨t', g, R, F⟩ := (takes_b (N := N) (RL_RB hL) (show 43 ∈ kWo by decide) hN).1 hw
    have t1 := T1 (by decide)
    have t2 := T 42 (by decide) (by decide)
    refine ⟨t', ?_, R, Fr_t Fl F⟩
    simp (disch := first | omega | decide) only [f_M_qKind, f_M_qKind_j76, t1, t2, g, zI_0, zI_1, zI_2, zI_3, zI_4, zI_5, zI_6, zI_7, zI_8, zI_9, zI_10, zI_11, zI_12, zI_13, zI_14, zI_15, zI_16, zI_17, zI_18, zI_19, zI_20, zI_21, zI_22, zI_23, zI_24, zI_25, zI_26, zI_27, zI_28, zI_29, zI_30, zI_31, zI_32, zI_33, zI_34, zI_35, zI_36, zI_37, zI_38, zI_39, zI_40, zI_41, zI_42, zI_43, zI_44, zI_45, zI_46, zI_47, zI_48, zI_49, zI_50, zI_51, zI_52, zI_53, zI_54, zI_55, zI_56, zI_57, zI_58, zI_59, zI_60, zI_61, zI_62, zI_63, zI_64, zI_65, zI_66, zI_67, zI_74, zI_84, zI_85, zI_88, zI_91, zI_93, zI_97, zI_99, zI_100, zI_102, zI_105, zI_117, zI_122, zI_193, zI_202, zI_205, zI_251, zI_255, zI_256, zI_257, zI_258, zI_259, zI_260, zI_640, zI_999, zI_1000, zI_1024, zI_1600, zI_1602, zI_1700, zI_2040, zI_3200, zI_4100, zI_9728, zI_11784, zI_61440, zI_65536, zI_470536, zI_999999, zI_1000000, lt_T, lt_F, le_T, le_F, eq_T, eq_F, neg_1, cn_m1p, cn_m11, nI_add, cn_sub, pk_mul, cn_div, cn_irm, cn_lt, cn_eq, cn_ltm1, cn_m1lt, cn_eqm1, cn_m1eq, cn_ix, cn_inb, cn_ninb, cn_irs, cn_ils, cn_and, cn_or, cn_xor, grd_t, grd_bt, grd_bl, Nat.add_zero, Nat.zero_add, Nat.reduceAdd, Nat.reduceSub, Nat.reduceMul, Nat.reduceLT, Nat.reduceEqDiff, eq_self, true_and, and_true, and_false, false_and, if_true, if_false, and_self, Bool.true_eq_false, Bool.false_eq_true, Option.bind_some]
  · obtain ⟨t', g, R, F⟩ := (takes_b (N := N) (RL_RB hL) (show 44 ∈ kWo by decide) hN).1 hw
    have t1 := T1 (by decide)
    have t2 := T 42 (by decide) (by decide)
    have t3 := T 43 (by decide) (by decide)
    refine ⟨t', ?_, R, Fr_t Fl F⟩
    simp (disch := first | omega | decide) only [f_M_qKind, f_M_qKind_j76, t1, t2, t3, g, zI_0, zI_1, zI_2, zI_3, zI_4, zI_5, zI_6, zI_7, zI_8, zI_9, zI_10, zI_11, zI_12, zI_13, zI_14, zI_15, zI_16, zI_17, zI_18, zI_19, zI_20, zI_21, zI_22, zI_23, zI_24, zI_25, zI_26, zI_27, zI_28, zI_29, zI_30, zI_31, zI_32, zI_33, zI_34, zI_35, zI_36, zI_37, zI_38, zI_39, zI_40, zI_41, zI_42, zI_43, zI_44, zI_45, zI_46, zI_47, zI_48, zI_49, zI_50, zI_51, zI_52, zI_53, zI_54, zI_55, zI_56, zI_57, zI_58, zI_59, zI_60, zI_61, zI_62, zI_63, zI_64, zI_65, zI_66, zI_67, zI_74, zI_84, zI_85, zI_88, zI_91, zI_93, zI_97, zI_99, zI_100, zI_102, zI_105, zI_117, zI_122, zI_193, zI_202, zI_205, zI_251, zI_255, zI_256, zI_257, zI_258, zI_259, zI_260, zI_640, zI_999, zI_1000, zI_1024, zI_1600, zI_1602, zI_1700, zI_2040, zI_3200, zI_4100, zI_9728, zI_11784, zI_61440, zI_65536, zI_470536, zI_999999, zI_1000000, lt_T, lt_F, le_T, le_F, eq_T, eq_F, neg_1, cn_m1p, cn_m11, nI_add, cn_sub, pk_mul, cn_div, cn_irm, cn_lt, cn_eq, cn_ltm1, cn_m1lt, cn_eqm1, cn_m1eq, cn_ix, cn_inb, cn_ninb, cn_irs, cn_ils, cn_and, cn_or, cn_xor, grd_t, grd_bt, grd_bl, Nat.add_zero, Nat.zero_add, Nat.reduceAdd, Nat.reduceSub, Nat.reduceMul, Nat.reduceLT, Nat.reduceEqDiff, eq_self, true_and, and_true, and_false, false_and, if_true, if_false, and_self, Bool.true_eq_false, Bool.false_eq_true, Option.bind_some]
  · obtain ⟨t', g, R, F⟩ := (takes_b (N := N) (RL_RB hL) (show 45 ∈ kWo by decide) hN).1 hw
    have t1 := T1 (by decide)
    have t2 := T 42 (by decide) (by decide)
    have t3 := T 43 (by decide) (by decide)
    have t4 := T 44 (by decide) (by decide)
    refine ⟨t', ?_, R, Fr_t Fl F⟩
    simp (disch := first | omega | decide) only [f_M_qKind, f_M_qKind_j76, t1, t2, t3, t4, g, zI_0, zI_1, zI_2, zI_3, zI_4, zI_5, zI_6, zI_7, zI_8, zI_9, zI_10, zI_11, zI_12, zI_13, zI_14, zI_15, zI_16, zI_17, zI_18, zI_19, zI_20, zI_21, zI_22, zI_23, zI_24, zI_25, zI_26, zI_27, zI_28, zI_29, zI_30, zI_31, zI_32, zI_33, zI_34, zI_35, zI_36, zI_37, zI_38, zI_39, zI_40, zI_41, zI_42, zI_43, zI_44, zI_45, zI_46, zI_47, zI_48, zI_49, zI_50, zI_51, zI_52, zI_53, zI_54, zI_55, zI_56, zI_57, zI_58, zI_59, zI_60, zI_61, zI_62, zI_63, zI_64, zI_65, zI_66, zI_67, zI_74, zI_84, zI_85, zI_88, zI_91, zI_93, zI_97, zI_99, zI_100, zI_102, zI_105, zI_117, zI_122, zI_193, zI_202, zI_205, zI_251, zI_255, zI_256, zI_257, zI_258, zI_259, zI_260, zI_640, zI_999, zI_1000, zI_1024, zI_1600, zI_1602, zI_1700, zI_2040, zI_3200, zI_4100, zI_9728, zI_11784, zI_61440, zI_65536, zI_470536, zI_999999, zI_1000000, lt_T, lt_F, le_T, le_F, eq_T, eq_F, neg_1, cn_m1p, cn_m11, nI_add, cn_sub, pk_mul, cn_div, cn_irm, cn_lt, cn_eq, cn_ltm1, cn_m1lt, cn_eqm1, cn_m1eq, cn_ix, cn_inb, cn_ninb, cn_irs, cn_ils, cn_and, cn_or, cn_xor, grd_t, grd_bt, grd_bl, Nat.add_zero, Nat.zero_add, Nat.reduceAdd, Nat.reduceSub, Nat.reduceMul, Nat.reduceLT, Nat.reduceEqDiff, eq_self, true_and, and_true, and_false, false_and, if_true, if_false, and_self, Bool.true_eq_false, Bool.false_eq_true, Option.bind_some]
  · obtain ⟨t', g, R, F⟩ := (asks_b (N := N) (RL_RB hL) (show 46 ∈ kWo by decide) hN).1 hw
    have t1 := T1 (by decide)
    have t2 := T 42 (by decide) (by decide)
    have t3 := T 43 (by decide) (by decide)
    have t4 := T 44 (by decide) (by decide)
    have t5 := T 45 (by decide) (by decide)
    refine ⟨t', ?_, R, Fr_t Fl F⟩
    simp (disch := first | omega | decide) only [f_M_qKind, f_M_qKind_j76, t1, t2, t3, t4, t5, g, zI_0, zI_1, zI_2, zI_3, zI_4, zI_5, zI_6, zI_7, zI_8, zI_9, zI_10, zI_11, zI_12, zI_13, zI_14, zI_15, zI_16, zI_17, zI_18, zI_19, zI_20, zI_21, zI_22, zI_23, zI_24, zI_25, zI_26, zI_27, zI_28, zI_29, zI_30, zI_31, zI_32, zI_33, zI_34, zI_35, zI_36, zI_37, zI_38, zI_39, zI_40, zI_41, zI_42, zI_43, zI_44, zI_45, zI_46, zI_47, zI_48, zI_49, zI_50, zI_51, zI_52, zI_53, zI_54, zI_55, zI_56, zI_57, zI_58, zI_59, zI_60, zI_61, zI_62, zI_63, zI_64, zI_65, zI_66, zI_67, zI_74, zI_84, zI_85, zI_88, zI_91, zI_93, zI_97, zI_99, zI_100, zI_102, zI_105, zI_117, zI_122, zI_193, zI_202, zI_205, zI_251, zI_255, zI_256, zI_257, zI_258, zI_259, zI_260, zI_640, zI_999, zI_1000, zI_1024, zI_1600, zI_1602, zI_1700, zI_2040, zI_3200, zI_4100, zI_9728, zI_11784, zI_61440, zI_65536, zI_470536, zI_999999, zI_1000000, lt_T, lt_F, le_T, le_F, eq_T, eq_F, neg_1, cn_m1p, cn_m11, nI_add, cn_sub, pk_mul, cn_div, cn_irm, cn_lt, cn_eq, cn_ltm1, cn_m1lt, cn_eqm1, cn_m1eq, cn_ix, cn_inb, cn_ninb, cn_irs, cn_ils, cn_and, cn_or, cn_xor, grd_t, grd_bt, grd_bl, Nat.add_zero, Nat.zero_add, Nat.reduceAdd, Nat.reduceSub, Nat.reduceMul, Nat.reduceLT, Nat.reduceEqDiff, eq_self, true_and, and_true, and_false, false_and, if_true, if_false, and_self, Bool.true_eq_false, Bool.false_eq_true, Option.bind_some]
theorem askR_h {t1 : mS} (hk : k < 6) (g : f_M_qKind N t = some (nI k, t1)) (h5 : gI t1 1005 0 = nI 0) : askR N t = ((if decide (k < 3) = true then f_M_qTest N else f_M_qSums N) t1).bind fun p => f_M_ask_j109 N (nI k, p) := by
  have r7 : (nI 0 = nI 0) = True := eq_true rfl
  have q : (nI k < nI 3) = (k < 3) := cn_lt (by omega)
  unfold askR
  by_cases c : k < 3
  · have q := q.trans (eq_true c)
    rw [decide_eq_true c, if_pos rfl]
    simp only [g, Option.bind_some, h5, r7, if_true, q]
  · have q := q.trans (eq_false c)
    rw [decide_eq_false c, if_neg (by decide)]
    simp only [g, Option.bind_some, h5, r7, if_true, q, if_false, f_M_ask_j98, zI_0]
/-- a question, read by the one, by the other -/
theorem quest_j (E : CE tp n 16 mk s) (X : CX tp n 16 s p b 0 [] s) (R : RT tp n 3 t p b 0 [] [] 0 t) (hN : 10000 ≤ N) :
    (∃ v k w s' t', f_Rd_question N s = some (v, s') ∧ DdX k w s' ∧ Fr kQy s s' ∧ askR N t = some (NTH, t') ∧ gI t' 1007 0 = nI k ∧ gI t' 1008 0 = nI w ∧ Fr kQz t t') ∨
    (∃ k e q p' b' s' t', k < 6 ∧ (k < 3 → q = true) ∧ e.length ≤ 1600 ∧ ckL alQ e [] = some [q] ∧ f_Rd_question N s = some (nI (25 + k), s') ∧ gI s' 612 18 = nI 0 ∧ PgC 16 e s' ∧ Fr kQx s s' ∧ askR N t = f_M_ask_j133 N (nI k, t') ∧ RT tp n 3 t p' b' 0 e [] 0 t') := by
  have hn := E.1.1
  have hpn := X.1
  have ht : ∀ i, i < n → tp i < 256 := (CE_x E X).2.2.2
  have wl := wdA_le (tp := tp) (n := n) (p := p) (b := b)
  have wd := word_w (N := N) ht X.2.1
  have fin : ∀ (t2 : mS) k w, BdM k w t2 → Fr kMq t t2 → gI (sI (sI t2 1007 0 (nI k)) 1008 0 (nI w)) 1007 0 = nI k ∧ gI (sI (sI t2 1007 0 (nI k)) 1008 0 (nI w)) 1008 0 = nI w ∧ Fr kQz t (sI (sI t2 1007 0 (nI k)) 1008 0 (nI w)) := fun t2 k w _ F => ⟨by simp (disch := first | omega | decide) only [gI_sI, gI_sA, gI_sL, gI_sQ, gI_sC, gI_sO, gI_sD, gA_sI, gA_sL, gA_sQ, gA_sO, gA_sD, gL_sI, gL_sA, gL_sQ, gL_sC, gL_sO, gL_sD, gQ_sI, gQ_sA, gQ_sL, gQ_sC, gQ_sO, gO_sI, gO_sA, gO_sL, gO_sQ, gO_sC, gO_sO, gO_sD, gA_eq, gA_ne, gQ_eq, gQ_ne, gL_sL, gA_cin, gA_cou, gQ_cin, gQ_cou, Nat.reduceAdd, Nat.reduceSub, Nat.reduceMul, Nat.reduceLT, Nat.reduceEqDiff, eq_self, true_and, and_true, and_false, false_and, if_true, if_false, and_self, Bool.true_eq_false, Bool.false_eq_true], by simp (disch := first | omega | decide) only [gI_sI, gI_sA, gI_sL, gI_sQ, gI_sC, gI_sO, gI_sD, gA_sI, gA_sL, gA_sQ, gA_sO, gA_sD, gL_sI, gL_sA, gL_sQ, gL_sC, gL_sO, gL_sD, gQ_sI, gQ_sA, gQ_sL, gQ_sC, gQ_sO, gO_sI, gO_sA, gO_sL, gO_sQ, gO_sC, gO_sO, gO_sD, gA_eq, gA_ne, gQ_eq, gQ_ne, gL_sL, gA_cin, gA_cou, gQ_cin, gQ_cou, Nat.reduceAdd, Nat.reduceSub, Nat.reduceMul, Nat.reduceLT, Nat.reduceEqDiff, eq_self, true_and, and_true, and_false, false_and, if_true, if_false, and_self, Bool.true_eq_false, Bool.false_eq_true], Fr_t (Fr_w F (by decide)) (Fr_t (Fr_sI _ _ _ (by decide)) (Fr_sI _ _ _ (by decide)))⟩
  by_cases hw : wdA tp n p b ≤ 25
  · left
    have h1 : (nI (wdA tp n p b) + m1 < nI 25) = True := by
      cases h : wdA tp n p b with
      | zero => exact cn_m1lt (by omega)
      | succ j => rw [m1_s, cn_lt (by omega)]; exact eq_true (by omega)
    have h2 : (nI 27 < nI (wdA tp n p b) + m1) = False := by
      cases h : wdA tp n p b with
      | zero => exact cn_ltm1 (by omega)
      | succ j => rw [m1_s, cn_lt (by omega)]; exact eq_false (by omega)
    obtain ⟨s1, f1, D1⟩ := c_fail (N := N) (k := 1) (w := skp tp n p) E X (by decide) (by omega)
    obtain ⟨s2, f2, D2, F2⟩ := quest_b wd h1 h2 (by rw [X.2.1.2.1]; exact f1) D1 hN
    obtain ⟨t1, g1, B, F⟩ := qkind_b (N := N) R.2.1 hw hN
    have B5 := B.2.2.1
    have qq : (nI 1 = nI 0) = False := eq_false (by decide)
    obtain ⟨c1, c2, c3⟩ := fin t1 1 (skp tp n p) B (Fr_w F (by decide))
    refine ⟨_, 1, skp tp n p, s2, _, f2, D2, F2, ?_, c1, c2, c3⟩
    unfold askR
    simp only [g1, Option.bind_some, B5, qq, if_false]
    exact j98_b B
  · obtain ⟨k, hk⟩ : ∃ k, wdA tp n p b = 26 + k := ⟨wdA tp n p b - 26, by omega⟩
    have hk6 : k < 6 := by omega
    rw [show wdA tp n p b = (25 + k) + 1 by omega, m1_s] at wd
    obtain ⟨s1, f1, X1, p1, p2⟩ := c_wd E X (show wdA tp n p b = (25 + k) + 1 by omega) hN
    obtain ⟨E1, X1'⟩ := CX_re E X1
    have F1 : Fr [71018] s1 (sI s1 610 18 (nI 470536)) := Fr_sI _ _ _ (by decide)
    have E2 := CE_mk (mk' := 470536) F1 (by decide) (by simp (disch := first | omega | decide) only [gI_sI, gI_sA, gI_sL, gI_sQ, gI_sC, gI_sO, gI_sD, gA_sI, gA_sL, gA_sQ, gA_sO, gA_sD, gL_sI, gL_sA, gL_sQ, gL_sC, gL_sO, gL_sD, gQ_sI, gQ_sA, gQ_sL, gQ_sC, gQ_sO, gO_sI, gO_sA, gO_sL, gO_sQ, gO_sC, gO_sO, gO_sD, gA_eq, gA_ne, gQ_eq, gQ_ne, gL_sL, gA_cin, gA_cou, gQ_cin, gQ_cou, Nat.reduceAdd, Nat.reduceSub, Nat.reduceMul, Nat.reduceLT, Nat.reduceEqDiff, eq_self, true_and, and_true, and_false, false_and, if_true, if_false, and_self, Bool.true_eq_false, Bool.false_eq_true]) E1
    have X2 : CX tp n 16 (sI s1 610 18 (nI 470536)) (kE tp n p) true 0 [] (sI s1 610 18 (nI 470536)) := ⟨X1'.1, TkA_fr F1 (by decide) X1'.2.1, by rw [F1.I 612 18 (by decide)]; exact X1'.2.2.1, by rw [F1.I 611 18 (by decide)]; exact X1'.2.2.2.1, PgC_fr F1 (by decide) (by decide) X1'.2.2.2.2.1, Fr_r _ _⟩
    have F02 : Fr kQx s (sI s1 610 18 (nI 470536)) := Fr_t (Fr_w X1.2.2.2.2.2 (by decide)) (Fr_w F1 (by decide))
    obtain ⟨t1, g1, R1, G1⟩ := qkind_g (N := N) R.2.1 hk6 hk hN
    have RT1 : RT tp n 3 t (kE tp n p) true 0 [] [] 0 t1 := RT_st G1 (by decide) R1 R
    have hc := qj20_h (N := N) hk6 f1
    have hr := askR_h hk6 g1 R1.2.2.1
    rw [← quest_g hk6 wd] at hc
    rw [hc, hr]
    have hK : KdA 3 470536 alQ := Or.inr (Or.inr (Or.inr ⟨rfl, rfl, rfl⟩))
    have RR : RdC N tp n 3 470536 16 alQ (decide (k < 3)) (if decide (k < 3) = true then f_Rd_test N else f_Rd_sum N) (if decide (k < 3) = true then f_M_qTest N else f_M_qSums N) := by
      by_cases c : k < 3
      · rw [decide_eq_true c, if_pos rfl, if_pos rfl]; exact rd_test hK hN
      · rw [decide_eq_false c, if_neg (by decide), if_neg (by decide)]; exact rd_sum hK hN
    generalize sI s1 610 18 (nI 470536) = s2 at *
    rcases RR s2 _ _ [] s2 E2 X2 (Nat.zero_le _) with ⟨k', w', s3, f3, D3, h3⟩ | ⟨e, p', b', s3, f3, X3, hp', hle, hck, h3⟩
    · left
      obtain ⟨t3, g3, B3⟩ := h3 t t1 RT1
      obtain ⟨c1, c2, c3⟩ := fin t3 k' w' B3.1 B3.2
      exact ⟨_, k', w', s3, _, by rw [f3, Option.bind_some, qj47_d D3.1.1], D3.1.1, Fr_t (Fr_w F02 (by decide)) (Fr_w D3.2 (by decide)), by rw [g3, Option.bind_some, j109_b B3.1], c1, c2, c3⟩
    · have hp2 := X3.1
      rw [List.nil_append] at X3
      obtain ⟨t3, g3, R3⟩ := h3 t t1 RT1
      have sb := skp_b (tp := tp) hp2
      have kle := kK_le (b := b') (p := p') ht
      have l := look_b R3.2.1 hN
      have r5 := R3.2.1.2.2.1
      obtain ⟨R4, L4, e4⟩ := RT_lk R3
      by_cases ce : n ≤ skp tp n p'
      · right
        have ek : kK tp n p' b' = 258 := by unfold kK; rw [if_pos ce]
        have k1 := X3.2.1.1
        rw [ek] at k1
        have ch : chM tp n p' = m1 := by unfold chM; rw [if_neg (by omega)]
        refine ⟨k, e, decide (k < 3), p', b', s3, lk tp n p' t3, hk6, fun h => decide_eq_true h, by omega, hck, ?_, X3.2.2.1, X3.2.2.2.2.1, Fr_t F02 (Fr_w X3.2.2.2.2.2 (by decide)), ?_, R4⟩
        · rw [f3, Option.bind_some]
          simp (disch := first | omega | decide) only [f_Rd_question_j47, k1, zI_0, zI_1, zI_2, zI_3, zI_4, zI_5, zI_6, zI_7, zI_8, zI_9, zI_10, zI_11, zI_12, zI_13, zI_14, zI_15, zI_16, zI_17, zI_18, zI_19, zI_20, zI_21, zI_22, zI_23, zI_24, zI_25, zI_26, zI_27, zI_28, zI_29, zI_30, zI_31, zI_32, zI_33, zI_34, zI_35, zI_36, zI_37, zI_38, zI_39, zI_40, zI_41, zI_42, zI_43, zI_44, zI_45, zI_46, zI_47, zI_48, zI_49, zI_50, zI_51, zI_52, zI_53, zI_54, zI_55, zI_56, zI_57, zI_58, zI_59, zI_60, zI_61, zI_62, zI_63, zI_64, zI_65, zI_66, zI_67, zI_74, zI_84, zI_85, zI_88, zI_91, zI_93, zI_97, zI_99, zI_100, zI_102, zI_105, zI_117, zI_122, zI_193, zI_202, zI_205, zI_251, zI_255, zI_256, zI_257, zI_258, zI_259, zI_260, zI_640, zI_999, zI_1000, zI_1024, zI_1600, zI_1602, zI_1700, zI_2040, zI_3200, zI_4100, zI_9728, zI_11784, zI_61440, zI_65536, zI_470536, zI_999999, zI_1000000, lt_T, lt_F, le_T, le_F, eq_T, eq_F, neg_1, cn_m1p, cn_m11, nI_add, cn_sub, pk_mul, cn_div, cn_irm, cn_lt, cn_eq, cn_ltm1, cn_m1lt, cn_eqm1, cn_m1eq, cn_ix, cn_inb, cn_ninb, cn_irs, cn_ils, cn_and, cn_or, cn_xor, grd_t, grd_bt, grd_bl, Nat.add_zero, Nat.zero_add, Nat.reduceAdd, Nat.reduceSub, Nat.reduceMul, Nat.reduceLT, Nat.reduceEqDiff, eq_self, true_and, and_true, and_false, false_and, if_true, if_false, and_self, Bool.true_eq_false, Bool.false_eq_true]
        · have qm : (m1 = -1) = True := eq_true rfl
          rw [g3, Option.bind_some]
          simp (disch := first | omega | decide) only [f_M_ask_j109, r5, l, ch, qm, zI_0, zI_1, zI_2, zI_3, zI_4, zI_5, zI_6, zI_7, zI_8, zI_9, zI_10, zI_11, zI_12, zI_13, zI_14, zI_15, zI_16, zI_17, zI_18, zI_19, zI_20, zI_21, zI_22, zI_23, zI_24, zI_25, zI_26, zI_27, zI_28, zI_29, zI_30, zI_31, zI_32, zI_33, zI_34, zI_35, zI_36, zI_37, zI_38, zI_39, zI_40, zI_41, zI_42, zI_43, zI_44, zI_45, zI_46, zI_47, zI_48, zI_49, zI_50, zI_51, zI_52, zI_53, zI_54, zI_55, zI_56, zI_57, zI_58, zI_59, zI_60, zI_61, zI_62, zI_63, zI_64, zI_65, zI_66, zI_67, zI_74, zI_84, zI_85, zI_88, zI_91, zI_93, zI_97, zI_99, zI_100, zI_102, zI_105, zI_117, zI_122, zI_193, zI_202, zI_205, zI_251, zI_255, zI_256, zI_257, zI_258, zI_259, zI_260, zI_640, zI_999, zI_1000, zI_1024, zI_1600, zI_1602, zI_1700, zI_2040, zI_3200, zI_4100, zI_9728, zI_11784, zI_61440, zI_65536, zI_470536, zI_999999, zI_1000000, lt_T, lt_F, le_T, le_F, eq_T, eq_F, neg_1, cn_m1p, cn_m11, nI_add, cn_sub, pk_mul, cn_div, cn_irm, cn_lt, cn_eq, cn_ltm1, cn_m1lt, cn_eqm1, cn_m1eq, cn_ix, cn_inb, cn_ninb, cn_irs, cn_ils, cn_and, cn_or, cn_xor, grd_t, grd_bt, grd_bl, Nat.add_zero, Nat.zero_add, Nat.reduceAdd, Nat.reduceSub, Nat.reduceMul, Nat.reduceLT, Nat.reduceEqDiff, eq_self, true_and, and_true, and_false, false_and, if_true, if_false, and_self, Bool.true_eq_false, Bool.false_eq_true, Option.bind_some]
      · left
        have kn : kK tp n p' b' ≠ 258 := by
          have hb := ht _ (show skp tp n p' < n by omega)
          unfold kK
          rw [if_neg ce]
          split
          · split <;> omega
          · split
            · split <;> omega
            · omega
        have qk : (nI (kK tp n p' b') = nI 258) = False := by rw [cn_eq (by omega)]; exact eq_false kn
        have ch : (chM tp n p' = m1) = False := by
          have hb := ht _ (show skp tp n p' < n by omega)
          unfold chM; rw [if_pos (by omega)]
          exact cn_eqm1 (by omega)
        obtain ⟨s4, f4, D4⟩ := c_fail (N := N) (k := 1) (w := skp tp n p') E2 X3 (by omega) (by omega)
        obtain ⟨t4, g4, B4, F4⟩ := mfail_l (N := N) (t := lk tp n p' t3) (k := 1) (w := skp tp n p') (r_eq R4).2.1 (by omega)
        have BT4 := BT_of R4 (by omega) F4 (by decide) (by decide) B4
        obtain ⟨c1, c2, c3⟩ := fin t4 1 (skp tp n p') B4 BT4.2.1
        have k1 := X3.2.1.1
        have k2 := X3.2.1.2.1
        have j4 := j133_b (N := N) (v := nI k) B4
        refine ⟨nI (25 + k), 1, skp tp n p', s4, _, ?_, D4.1.1, Fr_t (Fr_w F02 (by decide)) (Fr_w D4.2 (by decide)), ?_, c1, c2, c3⟩
        · rw [f3, Option.bind_some]
          generalize kK tp n p' b' = K at *
          simp (disch := first | omega | decide) only [f_Rd_question_j47, k1, k2, qk, f4, zI_0, zI_1, zI_2, zI_3, zI_4, zI_5, zI_6, zI_7, zI_8, zI_9, zI_10, zI_11, zI_12, zI_13, zI_14, zI_15, zI_16, zI_17, zI_18, zI_19, zI_20, zI_21, zI_22, zI_23, zI_24, zI_25, zI_26, zI_27, zI_28, zI_29, zI_30, zI_31, zI_32, zI_33, zI_34, zI_35, zI_36, zI_37, zI_38, zI_39, zI_40, zI_41, zI_42, zI_43, zI_44, zI_45, zI_46, zI_47, zI_48, zI_49, zI_50, zI_51, zI_52, zI_53, zI_54, zI_55, zI_56, zI_57, zI_58, zI_59, zI_60, zI_61, zI_62, zI_63, zI_64, zI_65, zI_66, zI_67, zI_74, zI_84, zI_85, zI_88, zI_91, zI_93, zI_97, zI_99, zI_100, zI_102, zI_105, zI_117, zI_122, zI_193, zI_202, zI_205, zI_251, zI_255, zI_256, zI_257, zI_258, zI_259, zI_260, zI_640, zI_999, zI_1000, zI_1024, zI_1600, zI_1602, zI_1700, zI_2040, zI_3200, zI_4100, zI_9728, zI_11784, zI_61440, zI_65536, zI_470536, zI_999999, zI_1000000, Nat.reduceAdd, Nat.reduceSub, Nat.reduceMul, Nat.reduceLT, Nat.reduceEqDiff, eq_self, true_and, and_true, and_false, false_and, if_true, if_false, and_self, Bool.true_eq_false, Bool.false_eq_true, Option.bind_some]
        · rw [g3, Option.bind_some]
          generalize chM tp n p' = cc at *
          simp (disch := first | omega | decide) only [f_M_ask_j109, r5, l, neg_1, ch, e4, g4, j4, zI_0, zI_1, zI_2, zI_3, zI_4, zI_5, zI_6, zI_7, zI_8, zI_9, zI_10, zI_11, zI_12, zI_13, zI_14, zI_15, zI_16, zI_17, zI_18, zI_19, zI_20, zI_21, zI_22, zI_23, zI_24, zI_25, zI_26, zI_27, zI_28, zI_29, zI_30, zI_31, zI_32, zI_33, zI_34, zI_35, zI_36, zI_37, zI_38, zI_39, zI_40, zI_41, zI_42, zI_43, zI_44, zI_45, zI_46, zI_47, zI_48, zI_49, zI_50, zI_51, zI_52, zI_53, zI_54, zI_55, zI_56, zI_57, zI_58, zI_59, zI_60, zI_61, zI_62, zI_63, zI_64, zI_65, zI_66, zI_67, zI_74, zI_84, zI_85, zI_88, zI_91, zI_93, zI_97, zI_99, zI_100, zI_102, zI_105, zI_117, zI_122, zI_193, zI_202, zI_205, zI_251, zI_255, zI_256, zI_257, zI_258, zI_259, zI_260, zI_640, zI_999, zI_1000, zI_1024, zI_1600, zI_1602, zI_1700, zI_2040, zI_3200, zI_4100, zI_9728, zI_11784, zI_61440, zI_65536, zI_470536, zI_999999, zI_1000000, cn_eq, Nat.reduceAdd, Nat.reduceSub, Nat.reduceMul, Nat.reduceLT, Nat.reduceEqDiff, eq_self, true_and, and_true, and_false, false_and, if_true, if_false, and_self, Bool.true_eq_false, Bool.false_eq_true, Option.bind_some]
end ASK
