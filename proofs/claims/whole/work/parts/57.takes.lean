/-! THE REFERENCE TAKES: words, signs, numbers -/
section TAKES
variable {N n p o : Nat} {tp : Nat → Nat} {b : Bool} {t : mS}
theorem m1_0 : nI 0 + m1 = m1 := rfl
theorem m1_s (j : Nat) : nI (j + 1) + m1 = nI j := by rw [← nI_add, Int32.add_assoc, show nI 1 + m1 = 0 from rfl, Int32.add_zero]
theorem RB_ht (h : RB tp n p b t) : ∀ i, i < n → tp i < 256 := fun i hi => (h.1.2.2 i hi).1
theorem kE_w (ht : ∀ i, i < n → tp i < 256) (hp : p ≤ n) (ho : o ∈ kWo) (h : wdA tp n p b = woJ o + 1) : kE tp n p = skp tp n p + (wdL (woJ o)).length := by
  obtain ⟨w1, w2, w3, w4, w5⟩ := woJ_ok o ho
  have ek := wdA_k h
  obtain ⟨c, cl, ct⟩ := kK_w ht ek
  have sb := skp_b (tp := tp) hp
  have gt := wEn_gt (tp := tp) c cl
  have wb := wEn_b (tp := tp) (n := n) (p := skp tp n p) (by omega)
  have ez : kZ tp n p = wEn tp n (skp tp n p) - skp tp n p := by unfold kZ; rw [if_neg (by omega), if_pos cl]
  have es : kS tp n p = spW tp (skp tp n p) (min 6 (kZ tp n p)) := by unfold kS; rw [if_neg (by omega), if_pos cl]
  have ew : wdA tp n p b = wId (kZ tp n p) (spW tp (skp tp n p) (min 6 (kZ tp n p))) := by unfold wdA; rw [if_pos ek, es]
  have ee : kE tp n p = wEn tp n (skp tp n p) := by unfold kE; rw [if_neg (by omega), if_pos cl]
  have iff := wId_iff (tp := tp) (q := skp tp n p) (z := kZ tp n p) w1 (by omega) (fun i hi => word_in (n := n) (by omega))
  rw [← ew] at iff
  have := (iff.1 h).1
  omega
/-- the cursor set behind the token -/
noncomputable def tkS (q : Nat) (t : mS) : mS := sI (sI t 1002 0 (nI q)) 1004 0 (nI q)
theorem AtM_tk {q : Nat} (hq : q ≤ n) (t : mS) : AtM tp n q true (tkS q t) :=
  ⟨hq, ⟨q + 1, by unfold tkS; simp (disch := first | omega | decide) only [gI_sI, gI_sA, gI_sL, gI_sQ, gI_sC, gI_sO, gI_sD, gA_sI, gA_sL, gA_sQ, gA_sO, gA_sD, gL_sI, gL_sA, gL_sQ, gL_sC, gL_sO, gL_sD, gQ_sI, gQ_sA, gQ_sL, gQ_sC, gQ_sO, gO_sI, gO_sA, gO_sL, gO_sQ, gO_sC, gO_sO, gO_sD, gA_eq, gA_ne, gQ_eq, gQ_ne, gL_sL, gA_cin, gA_cou, gQ_cin, gQ_cou, Nat.reduceAdd, Nat.reduceSub, Nat.reduceMul, Nat.reduceLT, Nat.reduceEqDiff, eq_self, true_and, and_true, and_false, false_and, if_true, if_false, and_self, Bool.true_eq_false, Bool.false_eq_true]; exact (m1_s _).symm, fun _ => rfl, fun h => by cases h⟩, q, by unfold tkS; simp (disch := first | omega | decide) only [gI_sI, gI_sA, gI_sL, gI_sQ, gI_sC, gI_sO, gI_sD, gA_sI, gA_sL, gA_sQ, gA_sO, gA_sD, gL_sI, gL_sA, gL_sQ, gL_sC, gL_sO, gL_sD, gQ_sI, gQ_sA, gQ_sL, gQ_sC, gQ_sO, gO_sI, gO_sA, gO_sL, gO_sQ, gO_sC, gO_sO, gO_sD, gA_eq, gA_ne, gQ_eq, gQ_ne, gL_sL, gA_cin, gA_cou, gQ_cin, gQ_cou, Nat.reduceAdd, Nat.reduceSub, Nat.reduceMul, Nat.reduceLT, Nat.reduceEqDiff, eq_self, true_and, and_true, and_false, false_and, if_true, if_false, and_self, Bool.true_eq_false, Bool.false_eq_true], Nat.le_refl _, (skp_b hq).1⟩
theorem Fr_tk (q : Nat) (t : mS) : Fr kAt t (tkS q t) := Fr_t (Fr_sI _ _ _ (by decide)) (Fr_sI _ _ _ (by decide))
theorem RB_tk {q : Nat} (hq : q ≤ n) (h : RB tp n p b t) : RB tp n q true (tkS q t) :=
  ⟨RxM_fr (Fr_tk q t) (by decide) h.1, MWd_fr (Fr_tk q t) (by decide) h.2.1, by rw [(Fr_tk q t).I 1005 0 (by decide)]; exact h.2.2.1, AtM_tk hq t⟩
theorem takes_b (h : RB tp n p b t) (ho : o ∈ kWo) (hN : 10000 ≤ N) :
    (wdA tp n p b = woJ o + 1 → ∃ t', f_M_takes N o t = some (nI 1, t') ∧ RB tp n (kE tp n p) true t' ∧ Fr kAt t t') ∧
    (wdA tp n p b ≠ woJ o + 1 → f_M_takes N o t = some (nI 0, lk tp n p t)) := by
  have ih := isHere_b h ho hN
  have hp := h.2.2.2.1
  obtain ⟨w1, w2, w3, w4, w5⟩ := woJ_ok o ho
  have eL : Int32.ofNat (alA Sm o) = nI (wdL (woJ o)).length := by rw [w3]; rfl
  refine ⟨fun c => ?_, fun c => ?_⟩
  · rw [if_pos c] at ih
    have hL := RB_lk h
    refine ⟨tkS (kE tp n p) (lk tp n p t), ?_, RB_tk (kE_b hp).2.1 (RL_RB hL), Fr_t (Fr_w Fr_lk (by decide)) (Fr_tk _ _)⟩
    have e2 := hL.2.2.2.2.2
    have e3 := kE_w (RB_ht h) hp ho c
    rw [e3]
    simp (disch := first | omega | decide) only [f_M_takes, ih, w2, eL, e2, zI_0, zI_1, zI_2, zI_3, zI_4, zI_5, zI_6, zI_7, zI_8, zI_9, zI_10, zI_11, zI_12, zI_13, zI_14, zI_15, zI_16, zI_17, zI_18, zI_19, zI_20, zI_21, zI_22, zI_23, zI_24, zI_25, zI_26, zI_27, zI_28, zI_29, zI_30, zI_31, zI_32, zI_33, zI_34, zI_35, zI_36, zI_37, zI_38, zI_39, zI_40, zI_41, zI_42, zI_43, zI_44, zI_45, zI_46, zI_47, zI_48, zI_49, zI_50, zI_51, zI_52, zI_53, zI_54, zI_55, zI_56, zI_57, zI_58, zI_59, zI_60, zI_61, zI_62, zI_63, zI_64, zI_65, zI_66, zI_67, zI_74, zI_84, zI_85, zI_88, zI_91, zI_93, zI_97, zI_99, zI_100, zI_102, zI_105, zI_117, zI_122, zI_193, zI_202, zI_205, zI_251, zI_255, zI_256, zI_257, zI_258, zI_259, zI_260, zI_640, zI_999, zI_1000, zI_1024, zI_1600, zI_1602, zI_1700, zI_2040, zI_3200, zI_4100, zI_9728, zI_11784, zI_61440, zI_65536, zI_470536, zI_999999, zI_1000000, lt_T, lt_F, le_T, le_F, eq_T, eq_F, neg_1, cn_m1p, cn_m11, nI_add, cn_sub, pk_mul, cn_div, cn_irm, cn_lt, cn_eq, cn_ltm1, cn_m1lt, cn_eqm1, cn_m1eq, cn_ix, cn_inb, cn_ninb, cn_irs, cn_ils, cn_and, cn_or, cn_xor, grd_t, grd_bt, grd_bl, Nat.add_zero, Nat.zero_add, Nat.reduceAdd, Nat.reduceSub, Nat.reduceMul, Nat.reduceLT, Nat.reduceEqDiff, eq_self, true_and, and_true, and_false, false_and, if_true, if_false, and_self, Bool.true_eq_false, Bool.false_eq_true, gI_sI, gI_sA, gI_sL, gI_sQ, gI_sC, gI_sO, gI_sD, gA_sI, gA_sL, gA_sQ, gA_sO, gA_sD, gL_sI, gL_sA, gL_sQ, gL_sC, gL_sO, gL_sD, gQ_sI, gQ_sA, gQ_sL, gQ_sC, gQ_sO, gO_sI, gO_sA, gO_sL, gO_sQ, gO_sC, gO_sO, gO_sD, gA_eq, gA_ne, gQ_eq, gQ_ne, gL_sL, gA_cin, gA_cou, gQ_cin, gQ_cou, Option.bind_some, tkS]
  · rw [if_neg c] at ih
    simp (disch := first | omega | decide) only [f_M_takes, ih, zI_0, zI_1, zI_2, zI_3, zI_4, zI_5, zI_6, zI_7, zI_8, zI_9, zI_10, zI_11, zI_12, zI_13, zI_14, zI_15, zI_16, zI_17, zI_18, zI_19, zI_20, zI_21, zI_22, zI_23, zI_24, zI_25, zI_26, zI_27, zI_28, zI_29, zI_30, zI_31, zI_32, zI_33, zI_34, zI_35, zI_36, zI_37, zI_38, zI_39, zI_40, zI_41, zI_42, zI_43, zI_44, zI_45, zI_46, zI_47, zI_48, zI_49, zI_50, zI_51, zI_52, zI_53, zI_54, zI_55, zI_56, zI_57, zI_58, zI_59, zI_60, zI_61, zI_62, zI_63, zI_64, zI_65, zI_66, zI_67, zI_74, zI_84, zI_85, zI_88, zI_91, zI_93, zI_97, zI_99, zI_100, zI_102, zI_105, zI_117, zI_122, zI_193, zI_202, zI_205, zI_251, zI_255, zI_256, zI_257, zI_258, zI_259, zI_260, zI_640, zI_999, zI_1000, zI_1024, zI_1600, zI_1602, zI_1700, zI_2040, zI_3200, zI_4100, zI_9728, zI_11784, zI_61440, zI_65536, zI_470536, zI_999999, zI_1000000, lt_T, lt_F, le_T, le_F, eq_T, eq_F, neg_1, cn_m1p, cn_m11, nI_add, cn_sub, pk_mul, cn_div, cn_irm, cn_lt, cn_eq, cn_ltm1, cn_m1lt, cn_eqm1, cn_m1eq, cn_ix, cn_inb, cn_ninb, cn_irs, cn_ils, cn_and, cn_or, cn_xor, grd_t, grd_bt, grd_bl, Nat.add_zero, Nat.zero_add, Nat.reduceAdd, Nat.reduceSub, Nat.reduceMul, Nat.reduceLT, Nat.reduceEqDiff, eq_self, true_and, and_true, and_false, false_and, if_true, if_false, and_self, Bool.true_eq_false, Bool.false_eq_true, Option.bind_some]
theorem asks_b (h : RB tp n p b t) (ho : o ∈ kWo) (hN : 10000 ≤ N) :
    (wdA tp n p b = woJ o + 1 → ∃ t', f_M_asks N o t = some t' ∧ RB tp n (kE tp n p) true t' ∧ Fr kAt t t') ∧
    (wdA tp n p b ≠ woJ o + 1 → ∃ t', f_M_asks N o t = some t' ∧ BdM 1 (skp tp n p) t' ∧ Fr kAf t t') := by
  have h5 := h.2.2.1
  obtain ⟨i1, i2⟩ := takes_b h ho hN
  refine ⟨fun c => ?_, fun c => ?_⟩
  · obtain ⟨t', e, R, F⟩ := i1 c
    refine ⟨t', ?_, R, F⟩
    simp (disch := first | omega | decide) only [f_M_asks, h5, e, zI_0, zI_1, zI_2, zI_3, zI_4, zI_5, zI_6, zI_7, zI_8, zI_9, zI_10, zI_11, zI_12, zI_13, zI_14, zI_15, zI_16, zI_17, zI_18, zI_19, zI_20, zI_21, zI_22, zI_23, zI_24, zI_25, zI_26, zI_27, zI_28, zI_29, zI_30, zI_31, zI_32, zI_33, zI_34, zI_35, zI_36, zI_37, zI_38, zI_39, zI_40, zI_41, zI_42, zI_43, zI_44, zI_45, zI_46, zI_47, zI_48, zI_49, zI_50, zI_51, zI_52, zI_53, zI_54, zI_55, zI_56, zI_57, zI_58, zI_59, zI_60, zI_61, zI_62, zI_63, zI_64, zI_65, zI_66, zI_67, zI_74, zI_84, zI_85, zI_88, zI_91, zI_93, zI_97, zI_99, zI_100, zI_102, zI_105, zI_117, zI_122, zI_193, zI_202, zI_205, zI_251, zI_255, zI_256, zI_257, zI_258, zI_259, zI_260, zI_640, zI_999, zI_1000, zI_1024, zI_1600, zI_1602, zI_1700, zI_2040, zI_3200, zI_4100, zI_9728, zI_11784, zI_61440, zI_65536, zI_470536, zI_999999, zI_1000000, lt_T, lt_F, le_T, le_F, eq_T, eq_F, neg_1, cn_m1p, cn_m11, nI_add, cn_sub, pk_mul, cn_div, cn_irm, cn_lt, cn_eq, cn_ltm1, cn_m1lt, cn_eqm1, cn_m1eq, cn_ix, cn_inb, cn_ninb, cn_irs, cn_ils, cn_and, cn_or, cn_xor, grd_t, grd_bt, grd_bl, Nat.add_zero, Nat.zero_add, Nat.reduceAdd, Nat.reduceSub, Nat.reduceMul, Nat.reduceLT, Nat.reduceEqDiff, eq_self, true_and, and_true, and_false, false_and, if_true, if_false, and_self, Bool.true_eq_false, Bool.false_eq_true, Option.bind_some]
  · have e := i2 c
    have hL := RB_lk h
    have e2 := hL.2.2.2.2.2
    obtain ⟨t', f, B, F⟩ := mfail_l (N := N) (k := 1) (w := skp tp n p) hL.2.2.1 (by omega)
    refine ⟨t', ?_, B, Fr_t (Fr_w Fr_lk (by decide)) F⟩
    simp (disch := first | omega | decide) only [f_M_asks, h5, e, e2, f, zI_0, zI_1, zI_2, zI_3, zI_4, zI_5, zI_6, zI_7, zI_8, zI_9, zI_10, zI_11, zI_12, zI_13, zI_14, zI_15, zI_16, zI_17, zI_18, zI_19, zI_20, zI_21, zI_22, zI_23, zI_24, zI_25, zI_26, zI_27, zI_28, zI_29, zI_30, zI_31, zI_32, zI_33, zI_34, zI_35, zI_36, zI_37, zI_38, zI_39, zI_40, zI_41, zI_42, zI_43, zI_44, zI_45, zI_46, zI_47, zI_48, zI_49, zI_50, zI_51, zI_52, zI_53, zI_54, zI_55, zI_56, zI_57, zI_58, zI_59, zI_60, zI_61, zI_62, zI_63, zI_64, zI_65, zI_66, zI_67, zI_74, zI_84, zI_85, zI_88, zI_91, zI_93, zI_97, zI_99, zI_100, zI_102, zI_105, zI_117, zI_122, zI_193, zI_202, zI_205, zI_251, zI_255, zI_256, zI_257, zI_258, zI_259, zI_260, zI_640, zI_999, zI_1000, zI_1024, zI_1600, zI_1602, zI_1700, zI_2040, zI_3200, zI_4100, zI_9728, zI_11784, zI_61440, zI_65536, zI_470536, zI_999999, zI_1000000, lt_T, lt_F, le_T, le_F, eq_T, eq_F, neg_1, cn_m1p, cn_m11, nI_add, cn_sub, pk_mul, cn_div, cn_irm, cn_lt, cn_eq, cn_ltm1, cn_m1lt, cn_eqm1, cn_m1eq, cn_ix, cn_inb, cn_ninb, cn_irs, cn_ils, cn_and, cn_or, cn_xor, grd_t, grd_bt, grd_bl, Nat.add_zero, Nat.zero_add, Nat.reduceAdd, Nat.reduceSub, Nat.reduceMul, Nat.reduceLT, Nat.reduceEqDiff, eq_self, true_and, and_true, and_false, false_and, if_true, if_false, and_self, Bool.true_eq_false, Bool.false_eq_true, Option.bind_some]
def SgC (c : Nat) : Prop := c < 97 ∧ (c < 48 ∨ 57 < c)
theorem chM_sg {c : Nat} (hc : SgC c) (ht : ∀ i, i < n → tp i < 256) : (chM tp n p = nI c) = (kK tp n p b = c) := by
  obtain ⟨c1, c2⟩ := hc
  unfold chM kK
  by_cases cq : skp tp n p < n
  · have hb := ht _ cq
    rw [if_pos cq, if_neg (by omega), cn_eq (by omega)]
    by_cases cl : isLe (tp (skp tp n p)) = true
    · have l : 97 ≤ tp (skp tp n p) ∧ tp (skp tp n p) ≤ 122 := of_decide_eq_true cl
      rw [if_pos cl]
      refine propext ⟨fun h => by omega, fun h => ?_⟩
      exfalso
      split at h <;> omega
    · rw [if_neg cl]
      by_cases cd : isDi (tp (skp tp n p)) = true
      · have l : 48 ≤ tp (skp tp n p) ∧ tp (skp tp n p) ≤ 57 := of_decide_eq_true cd
        rw [if_pos cd]
        refine propext ⟨fun h => by omega, fun h => ?_⟩
        exfalso
        split at h <;> omega
      · rw [if_neg cd]
  · rw [if_neg cq, if_pos (by omega), cn_m1eq (by omega)]
    exact propext ⟨fun h => h.elim, fun h => by omega⟩
theorem kK_sg {c : Nat} (hc : SgC c) (h : kK tp n p b = c) : skp tp n p < n ∧ tp (skp tp n p) = c ∧ kE tp n p = skp tp n p + 1 ∧ nbK (kK tp n p b) = false := by
  obtain ⟨c1, c2⟩ := hc
  have nb : nbK (kK tp n p b) = false := decide_eq_false (by omega)
  unfold kK at h
  by_cases cq : n ≤ skp tp n p
  · rw [if_pos cq] at h; omega
  · rw [if_neg cq] at h
    by_cases cl : isLe (tp (skp tp n p)) = true
    · rw [if_pos cl] at h
      exfalso
      split at h <;> omega
    · rw [if_neg cl] at h
      by_cases cd : isDi (tp (skp tp n p)) = true
      · rw [if_pos cd] at h
        exfalso
        split at h <;> omega
      · rw [if_neg cd] at h
        refine ⟨by omega, h, ?_, nb⟩
        unfold kE
        rw [if_neg cq, if_neg cl, if_neg cd]
/-- the place set behind a sign -/
theorem AtM_sg {q : Nat} (hq : q + 1 ≤ n) (hpq : p ≤ q) (h : AtM tp n p b t) : AtM tp n (q + 1) false (sI t 1002 0 (nI (q + 1))) := by
  obtain ⟨h1, ⟨e, h2, h3, h4⟩, _⟩ := h
  refine ⟨hq, ⟨e, by simp (disch := first | omega | decide) only [gI_sI, gI_sA, gI_sL, gI_sQ, gI_sC, gI_sO, gI_sD, gA_sI, gA_sL, gA_sQ, gA_sO, gA_sD, gL_sI, gL_sA, gL_sQ, gL_sC, gL_sO, gL_sD, gQ_sI, gQ_sA, gQ_sL, gQ_sC, gQ_sO, gO_sI, gO_sA, gO_sL, gO_sQ, gO_sC, gO_sO, gO_sD, gA_eq, gA_ne, gQ_eq, gQ_ne, gL_sL, gA_cin, gA_cou, gQ_cin, gQ_cou, Nat.reduceAdd, Nat.reduceSub, Nat.reduceMul, Nat.reduceLT, Nat.reduceEqDiff, eq_self, true_and, and_true, and_false, false_and, if_true, if_false, and_self, Bool.true_eq_false, Bool.false_eq_true]; exact h2, fun h => (by cases h), fun _ => ?_⟩, q + 1, by simp (disch := first | omega | decide) only [gI_sI, gI_sA, gI_sL, gI_sQ, gI_sC, gI_sO, gI_sD, gA_sI, gA_sL, gA_sQ, gA_sO, gA_sD, gL_sI, gL_sA, gL_sQ, gL_sC, gL_sO, gL_sD, gQ_sI, gQ_sA, gQ_sL, gQ_sC, gQ_sO, gO_sI, gO_sA, gO_sL, gO_sQ, gO_sC, gO_sO, gO_sD, gA_eq, gA_ne, gQ_eq, gQ_ne, gL_sL, gA_cin, gA_cou, gQ_cin, gQ_cou, Nat.reduceAdd, Nat.reduceSub, Nat.reduceMul, Nat.reduceLT, Nat.reduceEqDiff, eq_self, true_and, and_true, and_false, false_and, if_true, if_false, and_self, Bool.true_eq_false, Bool.false_eq_true], Nat.le_refl _, (skp_b hq).1⟩
  cases b with
  | true => have := h3 rfl; omega
  | false => have := h4 rfl; omega
theorem Fr_sg {q : Nat} : Fr [110200] t (sI t 1002 0 (nI q)) := Fr_sI _ _ _ (by decide)
theorem RB_sg {q : Nat} (hq : q + 1 ≤ n) (hpq : p ≤ q) (h : RB tp n p b t) : RB tp n (q + 1) false (sI t 1002 0 (nI (q + 1))) :=
  ⟨RxM_fr Fr_sg (by decide) h.1, MWd_fr Fr_sg (by decide) h.2.1, by rw [Fr_sg.I 1005 0 (by decide)]; exact h.2.2.1, AtM_sg hq hpq h.2.2.2⟩
theorem takesSign_b {c : Nat} (hc : SgC c) (h : RB tp n p b t) (hN : 10000 ≤ N) :
    (kK tp n p b = c → ∃ t', f_M_takesSign N (nI c) t = some (nI 1, t') ∧ RB tp n (kE tp n p) (nbK (kK tp n p b)) t' ∧ gI t' 1002 0 = nI (skp tp n p + 1) ∧ Fr [110200] t t') ∧
    (kK tp n p b ≠ c → f_M_takesSign N (nI c) t = some (nI 0, lk tp n p t)) := by
  have l := look_b h hN
  have hL := RB_lk h
  have e2 := hL.2.2.2.2.2
  have h5 := h.2.2.1
  have hp := h.2.2.2.1
  have sb := skp_b (tp := tp) hp
  have q := chM_sg (b := b) (p := p) hc (RB_ht h)
  refine ⟨fun k => ?_, fun k => ?_⟩
  · obtain ⟨k1, k2, k3, k4⟩ := kK_sg hc k
    have q := q.trans (eq_true k)
    refine ⟨sI (lk tp n p t) 1002 0 (nI (skp tp n p + 1)), ?_, by rw [k3, k4]; exact RB_sg (by omega) sb.1 (RL_RB hL), by simp (disch := first | omega | decide) only [gI_sI, gI_sA, gI_sL, gI_sQ, gI_sC, gI_sO, gI_sD, gA_sI, gA_sL, gA_sQ, gA_sO, gA_sD, gL_sI, gL_sA, gL_sQ, gL_sC, gL_sO, gL_sD, gQ_sI, gQ_sA, gQ_sL, gQ_sC, gQ_sO, gO_sI, gO_sA, gO_sL, gO_sQ, gO_sC, gO_sO, gO_sD, gA_eq, gA_ne, gQ_eq, gQ_ne, gL_sL, gA_cin, gA_cou, gQ_cin, gQ_cou, Nat.reduceAdd, Nat.reduceSub, Nat.reduceMul, Nat.reduceLT, Nat.reduceEqDiff, eq_self, true_and, and_true, and_false, false_and, if_true, if_false, and_self, Bool.true_eq_false, Bool.false_eq_true], Fr_t Fr_lk (Fr_sI _ _ _ (by decide))⟩
    simp (disch := first | omega | decide) only [f_M_takesSign, h5, l, q, e2, zI_0, zI_1, zI_2, zI_3, zI_4, zI_5, zI_6, zI_7, zI_8, zI_9, zI_10, zI_11, zI_12, zI_13, zI_14, zI_15, zI_16, zI_17, zI_18, zI_19, zI_20, zI_21, zI_22, zI_23, zI_24, zI_25, zI_26, zI_27, zI_28, zI_29, zI_30, zI_31, zI_32, zI_33, zI_34, zI_35, zI_36, zI_37, zI_38, zI_39, zI_40, zI_41, zI_42, zI_43, zI_44, zI_45, zI_46, zI_47, zI_48, zI_49, zI_50, zI_51, zI_52, zI_53, zI_54, zI_55, zI_56, zI_57, zI_58, zI_59, zI_60, zI_61, zI_62, zI_63, zI_64, zI_65, zI_66, zI_67, zI_74, zI_84, zI_85, zI_88, zI_91, zI_93, zI_97, zI_99, zI_100, zI_102, zI_105, zI_117, zI_122, zI_193, zI_202, zI_205, zI_251, zI_255, zI_256, zI_257, zI_258, zI_259, zI_260, zI_640, zI_999, zI_1000, zI_1024, zI_1600, zI_1602, zI_1700, zI_2040, zI_3200, zI_4100, zI_9728, zI_11784, zI_61440, zI_65536, zI_470536, zI_999999, zI_1000000, lt_T, lt_F, le_T, le_F, eq_T, eq_F, neg_1, cn_m1p, cn_m11, nI_add, cn_sub, pk_mul, cn_div, cn_irm, cn_lt, cn_eq, cn_ltm1, cn_m1lt, cn_eqm1, cn_m1eq, cn_ix, cn_inb, cn_ninb, cn_irs, cn_ils, cn_and, cn_or, cn_xor, grd_t, grd_bt, grd_bl, Nat.add_zero, Nat.zero_add, Nat.reduceAdd, Nat.reduceSub, Nat.reduceMul, Nat.reduceLT, Nat.reduceEqDiff, eq_self, true_and, and_true, and_false, false_and, if_true, if_false, and_self, Bool.true_eq_false, Bool.false_eq_true, gI_sI, gI_sA, gI_sL, gI_sQ, gI_sC, gI_sO, gI_sD, gA_sI, gA_sL, gA_sQ, gA_sO, gA_sD, gL_sI, gL_sA, gL_sQ, gL_sC, gL_sO, gL_sD, gQ_sI, gQ_sA, gQ_sL, gQ_sC, gQ_sO, gO_sI, gO_sA, gO_sL, gO_sQ, gO_sC, gO_sO, gO_sD, gA_eq, gA_ne, gQ_eq, gQ_ne, gL_sL, gA_cin, gA_cou, gQ_cin, gQ_cou, Option.bind_some]
  · have q := q.trans (eq_false k)
    simp (disch := first | omega | decide) only [f_M_takesSign, h5, l, q, zI_0, zI_1, zI_2, zI_3, zI_4, zI_5, zI_6, zI_7, zI_8, zI_9, zI_10, zI_11, zI_12, zI_13, zI_14, zI_15, zI_16, zI_17, zI_18, zI_19, zI_20, zI_21, zI_22, zI_23, zI_24, zI_25, zI_26, zI_27, zI_28, zI_29, zI_30, zI_31, zI_32, zI_33, zI_34, zI_35, zI_36, zI_37, zI_38, zI_39, zI_40, zI_41, zI_42, zI_43, zI_44, zI_45, zI_46, zI_47, zI_48, zI_49, zI_50, zI_51, zI_52, zI_53, zI_54, zI_55, zI_56, zI_57, zI_58, zI_59, zI_60, zI_61, zI_62, zI_63, zI_64, zI_65, zI_66, zI_67, zI_74, zI_84, zI_85, zI_88, zI_91, zI_93, zI_97, zI_99, zI_100, zI_102, zI_105, zI_117, zI_122, zI_193, zI_202, zI_205, zI_251, zI_255, zI_256, zI_257, zI_258, zI_259, zI_260, zI_640, zI_999, zI_1000, zI_1024, zI_1600, zI_1602, zI_1700, zI_2040, zI_3200, zI_4100, zI_9728, zI_11784, zI_61440, zI_65536, zI_470536, zI_999999, zI_1000000, lt_T, lt_F, le_T, le_F, eq_T, eq_F, neg_1, cn_m1p, cn_m11, nI_add, cn_sub, pk_mul, cn_div, cn_irm, cn_lt, cn_eq, cn_ltm1, cn_m1lt, cn_eqm1, cn_m1eq, cn_ix, cn_inb, cn_ninb, cn_irs, cn_ils, cn_and, cn_or, cn_xor, grd_t, grd_bt, grd_bl, Nat.add_zero, Nat.zero_add, Nat.reduceAdd, Nat.reduceSub, Nat.reduceMul, Nat.reduceLT, Nat.reduceEqDiff, eq_self, true_and, and_true, and_false, false_and, if_true, if_false, and_self, Bool.true_eq_false, Bool.false_eq_true, Option.bind_some]
theorem asksSign_b {c : Nat} (hc : SgC c) (h : RB tp n p b t) (hN : 10000 ≤ N) :
    (kK tp n p b = c → ∃ t', f_M_asksSign N (nI c) t = some t' ∧ RB tp n (kE tp n p) (nbK (kK tp n p b)) t' ∧ Fr [110200] t t') ∧
    (kK tp n p b ≠ c → ∃ t', f_M_asksSign N (nI c) t = some t' ∧ BdM 1 (skp tp n p) t' ∧ Fr kAf t t') := by
  have h5 := h.2.2.1
  obtain ⟨i1, i2⟩ := takesSign_b hc h hN
  refine ⟨fun k => ?_, fun k => ?_⟩
  · obtain ⟨t', e, R, _, F⟩ := i1 k
    refine ⟨t', ?_, R, F⟩
    simp (disch := first | omega | decide) only [f_M_asksSign, h5, e, zI_0, zI_1, zI_2, zI_3, zI_4, zI_5, zI_6, zI_7, zI_8, zI_9, zI_10, zI_11, zI_12, zI_13, zI_14, zI_15, zI_16, zI_17, zI_18, zI_19, zI_20, zI_21, zI_22, zI_23, zI_24, zI_25, zI_26, zI_27, zI_28, zI_29, zI_30, zI_31, zI_32, zI_33, zI_34, zI_35, zI_36, zI_37, zI_38, zI_39, zI_40, zI_41, zI_42, zI_43, zI_44, zI_45, zI_46, zI_47, zI_48, zI_49, zI_50, zI_51, zI_52, zI_53, zI_54, zI_55, zI_56, zI_57, zI_58, zI_59, zI_60, zI_61, zI_62, zI_63, zI_64, zI_65, zI_66, zI_67, zI_74, zI_84, zI_85, zI_88, zI_91, zI_93, zI_97, zI_99, zI_100, zI_102, zI_105, zI_117, zI_122, zI_193, zI_202, zI_205, zI_251, zI_255, zI_256, zI_257, zI_258, zI_259, zI_260, zI_640, zI_999, zI_1000, zI_1024, zI_1600, zI_1602, zI_1700, zI_2040, zI_3200, zI_4100, zI_9728, zI_11784, zI_61440, zI_65536, zI_470536, zI_999999, zI_1000000, lt_T, lt_F, le_T, le_F, eq_T, eq_F, neg_1, cn_m1p, cn_m11, nI_add, cn_sub, pk_mul, cn_div, cn_irm, cn_lt, cn_eq, cn_ltm1, cn_m1lt, cn_eqm1, cn_m1eq, cn_ix, cn_inb, cn_ninb, cn_irs, cn_ils, cn_and, cn_or, cn_xor, grd_t, grd_bt, grd_bl, Nat.add_zero, Nat.zero_add, Nat.reduceAdd, Nat.reduceSub, Nat.reduceMul, Nat.reduceLT, Nat.reduceEqDiff, eq_self, true_and, and_true, and_false, false_and, if_true, if_false, and_self, Bool.true_eq_false, Bool.false_eq_true, Option.bind_some]
  · have e := i2 k
    have hL := RB_lk h
    have e2 := hL.2.2.2.2.2
    obtain ⟨t', f, B, F⟩ := mfail_l (N := N) (k := 1) (w := skp tp n p) hL.2.2.1 (by omega)
    refine ⟨t', ?_, B, Fr_t (Fr_w Fr_lk (by decide)) F⟩
    simp (disch := first | omega | decide) only [f_M_asksSign, h5, e, e2, f, zI_0, zI_1, zI_2, zI_3, zI_4, zI_5, zI_6, zI_7, zI_8, zI_9, zI_10, zI_11, zI_12, zI_13, zI_14, zI_15, zI_16, zI_17, zI_18, zI_19, zI_20, zI_21, zI_22, zI_23, zI_24, zI_25, zI_26, zI_27, zI_28, zI_29, zI_30, zI_31, zI_32, zI_33, zI_34, zI_35, zI_36, zI_37, zI_38, zI_39, zI_40, zI_41, zI_42, zI_43, zI_44, zI_45, zI_46, zI_47, zI_48, zI_49, zI_50, zI_51, zI_52, zI_53, zI_54, zI_55, zI_56, zI_57, zI_58, zI_59, zI_60, zI_61, zI_62, zI_63, zI_64, zI_65, zI_66, zI_67, zI_74, zI_84, zI_85, zI_88, zI_91, zI_93, zI_97, zI_99, zI_100, zI_102, zI_105, zI_117, zI_122, zI_193, zI_202, zI_205, zI_251, zI_255, zI_256, zI_257, zI_258, zI_259, zI_260, zI_640, zI_999, zI_1000, zI_1024, zI_1600, zI_1602, zI_1700, zI_2040, zI_3200, zI_4100, zI_9728, zI_11784, zI_61440, zI_65536, zI_470536, zI_999999, zI_1000000, lt_T, lt_F, le_T, le_F, eq_T, eq_F, neg_1, cn_m1p, cn_m11, nI_add, cn_sub, pk_mul, cn_div, cn_irm, cn_lt, cn_eq, cn_ltm1, cn_m1lt, cn_eqm1, cn_m1eq, cn_ix, cn_inb, cn_ninb, cn_irs, cn_ils, cn_and, cn_or, cn_xor, grd_t, grd_bt, grd_bl, Nat.add_zero, Nat.zero_add, Nat.reduceAdd, Nat.reduceSub, Nat.reduceMul, Nat.reduceLT, Nat.reduceEqDiff, eq_self, true_and, and_true, and_false, false_and, if_true, if_false, and_self, Bool.true_eq_false, Bool.false_eq_true, Option.bind_some]
/-- behind a fault nothing is asked for -/
theorem asks_d {k w : Nat} (h : BdM k w t) : f_M_asks N o t = some t := by
  obtain ⟨h1, h2, h3, h4⟩ := h
  simp (disch := first | omega | decide) only [f_M_asks, h3, zI_0, zI_1, zI_2, zI_3, zI_4, zI_5, zI_6, zI_7, zI_8, zI_9, zI_10, zI_11, zI_12, zI_13, zI_14, zI_15, zI_16, zI_17, zI_18, zI_19, zI_20, zI_21, zI_22, zI_23, zI_24, zI_25, zI_26, zI_27, zI_28, zI_29, zI_30, zI_31, zI_32, zI_33, zI_34, zI_35, zI_36, zI_37, zI_38, zI_39, zI_40, zI_41, zI_42, zI_43, zI_44, zI_45, zI_46, zI_47, zI_48, zI_49, zI_50, zI_51, zI_52, zI_53, zI_54, zI_55, zI_56, zI_57, zI_58, zI_59, zI_60, zI_61, zI_62, zI_63, zI_64, zI_65, zI_66, zI_67, zI_74, zI_84, zI_85, zI_88, zI_91, zI_93, zI_97, zI_99, zI_100, zI_102, zI_105, zI_117, zI_122, zI_193, zI_202, zI_205, zI_251, zI_255, zI_256, zI_257, zI_258, zI_259, zI_260, zI_640, zI_999, zI_1000, zI_1024, zI_1600, zI_1602, zI_1700, zI_2040, zI_3200, zI_4100, zI_9728, zI_11784, zI_61440, zI_65536, zI_470536, zI_999999, zI_1000000, lt_T, lt_F, le_T, le_F, eq_T, eq_F, neg_1, cn_m1p, cn_m11, nI_add, cn_sub, pk_mul, cn_div, cn_irm, cn_lt, cn_eq, cn_ltm1, cn_m1lt, cn_eqm1, cn_m1eq, cn_ix, cn_inb, cn_ninb, cn_irs, cn_ils, cn_and, cn_or, cn_xor, grd_t, grd_bt, grd_bl, Nat.add_zero, Nat.zero_add, Nat.reduceAdd, Nat.reduceSub, Nat.reduceMul, Nat.reduceLT, Nat.reduceEqDiff, eq_self, true_and, and_true, and_false, false_and, if_true, if_false, and_self, Bool.true_eq_false, Bool.false_eq_true]
theorem asksSign_d {k w : Nat} (h : BdM k w t) (c : Int32) : f_M_asksSign N c t = some t := by
  obtain ⟨h1, h2, h3, h4⟩ := h
  simp (disch := first | omega | decide) only [f_M_asksSign, h3, zI_0, zI_1, zI_2, zI_3, zI_4, zI_5, zI_6, zI_7, zI_8, zI_9, zI_10, zI_11, zI_12, zI_13, zI_14, zI_15, zI_16, zI_17, zI_18, zI_19, zI_20, zI_21, zI_22, zI_23, zI_24, zI_25, zI_26, zI_27, zI_28, zI_29, zI_30, zI_31, zI_32, zI_33, zI_34, zI_35, zI_36, zI_37, zI_38, zI_39, zI_40, zI_41, zI_42, zI_43, zI_44, zI_45, zI_46, zI_47, zI_48, zI_49, zI_50, zI_51, zI_52, zI_53, zI_54, zI_55, zI_56, zI_57, zI_58, zI_59, zI_60, zI_61, zI_62, zI_63, zI_64, zI_65, zI_66, zI_67, zI_74, zI_84, zI_85, zI_88, zI_91, zI_93, zI_97, zI_99, zI_100, zI_102, zI_105, zI_117, zI_122, zI_193, zI_202, zI_205, zI_251, zI_255, zI_256, zI_257, zI_258, zI_259, zI_260, zI_640, zI_999, zI_1000, zI_1024, zI_1600, zI_1602, zI_1700, zI_2040, zI_3200, zI_4100, zI_9728, zI_11784, zI_61440, zI_65536, zI_470536, zI_999999, zI_1000000, lt_T, lt_F, le_T, le_F, eq_T, eq_F, neg_1, cn_m1p, cn_m11, nI_add, cn_sub, pk_mul, cn_div, cn_irm, cn_lt, cn_eq, cn_ltm1, cn_m1lt, cn_eqm1, cn_m1eq, cn_ix, cn_inb, cn_ninb, cn_irs, cn_ils, cn_and, cn_or, cn_xor, grd_t, grd_bt, grd_bl, Nat.add_zero, Nat.zero_add, Nat.reduceAdd, Nat.reduceSub, Nat.reduceMul, Nat.reduceLT, Nat.reduceEqDiff, eq_self, true_and, and_true, and_false, false_and, if_true, if_false, and_self, Bool.true_eq_false, Bool.false_eq_true]
theorem isHere_d {k w : Nat} (h : BdM k w t) : f_M_isHere N o t = some (nI 0, t) := by
  obtain ⟨h1, h2, h3, h4⟩ := h
  simp (disch := first | omega | decide) only [f_M_isHere, h3, zI_0, zI_1, zI_2, zI_3, zI_4, zI_5, zI_6, zI_7, zI_8, zI_9, zI_10, zI_11, zI_12, zI_13, zI_14, zI_15, zI_16, zI_17, zI_18, zI_19, zI_20, zI_21, zI_22, zI_23, zI_24, zI_25, zI_26, zI_27, zI_28, zI_29, zI_30, zI_31, zI_32, zI_33, zI_34, zI_35, zI_36, zI_37, zI_38, zI_39, zI_40, zI_41, zI_42, zI_43, zI_44, zI_45, zI_46, zI_47, zI_48, zI_49, zI_50, zI_51, zI_52, zI_53, zI_54, zI_55, zI_56, zI_57, zI_58, zI_59, zI_60, zI_61, zI_62, zI_63, zI_64, zI_65, zI_66, zI_67, zI_74, zI_84, zI_85, zI_88, zI_91, zI_93, zI_97, zI_99, zI_100, zI_102, zI_105, zI_117, zI_122, zI_193, zI_202, zI_205, zI_251, zI_255, zI_256, zI_257, zI_258, zI_259, zI_260, zI_640, zI_999, zI_1000, zI_1024, zI_1600, zI_1602, zI_1700, zI_2040, zI_3200, zI_4100, zI_9728, zI_11784, zI_61440, zI_65536, zI_470536, zI_999999, zI_1000000, lt_T, lt_F, le_T, le_F, eq_T, eq_F, neg_1, cn_m1p, cn_m11, nI_add, cn_sub, pk_mul, cn_div, cn_irm, cn_lt, cn_eq, cn_ltm1, cn_m1lt, cn_eqm1, cn_m1eq, cn_ix, cn_inb, cn_ninb, cn_irs, cn_ils, cn_and, cn_or, cn_xor, grd_t, grd_bt, grd_bl, Nat.add_zero, Nat.zero_add, Nat.reduceAdd, Nat.reduceSub, Nat.reduceMul, Nat.reduceLT, Nat.reduceEqDiff, eq_self, true_and, and_true, and_false, false_and, if_true, if_false, and_self, Bool.true_eq_false, Bool.false_eq_true]
theorem takes_d {k w : Nat} (h : BdM k w t) : f_M_takes N o t = some (nI 0, t) := by
  have e := isHere_d (N := N) (o := o) h
  simp (disch := first | omega | decide) only [f_M_takes, e, zI_0, zI_1, zI_2, zI_3, zI_4, zI_5, zI_6, zI_7, zI_8, zI_9, zI_10, zI_11, zI_12, zI_13, zI_14, zI_15, zI_16, zI_17, zI_18, zI_19, zI_20, zI_21, zI_22, zI_23, zI_24, zI_25, zI_26, zI_27, zI_28, zI_29, zI_30, zI_31, zI_32, zI_33, zI_34, zI_35, zI_36, zI_37, zI_38, zI_39, zI_40, zI_41, zI_42, zI_43, zI_44, zI_45, zI_46, zI_47, zI_48, zI_49, zI_50, zI_51, zI_52, zI_53, zI_54, zI_55, zI_56, zI_57, zI_58, zI_59, zI_60, zI_61, zI_62, zI_63, zI_64, zI_65, zI_66, zI_67, zI_74, zI_84, zI_85, zI_88, zI_91, zI_93, zI_97, zI_99, zI_100, zI_102, zI_105, zI_117, zI_122, zI_193, zI_202, zI_205, zI_251, zI_255, zI_256, zI_257, zI_258, zI_259, zI_260, zI_640, zI_999, zI_1000, zI_1024, zI_1600, zI_1602, zI_1700, zI_2040, zI_3200, zI_4100, zI_9728, zI_11784, zI_61440, zI_65536, zI_470536, zI_999999, zI_1000000, lt_T, lt_F, le_T, le_F, eq_T, eq_F, neg_1, cn_m1p, cn_m11, nI_add, cn_sub, pk_mul, cn_div, cn_irm, cn_lt, cn_eq, cn_ltm1, cn_m1lt, cn_eqm1, cn_m1eq, cn_ix, cn_inb, cn_ninb, cn_irs, cn_ils, cn_and, cn_or, cn_xor, grd_t, grd_bt, grd_bl, Nat.add_zero, Nat.zero_add, Nat.reduceAdd, Nat.reduceSub, Nat.reduceMul, Nat.reduceLT, Nat.reduceEqDiff, eq_self, true_and, and_true, and_false, false_and, if_true, if_false, and_self, Bool.true_eq_false, Bool.false_eq_true, Option.bind_some]
theorem number_d {k w : Nat} (h : BdM k w t) (lo hi : Int32) : f_M_number N lo hi t = some (nI 0, t) := by
  obtain ⟨h1, h2, h3, h4⟩ := h
  simp (disch := first | omega | decide) only [f_M_number, h3, zI_0, zI_1, zI_2, zI_3, zI_4, zI_5, zI_6, zI_7, zI_8, zI_9, zI_10, zI_11, zI_12, zI_13, zI_14, zI_15, zI_16, zI_17, zI_18, zI_19, zI_20, zI_21, zI_22, zI_23, zI_24, zI_25, zI_26, zI_27, zI_28, zI_29, zI_30, zI_31, zI_32, zI_33, zI_34, zI_35, zI_36, zI_37, zI_38, zI_39, zI_40, zI_41, zI_42, zI_43, zI_44, zI_45, zI_46, zI_47, zI_48, zI_49, zI_50, zI_51, zI_52, zI_53, zI_54, zI_55, zI_56, zI_57, zI_58, zI_59, zI_60, zI_61, zI_62, zI_63, zI_64, zI_65, zI_66, zI_67, zI_74, zI_84, zI_85, zI_88, zI_91, zI_93, zI_97, zI_99, zI_100, zI_102, zI_105, zI_117, zI_122, zI_193, zI_202, zI_205, zI_251, zI_255, zI_256, zI_257, zI_258, zI_259, zI_260, zI_640, zI_999, zI_1000, zI_1024, zI_1600, zI_1602, zI_1700, zI_2040, zI_3200, zI_4100, zI_9728, zI_11784, zI_61440, zI_65536, zI_470536, zI_999999, zI_1000000, lt_T, lt_F, le_T, le_F, eq_T, eq_F, neg_1, cn_m1p, cn_m11, nI_add, cn_sub, pk_mul, cn_div, cn_irm, cn_lt, cn_eq, cn_ltm1, cn_m1lt, cn_eqm1, cn_m1eq, cn_ix, cn_inb, cn_ninb, cn_irs, cn_ils, cn_and, cn_or, cn_xor, grd_t, grd_bt, grd_bl, Nat.add_zero, Nat.zero_add, Nat.reduceAdd, Nat.reduceSub, Nat.reduceMul, Nat.reduceLT, Nat.reduceEqDiff, eq_self, true_and, and_true, and_false, false_and, if_true, if_false, and_self, Bool.true_eq_false, Bool.false_eq_true]
/-- numbers -/
noncomputable def nuT (tp : Nat → Nat) (n p : Nat) : Nat := nuV tp (skp tp n p) (min 4 (kZ tp n p))
def kNu : List Nat := [110200, 110400, 110500, 110600, 111000]
def kNg : List Nat := [110200, 110400, 111000]
theorem isIn_nn {x y z : Nat} (hx : x ≤ 9999) (hy : y ≤ 9999) (hz : z ≤ 9999) : f_M_isIn N (nI x).toInt64 (nI y).toInt64 (nI z).toInt64 t = some (nI (if y ≤ x ∧ x ≤ z then 1 else 0), t) := by
  rw [← zi_nI, ← zi_nI, ← zi_nI, zi_l (by omega), zi_l (by omega), zi_l (by omega), isIn_z (by omega) (by omega) (by omega)]
  by_cases c : y ≤ x ∧ x ≤ z
  · rw [if_pos c, if_pos (by omega)]
  · rw [if_neg c, if_neg (by omega)]
theorem number_b {lo hi : Nat} (hlo : lo ≤ 9999) (hhi : hi ≤ 9999) (h : RB tp n p b t) (hN : 10000 ≤ N) :
    (kK tp n p b ≠ 257 → ∃ t', f_M_number N (nI lo) (nI hi) t = some (nI 0, t') ∧ BdM 1 (skp tp n p) t' ∧ Fr kNu t t') ∧
    (kK tp n p b = 257 → 4 < kZ tp n p → ∃ t', f_M_number N (nI lo) (nI hi) t = some (nI 0, t') ∧ BdM 1 (skp tp n p + 4) t' ∧ Fr kNu t t') ∧
    (kK tp n p b = 257 → kZ tp n p ≤ 4 → ¬ (lo ≤ nuT tp n p ∧ nuT tp n p ≤ hi) → ∃ t', f_M_number N (nI lo) (nI hi) t = some (nI (nuT tp n p), t') ∧ BdM 2 (skp tp n p) t' ∧ Fr kNu t t') ∧
    (kK tp n p b = 257 → kZ tp n p ≤ 4 → lo ≤ nuT tp n p ∧ nuT tp n p ≤ hi → ∃ t', f_M_number N (nI lo) (nI hi) t = some (nI (nuT tp n p), t') ∧ RB tp n (kE tp n p) true t' ∧ gI t' 1010 0 = nI (skp tp n p) ∧ Fr kNg t t') := by
  have l := look_b h hN
  have hL := RB_lk h
  have e2 := hL.2.2.2.2.2
  have h5 := h.2.2.1
  have hp := h.2.2.2.1
  have hT := hL.1
  have hn := hT.1
  have sb := skp_b (tp := tp) hp
  have en := ended_n hL.2.2.2 hn
  have F0 : Fr kNu t (lk tp n p t) := Fr_w Fr_lk (by decide)
  refine ⟨fun k => ?_, ?_⟩
  · obtain ⟨t', f, B, F⟩ := mfail_l (N := N) (k := 1) (w := skp tp n p) hL.2.2.1 (by omega)
    refine ⟨t', ?_, B, Fr_t F0 (Fr_w F (by decide))⟩
    have j : f_M_number_j30 N (lk tp n p t) = some (nI 0, t') := by simp (disch := first | omega | decide) only [f_M_number_j30, e2, f, zI_0, zI_1, zI_2, zI_3, zI_4, zI_5, zI_6, zI_7, zI_8, zI_9, zI_10, zI_11, zI_12, zI_13, zI_14, zI_15, zI_16, zI_17, zI_18, zI_19, zI_20, zI_21, zI_22, zI_23, zI_24, zI_25, zI_26, zI_27, zI_28, zI_29, zI_30, zI_31, zI_32, zI_33, zI_34, zI_35, zI_36, zI_37, zI_38, zI_39, zI_40, zI_41, zI_42, zI_43, zI_44, zI_45, zI_46, zI_47, zI_48, zI_49, zI_50, zI_51, zI_52, zI_53, zI_54, zI_55, zI_56, zI_57, zI_58, zI_59, zI_60, zI_61, zI_62, zI_63, zI_64, zI_65, zI_66, zI_67, zI_74, zI_84, zI_85, zI_88, zI_91, zI_93, zI_97, zI_99, zI_100, zI_102, zI_105, zI_117, zI_122, zI_193, zI_202, zI_205, zI_251, zI_255, zI_256, zI_257, zI_258, zI_259, zI_260, zI_640, zI_999, zI_1000, zI_1024, zI_1600, zI_1602, zI_1700, zI_2040, zI_3200, zI_4100, zI_9728, zI_11784, zI_61440, zI_65536, zI_470536, zI_999999, zI_1000000, lt_T, lt_F, le_T, le_F, eq_T, eq_F, neg_1, cn_m1p, cn_m11, nI_add, cn_sub, pk_mul, cn_div, cn_irm, cn_lt, cn_eq, cn_ltm1, cn_m1lt, cn_eqm1, cn_m1eq, cn_ix, cn_inb, cn_ninb, cn_irs, cn_ils, cn_and, cn_or, cn_xor, grd_t, grd_bt, grd_bl, Nat.add_zero, Nat.zero_add, Nat.reduceAdd, Nat.reduceSub, Nat.reduceMul, Nat.reduceLT, Nat.reduceEqDiff, eq_self, true_and, and_true, and_false, false_and, if_true, if_false, and_self, Bool.true_eq_false, Bool.false_eq_true, Option.bind_some]
    by_cases c : skp tp n p < n
    · have hb := (hT.2.2 _ c).1
      have ch : chM tp n p = nI (tp (skp tp n p)) := by unfold chM; rw [if_pos c]
      have d := isDigit_n (N := N) (t := lk tp n p t) hb
      by_cases cd : isDi (tp (skp tp n p)) = true
      · have d1 : 48 ≤ tp (skp tp n p) ∧ tp (skp tp n p) ≤ 57 := of_decide_eq_true cd
        have cl : isLe (tp (skp tp n p)) = false := decide_eq_false (by omega)
        have ct : b = true ∧ skp tp n p = p := by
          by_cases ct : b = true ∧ skp tp n p = p
          · exact ct
          · exfalso; apply k; unfold kK; rw [if_neg (by omega), if_neg (by rw [cl]; simp), if_pos cd, if_neg ct]
        rw [cd] at d
        have en' := en.trans (eq_true ct)
        simp (disch := first | omega | decide) only [f_M_number, h5, l, ch, d, en', j, zI_0, zI_1, zI_2, zI_3, zI_4, zI_5, zI_6, zI_7, zI_8, zI_9, zI_10, zI_11, zI_12, zI_13, zI_14, zI_15, zI_16, zI_17, zI_18, zI_19, zI_20, zI_21, zI_22, zI_23, zI_24, zI_25, zI_26, zI_27, zI_28, zI_29, zI_30, zI_31, zI_32, zI_33, zI_34, zI_35, zI_36, zI_37, zI_38, zI_39, zI_40, zI_41, zI_42, zI_43, zI_44, zI_45, zI_46, zI_47, zI_48, zI_49, zI_50, zI_51, zI_52, zI_53, zI_54, zI_55, zI_56, zI_57, zI_58, zI_59, zI_60, zI_61, zI_62, zI_63, zI_64, zI_65, zI_66, zI_67, zI_74, zI_84, zI_85, zI_88, zI_91, zI_93, zI_97, zI_99, zI_100, zI_102, zI_105, zI_117, zI_122, zI_193, zI_202, zI_205, zI_251, zI_255, zI_256, zI_257, zI_258, zI_259, zI_260, zI_640, zI_999, zI_1000, zI_1024, zI_1600, zI_1602, zI_1700, zI_2040, zI_3200, zI_4100, zI_9728, zI_11784, zI_61440, zI_65536, zI_470536, zI_999999, zI_1000000, lt_T, lt_F, le_T, le_F, eq_T, eq_F, neg_1, cn_m1p, cn_m11, nI_add, cn_sub, pk_mul, cn_div, cn_irm, cn_lt, cn_eq, cn_ltm1, cn_m1lt, cn_eqm1, cn_m1eq, cn_ix, cn_inb, cn_ninb, cn_irs, cn_ils, cn_and, cn_or, cn_xor, grd_t, grd_bt, grd_bl, Nat.add_zero, Nat.zero_add, Nat.reduceAdd, Nat.reduceSub, Nat.reduceMul, Nat.reduceLT, Nat.reduceEqDiff, eq_self, true_and, and_true, and_false, false_and, if_true, if_false, and_self, Bool.true_eq_false, Bool.false_eq_true, Option.bind_some]
      · have cdf : isDi (tp (skp tp n p)) = false := by simpa using cd
        rw [cdf] at d
        simp (disch := first | omega | decide) only [f_M_number, h5, l, ch, d, j, zI_0, zI_1, zI_2, zI_3, zI_4, zI_5, zI_6, zI_7, zI_8, zI_9, zI_10, zI_11, zI_12, zI_13, zI_14, zI_15, zI_16, zI_17, zI_18, zI_19, zI_20, zI_21, zI_22, zI_23, zI_24, zI_25, zI_26, zI_27, zI_28, zI_29, zI_30, zI_31, zI_32, zI_33, zI_34, zI_35, zI_36, zI_37, zI_38, zI_39, zI_40, zI_41, zI_42, zI_43, zI_44, zI_45, zI_46, zI_47, zI_48, zI_49, zI_50, zI_51, zI_52, zI_53, zI_54, zI_55, zI_56, zI_57, zI_58, zI_59, zI_60, zI_61, zI_62, zI_63, zI_64, zI_65, zI_66, zI_67, zI_74, zI_84, zI_85, zI_88, zI_91, zI_93, zI_97, zI_99, zI_100, zI_102, zI_105, zI_117, zI_122, zI_193, zI_202, zI_205, zI_251, zI_255, zI_256, zI_257, zI_258, zI_259, zI_260, zI_640, zI_999, zI_1000, zI_1024, zI_1600, zI_1602, zI_1700, zI_2040, zI_3200, zI_4100, zI_9728, zI_11784, zI_61440, zI_65536, zI_470536, zI_999999, zI_1000000, lt_T, lt_F, le_T, le_F, eq_T, eq_F, neg_1, cn_m1p, cn_m11, nI_add, cn_sub, pk_mul, cn_div, cn_irm, cn_lt, cn_eq, cn_ltm1, cn_m1lt, cn_eqm1, cn_m1eq, cn_ix, cn_inb, cn_ninb, cn_irs, cn_ils, cn_and, cn_or, cn_xor, grd_t, grd_bt, grd_bl, Nat.add_zero, Nat.zero_add, Nat.reduceAdd, Nat.reduceSub, Nat.reduceMul, Nat.reduceLT, Nat.reduceEqDiff, eq_self, true_and, and_true, and_false, false_and, if_true, if_false, and_self, Bool.true_eq_false, Bool.false_eq_true, Option.bind_some]
    · have ch : chM tp n p = m1 := by unfold chM; rw [if_neg c]
      have d := isDigit_m (N := N) (t := lk tp n p t)
      simp (disch := first | omega | decide) only [f_M_number, h5, l, ch, d, j, zI_0, zI_1, zI_2, zI_3, zI_4, zI_5, zI_6, zI_7, zI_8, zI_9, zI_10, zI_11, zI_12, zI_13, zI_14, zI_15, zI_16, zI_17, zI_18, zI_19, zI_20, zI_21, zI_22, zI_23, zI_24, zI_25, zI_26, zI_27, zI_28, zI_29, zI_30, zI_31, zI_32, zI_33, zI_34, zI_35, zI_36, zI_37, zI_38, zI_39, zI_40, zI_41, zI_42, zI_43, zI_44, zI_45, zI_46, zI_47, zI_48, zI_49, zI_50, zI_51, zI_52, zI_53, zI_54, zI_55, zI_56, zI_57, zI_58, zI_59, zI_60, zI_61, zI_62, zI_63, zI_64, zI_65, zI_66, zI_67, zI_74, zI_84, zI_85, zI_88, zI_91, zI_93, zI_97, zI_99, zI_100, zI_102, zI_105, zI_117, zI_122, zI_193, zI_202, zI_205, zI_251, zI_255, zI_256, zI_257, zI_258, zI_259, zI_260, zI_640, zI_999, zI_1000, zI_1024, zI_1600, zI_1602, zI_1700, zI_2040, zI_3200, zI_4100, zI_9728, zI_11784, zI_61440, zI_65536, zI_470536, zI_999999, zI_1000000, lt_T, lt_F, le_T, le_F, eq_T, eq_F, neg_1, cn_m1p, cn_m11, nI_add, cn_sub, pk_mul, cn_div, cn_irm, cn_lt, cn_eq, cn_ltm1, cn_m1lt, cn_eqm1, cn_m1eq, cn_ix, cn_inb, cn_ninb, cn_irs, cn_ils, cn_and, cn_or, cn_xor, grd_t, grd_bt, grd_bl, Nat.add_zero, Nat.zero_add, Nat.reduceAdd, Nat.reduceSub, Nat.reduceMul, Nat.reduceLT, Nat.reduceEqDiff, eq_self, true_and, and_true, and_false, false_and, if_true, if_false, and_self, Bool.true_eq_false, Bool.false_eq_true, Option.bind_some]
  · by_cases k : kK tp n p b = 257
    · obtain ⟨c, cl, cd, ct⟩ := kK_n (RB_ht h) k
      have hb := (hT.2.2 _ c).1
      have ch : chM tp n p = nI (tp (skp tp n p)) := by unfold chM; rw [if_pos c]
      have d := isDigit_n (N := N) (t := lk tp n p t) hb
      rw [cd] at d
      have en' := en.trans (eq_false ct)
      have db := dEn_b (tp := tp) (n := n) (p := skp tp n p) (by omega)
      have gt := dEn_gt (tp := tp) c cd
      have ez : kZ tp n p = dEn tp n (skp tp n p) - skp tp n p := by unfold kZ; rw [if_neg (by omega), if_neg (by rw [cl]; simp), if_pos cd]
      have ee : kE tp n p = dEn tp n (skp tp n p) := by unfold kE; rw [if_neg (by omega), if_neg (by rw [cl]; simp), if_pos cd]
      have v9 : nuT tp n p ≤ 9999 := nuV_9 (n := n) (by omega) (Nat.min_le_left _ _) (by omega)
      rw [e2] at en'
      have head : f_M_number N (nI lo) (nI hi) t = mfix N (f_M_number_L49 N) (nI lo, nI hi, nI (skp tp n p), nI 0, lk tp n p t) := by
        simp (disch := first | omega | decide) only [f_M_number, h5, l, ch, d, en', e2, zI_0, zI_1, zI_2, zI_3, zI_4, zI_5, zI_6, zI_7, zI_8, zI_9, zI_10, zI_11, zI_12, zI_13, zI_14, zI_15, zI_16, zI_17, zI_18, zI_19, zI_20, zI_21, zI_22, zI_23, zI_24, zI_25, zI_26, zI_27, zI_28, zI_29, zI_30, zI_31, zI_32, zI_33, zI_34, zI_35, zI_36, zI_37, zI_38, zI_39, zI_40, zI_41, zI_42, zI_43, zI_44, zI_45, zI_46, zI_47, zI_48, zI_49, zI_50, zI_51, zI_52, zI_53, zI_54, zI_55, zI_56, zI_57, zI_58, zI_59, zI_60, zI_61, zI_62, zI_63, zI_64, zI_65, zI_66, zI_67, zI_74, zI_84, zI_85, zI_88, zI_91, zI_93, zI_97, zI_99, zI_100, zI_102, zI_105, zI_117, zI_122, zI_193, zI_202, zI_205, zI_251, zI_255, zI_256, zI_257, zI_258, zI_259, zI_260, zI_640, zI_999, zI_1000, zI_1024, zI_1600, zI_1602, zI_1700, zI_2040, zI_3200, zI_4100, zI_9728, zI_11784, zI_61440, zI_65536, zI_470536, zI_999999, zI_1000000, lt_T, lt_F, le_T, le_F, eq_T, eq_F, neg_1, cn_m1p, cn_m11, nI_add, cn_sub, pk_mul, cn_div, cn_irm, cn_lt, cn_eq, cn_ltm1, cn_m1lt, cn_eqm1, cn_m1eq, cn_ix, cn_inb, cn_ninb, cn_irs, cn_ils, cn_and, cn_or, cn_xor, grd_t, grd_bt, grd_bl, Nat.add_zero, Nat.zero_add, Nat.reduceAdd, Nat.reduceSub, Nat.reduceMul, Nat.reduceLT, Nat.reduceEqDiff, eq_self, true_and, and_true, and_false, false_and, if_true, if_false, and_self, Bool.true_eq_false, Bool.false_eq_true, Option.bind_some]
      rw [head]
      have loop : ∀ R : Int32 × mS → Prop, (∀ k' t1, gI t1 1002 0 = nI (skp tp n p + min 4 (kZ tp n p)) → Fr [110200] t t1 → Ok (f_M_number_L49 N k' (nI lo, nI hi, nI (skp tp n p), nI (nuT tp n p), t1)) R) → Ok (mfix N (f_M_number_L49 N) (nI lo, nI hi, nI (skp tp n p), nI 0, lk tp n p t)) R := by
        intro R hR
        refine mfix_up (fun i x => ∃ t1, x = (nI lo, nI hi, nI (skp tp n p), nI (nuV tp (skp tp n p) i), t1) ∧ gI t1 1002 0 = nI (skp tp n p + i) ∧ Fr [110200] t t1) (min 4 (kZ tp n p)) ?_ ?_ N 0 _ ⟨_, rfl, e2, Fr_lk⟩ (Nat.zero_le _) (by omega)
        · rintro i k' x hi2 ⟨t1, rfl, g, F⟩ hk
          have T1 := RxM_fr F (by decide) h.1
          have e3 := T1.2.1
          have e4 := (T1.2.2 (skp tp n p + i) (by omega)).2
          have hb := (T1.2.2 (skp tp n p + i) (by omega)).1
          have di := dig_in (tp := tp) (n := n) (p := skp tp n p) (i := i) (by omega)
          have d := isDigit_n (N := N) (t := t1) hb
          rw [show isDi (tp (skp tp n p + i)) = true from decide_eq_true (by omega)] at d
          have v9 := nuV_9 (tp := tp) (n := n) (p := skp tp n p) (by omega) (show i ≤ 4 by omega) (by omega)
          have ev : nI 10 * nI (nuV tp (skp tp n p) i) + nI (tp (skp tp n p + i)) - nI 48 = nI (nuV tp (skp tp n p) (i + 1)) := by
            rw [pk_mul, nI_add, cn_sub (by omega), nuV_s]; congr 1; omega
          have q4 : (nI (skp tp n p + i) - nI (skp tp n p) = nI 4) = False := by rw [cn_sub (by omega), cn_eq (by omega)]; exact eq_false (by omega)
          simp (disch := first | omega | decide) only [f_M_number_L49, g, e3, e4, d, q4, ev, zI_0, zI_1, zI_2, zI_3, zI_4, zI_5, zI_6, zI_7, zI_8, zI_9, zI_10, zI_11, zI_12, zI_13, zI_14, zI_15, zI_16, zI_17, zI_18, zI_19, zI_20, zI_21, zI_22, zI_23, zI_24, zI_25, zI_26, zI_27, zI_28, zI_29, zI_30, zI_31, zI_32, zI_33, zI_34, zI_35, zI_36, zI_37, zI_38, zI_39, zI_40, zI_41, zI_42, zI_43, zI_44, zI_45, zI_46, zI_47, zI_48, zI_49, zI_50, zI_51, zI_52, zI_53, zI_54, zI_55, zI_56, zI_57, zI_58, zI_59, zI_60, zI_61, zI_62, zI_63, zI_64, zI_65, zI_66, zI_67, zI_74, zI_84, zI_85, zI_88, zI_91, zI_93, zI_97, zI_99, zI_100, zI_102, zI_105, zI_117, zI_122, zI_193, zI_202, zI_205, zI_251, zI_255, zI_256, zI_257, zI_258, zI_259, zI_260, zI_640, zI_999, zI_1000, zI_1024, zI_1600, zI_1602, zI_1700, zI_2040, zI_3200, zI_4100, zI_9728, zI_11784, zI_61440, zI_65536, zI_470536, zI_999999, zI_1000000, nI_add, cn_lt, cn_eq, lt_T, cn_inb, cn_ix, grd_t, grd_bt, Nat.reduceAdd, Nat.reduceSub, Nat.reduceMul, Nat.reduceLT, Nat.reduceEqDiff, eq_self, true_and, and_true, and_false, false_and, if_true, if_false, and_self, Bool.true_eq_false, Bool.false_eq_true, Option.bind_some]
          exact hk _ ⟨_, rfl, by simp (disch := first | omega | decide) only [gI_sI, gI_sA, gI_sL, gI_sQ, gI_sC, gI_sO, gI_sD, gA_sI, gA_sL, gA_sQ, gA_sO, gA_sD, gL_sI, gL_sA, gL_sQ, gL_sC, gL_sO, gL_sD, gQ_sI, gQ_sA, gQ_sL, gQ_sC, gQ_sO, gO_sI, gO_sA, gO_sL, gO_sQ, gO_sC, gO_sO, gO_sD, gA_eq, gA_ne, gQ_eq, gQ_ne, gL_sL, gA_cin, gA_cou, gQ_cin, gQ_cou, Nat.reduceAdd, Nat.reduceSub, Nat.reduceMul, Nat.reduceLT, Nat.reduceEqDiff, eq_self, true_and, and_true, and_false, false_and, if_true, if_false, and_self, Bool.true_eq_false, Bool.false_eq_true, Nat.add_assoc], Fr_t F (Fr_sI _ _ _ (by decide))⟩
        · rintro k' x ⟨t1, rfl, g, F⟩
          exact hR k' t1 g F
      refine ⟨fun _ k4 => ?_, ?_⟩
      · obtain ⟨⟨v, x⟩, x1, x2, x3, x4⟩ := loop (fun r => r.1 = nI 0 ∧ BdM 1 (skp tp n p + 4) r.2 ∧ Fr kNu t r.2) (fun k' t1 g F => by
          rw [Nat.min_eq_left (by omega)] at g
          have T1 := RxM_fr F (by decide) h.1
          have e3 := T1.2.1
          have e4 := (T1.2.2 (skp tp n p + 4) (by omega)).2
          have hb := (T1.2.2 (skp tp n p + 4) (by omega)).1
          have di := dig_in (tp := tp) (n := n) (p := skp tp n p) (i := 4) (by omega)
          have d := isDigit_n (N := N) (t := t1) hb
          rw [show isDi (tp (skp tp n p + 4)) = true from decide_eq_true (by omega)] at d
          have q4 : (nI (skp tp n p + 4) - nI (skp tp n p) = nI 4) = True := by rw [cn_sub (by omega), cn_eq (by omega)]; exact eq_true (by omega)
          obtain ⟨t', f, B, F2⟩ := mfail_l (N := N) (t := t1) (k := 1) (w := skp tp n p + 4) (by rw [F.I 1005 0 (by decide)]; exact h5) (by omega)
          simp (disch := first | omega | decide) only [f_M_number_L49, g, e3, e4, d, q4, f, zI_0, zI_1, zI_2, zI_3, zI_4, zI_5, zI_6, zI_7, zI_8, zI_9, zI_10, zI_11, zI_12, zI_13, zI_14, zI_15, zI_16, zI_17, zI_18, zI_19, zI_20, zI_21, zI_22, zI_23, zI_24, zI_25, zI_26, zI_27, zI_28, zI_29, zI_30, zI_31, zI_32, zI_33, zI_34, zI_35, zI_36, zI_37, zI_38, zI_39, zI_40, zI_41, zI_42, zI_43, zI_44, zI_45, zI_46, zI_47, zI_48, zI_49, zI_50, zI_51, zI_52, zI_53, zI_54, zI_55, zI_56, zI_57, zI_58, zI_59, zI_60, zI_61, zI_62, zI_63, zI_64, zI_65, zI_66, zI_67, zI_74, zI_84, zI_85, zI_88, zI_91, zI_93, zI_97, zI_99, zI_100, zI_102, zI_105, zI_117, zI_122, zI_193, zI_202, zI_205, zI_251, zI_255, zI_256, zI_257, zI_258, zI_259, zI_260, zI_640, zI_999, zI_1000, zI_1024, zI_1600, zI_1602, zI_1700, zI_2040, zI_3200, zI_4100, zI_9728, zI_11784, zI_61440, zI_65536, zI_470536, zI_999999, zI_1000000, nI_add, cn_lt, cn_eq, lt_T, cn_inb, cn_ix, grd_t, grd_bt, Nat.reduceAdd, Nat.reduceSub, Nat.reduceMul, Nat.reduceLT, Nat.reduceEqDiff, eq_self, true_and, and_true, and_false, false_and, if_true, if_false, and_self, Bool.true_eq_false, Bool.false_eq_true, Option.bind_some]
          exact Ok_some ⟨rfl, B, Fr_t (Fr_w F (by decide)) (Fr_w F2 (by decide))⟩)
        exact ⟨x, by rw [x1, show v = nI 0 from x2], x3, x4⟩
      · by_cases k4 : kZ tp n p ≤ 4
        · have tail : ∀ (R : Int32 × mS → Prop), (∀ t2, gI t2 1010 0 = nI (skp tp n p) → RB tp n (kE tp n p) true t2 → Fr kNg t t2 → Ok ((f_M_isIn N (nI (nuT tp n p)).toInt64 (nI lo).toInt64 (nI hi).toInt64 t2).bind fun p3 => if p3.1 = 0 then (f_M_fail N 2 (gI p3.2 1010 0) p3.2).bind fun p4 => some (nI (nuT tp n p), p4) else some (nI (nuT tp n p), p3.2)) R) → Ok (mfix N (f_M_number_L49 N) (nI lo, nI hi, nI (skp tp n p), nI 0, lk tp n p t)) R := by
            intro R hR
            refine loop R (fun k' t1 g F => ?_)
            rw [Nat.min_eq_right k4, show skp tp n p + kZ tp n p = kE tp n p by omega] at g
            have T1 := RxM_fr F (by decide) h.1
            have e3 := T1.2.1
            have F2 : Fr kNg t1 (sI (sI t1 1004 0 (nI (kE tp n p))) 1010 0 (nI (skp tp n p))) := Fr_t (Fr_sI _ _ _ (by decide)) (Fr_sI _ _ _ (by decide))
            have F3 : Fr kNg t (sI (sI t1 1004 0 (nI (kE tp n p))) 1010 0 (nI (skp tp n p))) := Fr_t (Fr_w F (by decide)) F2
            have j := hR (sI (sI t1 1004 0 (nI (kE tp n p))) 1010 0 (nI (skp tp n p))) (by simp (disch := first | omega | decide) only [gI_sI, gI_sA, gI_sL, gI_sQ, gI_sC, gI_sO, gI_sD, gA_sI, gA_sL, gA_sQ, gA_sO, gA_sD, gL_sI, gL_sA, gL_sQ, gL_sC, gL_sO, gL_sD, gQ_sI, gQ_sA, gQ_sL, gQ_sC, gQ_sO, gO_sI, gO_sA, gO_sL, gO_sQ, gO_sC, gO_sO, gO_sD, gA_eq, gA_ne, gQ_eq, gQ_ne, gL_sL, gA_cin, gA_cou, gQ_cin, gQ_cou, Nat.reduceAdd, Nat.reduceSub, Nat.reduceMul, Nat.reduceLT, Nat.reduceEqDiff, eq_self, true_and, and_true, and_false, false_and, if_true, if_false, and_self, Bool.true_eq_false, Bool.false_eq_true]) ⟨RxM_fr F3 (by decide) h.1, MWd_fr F3 (by decide) h.2.1, by simp (disch := first | omega | decide) only [gI_sI, gI_sA, gI_sL, gI_sQ, gI_sC, gI_sO, gI_sD, gA_sI, gA_sL, gA_sQ, gA_sO, gA_sD, gL_sI, gL_sA, gL_sQ, gL_sC, gL_sO, gL_sD, gQ_sI, gQ_sA, gQ_sL, gQ_sC, gQ_sO, gO_sI, gO_sA, gO_sL, gO_sQ, gO_sC, gO_sO, gO_sD, gA_eq, gA_ne, gQ_eq, gQ_ne, gL_sL, gA_cin, gA_cou, gQ_cin, gQ_cou, Nat.reduceAdd, Nat.reduceSub, Nat.reduceMul, Nat.reduceLT, Nat.reduceEqDiff, eq_self, true_and, and_true, and_false, false_and, if_true, if_false, and_self, Bool.true_eq_false, Bool.false_eq_true]; rw [F.I 1005 0 (by decide)]; exact h5, by omega, ⟨kE tp n p + 1, by simp (disch := first | omega | decide) only [gI_sI, gI_sA, gI_sL, gI_sQ, gI_sC, gI_sO, gI_sD, gA_sI, gA_sL, gA_sQ, gA_sO, gA_sD, gL_sI, gL_sA, gL_sQ, gL_sC, gL_sO, gL_sD, gQ_sI, gQ_sA, gQ_sL, gQ_sC, gQ_sO, gO_sI, gO_sA, gO_sL, gO_sQ, gO_sC, gO_sO, gO_sD, gA_eq, gA_ne, gQ_eq, gQ_ne, gL_sL, gA_cin, gA_cou, gQ_cin, gQ_cou, Nat.reduceAdd, Nat.reduceSub, Nat.reduceMul, Nat.reduceLT, Nat.reduceEqDiff, eq_self, true_and, and_true, and_false, false_and, if_true, if_false, and_self, Bool.true_eq_false, Bool.false_eq_true]; exact (m1_s _).symm, fun _ => rfl, fun h => by cases h⟩, kE tp n p, by simp (disch := first | omega | decide) only [gI_sI, gI_sA, gI_sL, gI_sQ, gI_sC, gI_sO, gI_sD, gA_sI, gA_sL, gA_sQ, gA_sO, gA_sD, gL_sI, gL_sA, gL_sQ, gL_sC, gL_sO, gL_sD, gQ_sI, gQ_sA, gQ_sL, gQ_sC, gQ_sO, gO_sI, gO_sA, gO_sL, gO_sQ, gO_sC, gO_sO, gO_sD, gA_eq, gA_ne, gQ_eq, gQ_ne, gL_sL, gA_cin, gA_cou, gQ_cin, gQ_cou, Nat.reduceAdd, Nat.reduceSub, Nat.reduceMul, Nat.reduceLT, Nat.reduceEqDiff, eq_self, true_and, and_true, and_false, false_and, if_true, if_false, and_self, Bool.true_eq_false, Bool.false_eq_true]; exact g, Nat.le_refl _, (skp_b (by omega)).1⟩ F3
            have jj : Ok (f_M_number_j129 N (nI lo, nI hi, nI (skp tp n p), nI (nuT tp n p), t1)) R := by
              simp only [f_M_number_j129, g]
              exact j
            by_cases ce : kE tp n p < n
            · have e4 := (T1.2.2 (kE tp n p) ce).2
              have hb := (T1.2.2 (kE tp n p) ce).1
              have o := dEn_o (tp := tp) (n := n) (p := skp tp n p) (by omega) (by omega)
              rw [← ee] at o
              have d := isDigit_n (N := N) (t := t1) hb
              rw [show isDi (tp (kE tp n p)) = false from decide_eq_false (by omega)] at d
              simp (disch := first | omega | decide) only [f_M_number_L49, g, e3, e4, d, zI_0, zI_1, zI_2, zI_3, zI_4, zI_5, zI_6, zI_7, zI_8, zI_9, zI_10, zI_11, zI_12, zI_13, zI_14, zI_15, zI_16, zI_17, zI_18, zI_19, zI_20, zI_21, zI_22, zI_23, zI_24, zI_25, zI_26, zI_27, zI_28, zI_29, zI_30, zI_31, zI_32, zI_33, zI_34, zI_35, zI_36, zI_37, zI_38, zI_39, zI_40, zI_41, zI_42, zI_43, zI_44, zI_45, zI_46, zI_47, zI_48, zI_49, zI_50, zI_51, zI_52, zI_53, zI_54, zI_55, zI_56, zI_57, zI_58, zI_59, zI_60, zI_61, zI_62, zI_63, zI_64, zI_65, zI_66, zI_67, zI_74, zI_84, zI_85, zI_88, zI_91, zI_93, zI_97, zI_99, zI_100, zI_102, zI_105, zI_117, zI_122, zI_193, zI_202, zI_205, zI_251, zI_255, zI_256, zI_257, zI_258, zI_259, zI_260, zI_640, zI_999, zI_1000, zI_1024, zI_1600, zI_1602, zI_1700, zI_2040, zI_3200, zI_4100, zI_9728, zI_11784, zI_61440, zI_65536, zI_470536, zI_999999, zI_1000000, cn_lt, cn_eq, lt_T, cn_inb, cn_ix, grd_t, grd_bt, Nat.reduceAdd, Nat.reduceSub, Nat.reduceMul, Nat.reduceLT, Nat.reduceEqDiff, eq_self, true_and, and_true, and_false, false_and, if_true, if_false, and_self, Bool.true_eq_false, Bool.false_eq_true, Option.bind_some]
              exact jj
            · simp (disch := first | omega | decide) only [f_M_number_L49, g, e3, zI_0, zI_1, zI_2, zI_3, zI_4, zI_5, zI_6, zI_7, zI_8, zI_9, zI_10, zI_11, zI_12, zI_13, zI_14, zI_15, zI_16, zI_17, zI_18, zI_19, zI_20, zI_21, zI_22, zI_23, zI_24, zI_25, zI_26, zI_27, zI_28, zI_29, zI_30, zI_31, zI_32, zI_33, zI_34, zI_35, zI_36, zI_37, zI_38, zI_39, zI_40, zI_41, zI_42, zI_43, zI_44, zI_45, zI_46, zI_47, zI_48, zI_49, zI_50, zI_51, zI_52, zI_53, zI_54, zI_55, zI_56, zI_57, zI_58, zI_59, zI_60, zI_61, zI_62, zI_63, zI_64, zI_65, zI_66, zI_67, zI_74, zI_84, zI_85, zI_88, zI_91, zI_93, zI_97, zI_99, zI_100, zI_102, zI_105, zI_117, zI_122, zI_193, zI_202, zI_205, zI_251, zI_255, zI_256, zI_257, zI_258, zI_259, zI_260, zI_640, zI_999, zI_1000, zI_1024, zI_1600, zI_1602, zI_1700, zI_2040, zI_3200, zI_4100, zI_9728, zI_11784, zI_61440, zI_65536, zI_470536, zI_999999, zI_1000000, cn_lt, lt_F, Nat.reduceAdd, Nat.reduceSub, Nat.reduceMul, Nat.reduceLT, Nat.reduceEqDiff, eq_self, true_and, and_true, and_false, false_and, if_true, if_false, and_self, Bool.true_eq_false, Bool.false_eq_true]
              exact jj
          refine ⟨fun _ _ kv => ?_, fun _ _ kv => ?_⟩
          · obtain ⟨⟨v, x⟩, x1, x2, x3, x4⟩ := tail (fun r => r.1 = nI (nuT tp n p) ∧ BdM 2 (skp tp n p) r.2 ∧ Fr kNu t r.2) (fun t2 g1 R2 F => by
              rw [isIn_nn v9 hlo hhi, if_neg kv]
              obtain ⟨t', f, B, F2⟩ := mfail_l (N := N) (t := t2) (k := 2) (w := skp tp n p) R2.2.2.1 (by omega)
              simp (disch := first | omega | decide) only [g1, f, zI_0, zI_1, zI_2, zI_3, zI_4, zI_5, zI_6, zI_7, zI_8, zI_9, zI_10, zI_11, zI_12, zI_13, zI_14, zI_15, zI_16, zI_17, zI_18, zI_19, zI_20, zI_21, zI_22, zI_23, zI_24, zI_25, zI_26, zI_27, zI_28, zI_29, zI_30, zI_31, zI_32, zI_33, zI_34, zI_35, zI_36, zI_37, zI_38, zI_39, zI_40, zI_41, zI_42, zI_43, zI_44, zI_45, zI_46, zI_47, zI_48, zI_49, zI_50, zI_51, zI_52, zI_53, zI_54, zI_55, zI_56, zI_57, zI_58, zI_59, zI_60, zI_61, zI_62, zI_63, zI_64, zI_65, zI_66, zI_67, zI_74, zI_84, zI_85, zI_88, zI_91, zI_93, zI_97, zI_99, zI_100, zI_102, zI_105, zI_117, zI_122, zI_193, zI_202, zI_205, zI_251, zI_255, zI_256, zI_257, zI_258, zI_259, zI_260, zI_640, zI_999, zI_1000, zI_1024, zI_1600, zI_1602, zI_1700, zI_2040, zI_3200, zI_4100, zI_9728, zI_11784, zI_61440, zI_65536, zI_470536, zI_999999, zI_1000000, lt_T, lt_F, le_T, le_F, eq_T, eq_F, neg_1, cn_m1p, cn_m11, nI_add, cn_sub, pk_mul, cn_div, cn_irm, cn_lt, cn_eq, cn_ltm1, cn_m1lt, cn_eqm1, cn_m1eq, cn_ix, cn_inb, cn_ninb, cn_irs, cn_ils, cn_and, cn_or, cn_xor, grd_t, grd_bt, grd_bl, Nat.add_zero, Nat.zero_add, Nat.reduceAdd, Nat.reduceSub, Nat.reduceMul, Nat.reduceLT, Nat.reduceEqDiff, eq_self, true_and, and_true, and_false, false_and, if_true, if_false, and_self, Bool.true_eq_false, Bool.false_eq_true, Option.bind_some]
              exact Ok_some ⟨rfl, B, Fr_t (Fr_w F (by decide)) (Fr_w F2 (by decide))⟩)
            exact ⟨x, by rw [x1, show v = nI (nuT tp n p) from x2], x3, x4⟩
          · obtain ⟨⟨v, x⟩, x1, x2, x3, x4, x5⟩ := tail (fun r => r.1 = nI (nuT tp n p) ∧ RB tp n (kE tp n p) true r.2 ∧ gI r.2 1010 0 = nI (skp tp n p) ∧ Fr kNg t r.2) (fun t2 g1 R2 F => by
              rw [isIn_nn v9 hlo hhi, if_pos kv]
              simp (disch := first | omega | decide) only [zI_0, zI_1, zI_2, zI_3, zI_4, zI_5, zI_6, zI_7, zI_8, zI_9, zI_10, zI_11, zI_12, zI_13, zI_14, zI_15, zI_16, zI_17, zI_18, zI_19, zI_20, zI_21, zI_22, zI_23, zI_24, zI_25, zI_26, zI_27, zI_28, zI_29, zI_30, zI_31, zI_32, zI_33, zI_34, zI_35, zI_36, zI_37, zI_38, zI_39, zI_40, zI_41, zI_42, zI_43, zI_44, zI_45, zI_46, zI_47, zI_48, zI_49, zI_50, zI_51, zI_52, zI_53, zI_54, zI_55, zI_56, zI_57, zI_58, zI_59, zI_60, zI_61, zI_62, zI_63, zI_64, zI_65, zI_66, zI_67, zI_74, zI_84, zI_85, zI_88, zI_91, zI_93, zI_97, zI_99, zI_100, zI_102, zI_105, zI_117, zI_122, zI_193, zI_202, zI_205, zI_251, zI_255, zI_256, zI_257, zI_258, zI_259, zI_260, zI_640, zI_999, zI_1000, zI_1024, zI_1600, zI_1602, zI_1700, zI_2040, zI_3200, zI_4100, zI_9728, zI_11784, zI_61440, zI_65536, zI_470536, zI_999999, zI_1000000, lt_T, lt_F, le_T, le_F, eq_T, eq_F, neg_1, cn_m1p, cn_m11, nI_add, cn_sub, pk_mul, cn_div, cn_irm, cn_lt, cn_eq, cn_ltm1, cn_m1lt, cn_eqm1, cn_m1eq, cn_ix, cn_inb, cn_ninb, cn_irs, cn_ils, cn_and, cn_or, cn_xor, grd_t, grd_bt, grd_bl, Nat.add_zero, Nat.zero_add, Nat.reduceAdd, Nat.reduceSub, Nat.reduceMul, Nat.reduceLT, Nat.reduceEqDiff, eq_self, true_and, and_true, and_false, false_and, if_true, if_false, and_self, Bool.true_eq_false, Bool.false_eq_true, Option.bind_some]
              exact Ok_some ⟨rfl, R2, g1, F⟩)
            exact ⟨x, by rw [x1, show v = nI (nuT tp n p) from x2], x3, x4, x5⟩
        · exact ⟨fun _ h => absurd h k4, fun _ h => absurd h k4⟩
    · exact ⟨fun h => absurd h k, fun h => absurd h k, fun h => absurd h k⟩
end TAKES
