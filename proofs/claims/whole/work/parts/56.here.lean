/-! THE REFERENCE'S ASKING: words, signs, numbers -/
section HERE
variable {N n p o : Nat} {tp : Nat → Nat} {b : Bool} {t : mS}
theorem wEn_gt {q : Nat} (h : q < n) (hl : isLe (tp q) = true) : q < wEn tp n q := by
  unfold wEn
  rw [show n - q = (n - q - 1) + 1 by omega]
  unfold scn
  rw [if_pos hl]
  have := (scn_ge (fun i => isLe (tp i)) (n - q - 1) (q + 1)).1
  omega
theorem dEn_gt {q : Nat} (h : q < n) (hl : isDi (tp q) = true) : q < dEn tp n q := by
  unfold dEn
  rw [show n - q = (n - q - 1) + 1 by omega]
  unfold scn
  rw [if_pos hl]
  have := (scn_ge (fun i => isDi (tp i)) (n - q - 1) (q + 1)).1
  omega
theorem cmp_n {q : Nat} (ho : o ∈ kWo) (hw : MWd t) (hT : RxM tp n t) (hq : gI t 1002 0 = nI q) (hz : q + (wdL (woJ o)).length ≤ n) :
    ∀ d i k, i + d = (wdL (woJ o)).length → d < k → ∃ r, r ≤ 1 ∧ mfix k (f_M_isHere_L76 N) (o, nI i, t) = some (nI r, t) ∧ (r = 1 ↔ ∀ j, i ≤ j → j < (wdL (woJ o)).length → tp (q + j) = 96 + (wdL (woJ o)).getD j 0) := by
  obtain ⟨w1, w2, w3, w4, w5⟩ := woJ_ok o ho
  obtain ⟨_, u2, u3, u4⟩ := wdL_ok _ w1
  have eL : Int32.ofNat (alA Sm o) = nI (wdL (woJ o)).length := by rw [w3]; rfl
  have hn := hT.1
  intro d
  induction d with
  | zero =>
    intro i k hi hk
    refine ⟨1, Nat.le_refl _, ?_, ⟨fun _ j h1 h2 => by omega, fun _ => rfl⟩⟩
    rw [mfix_1 (by omega)]
    simp (disch := first | omega | decide) only [f_M_isHere_L76, w2, eL, zI_0, zI_1, zI_2, zI_3, zI_4, zI_5, zI_6, zI_7, zI_8, zI_9, zI_10, zI_11, zI_12, zI_13, zI_14, zI_15, zI_16, zI_17, zI_18, zI_19, zI_20, zI_21, zI_22, zI_23, zI_24, zI_25, zI_26, zI_27, zI_28, zI_29, zI_30, zI_31, zI_32, zI_33, zI_34, zI_35, zI_36, zI_37, zI_38, zI_39, zI_40, zI_41, zI_42, zI_43, zI_44, zI_45, zI_46, zI_47, zI_48, zI_49, zI_50, zI_51, zI_52, zI_53, zI_54, zI_55, zI_56, zI_57, zI_58, zI_59, zI_60, zI_61, zI_62, zI_63, zI_64, zI_65, zI_66, zI_67, zI_74, zI_84, zI_85, zI_88, zI_91, zI_93, zI_97, zI_99, zI_100, zI_102, zI_105, zI_117, zI_122, zI_193, zI_202, zI_205, zI_251, zI_255, zI_256, zI_257, zI_258, zI_259, zI_260, zI_640, zI_999, zI_1000, zI_1024, zI_1600, zI_1602, zI_1700, zI_2040, zI_3200, zI_4100, zI_9728, zI_11784, zI_61440, zI_65536, zI_470536, zI_999999, zI_1000000, lt_T, lt_F, le_T, le_F, eq_T, eq_F, neg_1, cn_m1p, cn_m11, nI_add, cn_sub, pk_mul, cn_div, cn_irm, cn_lt, cn_eq, cn_ltm1, cn_m1lt, cn_eqm1, cn_m1eq, cn_ix, cn_inb, cn_ninb, cn_irs, cn_ils, cn_and, cn_or, cn_xor, grd_t, grd_bt, grd_bl, Nat.add_zero, Nat.zero_add, Nat.reduceAdd, Nat.reduceSub, Nat.reduceMul, Nat.reduceLT, Nat.reduceEqDiff, eq_self, true_and, and_true, and_false, false_and, if_true, if_false, and_self, Bool.true_eq_false, Bool.false_eq_true]
  | succ d ih =>
    intro i k hi hk
    rw [mfix_1 (by omega)]
    have e1 : gA t 1 (q + i) = nI (tp (q + i)) := (hT.2.2 _ (by omega)).2
    have b1 := (hT.2.2 (q + i) (by omega)).1
    have e2 : gA t o i = nI (96 + (wdL (woJ o)).getD i 0) := (hw o ho i).trans (w5 i (by omega))
    have b2 := (u4 i (by omega)).2
    by_cases c : tp (q + i) = 96 + (wdL (woJ o)).getD i 0
    · obtain ⟨r, r1, r2, r3⟩ := ih (i + 1) (k - 1) (by omega) (by omega)
      refine ⟨r, r1, ?_, r3.trans ⟨fun h j h1 h2 => ?_, fun h j h1 h2 => h j (by omega) h2⟩⟩
      · simp (disch := first | omega | decide) only [f_M_isHere_L76, w2, w4, eL, hq, e1, e2, c, zI_0, zI_1, zI_2, zI_3, zI_4, zI_5, zI_6, zI_7, zI_8, zI_9, zI_10, zI_11, zI_12, zI_13, zI_14, zI_15, zI_16, zI_17, zI_18, zI_19, zI_20, zI_21, zI_22, zI_23, zI_24, zI_25, zI_26, zI_27, zI_28, zI_29, zI_30, zI_31, zI_32, zI_33, zI_34, zI_35, zI_36, zI_37, zI_38, zI_39, zI_40, zI_41, zI_42, zI_43, zI_44, zI_45, zI_46, zI_47, zI_48, zI_49, zI_50, zI_51, zI_52, zI_53, zI_54, zI_55, zI_56, zI_57, zI_58, zI_59, zI_60, zI_61, zI_62, zI_63, zI_64, zI_65, zI_66, zI_67, zI_74, zI_84, zI_85, zI_88, zI_91, zI_93, zI_97, zI_99, zI_100, zI_102, zI_105, zI_117, zI_122, zI_193, zI_202, zI_205, zI_251, zI_255, zI_256, zI_257, zI_258, zI_259, zI_260, zI_640, zI_999, zI_1000, zI_1024, zI_1600, zI_1602, zI_1700, zI_2040, zI_3200, zI_4100, zI_9728, zI_11784, zI_61440, zI_65536, zI_470536, zI_999999, zI_1000000, lt_T, lt_F, le_T, le_F, eq_T, eq_F, neg_1, cn_m1p, cn_m11, nI_add, cn_sub, pk_mul, cn_div, cn_irm, cn_lt, cn_eq, cn_ltm1, cn_m1lt, cn_eqm1, cn_m1eq, cn_ix, cn_inb, cn_ninb, cn_irs, cn_ils, cn_and, cn_or, cn_xor, grd_t, grd_bt, grd_bl, Nat.add_zero, Nat.zero_add, Nat.reduceAdd, Nat.reduceSub, Nat.reduceMul, Nat.reduceLT, Nat.reduceEqDiff, eq_self, true_and, and_true, and_false, false_and, if_true, if_false, and_self, Bool.true_eq_false, Bool.false_eq_true]
        exact r2
      · by_cases e : i = j
        · subst e; exact c
        · exact h j (by omega) h2
    · refine ⟨0, by omega, ?_, ⟨fun h => (by cases h), fun h => absurd (h i (Nat.le_refl _) (by omega)) c⟩⟩
      have q1 : (nI (tp (q + i)) = nI (96 + (wdL (woJ o)).getD i 0)) = False := by rw [cn_eq (by omega)]; exact eq_false c
      simp (disch := first | omega | decide) only [f_M_isHere_L76, w2, w4, eL, hq, e1, e2, q1, zI_1, zI_0, nI_add, cn_lt, lt_T, cn_ix, cn_inb, grd_t, grd_bt, Nat.reduceAdd, Nat.reduceSub, Nat.reduceMul, Nat.reduceLT, Nat.reduceEqDiff, eq_self, true_and, and_true, and_false, false_and, if_true, if_false, and_self, Bool.true_eq_false, Bool.false_eq_true]
theorem run_n {q : Nat} (hT : RxM tp n t) : ∀ d i k, i + d = wEn tp n q → q ≤ i → wEn tp n q ≤ n → d < k → mfix k (f_M_isHere_L35 N) (o, nI i, t) = f_M_isHere_j61 N (o, nI (wEn tp n q), t) := by
  have hn := hT.1
  intro d
  induction d with
  | zero =>
    intro i k hi hqi hle hk
    have : i = wEn tp n q := by omega
    subst this
    rw [mfix_1 (by omega)]
    have e1 := hT.2.1
    by_cases c : wEn tp n q < n
    · have e2 := (hT.2.2 _ c).2
      have hb := (hT.2.2 _ c).1
      have o := wEn_o (tp := tp) (n := n) (p := q) (by omega) c
      have e3 : isLe (tp (wEn tp n q)) = false := decide_eq_false (by omega)
      have l := isLetter_n (N := N) (t := t) hb
      rw [e3] at l
      simp (disch := first | omega | decide) only [f_M_isHere_L35, e1, e2, l, zI_0, zI_1, zI_2, zI_3, zI_4, zI_5, zI_6, zI_7, zI_8, zI_9, zI_10, zI_11, zI_12, zI_13, zI_14, zI_15, zI_16, zI_17, zI_18, zI_19, zI_20, zI_21, zI_22, zI_23, zI_24, zI_25, zI_26, zI_27, zI_28, zI_29, zI_30, zI_31, zI_32, zI_33, zI_34, zI_35, zI_36, zI_37, zI_38, zI_39, zI_40, zI_41, zI_42, zI_43, zI_44, zI_45, zI_46, zI_47, zI_48, zI_49, zI_50, zI_51, zI_52, zI_53, zI_54, zI_55, zI_56, zI_57, zI_58, zI_59, zI_60, zI_61, zI_62, zI_63, zI_64, zI_65, zI_66, zI_67, zI_74, zI_84, zI_85, zI_88, zI_91, zI_93, zI_97, zI_99, zI_100, zI_102, zI_105, zI_117, zI_122, zI_193, zI_202, zI_205, zI_251, zI_255, zI_256, zI_257, zI_258, zI_259, zI_260, zI_640, zI_999, zI_1000, zI_1024, zI_1600, zI_1602, zI_1700, zI_2040, zI_3200, zI_4100, zI_9728, zI_11784, zI_61440, zI_65536, zI_470536, zI_999999, zI_1000000, lt_T, lt_F, le_T, le_F, eq_T, eq_F, neg_1, cn_m1p, cn_m11, nI_add, cn_sub, pk_mul, cn_div, cn_irm, cn_lt, cn_eq, cn_ltm1, cn_m1lt, cn_eqm1, cn_m1eq, cn_ix, cn_inb, cn_ninb, cn_irs, cn_ils, cn_and, cn_or, cn_xor, grd_t, grd_bt, grd_bl, Nat.add_zero, Nat.zero_add, Nat.reduceAdd, Nat.reduceSub, Nat.reduceMul, Nat.reduceLT, Nat.reduceEqDiff, eq_self, true_and, and_true, and_false, false_and, if_true, if_false, and_self, Bool.true_eq_false, Bool.false_eq_true, Option.bind_some]
    · simp (disch := first | omega | decide) only [f_M_isHere_L35, e1, zI_0, zI_1, zI_2, zI_3, zI_4, zI_5, zI_6, zI_7, zI_8, zI_9, zI_10, zI_11, zI_12, zI_13, zI_14, zI_15, zI_16, zI_17, zI_18, zI_19, zI_20, zI_21, zI_22, zI_23, zI_24, zI_25, zI_26, zI_27, zI_28, zI_29, zI_30, zI_31, zI_32, zI_33, zI_34, zI_35, zI_36, zI_37, zI_38, zI_39, zI_40, zI_41, zI_42, zI_43, zI_44, zI_45, zI_46, zI_47, zI_48, zI_49, zI_50, zI_51, zI_52, zI_53, zI_54, zI_55, zI_56, zI_57, zI_58, zI_59, zI_60, zI_61, zI_62, zI_63, zI_64, zI_65, zI_66, zI_67, zI_74, zI_84, zI_85, zI_88, zI_91, zI_93, zI_97, zI_99, zI_100, zI_102, zI_105, zI_117, zI_122, zI_193, zI_202, zI_205, zI_251, zI_255, zI_256, zI_257, zI_258, zI_259, zI_260, zI_640, zI_999, zI_1000, zI_1024, zI_1600, zI_1602, zI_1700, zI_2040, zI_3200, zI_4100, zI_9728, zI_11784, zI_61440, zI_65536, zI_470536, zI_999999, zI_1000000, lt_T, lt_F, le_T, le_F, eq_T, eq_F, neg_1, cn_m1p, cn_m11, nI_add, cn_sub, pk_mul, cn_div, cn_irm, cn_lt, cn_eq, cn_ltm1, cn_m1lt, cn_eqm1, cn_m1eq, cn_ix, cn_inb, cn_ninb, cn_irs, cn_ils, cn_and, cn_or, cn_xor, grd_t, grd_bt, grd_bl, Nat.add_zero, Nat.zero_add, Nat.reduceAdd, Nat.reduceSub, Nat.reduceMul, Nat.reduceLT, Nat.reduceEqDiff, eq_self, true_and, and_true, and_false, false_and, if_true, if_false, and_self, Bool.true_eq_false, Bool.false_eq_true]
  | succ d ih =>
    intro i k hi hqi hle hk
    rw [mfix_1 (by omega)]
    have e1 := hT.2.1
    have e2 := (hT.2.2 i (by omega)).2
    have hb := (hT.2.2 i (by omega)).1
    have wi := word_in (tp := tp) (n := n) (p := q) (i := i - q) (by omega)
    rw [show q + (i - q) = i by omega] at wi
    have e3 : isLe (tp i) = true := decide_eq_true (by omega)
    have l := isLetter_n (N := N) (t := t) hb
    rw [e3] at l
    simp (disch := first | omega | decide) only [f_M_isHere_L35, e1, e2, l, zI_0, zI_1, zI_2, zI_3, zI_4, zI_5, zI_6, zI_7, zI_8, zI_9, zI_10, zI_11, zI_12, zI_13, zI_14, zI_15, zI_16, zI_17, zI_18, zI_19, zI_20, zI_21, zI_22, zI_23, zI_24, zI_25, zI_26, zI_27, zI_28, zI_29, zI_30, zI_31, zI_32, zI_33, zI_34, zI_35, zI_36, zI_37, zI_38, zI_39, zI_40, zI_41, zI_42, zI_43, zI_44, zI_45, zI_46, zI_47, zI_48, zI_49, zI_50, zI_51, zI_52, zI_53, zI_54, zI_55, zI_56, zI_57, zI_58, zI_59, zI_60, zI_61, zI_62, zI_63, zI_64, zI_65, zI_66, zI_67, zI_74, zI_84, zI_85, zI_88, zI_91, zI_93, zI_97, zI_99, zI_100, zI_102, zI_105, zI_117, zI_122, zI_193, zI_202, zI_205, zI_251, zI_255, zI_256, zI_257, zI_258, zI_259, zI_260, zI_640, zI_999, zI_1000, zI_1024, zI_1600, zI_1602, zI_1700, zI_2040, zI_3200, zI_4100, zI_9728, zI_11784, zI_61440, zI_65536, zI_470536, zI_999999, zI_1000000, lt_T, lt_F, le_T, le_F, eq_T, eq_F, neg_1, cn_m1p, cn_m11, nI_add, cn_sub, pk_mul, cn_div, cn_irm, cn_lt, cn_eq, cn_ltm1, cn_m1lt, cn_eqm1, cn_m1eq, cn_ix, cn_inb, cn_ninb, cn_irs, cn_ils, cn_and, cn_or, cn_xor, grd_t, grd_bt, grd_bl, Nat.add_zero, Nat.zero_add, Nat.reduceAdd, Nat.reduceSub, Nat.reduceMul, Nat.reduceLT, Nat.reduceEqDiff, eq_self, true_and, and_true, and_false, false_and, if_true, if_false, and_self, Bool.true_eq_false, Bool.false_eq_true, Option.bind_some]
    exact ih (i + 1) (k - 1) (by omega) (by omega) hle (by omega)
theorem kK_w (ht : ∀ i, i < n → tp i < 256) (ek : kK tp n p b = 256) : skp tp n p < n ∧ isLe (tp (skp tp n p)) = true ∧ ¬ (b = true ∧ skp tp n p = p) := by
  unfold kK at ek
  by_cases c : n ≤ skp tp n p
  · rw [if_pos c] at ek; cases ek
  · rw [if_neg c] at ek
    have hb := ht (skp tp n p) (by omega)
    refine ⟨by omega, ?_⟩
    by_cases cl : isLe (tp (skp tp n p)) = true
    · rw [if_pos cl] at ek
      refine ⟨cl, fun h => ?_⟩
      rw [if_pos h] at ek; cases ek
    · rw [if_neg cl] at ek
      exfalso
      split at ek
      · split at ek <;> cases ek
      · omega
theorem kK_n (ht : ∀ i, i < n → tp i < 256) (ek : kK tp n p b = 257) : skp tp n p < n ∧ isLe (tp (skp tp n p)) = false ∧ isDi (tp (skp tp n p)) = true ∧ ¬ (b = true ∧ skp tp n p = p) := by
  unfold kK at ek
  by_cases c : n ≤ skp tp n p
  · rw [if_pos c] at ek; cases ek
  · rw [if_neg c] at ek
    have hb := ht (skp tp n p) (by omega)
    refine ⟨by omega, ?_⟩
    by_cases cl : isLe (tp (skp tp n p)) = true
    · rw [if_pos cl] at ek
      exfalso
      split at ek <;> cases ek
    · rw [if_neg cl] at ek
      refine ⟨by cases h : isLe (tp (skp tp n p)) <;> simp_all, ?_⟩
      by_cases cd : isDi (tp (skp tp n p)) = true
      · rw [if_pos cd] at ek
        refine ⟨cd, fun h => ?_⟩
        rw [if_pos h] at ek; cases ek
      · rw [if_neg cd] at ek
        omega
theorem wdA_0 (h : kK tp n p b ≠ 256) : wdA tp n p b = 0 := if_neg h
/-- a word asked for, the place looked at -/
theorem isHere_n (hT : RxM tp n t) (h : AtL tp n p b t) (hw : MWd t) (h5 : gI t 1005 0 = nI 0) (ho : o ∈ kWo) (hN : 10000 ≤ N) :
    f_M_isHere N o t = some (nI (if wdA tp n p b = woJ o + 1 then 1 else 0), t) := by
  obtain ⟨w1, w2, w3, w4, w5⟩ := woJ_ok o ho
  obtain ⟨_, u2, u3, u4⟩ := wdL_ok _ w1
  have eL : Int32.ofNat (alA Sm o) = nI (wdL (woJ o)).length := by rw [w3]; rfl
  have lk := lookL_n hT h hN
  have hn := hT.1
  have en := ended_n h hn
  have hq := h.2.2
  have hp := h.1
  have sb := skp_b (tp := tp) hp
  by_cases c : skp tp n p < n
  · have hb := (hT.2.2 _ c).1
    have ch : chM tp n p = nI (tp (skp tp n p)) := by unfold chM; rw [if_pos c]
    have l := isLetter_n (N := N) (t := t) hb
    by_cases cl : isLe (tp (skp tp n p)) = true
    · rw [cl] at l
      by_cases ct : b = true ∧ skp tp n p = p
      · have ek : kK tp n p b = 259 := by unfold kK; rw [if_neg (by omega), if_pos cl, if_pos ct]
        have ew : wdA tp n p b = 0 := wdA_0 (by omega)
        have en' := en.trans (eq_true ct)
        rw [ew, if_neg (by omega)]
        simp (disch := first | omega | decide) only [f_M_isHere, h5, lk, ch, l, en', zI_0, zI_1, zI_2, zI_3, zI_4, zI_5, zI_6, zI_7, zI_8, zI_9, zI_10, zI_11, zI_12, zI_13, zI_14, zI_15, zI_16, zI_17, zI_18, zI_19, zI_20, zI_21, zI_22, zI_23, zI_24, zI_25, zI_26, zI_27, zI_28, zI_29, zI_30, zI_31, zI_32, zI_33, zI_34, zI_35, zI_36, zI_37, zI_38, zI_39, zI_40, zI_41, zI_42, zI_43, zI_44, zI_45, zI_46, zI_47, zI_48, zI_49, zI_50, zI_51, zI_52, zI_53, zI_54, zI_55, zI_56, zI_57, zI_58, zI_59, zI_60, zI_61, zI_62, zI_63, zI_64, zI_65, zI_66, zI_67, zI_74, zI_84, zI_85, zI_88, zI_91, zI_93, zI_97, zI_99, zI_100, zI_102, zI_105, zI_117, zI_122, zI_193, zI_202, zI_205, zI_251, zI_255, zI_256, zI_257, zI_258, zI_259, zI_260, zI_640, zI_999, zI_1000, zI_1024, zI_1600, zI_1602, zI_1700, zI_2040, zI_3200, zI_4100, zI_9728, zI_11784, zI_61440, zI_65536, zI_470536, zI_999999, zI_1000000, lt_T, lt_F, le_T, le_F, eq_T, eq_F, neg_1, cn_m1p, cn_m11, nI_add, cn_sub, pk_mul, cn_div, cn_irm, cn_lt, cn_eq, cn_ltm1, cn_m1lt, cn_eqm1, cn_m1eq, cn_ix, cn_inb, cn_ninb, cn_irs, cn_ils, cn_and, cn_or, cn_xor, grd_t, grd_bt, grd_bl, Nat.add_zero, Nat.zero_add, Nat.reduceAdd, Nat.reduceSub, Nat.reduceMul, Nat.reduceLT, Nat.reduceEqDiff, eq_self, true_and, and_true, and_false, false_and, if_true, if_false, and_self, Bool.true_eq_false, Bool.false_eq_true, Option.bind_some]
      · have en' := en.trans (eq_false ct)
        rw [hq] at en'
        have gt := wEn_gt (tp := tp) c cl
        have wb := wEn_b (tp := tp) (n := n) (p := skp tp n p) (by omega)
        have ek : kK tp n p b = 256 := by unfold kK; rw [if_neg (by omega), if_pos cl, if_neg ct]
        have ez : kZ tp n p = wEn tp n (skp tp n p) - skp tp n p := by unfold kZ; rw [if_neg (by omega), if_pos cl]
        have es : kS tp n p = spW tp (skp tp n p) (min 6 (kZ tp n p)) := by unfold kS; rw [if_neg (by omega), if_pos cl]
        have ew : wdA tp n p b = wId (kZ tp n p) (spW tp (skp tp n p) (min 6 (kZ tp n p))) := by unfold wdA; rw [if_pos ek, es]
        have iff := wId_iff (tp := tp) (q := skp tp n p) (z := kZ tp n p) w1 (by omega) (fun i hi => word_in (n := n) (by omega))
        rw [← ew] at iff
        have rn := run_n (N := N) (o := o) hT (wEn tp n (skp tp n p) - skp tp n p) (skp tp n p) N (by omega) (Nat.le_refl _) wb.2 (by omega)
        have head : f_M_isHere N o t = f_M_isHere_j61 N (o, nI (wEn tp n (skp tp n p)), t) := by
          rw [← rn]
          simp (disch := first | omega | decide) only [f_M_isHere, h5, lk, ch, l, en', hq, zI_0, zI_1, zI_2, zI_3, zI_4, zI_5, zI_6, zI_7, zI_8, zI_9, zI_10, zI_11, zI_12, zI_13, zI_14, zI_15, zI_16, zI_17, zI_18, zI_19, zI_20, zI_21, zI_22, zI_23, zI_24, zI_25, zI_26, zI_27, zI_28, zI_29, zI_30, zI_31, zI_32, zI_33, zI_34, zI_35, zI_36, zI_37, zI_38, zI_39, zI_40, zI_41, zI_42, zI_43, zI_44, zI_45, zI_46, zI_47, zI_48, zI_49, zI_50, zI_51, zI_52, zI_53, zI_54, zI_55, zI_56, zI_57, zI_58, zI_59, zI_60, zI_61, zI_62, zI_63, zI_64, zI_65, zI_66, zI_67, zI_74, zI_84, zI_85, zI_88, zI_91, zI_93, zI_97, zI_99, zI_100, zI_102, zI_105, zI_117, zI_122, zI_193, zI_202, zI_205, zI_251, zI_255, zI_256, zI_257, zI_258, zI_259, zI_260, zI_640, zI_999, zI_1000, zI_1024, zI_1600, zI_1602, zI_1700, zI_2040, zI_3200, zI_4100, zI_9728, zI_11784, zI_61440, zI_65536, zI_470536, zI_999999, zI_1000000, lt_T, lt_F, le_T, le_F, eq_T, eq_F, neg_1, cn_m1p, cn_m11, nI_add, cn_sub, pk_mul, cn_div, cn_irm, cn_lt, cn_eq, cn_ltm1, cn_m1lt, cn_eqm1, cn_m1eq, cn_ix, cn_inb, cn_ninb, cn_irs, cn_ils, cn_and, cn_or, cn_xor, grd_t, grd_bt, grd_bl, Nat.add_zero, Nat.zero_add, Nat.reduceAdd, Nat.reduceSub, Nat.reduceMul, Nat.reduceLT, Nat.reduceEqDiff, eq_self, true_and, and_true, and_false, false_and, if_true, if_false, and_self, Bool.true_eq_false, Bool.false_eq_true, Option.bind_some]
        rw [head]
        by_cases cz : kZ tp n p = (wdL (woJ o)).length
        · obtain ⟨r, r1, r2, r3⟩ := cmp_n (N := N) ho hw hT hq (by omega) (wdL (woJ o)).length 0 N (by omega) (by omega)
          have e : (nI (wEn tp n (skp tp n p)) - nI (skp tp n p) = nI (wdL (woJ o)).length) = True := by
            rw [cn_sub (by omega), ← ez, cz]; exact eq_true rfl
          have fin : r = if wdA tp n p b = woJ o + 1 then 1 else 0 := by
            by_cases cr : r = 1
            · rw [if_pos (iff.2 ⟨cz, fun i hi => r3.1 cr i (by omega) (by omega)⟩), cr]
            · rw [if_neg (fun hh => cr (r3.2 fun j _ h2 => (iff.1 hh).2 j (by omega)))]; omega
          rw [← fin, ← r2]
          simp (disch := first | omega | decide) only [f_M_isHere_j61, w2, eL, hq, e, zI_0, Nat.reduceAdd, Nat.reduceSub, Nat.reduceMul, Nat.reduceLT, Nat.reduceEqDiff, eq_self, true_and, and_true, and_false, false_and, if_true, if_false, and_self, Bool.true_eq_false, Bool.false_eq_true, grd_t, grd_bt]
        · have e : (nI (wEn tp n (skp tp n p)) - nI (skp tp n p) = nI (wdL (woJ o)).length) = False := by
            rw [cn_sub (by omega), cn_eq (by omega)]; exact eq_false (by omega)
          rw [if_neg (fun hh => cz (iff.1 hh).1)]
          simp (disch := first | omega | decide) only [f_M_isHere_j61, w2, eL, hq, e, zI_0, Nat.reduceAdd, Nat.reduceSub, Nat.reduceMul, Nat.reduceLT, Nat.reduceEqDiff, eq_self, true_and, and_true, and_false, false_and, if_true, if_false, and_self, Bool.true_eq_false, Bool.false_eq_true, grd_t, grd_bt]
    · have clf : isLe (tp (skp tp n p)) = false := by simpa using cl
      rw [clf] at l
      have ew : wdA tp n p b = 0 := wdA_0 (fun h => cl (kK_w (fun i hi => (hT.2.2 i hi).1) h).2.1)
      rw [ew, if_neg (by omega)]
      simp (disch := first | omega | decide) only [f_M_isHere, h5, lk, ch, l, zI_0, zI_1, zI_2, zI_3, zI_4, zI_5, zI_6, zI_7, zI_8, zI_9, zI_10, zI_11, zI_12, zI_13, zI_14, zI_15, zI_16, zI_17, zI_18, zI_19, zI_20, zI_21, zI_22, zI_23, zI_24, zI_25, zI_26, zI_27, zI_28, zI_29, zI_30, zI_31, zI_32, zI_33, zI_34, zI_35, zI_36, zI_37, zI_38, zI_39, zI_40, zI_41, zI_42, zI_43, zI_44, zI_45, zI_46, zI_47, zI_48, zI_49, zI_50, zI_51, zI_52, zI_53, zI_54, zI_55, zI_56, zI_57, zI_58, zI_59, zI_60, zI_61, zI_62, zI_63, zI_64, zI_65, zI_66, zI_67, zI_74, zI_84, zI_85, zI_88, zI_91, zI_93, zI_97, zI_99, zI_100, zI_102, zI_105, zI_117, zI_122, zI_193, zI_202, zI_205, zI_251, zI_255, zI_256, zI_257, zI_258, zI_259, zI_260, zI_640, zI_999, zI_1000, zI_1024, zI_1600, zI_1602, zI_1700, zI_2040, zI_3200, zI_4100, zI_9728, zI_11784, zI_61440, zI_65536, zI_470536, zI_999999, zI_1000000, lt_T, lt_F, le_T, le_F, eq_T, eq_F, neg_1, cn_m1p, cn_m11, nI_add, cn_sub, pk_mul, cn_div, cn_irm, cn_lt, cn_eq, cn_ltm1, cn_m1lt, cn_eqm1, cn_m1eq, cn_ix, cn_inb, cn_ninb, cn_irs, cn_ils, cn_and, cn_or, cn_xor, grd_t, grd_bt, grd_bl, Nat.add_zero, Nat.zero_add, Nat.reduceAdd, Nat.reduceSub, Nat.reduceMul, Nat.reduceLT, Nat.reduceEqDiff, eq_self, true_and, and_true, and_false, false_and, if_true, if_false, and_self, Bool.true_eq_false, Bool.false_eq_true, Option.bind_some]
  · have ch : chM tp n p = m1 := by unfold chM; rw [if_neg c]
    have l := isLetter_m (N := N) (t := t)
    have ew : wdA tp n p b = 0 := wdA_0 (fun h => c (kK_w (fun i hi => (hT.2.2 i hi).1) h).1)
    rw [ew, if_neg (by omega)]
    simp (disch := first | omega | decide) only [f_M_isHere, h5, lk, ch, l, zI_0, zI_1, zI_2, zI_3, zI_4, zI_5, zI_6, zI_7, zI_8, zI_9, zI_10, zI_11, zI_12, zI_13, zI_14, zI_15, zI_16, zI_17, zI_18, zI_19, zI_20, zI_21, zI_22, zI_23, zI_24, zI_25, zI_26, zI_27, zI_28, zI_29, zI_30, zI_31, zI_32, zI_33, zI_34, zI_35, zI_36, zI_37, zI_38, zI_39, zI_40, zI_41, zI_42, zI_43, zI_44, zI_45, zI_46, zI_47, zI_48, zI_49, zI_50, zI_51, zI_52, zI_53, zI_54, zI_55, zI_56, zI_57, zI_58, zI_59, zI_60, zI_61, zI_62, zI_63, zI_64, zI_65, zI_66, zI_67, zI_74, zI_84, zI_85, zI_88, zI_91, zI_93, zI_97, zI_99, zI_100, zI_102, zI_105, zI_117, zI_122, zI_193, zI_202, zI_205, zI_251, zI_255, zI_256, zI_257, zI_258, zI_259, zI_260, zI_640, zI_999, zI_1000, zI_1024, zI_1600, zI_1602, zI_1700, zI_2040, zI_3200, zI_4100, zI_9728, zI_11784, zI_61440, zI_65536, zI_470536, zI_999999, zI_1000000, lt_T, lt_F, le_T, le_F, eq_T, eq_F, neg_1, cn_m1p, cn_m11, nI_add, cn_sub, pk_mul, cn_div, cn_irm, cn_lt, cn_eq, cn_ltm1, cn_m1lt, cn_eqm1, cn_m1eq, cn_ix, cn_inb, cn_ninb, cn_irs, cn_ils, cn_and, cn_or, cn_xor, grd_t, grd_bt, grd_bl, Nat.add_zero, Nat.zero_add, Nat.reduceAdd, Nat.reduceSub, Nat.reduceMul, Nat.reduceLT, Nat.reduceEqDiff, eq_self, true_and, and_true, and_false, false_and, if_true, if_false, and_self, Bool.true_eq_false, Bool.false_eq_true, Option.bind_some]
theorem isHere_k (hT : RxM tp n t) (h : AtM tp n p b t) (h5 : gI t 1005 0 = nI 0) (hN : 10000 ≤ N) : f_M_isHere N o t = f_M_isHere N o (lk tp n p t) := by
  have l1 := look_n hT h hN
  have l2 := lookL_n (RxM_fr Fr_lk (by decide) hT) (AtL_lk h) hN
  have g : gI (lk tp n p t) 1005 0 = nI 0 := by rw [Fr_lk.I 1005 0 (by decide)]; exact h5
  simp (disch := first | omega | decide) only [f_M_isHere, h5, g, l1, l2, zI_0, zI_1, zI_2, zI_3, zI_4, zI_5, zI_6, zI_7, zI_8, zI_9, zI_10, zI_11, zI_12, zI_13, zI_14, zI_15, zI_16, zI_17, zI_18, zI_19, zI_20, zI_21, zI_22, zI_23, zI_24, zI_25, zI_26, zI_27, zI_28, zI_29, zI_30, zI_31, zI_32, zI_33, zI_34, zI_35, zI_36, zI_37, zI_38, zI_39, zI_40, zI_41, zI_42, zI_43, zI_44, zI_45, zI_46, zI_47, zI_48, zI_49, zI_50, zI_51, zI_52, zI_53, zI_54, zI_55, zI_56, zI_57, zI_58, zI_59, zI_60, zI_61, zI_62, zI_63, zI_64, zI_65, zI_66, zI_67, zI_74, zI_84, zI_85, zI_88, zI_91, zI_93, zI_97, zI_99, zI_100, zI_102, zI_105, zI_117, zI_122, zI_193, zI_202, zI_205, zI_251, zI_255, zI_256, zI_257, zI_258, zI_259, zI_260, zI_640, zI_999, zI_1000, zI_1024, zI_1600, zI_1602, zI_1700, zI_2040, zI_3200, zI_4100, zI_9728, zI_11784, zI_61440, zI_65536, zI_470536, zI_999999, zI_1000000, lt_T, lt_F, le_T, le_F, eq_T, eq_F, neg_1, cn_m1p, cn_m11, nI_add, cn_sub, pk_mul, cn_div, cn_irm, cn_lt, cn_eq, cn_ltm1, cn_m1lt, cn_eqm1, cn_m1eq, cn_ix, cn_inb, cn_ninb, cn_irs, cn_ils, cn_and, cn_or, cn_xor, grd_t, grd_bt, grd_bl, Nat.add_zero, Nat.zero_add, Nat.reduceAdd, Nat.reduceSub, Nat.reduceMul, Nat.reduceLT, Nat.reduceEqDiff, eq_self, true_and, and_true, and_false, false_and, if_true, if_false, and_self, Bool.true_eq_false, Bool.false_eq_true, Option.bind_some]
/-- the reference at a cursor, no fault -/
def RB (tp : Nat → Nat) (n p : Nat) (b : Bool) (t : mS) : Prop := RxM tp n t ∧ MWd t ∧ gI t 1005 0 = nI 0 ∧ AtM tp n p b t
def RL (tp : Nat → Nat) (n p : Nat) (b : Bool) (t : mS) : Prop := RxM tp n t ∧ MWd t ∧ gI t 1005 0 = nI 0 ∧ AtL tp n p b t
/-- a fault stands there -/
def BdM (k w : Nat) (t : mS) : Prop := 0 < k ∧ k < 100 ∧ gI t 1005 0 = nI k ∧ gI t 1006 0 = nI w
def kAt : List Nat := [110200, 110400]
def kAf : List Nat := [110200, 110400, 110500, 110600]
def nbK (K : Nat) : Bool := decide (K = 256 ∨ K = 257)
theorem MWd_fr {l : List Nat} {t t' : mS} (hF : Fr l t t') (hk : ∀ k ∈ kWo, k ∉ l) (h : MWd t) : MWd t' := fun o ho i => by rw [hF.A o i (hk _ ho)]; exact h o ho i
theorem BdM_fr {k w : Nat} {l : List Nat} {t t' : mS} (hF : Fr l t t') (hk : ∀ k ∈ [110500, 110600], k ∉ l) (h : BdM k w t) : BdM k w t' :=
  ⟨h.1, h.2.1, by rw [hF.I 1005 0 (hk _ (by decide))]; exact h.2.2.1, by rw [hF.I 1006 0 (hk _ (by decide))]; exact h.2.2.2⟩
theorem AtM_fr {l : List Nat} {t t' : mS} (hF : Fr l t t') (hk : ∀ k ∈ [110200, 110400], k ∉ l) (h : AtM tp n p b t) : AtM tp n p b t' := by
  obtain ⟨h1, ⟨e, h2, h3⟩, q, h4, h5⟩ := h
  exact ⟨h1, ⟨e, by rw [hF.I 1004 0 (hk _ (by decide))]; exact h2, h3⟩, q, by rw [hF.I 1002 0 (hk _ (by decide))]; exact h4, h5⟩
theorem AtL_fr {l : List Nat} {t t' : mS} (hF : Fr l t t') (hk : ∀ k ∈ [110200, 110400], k ∉ l) (h : AtL tp n p b t) : AtL tp n p b t' := by
  obtain ⟨h1, ⟨e, h2, h3⟩, h4⟩ := h
  exact ⟨h1, ⟨e, by rw [hF.I 1004 0 (hk _ (by decide))]; exact h2, h3⟩, by rw [hF.I 1002 0 (hk _ (by decide))]; exact h4⟩
theorem RB_fr {l : List Nat} {t t' : mS} (hF : Fr l t t') (hk : ∀ k ∈ 110300 :: 110500 :: 1 :: 110200 :: 110400 :: kWo, k ∉ l) (h : RB tp n p b t) : RB tp n p b t' :=
  ⟨RxM_fr hF (fun k hk2 => hk k (by revert k; decide)) h.1, MWd_fr hF (fun k hk2 => hk k (List.mem_cons_of_mem _ (List.mem_cons_of_mem _ (List.mem_cons_of_mem _ (List.mem_cons_of_mem _ (List.mem_cons_of_mem _ hk2)))))) h.2.1, by rw [hF.I 1005 0 (hk _ (by decide))]; exact h.2.2.1, AtM_fr hF (fun k hk2 => hk k (by revert k; decide)) h.2.2.2⟩
theorem RL_fr {l : List Nat} {t t' : mS} (hF : Fr l t t') (hk : ∀ k ∈ 110300 :: 110500 :: 1 :: 110200 :: 110400 :: kWo, k ∉ l) (h : RL tp n p b t) : RL tp n p b t' :=
  ⟨RxM_fr hF (fun k hk2 => hk k (by revert k; decide)) h.1, MWd_fr hF (fun k hk2 => hk k (List.mem_cons_of_mem _ (List.mem_cons_of_mem _ (List.mem_cons_of_mem _ (List.mem_cons_of_mem _ (List.mem_cons_of_mem _ hk2)))))) h.2.1, by rw [hF.I 1005 0 (hk _ (by decide))]; exact h.2.2.1, AtL_fr hF (fun k hk2 => hk k (by revert k; decide)) h.2.2.2⟩
theorem RL_RB (h : RL tp n p b t) : RB tp n p b t := ⟨h.1, h.2.1, h.2.2.1, AtL_AtM h.2.2.2⟩
theorem RB_lk (h : RB tp n p b t) : RL tp n p b (lk tp n p t) :=
  ⟨RxM_fr Fr_lk (by decide) h.1, MWd_fr Fr_lk (by decide) h.2.1, by rw [Fr_lk.I 1005 0 (by decide)]; exact h.2.2.1, AtL_lk h.2.2.2⟩
theorem lk_RL (h : RL tp n p b t) : lk tp n p t = t := by
  unfold lk
  rw [sI_id h.2.2.2.2.2]
theorem look_b (h : RB tp n p b t) (hN : 10000 ≤ N) : f_M_look N t = some (chM tp n p, lk tp n p t) := look_n h.1 h.2.2.2 hN
theorem isHere_b (h : RB tp n p b t) (ho : o ∈ kWo) (hN : 10000 ≤ N) : f_M_isHere N o t = some (nI (if wdA tp n p b = woJ o + 1 then 1 else 0), lk tp n p t) := by
  obtain ⟨h1, h2, h3, h4⟩ := RB_lk h
  rw [isHere_k h.1 h.2.2.2 h.2.2.1 hN, isHere_n h1 h4 h2 h3 ho hN]
theorem mfail_l {k w : Nat} (h : gI t 1005 0 = nI 0) (hk : 0 < k ∧ k < 100) : ∃ t', f_M_fail N (nI k) (nI w) t = some t' ∧ BdM k w t' ∧ Fr kAf t t' := by
  refine ⟨sI (sI t 1005 0 (nI k)) 1006 0 (nI w), ?_, ⟨hk.1, hk.2, by simp (disch := first | omega | decide) only [gI_sI, gI_sA, gI_sL, gI_sQ, gI_sC, gI_sO, gI_sD, gA_sI, gA_sL, gA_sQ, gA_sO, gA_sD, gL_sI, gL_sA, gL_sQ, gL_sC, gL_sO, gL_sD, gQ_sI, gQ_sA, gQ_sL, gQ_sC, gQ_sO, gO_sI, gO_sA, gO_sL, gO_sQ, gO_sC, gO_sO, gO_sD, gA_eq, gA_ne, gQ_eq, gQ_ne, gL_sL, gA_cin, gA_cou, gQ_cin, gQ_cou, Nat.reduceAdd, Nat.reduceSub, Nat.reduceMul, Nat.reduceLT, Nat.reduceEqDiff, eq_self, true_and, and_true, and_false, false_and, if_true, if_false, and_self, Bool.true_eq_false, Bool.false_eq_true], by simp (disch := first | omega | decide) only [gI_sI, gI_sA, gI_sL, gI_sQ, gI_sC, gI_sO, gI_sD, gA_sI, gA_sL, gA_sQ, gA_sO, gA_sD, gL_sI, gL_sA, gL_sQ, gL_sC, gL_sO, gL_sD, gQ_sI, gQ_sA, gQ_sL, gQ_sC, gQ_sO, gO_sI, gO_sA, gO_sL, gO_sQ, gO_sC, gO_sO, gO_sD, gA_eq, gA_ne, gQ_eq, gQ_ne, gL_sL, gA_cin, gA_cou, gQ_cin, gQ_cou, Nat.reduceAdd, Nat.reduceSub, Nat.reduceMul, Nat.reduceLT, Nat.reduceEqDiff, eq_self, true_and, and_true, and_false, false_and, if_true, if_false, and_self, Bool.true_eq_false, Bool.false_eq_true]⟩, Fr_t (Fr_sI _ _ _ (by decide)) (Fr_sI _ _ _ (by decide))⟩
  simp (disch := first | omega | decide) only [f_M_fail, h, zI_0, zI_1, zI_2, zI_3, zI_4, zI_5, zI_6, zI_7, zI_8, zI_9, zI_10, zI_11, zI_12, zI_13, zI_14, zI_15, zI_16, zI_17, zI_18, zI_19, zI_20, zI_21, zI_22, zI_23, zI_24, zI_25, zI_26, zI_27, zI_28, zI_29, zI_30, zI_31, zI_32, zI_33, zI_34, zI_35, zI_36, zI_37, zI_38, zI_39, zI_40, zI_41, zI_42, zI_43, zI_44, zI_45, zI_46, zI_47, zI_48, zI_49, zI_50, zI_51, zI_52, zI_53, zI_54, zI_55, zI_56, zI_57, zI_58, zI_59, zI_60, zI_61, zI_62, zI_63, zI_64, zI_65, zI_66, zI_67, zI_74, zI_84, zI_85, zI_88, zI_91, zI_93, zI_97, zI_99, zI_100, zI_102, zI_105, zI_117, zI_122, zI_193, zI_202, zI_205, zI_251, zI_255, zI_256, zI_257, zI_258, zI_259, zI_260, zI_640, zI_999, zI_1000, zI_1024, zI_1600, zI_1602, zI_1700, zI_2040, zI_3200, zI_4100, zI_9728, zI_11784, zI_61440, zI_65536, zI_470536, zI_999999, zI_1000000, lt_T, lt_F, le_T, le_F, eq_T, eq_F, neg_1, cn_m1p, cn_m11, nI_add, cn_sub, pk_mul, cn_div, cn_irm, cn_lt, cn_eq, cn_ltm1, cn_m1lt, cn_eqm1, cn_m1eq, cn_ix, cn_inb, cn_ninb, cn_irs, cn_ils, cn_and, cn_or, cn_xor, grd_t, grd_bt, grd_bl, Nat.add_zero, Nat.zero_add, Nat.reduceAdd, Nat.reduceSub, Nat.reduceMul, Nat.reduceLT, Nat.reduceEqDiff, eq_self, true_and, and_true, and_false, false_and, if_true, if_false, and_self, Bool.true_eq_false, Bool.false_eq_true]
theorem mfail_d {k w : Nat} (h : BdM k w t) (x y : Int32) : f_M_fail N x y t = some t := by
  obtain ⟨h1, h2, h3, h4⟩ := h
  simp (disch := first | omega | decide) only [f_M_fail, h3, zI_0, zI_1, zI_2, zI_3, zI_4, zI_5, zI_6, zI_7, zI_8, zI_9, zI_10, zI_11, zI_12, zI_13, zI_14, zI_15, zI_16, zI_17, zI_18, zI_19, zI_20, zI_21, zI_22, zI_23, zI_24, zI_25, zI_26, zI_27, zI_28, zI_29, zI_30, zI_31, zI_32, zI_33, zI_34, zI_35, zI_36, zI_37, zI_38, zI_39, zI_40, zI_41, zI_42, zI_43, zI_44, zI_45, zI_46, zI_47, zI_48, zI_49, zI_50, zI_51, zI_52, zI_53, zI_54, zI_55, zI_56, zI_57, zI_58, zI_59, zI_60, zI_61, zI_62, zI_63, zI_64, zI_65, zI_66, zI_67, zI_74, zI_84, zI_85, zI_88, zI_91, zI_93, zI_97, zI_99, zI_100, zI_102, zI_105, zI_117, zI_122, zI_193, zI_202, zI_205, zI_251, zI_255, zI_256, zI_257, zI_258, zI_259, zI_260, zI_640, zI_999, zI_1000, zI_1024, zI_1600, zI_1602, zI_1700, zI_2040, zI_3200, zI_4100, zI_9728, zI_11784, zI_61440, zI_65536, zI_470536, zI_999999, zI_1000000, lt_T, lt_F, le_T, le_F, eq_T, eq_F, neg_1, cn_m1p, cn_m11, nI_add, cn_sub, pk_mul, cn_div, cn_irm, cn_lt, cn_eq, cn_ltm1, cn_m1lt, cn_eqm1, cn_m1eq, cn_ix, cn_inb, cn_ninb, cn_irs, cn_ils, cn_and, cn_or, cn_xor, grd_t, grd_bt, grd_bl, Nat.add_zero, Nat.zero_add, Nat.reduceAdd, Nat.reduceSub, Nat.reduceMul, Nat.reduceLT, Nat.reduceEqDiff, eq_self, true_and, and_true, and_false, false_and, if_true, if_false, and_self, Bool.true_eq_false, Bool.false_eq_true]
theorem kE_b (hp : p ≤ n) : skp tp n p ≤ kE tp n p ∧ kE tp n p ≤ n ∧ (skp tp n p < n → skp tp n p < kE tp n p) := by
  have sb := skp_b (tp := tp) hp
  have wb := wEn_b (tp := tp) (n := n) (p := skp tp n p) sb.2
  have db := dEn_b (tp := tp) (n := n) (p := skp tp n p) sb.2
  unfold kE
  split
  · omega
  · split
    · have := wEn_gt (tp := tp) (n := n) (q := skp tp n p) (by omega) (by assumption); omega
    · split
      · have := dEn_gt (tp := tp) (n := n) (q := skp tp n p) (by omega) (by assumption); omega
      · omega
theorem wdA_k {j : Nat} (h : wdA tp n p b = j + 1) : kK tp n p b = 256 := by
  unfold wdA at h
  split at h
  · assumption
  · cases h
end HERE
