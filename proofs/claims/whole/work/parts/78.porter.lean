/-! A PORTER told, on both sides -/
section PORTER
variable {N n p op k w M mk np : Nat} {tp pt : Nat → Nat} {b : Bool} {s s' s0 t t' t0 : mS} {L e : List Nat} {A A' : pL} {l : List Nat} {x : Int32} {nm : Nat → List Nat}
theorem porter_d {lf : Nat} (D : DXd s0 k w s) (hnp : np < 12) (hl : lf ≤ 1602) (hN : 10000 ≤ N) : ∃ s', ((f_Rd_test N (sI s 610 18 (nI 9728))).bind fun p4 => f_Pl_place N 9 (nI np) (nI lf) p4) = some s' ∧ DXd s0 k w s' := by
  have D1 := DXd_fr D (Fr_sI 610 18 (nI 9728) (l := [71018]) (by decide)) (by decide) (by decide)
  obtain ⟨s2, f2, D2, F2⟩ := (grp_d (k := k) (w := w) (Or.inl rfl) hN 96).2.2.2 _ D1.1
  obtain ⟨d1, d2, sz, d3, d4⟩ := D2
  obtain ⟨s3, f3, F3⟩ := place_d (N := N) (fr := lf) (w := np) d4 d3 hl hnp hN
  have f2 : f_Rd_test N (sI s 610 18 (nI 9728)) = some s2 := f2
  refine ⟨s3, by rw [f2, Option.bind_some, f3], ?_⟩
  exact DXd_fr ⟨⟨d1, d2, sz, d3, d4⟩, Fr_t D1.2 (Fr_w F2 (by decide))⟩ F3 (by decide) (by decide)
theorem pj103_d {v : Int64} (B : BdM k w t) : f_M_porterTold_j103 N (v, t) = some t := by
  have B5 := B.2.2.1
  have B1 := B.1
  have B2 := B.2.1
  simp (disch := first | omega | decide) only [f_M_porterTold_j103, B5, zI_0, zI_1, zI_2, zI_3, zI_4, zI_5, zI_6, zI_7, zI_8, zI_9, zI_10, zI_11, zI_12, zI_13, zI_14, zI_15, zI_16, zI_17, zI_18, zI_19, zI_20, zI_21, zI_22, zI_23, zI_24, zI_25, zI_26, zI_27, zI_28, zI_29, zI_30, zI_31, zI_32, zI_33, zI_34, zI_35, zI_36, zI_37, zI_38, zI_39, zI_40, zI_41, zI_42, zI_43, zI_44, zI_45, zI_46, zI_47, zI_48, zI_49, zI_50, zI_51, zI_52, zI_53, zI_54, zI_55, zI_56, zI_57, zI_58, zI_59, zI_60, zI_61, zI_62, zI_63, zI_64, zI_65, zI_66, zI_67, zI_74, zI_84, zI_85, zI_88, zI_91, zI_93, zI_97, zI_99, zI_100, zI_102, zI_105, zI_117, zI_122, zI_193, zI_202, zI_205, zI_251, zI_255, zI_256, zI_257, zI_258, zI_259, zI_260, zI_640, zI_999, zI_1000, zI_1024, zI_1600, zI_1602, zI_1700, zI_2040, zI_3200, zI_4100, zI_9728, zI_11784, zI_61440, zI_65536, zI_470536, zI_999999, zI_1000000, lt_T, lt_F, le_T, le_F, eq_T, eq_F, neg_1, cn_m1p, cn_m11, nI_add, cn_sub, pk_mul, cn_div, cn_irm, cn_lt, cn_eq, cn_ltm1, cn_m1lt, cn_eqm1, cn_m1eq, cn_ix, cn_inb, cn_ninb, cn_irs, cn_ils, cn_and, cn_or, cn_xor, grd_t, grd_bt, grd_bl, Nat.add_zero, Nat.zero_add, Nat.reduceAdd, Nat.reduceSub, Nat.reduceMul, Nat.reduceLT, Nat.reduceEqDiff, eq_self, true_and, and_true, and_false, false_and, if_true, if_false, and_self, Bool.true_eq_false, Bool.false_eq_true]
theorem pL32_d {v : Int64} (B : BdM k w t) (hnp : np ≤ 10) (h1 : gA t 28 1 = nI np) : ∀ d i f, i + d = np → d < f → mfix f (f_M_porterTold_L32 N) (v, nI i, t) = some t := by
  have B5 := B.2.2.1
  have B1 := B.1
  have B2 := B.2.1
  have a := asks_d (N := N) (o := 5) B
  have j := pj103_d (N := N) (v := v) B
  intro d
  induction d with
  | zero =>
    intro i f hi hf
    rw [mfix_1 (by omega)]
    simp (disch := first | omega | decide) only [f_M_porterTold_L32, h1, a, B5, j, zI_0, zI_1, zI_2, zI_3, zI_4, zI_5, zI_6, zI_7, zI_8, zI_9, zI_10, zI_11, zI_12, zI_13, zI_14, zI_15, zI_16, zI_17, zI_18, zI_19, zI_20, zI_21, zI_22, zI_23, zI_24, zI_25, zI_26, zI_27, zI_28, zI_29, zI_30, zI_31, zI_32, zI_33, zI_34, zI_35, zI_36, zI_37, zI_38, zI_39, zI_40, zI_41, zI_42, zI_43, zI_44, zI_45, zI_46, zI_47, zI_48, zI_49, zI_50, zI_51, zI_52, zI_53, zI_54, zI_55, zI_56, zI_57, zI_58, zI_59, zI_60, zI_61, zI_62, zI_63, zI_64, zI_65, zI_66, zI_67, zI_74, zI_84, zI_85, zI_88, zI_91, zI_93, zI_97, zI_99, zI_100, zI_102, zI_105, zI_117, zI_122, zI_193, zI_202, zI_205, zI_251, zI_255, zI_256, zI_257, zI_258, zI_259, zI_260, zI_640, zI_999, zI_1000, zI_1024, zI_1600, zI_1602, zI_1700, zI_2040, zI_3200, zI_4100, zI_9728, zI_11784, zI_61440, zI_65536, zI_470536, zI_999999, zI_1000000, lt_T, lt_F, le_T, le_F, eq_T, eq_F, neg_1, cn_m1p, cn_m11, nI_add, cn_sub, pk_mul, cn_div, cn_irm, cn_lt, cn_eq, cn_ltm1, cn_m1lt, cn_eqm1, cn_m1eq, cn_ix, cn_inb, cn_ninb, cn_irs, cn_ils, cn_and, cn_or, cn_xor, grd_t, grd_bt, grd_bl, Nat.add_zero, Nat.zero_add, Nat.reduceAdd, Nat.reduceSub, Nat.reduceMul, Nat.reduceLT, Nat.reduceEqDiff, eq_self, true_and, and_true, and_false, false_and, if_true, if_false, and_self, Bool.true_eq_false, Bool.false_eq_true, Option.bind_some]
  | succ d ih =>
    intro i f hi hf
    rw [mfix_1 (by omega)]
    simp (disch := first | omega | decide) only [f_M_porterTold_L32, h1, B5, zI_0, zI_1, zI_2, zI_3, zI_4, zI_5, zI_6, zI_7, zI_8, zI_9, zI_10, zI_11, zI_12, zI_13, zI_14, zI_15, zI_16, zI_17, zI_18, zI_19, zI_20, zI_21, zI_22, zI_23, zI_24, zI_25, zI_26, zI_27, zI_28, zI_29, zI_30, zI_31, zI_32, zI_33, zI_34, zI_35, zI_36, zI_37, zI_38, zI_39, zI_40, zI_41, zI_42, zI_43, zI_44, zI_45, zI_46, zI_47, zI_48, zI_49, zI_50, zI_51, zI_52, zI_53, zI_54, zI_55, zI_56, zI_57, zI_58, zI_59, zI_60, zI_61, zI_62, zI_63, zI_64, zI_65, zI_66, zI_67, zI_74, zI_84, zI_85, zI_88, zI_91, zI_93, zI_97, zI_99, zI_100, zI_102, zI_105, zI_117, zI_122, zI_193, zI_202, zI_205, zI_251, zI_255, zI_256, zI_257, zI_258, zI_259, zI_260, zI_640, zI_999, zI_1000, zI_1024, zI_1600, zI_1602, zI_1700, zI_2040, zI_3200, zI_4100, zI_9728, zI_11784, zI_61440, zI_65536, zI_470536, zI_999999, zI_1000000, lt_T, lt_F, le_T, le_F, eq_T, eq_F, neg_1, cn_m1p, cn_m11, nI_add, cn_sub, pk_mul, cn_div, cn_irm, cn_lt, cn_eq, cn_ltm1, cn_m1lt, cn_eqm1, cn_m1eq, cn_ix, cn_inb, cn_ninb, cn_irs, cn_ils, cn_and, cn_or, cn_xor, grd_t, grd_bt, grd_bl, Nat.add_zero, Nat.zero_add, Nat.reduceAdd, Nat.reduceSub, Nat.reduceMul, Nat.reduceLT, Nat.reduceEqDiff, eq_self, true_and, and_true, and_false, false_and, if_true, if_false, and_self, Bool.true_eq_false, Bool.false_eq_true]
    exact ih (i + 1) (f - 1) (by omega) (by omega)
noncomputable def porT (N : Nat) (v : Int64) (t : mS) : Option mS := (f_M_asks N 5 t).bind fun p1 => if gI p1 1005 0 = nI 0 then (f_M_reads N (gA p1 28 1) (nI 0) p1).bind fun p2 => f_M_porterTold_j103 N (v, p2) else f_M_porterTold_j103 N (v, p1)
theorem pL32_0 (h5 : gI t 1005 0 = nI 0) (hnp : np ≤ 10) (h1 : gA t 28 1 = nI np) (hc : ∀ p, p < np → gQ t 29 p = lN (vaL 27 (nm p)) ∧ NmO (nm p)) (hl : NmO l) (he : ∀ j, j < np → nm j ≠ l) : ∀ d i f, i + d = np → d < f → mfix f (f_M_porterTold_L32 N) (lN (vaL 27 l), nI i, t) = porT N (lN (vaL 27 l)) t := by
  intro d
  induction d with
  | zero =>
    intro i f hi hf
    rw [mfix_1 (by omega)]
    unfold porT
    simp (disch := first | omega | decide) only [f_M_porterTold_L32, h1, zI_0, zI_1, zI_2, zI_3, zI_4, zI_5, zI_6, zI_7, zI_8, zI_9, zI_10, zI_11, zI_12, zI_13, zI_14, zI_15, zI_16, zI_17, zI_18, zI_19, zI_20, zI_21, zI_22, zI_23, zI_24, zI_25, zI_26, zI_27, zI_28, zI_29, zI_30, zI_31, zI_32, zI_33, zI_34, zI_35, zI_36, zI_37, zI_38, zI_39, zI_40, zI_41, zI_42, zI_43, zI_44, zI_45, zI_46, zI_47, zI_48, zI_49, zI_50, zI_51, zI_52, zI_53, zI_54, zI_55, zI_56, zI_57, zI_58, zI_59, zI_60, zI_61, zI_62, zI_63, zI_64, zI_65, zI_66, zI_67, zI_74, zI_84, zI_85, zI_88, zI_91, zI_93, zI_97, zI_99, zI_100, zI_102, zI_105, zI_117, zI_122, zI_193, zI_202, zI_205, zI_251, zI_255, zI_256, zI_257, zI_258, zI_259, zI_260, zI_640, zI_999, zI_1000, zI_1024, zI_1600, zI_1602, zI_1700, zI_2040, zI_3200, zI_4100, zI_9728, zI_11784, zI_61440, zI_65536, zI_470536, zI_999999, zI_1000000, cn_lt, lt_F, Nat.reduceAdd, Nat.reduceSub, Nat.reduceMul, Nat.reduceLT, Nat.reduceEqDiff, eq_self, true_and, and_true, and_false, false_and, if_true, if_false, and_self, Bool.true_eq_false, Bool.false_eq_true]
    rfl
  | succ d ih =>
    intro i f hi hf
    obtain ⟨c1, c2⟩ := hc i (by omega)
    have q := (cmp_lN (va27_lt c2) (va27_lt hl)).trans (eq_false (fun h => he i (by omega) (va27_inj c2 hl h)))
    simp only [zI_0] at q
    rw [mfix_1 (by omega)]
    simp (disch := first | omega | decide) only [f_M_porterTold_L32, h1, h5, c1, q, zI_0, zI_1, zI_2, zI_3, zI_4, zI_5, zI_6, zI_7, zI_8, zI_9, zI_10, zI_11, zI_12, zI_13, zI_14, zI_15, zI_16, zI_17, zI_18, zI_19, zI_20, zI_21, zI_22, zI_23, zI_24, zI_25, zI_26, zI_27, zI_28, zI_29, zI_30, zI_31, zI_32, zI_33, zI_34, zI_35, zI_36, zI_37, zI_38, zI_39, zI_40, zI_41, zI_42, zI_43, zI_44, zI_45, zI_46, zI_47, zI_48, zI_49, zI_50, zI_51, zI_52, zI_53, zI_54, zI_55, zI_56, zI_57, zI_58, zI_59, zI_60, zI_61, zI_62, zI_63, zI_64, zI_65, zI_66, zI_67, zI_74, zI_84, zI_85, zI_88, zI_91, zI_93, zI_97, zI_99, zI_100, zI_102, zI_105, zI_117, zI_122, zI_193, zI_202, zI_205, zI_251, zI_255, zI_256, zI_257, zI_258, zI_259, zI_260, zI_640, zI_999, zI_1000, zI_1024, zI_1600, zI_1602, zI_1700, zI_2040, zI_3200, zI_4100, zI_9728, zI_11784, zI_61440, zI_65536, zI_470536, zI_999999, zI_1000000, lt_T, lt_F, le_T, le_F, eq_T, eq_F, neg_1, cn_m1p, cn_m11, nI_add, cn_sub, pk_mul, cn_div, cn_irm, cn_lt, cn_eq, cn_ltm1, cn_m1lt, cn_eqm1, cn_m1eq, cn_ix, cn_inb, cn_ninb, cn_irs, cn_ils, cn_and, cn_or, cn_xor, grd_t, grd_bt, grd_bl, Nat.add_zero, Nat.zero_add, Nat.reduceAdd, Nat.reduceSub, Nat.reduceMul, Nat.reduceLT, Nat.reduceEqDiff, eq_self, true_and, and_true, and_false, false_and, if_true, if_false, and_self, Bool.true_eq_false, Bool.false_eq_true]
    exact ih (i + 1) (f - 1) (by omega) (by omega)
theorem pL32_1 {q : Nat} (h5 : gI t 1005 0 = nI 0) (h36 : gI t 1036 0 = nI q) (hnp : np ≤ 10) (h1 : gA t 28 1 = nI np) (hc : ∀ p, p < np → gQ t 29 p = lN (vaL 27 (nm p)) ∧ NmO (nm p)) (hl : NmO l) {j : Nat} (hj : j < np) (he : nm j = l) : ∀ d i f, i + d = j → np < i + f → ∃ t', mfix f (f_M_porterTold_L32 N) (lN (vaL 27 l), nI i, t) = some t' ∧ BdM 3 q t' ∧ Fr kAf t t' := by
  intro d
  induction d with
  | zero =>
    intro i f hi hf
    have : i = j := by omega
    subst this
    obtain ⟨c1, c2⟩ := hc i hj
    have qq := (cmp_lN (va27_lt c2) (va27_lt hl)).trans (eq_true (by rw [he]))
    simp only [zI_0] at qq
    obtain ⟨t', g, B, F⟩ := mfail_l (N := N) (k := 3) (w := q) h5 (by omega)
    have e := pL32_d (N := N) (v := lN (vaL 27 l)) B hnp (by rw [F.A 28 1 (by decide)]; exact h1) (np - (i + 1)) (i + 1) (f - 1) (by omega) (by omega)
    refine ⟨t', ?_, B, F⟩
    rw [mfix_1 (by omega)]
    simp (disch := first | omega | decide) only [f_M_porterTold_L32, h1, h5, h36, c1, qq, g, zI_0, zI_1, zI_2, zI_3, zI_4, zI_5, zI_6, zI_7, zI_8, zI_9, zI_10, zI_11, zI_12, zI_13, zI_14, zI_15, zI_16, zI_17, zI_18, zI_19, zI_20, zI_21, zI_22, zI_23, zI_24, zI_25, zI_26, zI_27, zI_28, zI_29, zI_30, zI_31, zI_32, zI_33, zI_34, zI_35, zI_36, zI_37, zI_38, zI_39, zI_40, zI_41, zI_42, zI_43, zI_44, zI_45, zI_46, zI_47, zI_48, zI_49, zI_50, zI_51, zI_52, zI_53, zI_54, zI_55, zI_56, zI_57, zI_58, zI_59, zI_60, zI_61, zI_62, zI_63, zI_64, zI_65, zI_66, zI_67, zI_74, zI_84, zI_85, zI_88, zI_91, zI_93, zI_97, zI_99, zI_100, zI_102, zI_105, zI_117, zI_122, zI_193, zI_202, zI_205, zI_251, zI_255, zI_256, zI_257, zI_258, zI_259, zI_260, zI_640, zI_999, zI_1000, zI_1024, zI_1600, zI_1602, zI_1700, zI_2040, zI_3200, zI_4100, zI_9728, zI_11784, zI_61440, zI_65536, zI_470536, zI_999999, zI_1000000, lt_T, lt_F, le_T, le_F, eq_T, eq_F, neg_1, cn_m1p, cn_m11, nI_add, cn_sub, pk_mul, cn_div, cn_irm, cn_lt, cn_eq, cn_ltm1, cn_m1lt, cn_eqm1, cn_m1eq, cn_ix, cn_inb, cn_ninb, cn_irs, cn_ils, cn_and, cn_or, cn_xor, grd_t, grd_bt, grd_bl, Nat.add_zero, Nat.zero_add, Nat.reduceAdd, Nat.reduceSub, Nat.reduceMul, Nat.reduceLT, Nat.reduceEqDiff, eq_self, true_and, and_true, and_false, false_and, if_true, if_false, and_self, Bool.true_eq_false, Bool.false_eq_true, Option.bind_some]
    exact e
  | succ d ih =>
    intro i f hi hf
    obtain ⟨c1, c2⟩ := hc i (by omega)
    by_cases cc : vaL 27 (nm i) = vaL 27 l
    · have qq := (cmp_lN (va27_lt c2) (va27_lt hl)).trans (eq_true cc)
      simp only [zI_0] at qq
      obtain ⟨t', g, B, F⟩ := mfail_l (N := N) (k := 3) (w := q) h5 (by omega)
      have e := pL32_d (N := N) (v := lN (vaL 27 l)) B hnp (by rw [F.A 28 1 (by decide)]; exact h1) (np - (i + 1)) (i + 1) (f - 1) (by omega) (by omega)
      refine ⟨t', ?_, B, F⟩
      rw [mfix_1 (by omega)]
      simp (disch := first | omega | decide) only [f_M_porterTold_L32, h1, h5, h36, c1, qq, g, zI_0, zI_1, zI_2, zI_3, zI_4, zI_5, zI_6, zI_7, zI_8, zI_9, zI_10, zI_11, zI_12, zI_13, zI_14, zI_15, zI_16, zI_17, zI_18, zI_19, zI_20, zI_21, zI_22, zI_23, zI_24, zI_25, zI_26, zI_27, zI_28, zI_29, zI_30, zI_31, zI_32, zI_33, zI_34, zI_35, zI_36, zI_37, zI_38, zI_39, zI_40, zI_41, zI_42, zI_43, zI_44, zI_45, zI_46, zI_47, zI_48, zI_49, zI_50, zI_51, zI_52, zI_53, zI_54, zI_55, zI_56, zI_57, zI_58, zI_59, zI_60, zI_61, zI_62, zI_63, zI_64, zI_65, zI_66, zI_67, zI_74, zI_84, zI_85, zI_88, zI_91, zI_93, zI_97, zI_99, zI_100, zI_102, zI_105, zI_117, zI_122, zI_193, zI_202, zI_205, zI_251, zI_255, zI_256, zI_257, zI_258, zI_259, zI_260, zI_640, zI_999, zI_1000, zI_1024, zI_1600, zI_1602, zI_1700, zI_2040, zI_3200, zI_4100, zI_9728, zI_11784, zI_61440, zI_65536, zI_470536, zI_999999, zI_1000000, lt_T, lt_F, le_T, le_F, eq_T, eq_F, neg_1, cn_m1p, cn_m11, nI_add, cn_sub, pk_mul, cn_div, cn_irm, cn_lt, cn_eq, cn_ltm1, cn_m1lt, cn_eqm1, cn_m1eq, cn_ix, cn_inb, cn_ninb, cn_irs, cn_ils, cn_and, cn_or, cn_xor, grd_t, grd_bt, grd_bl, Nat.add_zero, Nat.zero_add, Nat.reduceAdd, Nat.reduceSub, Nat.reduceMul, Nat.reduceLT, Nat.reduceEqDiff, eq_self, true_and, and_true, and_false, false_and, if_true, if_false, and_self, Bool.true_eq_false, Bool.false_eq_true, Option.bind_some]
      exact e
    · have qq := (cmp_lN (va27_lt c2) (va27_lt hl)).trans (eq_false cc)
      simp only [zI_0] at qq
      obtain ⟨t', e, B, F⟩ := ih (i + 1) (f - 1) (by omega) (by omega)
      refine ⟨t', ?_, B, F⟩
      rw [mfix_1 (by omega)]
      simp (disch := first | omega | decide) only [f_M_porterTold_L32, h1, h5, c1, qq, zI_0, zI_1, zI_2, zI_3, zI_4, zI_5, zI_6, zI_7, zI_8, zI_9, zI_10, zI_11, zI_12, zI_13, zI_14, zI_15, zI_16, zI_17, zI_18, zI_19, zI_20, zI_21, zI_22, zI_23, zI_24, zI_25, zI_26, zI_27, zI_28, zI_29, zI_30, zI_31, zI_32, zI_33, zI_34, zI_35, zI_36, zI_37, zI_38, zI_39, zI_40, zI_41, zI_42, zI_43, zI_44, zI_45, zI_46, zI_47, zI_48, zI_49, zI_50, zI_51, zI_52, zI_53, zI_54, zI_55, zI_56, zI_57, zI_58, zI_59, zI_60, zI_61, zI_62, zI_63, zI_64, zI_65, zI_66, zI_67, zI_74, zI_84, zI_85, zI_88, zI_91, zI_93, zI_97, zI_99, zI_100, zI_102, zI_105, zI_117, zI_122, zI_193, zI_202, zI_205, zI_251, zI_255, zI_256, zI_257, zI_258, zI_259, zI_260, zI_640, zI_999, zI_1000, zI_1024, zI_1600, zI_1602, zI_1700, zI_2040, zI_3200, zI_4100, zI_9728, zI_11784, zI_61440, zI_65536, zI_470536, zI_999999, zI_1000000, lt_T, lt_F, le_T, le_F, eq_T, eq_F, neg_1, cn_m1p, cn_m11, nI_add, cn_sub, pk_mul, cn_div, cn_irm, cn_lt, cn_eq, cn_ltm1, cn_m1lt, cn_eqm1, cn_m1eq, cn_ix, cn_inb, cn_ninb, cn_irs, cn_ils, cn_and, cn_or, cn_xor, grd_t, grd_bt, grd_bl, Nat.add_zero, Nat.zero_add, Nat.reduceAdd, Nat.reduceSub, Nat.reduceMul, Nat.reduceLT, Nat.reduceEqDiff, eq_self, true_and, and_true, and_false, false_and, if_true, if_false, and_self, Bool.true_eq_false, Bool.false_eq_true]
      exact e
theorem porter_h {c : Int32} (h5 : gI t 1005 0 = nI 0) (hnp : np < 10) (h1 : gA t 28 1 = nI np) : f_M_porterTold N c t = (f_M_name N t).bind fun p1 => mfix N (f_M_porterTold_L32 N) (p1.1, nI 0, p1.2) := by
  simp (disch := first | omega | decide) only [f_M_porterTold, f_M_porterTold_j24, h5, h1, zI_0, zI_1, zI_2, zI_3, zI_4, zI_5, zI_6, zI_7, zI_8, zI_9, zI_10, zI_11, zI_12, zI_13, zI_14, zI_15, zI_16, zI_17, zI_18, zI_19, zI_20, zI_21, zI_22, zI_23, zI_24, zI_25, zI_26, zI_27, zI_28, zI_29, zI_30, zI_31, zI_32, zI_33, zI_34, zI_35, zI_36, zI_37, zI_38, zI_39, zI_40, zI_41, zI_42, zI_43, zI_44, zI_45, zI_46, zI_47, zI_48, zI_49, zI_50, zI_51, zI_52, zI_53, zI_54, zI_55, zI_56, zI_57, zI_58, zI_59, zI_60, zI_61, zI_62, zI_63, zI_64, zI_65, zI_66, zI_67, zI_74, zI_84, zI_85, zI_88, zI_91, zI_93, zI_97, zI_99, zI_100, zI_102, zI_105, zI_117, zI_122, zI_193, zI_202, zI_205, zI_251, zI_255, zI_256, zI_257, zI_258, zI_259, zI_260, zI_640, zI_999, zI_1000, zI_1024, zI_1600, zI_1602, zI_1700, zI_2040, zI_3200, zI_4100, zI_9728, zI_11784, zI_61440, zI_65536, zI_470536, zI_999999, zI_1000000, lt_T, lt_F, le_T, le_F, eq_T, eq_F, neg_1, cn_m1p, cn_m11, nI_add, cn_sub, pk_mul, cn_div, cn_irm, cn_lt, cn_eq, cn_ltm1, cn_m1lt, cn_eqm1, cn_m1eq, cn_ix, cn_inb, cn_ninb, cn_irs, cn_ils, cn_and, cn_or, cn_xor, grd_t, grd_bt, grd_bl, Nat.add_zero, Nat.zero_add, Nat.reduceAdd, Nat.reduceSub, Nat.reduceMul, Nat.reduceLT, Nat.reduceEqDiff, eq_self, true_and, and_true, and_false, false_and, if_true, if_false, and_self, Bool.true_eq_false, Bool.false_eq_true]
/-- a name's fault -/
theorem porter_1 {w' k' : Nat} {v : Int64} {s1 t1 : mS} {c : Int32} (hJ : JX tp n s0 A op pt L p b s) (hM : JM tp n t0 A op pt M p b t) (hW : WD A op pt) (hL : L.length ≤ p) (hP : pP A < 10) (f : f_Rd_name N s = some s1) (D : CD 12 s k' w' s1) (g : f_M_name N t = some (v, t1)) (B : BdM k' w' t1) (F : Fr kNm t t1) (hN : 10000 ≤ N) :
    BoR tp n s0 t0 p x ((f_Rd_name N s).bind fun p2 => (f_Rd_test N (sI p2 610 18 (nI 9728))).bind fun p4 => f_Pl_place N 9 (nI (pP A)) (nI L.length) p4) (f_M_porterTold N c t) := by
  obtain ⟨⟨mk, E⟩, X, D0, F0⟩ := hJ
  have hn := E.1.1
  have hpn := X.1
  have m2 := hM.2.1.2.1
  left
  obtain ⟨s2, f2, D2⟩ := porter_d (N := N) (np := pP A) (lf := L.length) (DX_d F0 D) (by omega) (by omega) hN
  have e := pL32_d (N := N) (v := v) B (show pP A ≤ 10 by omega) (by rw [F.A 28 1 (by decide)]; exact m2) (pP A) 0 N (by omega) (by omega)
  exact ⟨k', w', s2, t1, by rw [f, Option.bind_some, f2], D2, by rw [porter_h hM.1.2.2.1 hP m2, g, Option.bind_some, e], BM_d hM.2.2 B F (by decide) (by decide)⟩
/-- a name that is there already -/
theorem porter_2 {c : Int32} (hJ : JX tp n s0 A op pt L p b s) (hM : JM tp n t0 A op pt M p b t) (hW : WD A op pt) (hL : L.length ≤ p) (hP : pP A < 10) (hk : kK tp n p b = 256) (ho : ¬ (1 ≤ wdA tp n p b ∧ wdA tp n p b ≤ 25)) (hz : kZ tp n p ≤ 6) {j : Nat} (hj : j < pP A) (he : pNm A j = nmL tp (skp tp n p) (kZ tp n p)) (hN : 10000 ≤ N) :
    BoR tp n s0 t0 p x ((f_Rd_name N s).bind fun p2 => (f_Rd_test N (sI p2 610 18 (nI 9728))).bind fun p4 => f_Pl_place N 9 (nI (pP A)) (nI L.length) p4) (f_M_porterTold N c t) := by
  obtain ⟨⟨mk, E⟩, X, D0, F0⟩ := hJ
  have hn := E.1.1
  have hpn := X.1
  have m2 := hM.2.1.2.1
  have ht : ∀ i, i < n → tp i < 256 := (CE_x E X).2.2.2
  obtain ⟨m1', m2'⟩ := nm_ok ht hpn hk hz
  have hnm : ∀ q, q < pP A → NmO (pNm A q) := hW.1.2.2.2.2.2.2.2.1
  left
  obtain ⟨s1, f, D⟩ := name_c3 (N := N) E X (by omega) hk ho hz (show pP A ≤ 10 by omega) D0.2.1 (fun q hq => ⟨D0.2.2.2.2.2.2.1 q hq, hnm q hq⟩) hj he hN
  obtain ⟨t1, g, R, g36, F⟩ := name_r3 (N := N) hM.1 hk ho hz hN
  obtain ⟨s2, f2, D2⟩ := porter_d (N := N) (np := pP A) (lf := L.length) (DX_d F0 D) (by omega) (by omega) hN
  obtain ⟨t2, e, B, F2⟩ := pL32_1 (N := N) R.2.2.1 g36 (show pP A ≤ 10 by omega) (by rw [F.A 28 1 (by decide)]; exact m2) (fun q hq => ⟨by rw [F.Q 29 q (by decide)]; exact hM.2.1.2.2.2.2.2.2.1 q hq, hnm q hq⟩) m1' hj he j 0 N (by omega) (by omega)
  exact ⟨3, skp tp n p, s2, t2, by rw [f, Option.bind_some, f2], D2, by rw [porter_h hM.1.2.2.1 hP m2, g, Option.bind_some, e], BM_d (FM_t hM.2.2 (FM_f F (by decide) (by decide))) B F2 (by decide) (by decide)⟩
/-- a new name -/
theorem porter_3 {c : Int32} (hJ : JX tp n s0 A op pt L p b s) (hM : JM tp n t0 A op pt M p b t) (hW : WD A op pt) (hL : L.length ≤ p) (hMp : M ≤ p) (h0 : 0 < pD A) (hx : gI t 1045 0 = x) (hP : pP A < 10) (hk : kK tp n p b = 256) (ho : ¬ (1 ≤ wdA tp n p b ∧ wdA tp n p b ≤ 25)) (hz : kZ tp n p ≤ 6) (he : ∀ j, j < pP A → pNm A j ≠ nmL tp (skp tp n p) (kZ tp n p)) (hN : 10000 ≤ N) :
    BoR tp n s0 t0 p x ((f_Rd_name N s).bind fun p2 => (f_Rd_test N (sI p2 610 18 (nI 9728))).bind fun p4 => f_Pl_place N 9 (nI (pP A)) (nI L.length) p4) (f_M_porterTold N c t) := by
  obtain ⟨⟨mk, E⟩, X, D0, F0⟩ := hJ
  have hn := E.1.1
  have hpn := X.1
  obtain ⟨m1', m2, m3, m4, m5, m6, m7, m8, m9, m10, m11, m12, m13⟩ := hM.2.1
  have ht : ∀ i, i < n → tp i < 256 := (CE_x E X).2.2.2
  obtain ⟨lok, ls⟩ := nm_ok ht hpn hk hz
  obtain ⟨_, z1, z2, z3, _⟩ := word_l ht hpn hk
  have sb := skp_b (tp := tp) hpn
  have hnm : ∀ q, q < pP A → NmO (pNm A q) := hW.1.2.2.2.2.2.2.2.1
  obtain ⟨c4a, c4b⟩ := name_c4 (N := N) E X (by omega) hk ho hz hP D0.2.1 (fun q hq => ⟨D0.2.2.2.2.2.2.1 q hq, hnm q hq⟩) he hN
  obtain ⟨t1, g, R, g36, F⟩ := name_r3 (N := N) hM.1 hk ho hz hN
  have e28 : gA t1 28 1 = nI (pP A) := by rw [F.A 28 1 (by decide)]; exact m2
  have e := pL32_0 (N := N) R.2.2.1 (show pP A ≤ 10 by omega) e28 (fun q hq => ⟨by rw [F.Q 29 q (by decide)]; exact m7 q hq, hnm q hq⟩) lok he (pP A) 0 N (by omega) (by omega)
  have hr : f_M_porterTold N c t = porT N (lN (vaL 27 (nmL tp (skp tp n p) (kZ tp n p)))) t1 := by
    rw [porter_h hM.1.2.2.1 hP m2, g, Option.bind_some, e]
  rw [hr]
  generalize hl : nmL tp (skp tp n p) (kZ tp n p) = l at *
  have FM1 := FM_t hM.2.2 (FM_f F (by decide) (by decide))
  obtain ⟨as1, as2⟩ := asks_b (N := N) R (show 5 ∈ kWo by decide) hN
  have Fn : Fr [5011, 50109] s (nmS (pP A) l s) := Fr_nm
  by_cases cw : wdA tp n (kE tp n p) true = 9
  · obtain ⟨s1, f, E1, X1, hp1⟩ := c4b cw
    obtain ⟨t2, g2, R2, F2⟩ := as1 cw
    have F12 : Fr kNh t t2 := Fr_t F (Fr_w F2 (by decide))
    obtain ⟨E1', X1'⟩ := CX_re E1 X1
    have F3 : Fr [71018] s1 (sI s1 610 18 (nI 9728)) := Fr_sI _ _ _ (by decide)
    have E2 := CE_mk (mk' := 9728) F3 (by decide) (by simp (disch := first | omega | decide) only [gI_sI, gI_sA, gI_sL, gI_sQ, gI_sC, gI_sO, gI_sD, gA_sI, gA_sL, gA_sQ, gA_sO, gA_sD, gL_sI, gL_sA, gL_sQ, gL_sC, gL_sO, gL_sD, gQ_sI, gQ_sA, gQ_sL, gQ_sC, gQ_sO, gO_sI, gO_sA, gO_sL, gO_sQ, gO_sC, gO_sO, gO_sD, gA_eq, gA_ne, gQ_eq, gQ_ne, gL_sL, gA_cin, gA_cou, gQ_cin, gQ_cou, Nat.reduceAdd, Nat.reduceSub, Nat.reduceMul, Nat.reduceLT, Nat.reduceEqDiff, eq_self, true_and, and_true, and_false, false_and, if_true, if_false, and_self, Bool.true_eq_false, Bool.false_eq_true]) E1'
    have X2 : CX tp n 12 (sI s1 610 18 (nI 9728)) (kE tp n (kE tp n p)) true 0 L (sI s1 610 18 (nI 9728)) := CX_fr F3 (by decide) X1'
    obtain ⟨h1, h2, h3, h4, h5, h6, h7, h8, h9, h10, bn, h11, h12, h13⟩ := D0
    have FA : Fr kDg (nmS (pP A) l s) (sI s1 610 18 (nI 9728)) := Fr_t (Fr_w X1.2.2.2.2.2 (by decide)) (Fr_w F3 (by decide))
    have FB : Fr [60112, 13, 70418, 70518, 70618, 70718, 70818, 260918, 71118, 71218, 71318, 71018] (nmS (pP A) l s) (sI s1 610 18 (nI 9728)) := Fr_t (Fr_w X1.2.2.2.2.2 (by decide)) (Fr_w F3 (by decide))
    have c10 : gI (sI s1 610 18 (nI 9728)) 410 9 = nI bn := by rw [FB.I 410 9 (by decide), Fn.I 410 9 (by decide)]; exact h11
    have c01 : gI (sI s1 610 18 (nI 9728)) 401 9 = nI (pP A + 1) := by rw [FB.I 401 9 (by decide)]; unfold nmS; simp (disch := first | omega | decide) only [gI_sI, gI_sA, gI_sL, gI_sQ, gI_sC, gI_sO, gI_sD, gA_sI, gA_sL, gA_sQ, gA_sO, gA_sD, gL_sI, gL_sA, gL_sQ, gL_sC, gL_sO, gL_sD, gQ_sI, gQ_sA, gQ_sL, gQ_sC, gQ_sO, gO_sI, gO_sA, gO_sL, gO_sQ, gO_sC, gO_sO, gO_sD, gA_eq, gA_ne, gQ_eq, gQ_ne, gL_sL, gA_cin, gA_cou, gQ_cin, gQ_cou, Nat.reduceAdd, Nat.reduceSub, Nat.reduceMul, Nat.reduceLT, Nat.reduceEqDiff, eq_self, true_and, and_true, and_false, false_and, if_true, if_false, and_self, Bool.true_eq_false, Bool.false_eq_true]
    have cnm : ∀ q, q < pP A + 1 → gQ (sI s1 610 18 (nI 9728)) 11 q = lN (nmX (fU (pNm A) (pP A) l q)) := fun q hq => by
      rw [FB.Q 11 q (by decide)]
      unfold nmS
      by_cases cc : q = pP A
      · rw [cc, gQ_sI, gQ_eq rfl, fU_s]
      · rw [gQ_sI, gQ_ne (by omega), fU_n cc]; exact h7 q (by omega)
    have c1415 : ∀ i, gA (sI s1 610 18 (nI 9728)) 14 i = gA s 14 i ∧ gA (sI s1 610 18 (nI 9728)) 15 i = gA s 15 i := fun i => ⟨(FB.A 14 i (by decide)).trans (Fn.A 14 i (by decide)), (FB.A 15 i (by decide)).trans (Fn.A 15 i (by decide))⟩
    have Is : ∀ f o, 10000 + 100 * f + o ∉ [60112, 13, 70418, 70518, 70618, 70718, 70818, 260918, 71118, 71218, 71318, 71018] → 10000 + 100 * f + o ∉ [5011, 50109] → gI (sI s1 610 18 (nI 9728)) f o = gI s f o := fun f o a1 a2 => (FB.I f o a1).trans (Fn.I f o a2)
    have Ad : ∀ d, gA (sI s1 610 18 (nI 9728)) 10 d = gA s 10 d := fun d => (FB.A 10 d (by decide)).trans (Fn.A 10 d (by decide))
    have F0s : Fr kDg s0 (sI s1 610 18 (nI 9728)) := Fr_t F0 (Fr_t (Fr_w Fn (by decide)) FA)
    generalize hs2 : sI s1 610 18 (nI 9728) = s2 at *
    have hp2 := X2.1
    have hK : KdA 0 9728 alT := Or.inl ⟨rfl, rfl, rfl⟩
    have RR : RdC N tp n 0 9728 12 alT true (if true = true then f_Rd_test N else f_Rd_sum N) (if true = true then f_M_qTest N else f_M_qSums N) := by
      rw [if_pos rfl, if_pos rfl]
      exact rd_test hK hN
    have e44 : gI t2 1044 0 = nI M := by rw [F12.I 1044 0 (by decide)]; exact m8
    have e28' : gA t2 28 1 = nI (pP A) := by rw [F12.A 28 1 (by decide)]; exact m2
    have r5 := R2.2.2.1
    have r7 : (nI 0 = nI 0) = True := eq_true rfl
    have hr2 : porT N (lN (vaL 27 l)) t1 = (f_M_reads N (nI (pP A)) (nI 0) t2).bind fun p2 => f_M_porterTold_j103 N (lN (vaL 27 l), p2) := by
      unfold porT
      simp only [g2, Option.bind_some, r5, r7, if_true, e28']
    rw [hr2]
    rcases law_j (w := pP A) (kd := 0) (q := true) RR (by omega) (by simp; omega) E2 X2 (by omega) c10 R2 e44 (by omega) hN with ⟨k, w', s3, t3, f3, D1, F5, g3, B, G⟩ | ⟨e, p', b', s3, t3, f3, E3, X3, hp', hle, hck, c1, c2, c3, c4, F5, g3, R3, q1, q2, q3, q4, q5, q6, G⟩
    · left
      rw [if_pos rfl] at f3
      exact ⟨k, w', s3, t3, by rw [f, Option.bind_some, hs2, f3], ⟨D1, Fr_t (Fr_w F0s (by decide)) (Fr_w F5 (by decide))⟩, by rw [g3, Option.bind_some, pj103_d B], BM_d (FM_t hM.2.2 (FM_f F12 (by decide) (by decide))) B G (by decide) (by decide)⟩
    · right
      rw [if_pos rfl] at f3
      have hp3 := X3.1
      have ll : (L ++ e).length = L.length + e.length := List.length_append
      have pw : pC (pSetP A l e) (pP A) = e := fU_s (pC A) (pP A) e
      have po : ∀ i, i ≠ pP A → pC (pSetP A l e) i = pC A i := fun i hi => fU_n (f := pC A) (v := e) hi
      have r35 := R3.2.2.1
      have e283 : gA t3 28 1 = nI (pP A) := by rw [G.A 28 1 (by decide)]; exact e28'
      have j103 : f_M_porterTold_j103 N (lN (vaL 27 l), t3) = some (sA (sQ t3 29 (pP A) (lN (vaL 27 l))) 28 1 (nI (pP A + 1))) := by
        simp (disch := first | omega | decide) only [f_M_porterTold_j103, r35, e283, zI_0, zI_1, zI_2, zI_3, zI_4, zI_5, zI_6, zI_7, zI_8, zI_9, zI_10, zI_11, zI_12, zI_13, zI_14, zI_15, zI_16, zI_17, zI_18, zI_19, zI_20, zI_21, zI_22, zI_23, zI_24, zI_25, zI_26, zI_27, zI_28, zI_29, zI_30, zI_31, zI_32, zI_33, zI_34, zI_35, zI_36, zI_37, zI_38, zI_39, zI_40, zI_41, zI_42, zI_43, zI_44, zI_45, zI_46, zI_47, zI_48, zI_49, zI_50, zI_51, zI_52, zI_53, zI_54, zI_55, zI_56, zI_57, zI_58, zI_59, zI_60, zI_61, zI_62, zI_63, zI_64, zI_65, zI_66, zI_67, zI_74, zI_84, zI_85, zI_88, zI_91, zI_93, zI_97, zI_99, zI_100, zI_102, zI_105, zI_117, zI_122, zI_193, zI_202, zI_205, zI_251, zI_255, zI_256, zI_257, zI_258, zI_259, zI_260, zI_640, zI_999, zI_1000, zI_1024, zI_1600, zI_1602, zI_1700, zI_2040, zI_3200, zI_4100, zI_9728, zI_11784, zI_61440, zI_65536, zI_470536, zI_999999, zI_1000000, lt_T, lt_F, le_T, le_F, eq_T, eq_F, neg_1, cn_m1p, cn_m11, nI_add, cn_sub, pk_mul, cn_div, cn_irm, cn_lt, cn_eq, cn_ltm1, cn_m1lt, cn_eqm1, cn_m1eq, cn_ix, cn_inb, cn_ninb, cn_irs, cn_ils, cn_and, cn_or, cn_xor, grd_t, grd_bt, grd_bl, Nat.add_zero, Nat.zero_add, Nat.reduceAdd, Nat.reduceSub, Nat.reduceMul, Nat.reduceLT, Nat.reduceEqDiff, eq_self, true_and, and_true, and_false, false_and, if_true, if_false, and_self, Bool.true_eq_false, Bool.false_eq_true, gI_sI, gI_sA, gI_sL, gI_sQ, gI_sC, gI_sO, gI_sD, gA_sI, gA_sL, gA_sQ, gA_sO, gA_sD, gL_sI, gL_sA, gL_sQ, gL_sC, gL_sO, gL_sD, gQ_sI, gQ_sA, gQ_sL, gQ_sC, gQ_sO, gO_sI, gO_sA, gO_sL, gO_sQ, gO_sC, gO_sO, gO_sD, gA_eq, gA_ne, gQ_eq, gQ_ne, gL_sL, gA_cin, gA_cou, gQ_cin, gQ_cou]
      have GG : Fr kDm t t3 := Fr_t (Fr_w F12 (by decide)) (Fr_w G (by decide))
      have G28 : ∀ i, gA t3 28 i = gA t 28 i := fun i => (G.A 28 i (by decide)).trans (F12.A 28 i (by decide))
      have G29 : ∀ i, gQ t3 29 i = gQ t 29 i := fun i => (G.Q 29 i (by decide)).trans (F12.Q 29 i (by decide))
      have G31 : ∀ i, i ≠ pP A → gA t3 31 i = gA t 31 i ∧ gA t3 32 i = gA t 32 i := fun i hi => ⟨(q5 i hi).1.trans (F12.A 31 i (by decide)), (q5 i hi).2.trans (F12.A 32 i (by decide))⟩
      have G33 : ∀ i, i < M ∨ 1600 ≤ i → gA t3 33 i = gA t 33 i := fun i hi => (q6 i hi).trans (F12.A 33 i (by decide))
      have FL : Fr [28, 5029] t3 (sA (sQ t3 29 (pP A) (lN (vaL 27 l))) 28 1 (nI (pP A + 1))) := Fr_t (Fr_sQ 29 _ _ (by decide)) (Fr_sA 28 _ _ (by decide))
      have FM3 : FM t3 (sA (sQ t3 29 (pP A) (lN (vaL 27 l))) 28 1 (nI (pP A + 1))) := ⟨Fr_w FL (by decide), fun i hi => by rw [gA_ne (by omega)]; rfl, fun i hi => ⟨FL.A 31 i (by decide), FL.A 32 i (by decide)⟩, fun i hi => FL.A 33 i (by decide), fun i hi => by rw [gQ_sA, gQ_ne (by omega)]⟩
      obtain ⟨⟨a1, a2, a3, a4, a5, a6, a7, a8, a9, a10⟩, w2, w3⟩ := hW
      refine ⟨pSetP A l e, op, pt, L ++ e, M + e.length, p', b', s3, _, by rw [f, Option.bind_some, hs2, f3], by rw [g3, Option.bind_some, j103], ⟨⟨_, E3⟩, X3, ?_, Fr_t F0s (Fr_w F5 (by decide))⟩, ⟨RB_fr FL (by decide) R3, ?_, FM_t (FM_t hM.2.2 (FM_f F12 (by decide) (by decide))) (FM_t (FM_law G (by omega) q5 q6) FM3)⟩, ⟨⟨a1, hP, a3, a4, fun h => absurd h (Nat.ne_of_gt h0), fun q hq => ?_, fun h => ?_, fun q hq => ?_, fun h => (po 10 (by omega)).trans (a9 h), fun h => (po 11 (by omega)).trans (a10 h)⟩, w2, w3⟩, by omega, by omega, by omega, h0, ?_⟩
      · refine ⟨(F5.I 400 9 (by decide)).trans ((Is 400 9 (by decide) (by decide)).trans h1), (F5.I 401 9 (by decide)).trans c01, (F5.I 402 9 (by decide)).trans ((Is 402 9 (by decide) (by decide)).trans h3), (F5.I 403 9 (by decide)).trans ((Is 403 9 (by decide) (by decide)).trans h4), (F5.I 404 9 (by decide)).trans ((Is 404 9 (by decide) (by decide)).trans h5), fun d hd => ((F5.A 10 d (by decide)).trans (Ad d)).trans (h6 d hd), fun q hq => (F5.Q 11 q (by decide)).trans (cnm q hq), (F5.I 411 9 (by decide)).trans ((Is 411 9 (by decide) (by decide)).trans h8), (F5.I 412 9 (by decide)).trans ((Is 412 9 (by decide) (by decide)).trans h9), fun w hw => ?_, _, c4, bn_ok h12 (by omega), fun i hi => ?_⟩
        · by_cases cc : w = pP A
          · subst cc
            exact XCd_new pw c1 c2
          · have hw : w < pP A + 1 ∨ w = 10 ∨ w = 11 := hw
            exact XCd_old (h10 w (by omega)) (po w cc) ((c3 w cc).1.trans (c1415 w).1) ((c3 w cc).2.trans (c1415 w).2)
        · rw [bn_bit, h13 i hi]
          show _ = (decide (i < pP A + 1) && (fU (pC A) (pP A) e i).elem 40)
          by_cases cc : i = pP A
          · subst cc
            rw [fU_s, decide_eq_true (rfl : pP A = pP A), decide_eq_false (Nat.lt_irrefl _), Bool.false_and, Bool.false_or, Bool.and_true, decide_eq_true (Nat.lt_succ_self _), Bool.true_and]
          · rw [fU_n cc, decide_eq_false cc, Bool.and_false, Bool.or_false]
            congr 1
            exact decide_eq_decide.mpr (by omega)
      · refine ⟨by rw [gA_ne (by omega), gA_sQ, G28]; exact m1', gA_eq rfl, by rw [gA_ne (by omega), gA_sQ, G28]; exact m3, by rw [gA_ne (by omega), gA_sQ, G28]; exact m4, ((FL.I 1040 0 (by decide)).trans ((G.I 1040 0 (by decide)).trans (F12.I 1040 0 (by decide)))).trans m5, fun d hd => ((FL.A 30 d (by decide)).trans ((G.A 30 d (by decide)).trans (F12.A 30 d (by decide)))).trans (m6 d hd), fun q hq => ?_, (FL.I 1044 0 (by decide)).trans q4, fun q hq => ?_, fun h => ?_, fun h => ?_, fun h => ?_, fun h => ?_⟩
        · show _ = lN (vaL 27 (fU (pNm A) (pP A) l q))
          have hq : q < pP A + 1 := hq
          by_cases cc : q = pP A
          · rw [cc, gQ_sA, gQ_eq rfl, fU_s]
          · rw [gQ_sA, gQ_ne (by omega), fU_n cc, G29]; exact m7 q (by omega)
        · have hq : q < pP A + 1 := hq
          by_cases cc : q = pP A
          · subst cc
            exact MCd_new pw ((FL.A 31 _ (by decide)).trans q1) ((FL.A 32 _ (by decide)).trans q2) (fun i hi => (FL.A 33 _ (by decide)).trans (q3 i hi))
          · exact MCd_old (m9 q (by omega)) (po q cc) ((FL.A 31 _ (by decide)).trans (G31 q cc).1) ((FL.A 32 _ (by decide)).trans (G31 q cc).2) (fun i hi => (FL.A 33 _ (by decide)).trans (G33 i (Or.inl hi))) (by omega)
        · exact MCd_old (m10 h) (po 10 (by omega)) ((FL.A 31 _ (by decide)).trans (G31 10 (by omega)).1) ((FL.A 32 _ (by decide)).trans (G31 10 (by omega)).2) (fun i hi => (FL.A 33 _ (by decide)).trans (G33 i (Or.inl hi))) (by omega)
        · exact ((FL.A 31 _ (by decide)).trans (G31 10 (by omega)).1).trans (m11 h)
        · exact MCd_old (m12 h) (po 11 (by omega)) ((FL.A 31 _ (by decide)).trans (G31 11 (by omega)).1) ((FL.A 32 _ (by decide)).trans (G31 11 (by omega)).2) (fun i hi => (FL.A 33 _ (by decide)).trans (G33 i (Or.inl hi))) (by omega)
        · exact ((FL.A 31 _ (by decide)).trans (G31 11 (by omega)).1).trans (m13 h)
      · show ckL alT (fU (pC A) (pP A) e q) [] = some [true]
        have hq : q < pP A + 1 := hq
        by_cases cc : q = pP A
        · rw [cc, fU_s]; exact hck
        · rw [fU_n cc]; exact a6 q (by omega)
      · show ckL alW (fU (pC A) (pP A) e 10) [] = some [true] ∧ ckL alC (fU (pC A) (pP A) e 11) [] = some [false]
        rw [fU_n (by omega), fU_n (by omega)]
        exact a7 h
      · show 1 ≤ (fU (pNm A) (pP A) l q).length ∧ (fU (pNm A) (pP A) l q).length ≤ 6 ∧ ∀ x ∈ fU (pNm A) (pP A) l q, 1 ≤ x ∧ x ≤ 26
        have hq : q < pP A + 1 := hq
        by_cases cc : q = pP A
        · rw [cc, fU_s]; exact lok
        · rw [fU_n cc]; exact a8 q (by omega)
      · exact ((FL.I 1045 0 (by decide)).trans ((G.I 1045 0 (by decide)).trans (F12.I 1045 0 (by decide)))).trans hx
  · left
    obtain ⟨s1, f, D⟩ := c4a cw
    obtain ⟨t2, g2, B, F2⟩ := as2 cw
    have B5 := B.2.2.1
    have q : (nI 1 = nI 0) = False := eq_false (by decide)
    obtain ⟨s2, f2, D2⟩ := porter_d (N := N) (s0 := s0) (np := pP A) (lf := L.length) (DX_d (Fr_t F0 (Fr_w Fn (by decide))) D) (by omega) (by omega) hN
    refine ⟨1, skp tp n (kE tp n p), s2, t2, by rw [f, Option.bind_some, f2], D2, ?_, BM_d FM1 B F2 (by decide) (by decide)⟩
    unfold porT
    simp only [g2, Option.bind_some, B5, q, if_false]
    exact pj103_d B
theorem body_porter {c : Int32} (hJ : JX tp n s0 A op pt L p b s) (hM : JM tp n t0 A op pt M p b t) (hW : WD A op pt) (hL : L.length ≤ p) (hMp : M ≤ p) (h0 : 0 < pD A) (hx : gI t 1045 0 = x) (hP : pP A < 10) (hN : 10000 ≤ N) :
    BoR tp n s0 t0 p x ((f_Rd_name N s).bind fun p2 => (f_Rd_test N (sI p2 610 18 (nI 9728))).bind fun p4 => f_Pl_place N 9 (nI (pP A)) (nI L.length) p4) (f_M_porterTold N c t) := by
  obtain ⟨mk, E⟩ := hJ.1
  have X := hJ.2.1
  have hn := E.1.1
  have hpn := X.1
  by_cases hb : kK tp n p b ≠ 256 ∨ (1 ≤ wdA tp n p b ∧ wdA tp n p b ≤ 25)
  · obtain ⟨s1, f, D⟩ := name_c1 (N := N) E X (by omega) hb
    obtain ⟨t1, g, B, F⟩ := name_r1 (N := N) hM.1 hb hN
    exact porter_1 hJ hM hW hL hP f D g B F hN
  · have hk : kK tp n p b = 256 := by
      by_cases c : kK tp n p b = 256
      · exact c
      · exact absurd (Or.inl c) hb
    have ho : ¬ (1 ≤ wdA tp n p b ∧ wdA tp n p b ≤ 25) := fun h => hb (Or.inr h)
    by_cases hz : kZ tp n p ≤ 6
    · by_cases hd : ∃ j, j < pP A ∧ pNm A j = nmL tp (skp tp n p) (kZ tp n p)
      · obtain ⟨j, hj, he⟩ := hd
        exact porter_2 hJ hM hW hL hP hk ho hz hj he hN
      · exact porter_3 hJ hM hW hL hMp h0 hx hP hk ho hz (fun j hj he => hd ⟨j, hj, he⟩) hN
    · obtain ⟨s1, f, D⟩ := name_c2 (N := N) E X (by omega) hk ho (by omega)
      obtain ⟨v, t1, g, B, F⟩ := name_r2 (N := N) hM.1 hk ho (by omega) hN
      exact porter_1 hJ hM hW hL hP f D g B F hN
end PORTER
