/-! CALLS that ask alone -/
section OPS1
variable {N : Nat} {A : pL} {H : hL} {pa : Nat × (Nat → hL)} {se : Nat × (Nat → Nat × Bool)} {s s' t t' : mS}
theorem Inv_rf {k : Nat} (hW : IVW A H pa se) (hX : IVX A H pa se s) (hM : IVM A H pa se t) (hR : IVR s t) (hk : k < 6) : Inv (sA s 41 k (gA s 41 k + 1)) (sA t 2 k (gA t 2 k + 1)) := by
  have F : Fr [41] s (sA s 41 k (gA s 41 k + 1)) := Fr_sA _ _ _ (by decide)
  have G : Fr [2] t (sA t 2 k (gA t 2 k + 1)) := Fr_sA _ _ _ (by decide)
  refine ⟨A, H, pa, se, hW, IVX_fr F (by decide) (XO_fr F (by decide) (by decide) hX.2.2.2.1) hX, IVM_fr hW.1 G (by decide) hM, RTp_fr F G (by decide) (by decide) hR.1, fun j hj => ?_, RIm_fr F G (by decide) (by decide) hR.2.2.1, RSd_fr F G (by decide) (by decide) hR.2.2.2.1, RFt_fr F G (by decide) (by decide) hR.2.2.2.2⟩
  have := hR.2.1 j hj
  by_cases e : j = k
  · subst e; rw [gA_eq rfl, gA_eq rfl, this]
  · rw [gA_ne (by omega), gA_ne (by omega), this]
theorem xRef_n {k : Nat} (hk : k < 6) : f_X_refuse N (nI k) s = some (nI 0, sA s 41 k (gA s 41 k + 1)) := by
  have e : gA s 41 k + nI 1 = gA s 41 k + 1 := rfl
  simp (disch := first | omega | decide) only [f_X_refuse, cn_inb, cn_ix, grd_t]
  rfl
theorem mRef_n {k : Nat} (hk : k < 6) : f_M_refuses N (nI k) t = some (m1, sA t 2 k (gA t 2 k + 1)) := by
  simp (disch := first | omega | decide) only [f_M_refuses, cn_inb, cn_ix, grd_t]
  rfl
theorem mIsRef_n {k : Nat} (hk : k < 6) : f_M_isRefused N (nI k) t = some (nI 0, sA t 2 k (gA t 2 k + 1)) := by
  simp (disch := first | omega | decide) only [f_M_isRefused, cn_inb, cn_ix, grd_t]
  rfl
theorem P_fault : Pure_3 Inv N := by
  rintro a s t ⟨A, H, pa, se, hW, hX, hM, hR⟩
  have hI : Inv s t := ⟨A, H, pa, se, hW, hX, hM, hR⟩
  by_cases c0 : a = 0
  · exact ⟨gI s 612 18, s, t, by simp only [f_X_fault, c0, if_true], by simp only [f_M_fault, c0, if_true, hR.2.2.2.2.1], hI⟩
  · by_cases c1 : a = 1
    · subst c1
      exact ⟨gI s 613 18, s, t, rfl, by rw [hR.2.2.2.2.2]; rfl, hI⟩
    · exact ⟨-1, s, t, by simp only [f_X_fault, c0, c1, if_false], by simp only [f_M_fault, c0, c1, if_false], hI⟩
theorem keptTold_n {o : Nat} (ho : HO o) (hB : HB A H) (hR : HR o H s) : f_Ha_keptTold N o s = some (nI (min 40 (H.1 3)), s) := by
  obtain ⟨o1, o2⟩ := ho_ok ho
  have r3 := hR.1 3 (by omega)
  have h3 := hB.2.2.2.1
  simp (disch := first | omega | decide) only [f_Ha_keptTold, o1, o2, r3, zI_0, zI_1, zI_2, zI_3, zI_4, zI_5, zI_6, zI_7, zI_8, zI_9, zI_10, zI_11, zI_12, zI_13, zI_14, zI_15, zI_16, zI_17, zI_18, zI_19, zI_20, zI_21, zI_22, zI_23, zI_24, zI_25, zI_26, zI_27, zI_28, zI_29, zI_30, zI_31, zI_32, zI_33, zI_34, zI_35, zI_36, zI_37, zI_38, zI_39, zI_40, zI_41, zI_42, zI_43, zI_44, zI_45, zI_46, zI_47, zI_48, zI_49, zI_50, zI_51, zI_52, zI_53, zI_54, zI_55, zI_56, zI_57, zI_58, zI_59, zI_60, zI_61, zI_62, zI_63, zI_64, zI_65, zI_66, zI_67, zI_74, zI_84, zI_85, zI_88, zI_91, zI_93, zI_97, zI_99, zI_100, zI_102, zI_105, zI_117, zI_122, zI_193, zI_202, zI_205, zI_251, zI_255, zI_256, zI_257, zI_258, zI_259, zI_260, zI_640, zI_999, zI_1000, zI_1024, zI_1600, zI_1602, zI_1700, zI_2040, zI_3200, zI_4100, zI_9728, zI_11784, zI_61440, zI_65536, zI_470536, zI_999999, zI_1000000, lt_T, lt_F, le_T, le_F, eq_T, eq_F, neg_1, cn_m1p, cn_m11, nI_add, cn_sub, pk_mul, cn_div, cn_irm, cn_lt, cn_eq, cn_ltm1, cn_m1lt, cn_eqm1, cn_m1eq, cn_ix, cn_inb, cn_ninb, cn_irs, cn_ils, cn_and, cn_or, cn_xor, grd_t, grd_bt, grd_bl, Nat.add_zero, Nat.zero_add, Nat.reduceAdd, Nat.reduceSub, Nat.reduceMul, Nat.reduceLT, Nat.reduceEqDiff, eq_self, true_and, and_true, and_false, false_and, if_true, if_false, and_self, Bool.true_eq_false, Bool.false_eq_true, min_n, Option.bind_some]
def jmC (A : pL) (H : hL) (n : Nat) : Nat := itN (fun d c => if jm A H d then c + 1 else c) n 0
theorem jmC_le (n : Nat) : jmC A H n ≤ n := itN_inv (fun i x => x ≤ i) (Nat.le_refl _) (fun i x hx => by
  have hx : x ≤ i := hx
  show (if jm A H i then x + 1 else x) ≤ i + 1
  split <;> omega) n
theorem xJammed_n (hA : WA A) (hB : HB A H) (hP : XP A s) (hR : HR 19 H s) (hN : 10000 ≤ N) : f_X_jammedDoors N s = some (nI (jmC A H (pD A)), s) := by
  have hD := hA.1
  have hl : Ok (mfix N (f_X_jammedDoors_L4 N) (nI 0, nI 0, s)) (fun r => r = (nI (jmC A H (pD A)), s)) := by
    refine mfix_up (fun i x => x = (nI (jmC A H i), nI i, s)) (pD A) ?_ ?_ N 0 _ rfl (Nat.zero_le _) (by omega)
    · rintro i k x hi hx hk
      rw [hx]
      have e := isJammed_n (N := N) (Or.inl rfl) hA hB hR (show i < 24 by omega)
      cases c : jm A H i
      · rw [c] at e
        simp (disch := first | omega | decide) only [f_X_jammedDoors_L4, hP.1, hP.2.2.1, e, zI_0, zI_1, zI_2, zI_3, zI_4, zI_5, zI_6, zI_7, zI_8, zI_9, zI_10, zI_11, zI_12, zI_13, zI_14, zI_15, zI_16, zI_17, zI_18, zI_19, zI_20, zI_21, zI_22, zI_23, zI_24, zI_25, zI_26, zI_27, zI_28, zI_29, zI_30, zI_31, zI_32, zI_33, zI_34, zI_35, zI_36, zI_37, zI_38, zI_39, zI_40, zI_41, zI_42, zI_43, zI_44, zI_45, zI_46, zI_47, zI_48, zI_49, zI_50, zI_51, zI_52, zI_53, zI_54, zI_55, zI_56, zI_57, zI_58, zI_59, zI_60, zI_61, zI_62, zI_63, zI_64, zI_65, zI_66, zI_67, zI_74, zI_84, zI_85, zI_88, zI_91, zI_93, zI_97, zI_99, zI_100, zI_102, zI_105, zI_117, zI_122, zI_193, zI_202, zI_205, zI_251, zI_255, zI_256, zI_257, zI_258, zI_259, zI_260, zI_640, zI_999, zI_1000, zI_1024, zI_1600, zI_1602, zI_1700, zI_2040, zI_3200, zI_4100, zI_9728, zI_11784, zI_61440, zI_65536, zI_470536, zI_999999, zI_1000000, lt_T, lt_F, le_T, le_F, eq_T, eq_F, neg_1, cn_m1p, cn_m11, nI_add, cn_sub, pk_mul, cn_div, cn_irm, cn_lt, cn_eq, cn_ltm1, cn_m1lt, cn_eqm1, cn_m1eq, cn_ix, cn_inb, cn_ninb, cn_irs, cn_ils, cn_and, cn_or, cn_xor, grd_t, grd_bt, grd_bl, Nat.add_zero, Nat.zero_add, Nat.reduceAdd, Nat.reduceSub, Nat.reduceMul, Nat.reduceLT, Nat.reduceEqDiff, eq_self, true_and, and_true, and_false, false_and, if_true, if_false, and_self, Bool.true_eq_false, Bool.false_eq_true, Option.bind_some, show zi (b01 false) = nI 0 from rfl]
        refine hk _ ?_
        rw [show jmC A H (i + 1) = jmC A H i from by show (if _ then _ else _) = _; rw [c]; rfl]
      · rw [c] at e
        simp (disch := first | omega | decide) only [f_X_jammedDoors_L4, hP.1, hP.2.2.1, e, zI_0, zI_1, zI_2, zI_3, zI_4, zI_5, zI_6, zI_7, zI_8, zI_9, zI_10, zI_11, zI_12, zI_13, zI_14, zI_15, zI_16, zI_17, zI_18, zI_19, zI_20, zI_21, zI_22, zI_23, zI_24, zI_25, zI_26, zI_27, zI_28, zI_29, zI_30, zI_31, zI_32, zI_33, zI_34, zI_35, zI_36, zI_37, zI_38, zI_39, zI_40, zI_41, zI_42, zI_43, zI_44, zI_45, zI_46, zI_47, zI_48, zI_49, zI_50, zI_51, zI_52, zI_53, zI_54, zI_55, zI_56, zI_57, zI_58, zI_59, zI_60, zI_61, zI_62, zI_63, zI_64, zI_65, zI_66, zI_67, zI_74, zI_84, zI_85, zI_88, zI_91, zI_93, zI_97, zI_99, zI_100, zI_102, zI_105, zI_117, zI_122, zI_193, zI_202, zI_205, zI_251, zI_255, zI_256, zI_257, zI_258, zI_259, zI_260, zI_640, zI_999, zI_1000, zI_1024, zI_1600, zI_1602, zI_1700, zI_2040, zI_3200, zI_4100, zI_9728, zI_11784, zI_61440, zI_65536, zI_470536, zI_999999, zI_1000000, lt_T, lt_F, le_T, le_F, eq_T, eq_F, neg_1, cn_m1p, cn_m11, nI_add, cn_sub, pk_mul, cn_div, cn_irm, cn_lt, cn_eq, cn_ltm1, cn_m1lt, cn_eqm1, cn_m1eq, cn_ix, cn_inb, cn_ninb, cn_irs, cn_ils, cn_and, cn_or, cn_xor, grd_t, grd_bt, grd_bl, Nat.add_zero, Nat.zero_add, Nat.reduceAdd, Nat.reduceSub, Nat.reduceMul, Nat.reduceLT, Nat.reduceEqDiff, eq_self, true_and, and_true, and_false, false_and, if_true, if_false, and_self, Bool.true_eq_false, Bool.false_eq_true, Option.bind_some, show zi (b01 true) = nI 1 from rfl]
        refine hk _ ?_
        rw [show jmC A H (i + 1) = jmC A H i + 1 from by show (if _ then _ else _) = _; rw [c]; rfl]
    · rintro k x hx
      rw [hx]
      simp (disch := first | omega | decide) only [f_X_jammedDoors_L4, hP.1, zI_0, zI_1, zI_2, zI_3, zI_4, zI_5, zI_6, zI_7, zI_8, zI_9, zI_10, zI_11, zI_12, zI_13, zI_14, zI_15, zI_16, zI_17, zI_18, zI_19, zI_20, zI_21, zI_22, zI_23, zI_24, zI_25, zI_26, zI_27, zI_28, zI_29, zI_30, zI_31, zI_32, zI_33, zI_34, zI_35, zI_36, zI_37, zI_38, zI_39, zI_40, zI_41, zI_42, zI_43, zI_44, zI_45, zI_46, zI_47, zI_48, zI_49, zI_50, zI_51, zI_52, zI_53, zI_54, zI_55, zI_56, zI_57, zI_58, zI_59, zI_60, zI_61, zI_62, zI_63, zI_64, zI_65, zI_66, zI_67, zI_74, zI_84, zI_85, zI_88, zI_91, zI_93, zI_97, zI_99, zI_100, zI_102, zI_105, zI_117, zI_122, zI_193, zI_202, zI_205, zI_251, zI_255, zI_256, zI_257, zI_258, zI_259, zI_260, zI_640, zI_999, zI_1000, zI_1024, zI_1600, zI_1602, zI_1700, zI_2040, zI_3200, zI_4100, zI_9728, zI_11784, zI_61440, zI_65536, zI_470536, zI_999999, zI_1000000, lt_T, lt_F, le_T, le_F, eq_T, eq_F, neg_1, cn_m1p, cn_m11, nI_add, cn_sub, pk_mul, cn_div, cn_irm, cn_lt, cn_eq, cn_ltm1, cn_m1lt, cn_eqm1, cn_m1eq, cn_ix, cn_inb, cn_ninb, cn_irs, cn_ils, cn_and, cn_or, cn_xor, grd_t, grd_bt, grd_bl, Nat.add_zero, Nat.zero_add, Nat.reduceAdd, Nat.reduceSub, Nat.reduceMul, Nat.reduceLT, Nat.reduceEqDiff, eq_self, true_and, and_true, and_false, false_and, if_true, if_false, and_self, Bool.true_eq_false, Bool.false_eq_true]
      exact Ok_some rfl
  obtain ⟨x, h1, h2⟩ := hl
  unfold f_X_jammedDoors
  rw [show (0 : Int32) = nI 0 from rfl, h1, h2]
theorem mJammed_n (hA : WA A) (hB : HB A H) (hP : MP A t) (hR : MRow A H t) (hN : 10000 ≤ N) : f_M_jammedMany N t = some (nI (jmC A H (pD A)), t) := by
  have hD := hA.1
  have hl : Ok (mfix N (f_M_jammedMany_L4 N) (nI 0, nI 0, t)) (fun r => r = (nI (jmC A H (pD A)), t)) := by
    refine mfix_up (fun i x => x = (nI (jmC A H i), nI i, t)) (pD A) ?_ ?_ N 0 _ rfl (Nat.zero_le _) (by omega)
    · rintro i k x hi hx hk
      rw [hx]
      have e := mIsJammed_n (N := N) hA hB hP hR hi
      cases c : jm A H i
      · rw [c] at e
        simp (disch := first | omega | decide) only [f_M_jammedMany_L4, f_M_doorMany, hP.1, e, zI_0, zI_1, zI_2, zI_3, zI_4, zI_5, zI_6, zI_7, zI_8, zI_9, zI_10, zI_11, zI_12, zI_13, zI_14, zI_15, zI_16, zI_17, zI_18, zI_19, zI_20, zI_21, zI_22, zI_23, zI_24, zI_25, zI_26, zI_27, zI_28, zI_29, zI_30, zI_31, zI_32, zI_33, zI_34, zI_35, zI_36, zI_37, zI_38, zI_39, zI_40, zI_41, zI_42, zI_43, zI_44, zI_45, zI_46, zI_47, zI_48, zI_49, zI_50, zI_51, zI_52, zI_53, zI_54, zI_55, zI_56, zI_57, zI_58, zI_59, zI_60, zI_61, zI_62, zI_63, zI_64, zI_65, zI_66, zI_67, zI_74, zI_84, zI_85, zI_88, zI_91, zI_93, zI_97, zI_99, zI_100, zI_102, zI_105, zI_117, zI_122, zI_193, zI_202, zI_205, zI_251, zI_255, zI_256, zI_257, zI_258, zI_259, zI_260, zI_640, zI_999, zI_1000, zI_1024, zI_1600, zI_1602, zI_1700, zI_2040, zI_3200, zI_4100, zI_9728, zI_11784, zI_61440, zI_65536, zI_470536, zI_999999, zI_1000000, lt_T, lt_F, le_T, le_F, eq_T, eq_F, neg_1, cn_m1p, cn_m11, nI_add, cn_sub, pk_mul, cn_div, cn_irm, cn_lt, cn_eq, cn_ltm1, cn_m1lt, cn_eqm1, cn_m1eq, cn_ix, cn_inb, cn_ninb, cn_irs, cn_ils, cn_and, cn_or, cn_xor, grd_t, grd_bt, grd_bl, Nat.add_zero, Nat.zero_add, Nat.reduceAdd, Nat.reduceSub, Nat.reduceMul, Nat.reduceLT, Nat.reduceEqDiff, eq_self, true_and, and_true, and_false, false_and, if_true, if_false, and_self, Bool.true_eq_false, Bool.false_eq_true, Option.bind_some, show zi (b01 false) = nI 0 from rfl]
        refine hk _ ?_
        rw [show jmC A H (i + 1) = jmC A H i from by show (if _ then _ else _) = _; rw [c]; rfl]
      · rw [c] at e
        simp (disch := first | omega | decide) only [f_M_jammedMany_L4, f_M_doorMany, hP.1, e, zI_0, zI_1, zI_2, zI_3, zI_4, zI_5, zI_6, zI_7, zI_8, zI_9, zI_10, zI_11, zI_12, zI_13, zI_14, zI_15, zI_16, zI_17, zI_18, zI_19, zI_20, zI_21, zI_22, zI_23, zI_24, zI_25, zI_26, zI_27, zI_28, zI_29, zI_30, zI_31, zI_32, zI_33, zI_34, zI_35, zI_36, zI_37, zI_38, zI_39, zI_40, zI_41, zI_42, zI_43, zI_44, zI_45, zI_46, zI_47, zI_48, zI_49, zI_50, zI_51, zI_52, zI_53, zI_54, zI_55, zI_56, zI_57, zI_58, zI_59, zI_60, zI_61, zI_62, zI_63, zI_64, zI_65, zI_66, zI_67, zI_74, zI_84, zI_85, zI_88, zI_91, zI_93, zI_97, zI_99, zI_100, zI_102, zI_105, zI_117, zI_122, zI_193, zI_202, zI_205, zI_251, zI_255, zI_256, zI_257, zI_258, zI_259, zI_260, zI_640, zI_999, zI_1000, zI_1024, zI_1600, zI_1602, zI_1700, zI_2040, zI_3200, zI_4100, zI_9728, zI_11784, zI_61440, zI_65536, zI_470536, zI_999999, zI_1000000, lt_T, lt_F, le_T, le_F, eq_T, eq_F, neg_1, cn_m1p, cn_m11, nI_add, cn_sub, pk_mul, cn_div, cn_irm, cn_lt, cn_eq, cn_ltm1, cn_m1lt, cn_eqm1, cn_m1eq, cn_ix, cn_inb, cn_ninb, cn_irs, cn_ils, cn_and, cn_or, cn_xor, grd_t, grd_bt, grd_bl, Nat.add_zero, Nat.zero_add, Nat.reduceAdd, Nat.reduceSub, Nat.reduceMul, Nat.reduceLT, Nat.reduceEqDiff, eq_self, true_and, and_true, and_false, false_and, if_true, if_false, and_self, Bool.true_eq_false, Bool.false_eq_true, Option.bind_some, show zi (b01 true) = nI 1 from rfl]
        refine hk _ ?_
        rw [show jmC A H (i + 1) = jmC A H i + 1 from by show (if _ then _ else _) = _; rw [c]; rfl]
    · rintro k x hx
      rw [hx]
      simp (disch := first | omega | decide) only [f_M_jammedMany_L4, f_M_doorMany, hP.1, zI_0, zI_1, zI_2, zI_3, zI_4, zI_5, zI_6, zI_7, zI_8, zI_9, zI_10, zI_11, zI_12, zI_13, zI_14, zI_15, zI_16, zI_17, zI_18, zI_19, zI_20, zI_21, zI_22, zI_23, zI_24, zI_25, zI_26, zI_27, zI_28, zI_29, zI_30, zI_31, zI_32, zI_33, zI_34, zI_35, zI_36, zI_37, zI_38, zI_39, zI_40, zI_41, zI_42, zI_43, zI_44, zI_45, zI_46, zI_47, zI_48, zI_49, zI_50, zI_51, zI_52, zI_53, zI_54, zI_55, zI_56, zI_57, zI_58, zI_59, zI_60, zI_61, zI_62, zI_63, zI_64, zI_65, zI_66, zI_67, zI_74, zI_84, zI_85, zI_88, zI_91, zI_93, zI_97, zI_99, zI_100, zI_102, zI_105, zI_117, zI_122, zI_193, zI_202, zI_205, zI_251, zI_255, zI_256, zI_257, zI_258, zI_259, zI_260, zI_640, zI_999, zI_1000, zI_1024, zI_1600, zI_1602, zI_1700, zI_2040, zI_3200, zI_4100, zI_9728, zI_11784, zI_61440, zI_65536, zI_470536, zI_999999, zI_1000000, lt_T, lt_F, le_T, le_F, eq_T, eq_F, neg_1, cn_m1p, cn_m11, nI_add, cn_sub, pk_mul, cn_div, cn_irm, cn_lt, cn_eq, cn_ltm1, cn_m1lt, cn_eqm1, cn_m1eq, cn_ix, cn_inb, cn_ninb, cn_irs, cn_ils, cn_and, cn_or, cn_xor, grd_t, grd_bt, grd_bl, Nat.add_zero, Nat.zero_add, Nat.reduceAdd, Nat.reduceSub, Nat.reduceMul, Nat.reduceLT, Nat.reduceEqDiff, eq_self, true_and, and_true, and_false, false_and, if_true, if_false, and_self, Bool.true_eq_false, Bool.false_eq_true, Option.bind_some]
      exact Ok_some rfl
  obtain ⟨x, h1, h2⟩ := hl
  unfold f_M_jammedMany
  rw [show (0 : Int32) = nI 0 from rfl, h1, h2]
theorem P_has (hN : 10000 ≤ N) : Pure_4 Inv N := by
  rintro a s t ⟨A, H, pa, se, hW, hX, hM, hR⟩
  have hI : Inv s t := ⟨A, H, pa, se, hW, hX, hM, hR⟩
  obtain ⟨hA, hB, hw, hpa, hse⟩ := hW
  obtain ⟨hP, hNm, hH, hO, hAh, hSe, hPa⟩ := hX
  obtain ⟨mP, mNm, mX, mSe, mPa, mT⟩ := hM
  have r0 := hH.1 0 (by omega)
  have r1 := hH.1 1 (by omega)
  by_cases c0 : a = 0
  · subst c0
    refine ⟨nI (pD A), s, t, ?_, ?_, hI⟩
    · have e := hP.1
      show some (gI s 400 2, s) = _
      rw [e]
    · show some (gA t 28 4, t) = _
      rw [mP.1]
  · by_cases c1 : a = 1
    · subst c1
      refine ⟨nI (pP A), s, t, ?_, ?_, hI⟩
      · have e := hP.2.1
        show some (gI s 401 2, s) = _
        rw [e]
      · show some (gA t 28 5, t) = _
        rw [mP.2.1]
    · by_cases c2 : a = 2
      · subst c2
        refine ⟨nI (H.1 0), s, t, ?_, ?_, hI⟩
        · have e := r0
          show some (gA s 20 0, s) = _
          rw [e]
        · show some (gA t 34 0, t) = _
          rw [mX.1.1]
      · by_cases c3 : a = 3
        · subst c3
          refine ⟨nI (pc (H.1 2)), s, t, ?_, ?_, hI⟩
          · have e := opened_n (N := N) (Or.inl rfl) hA hB hH
            show (f_Ha_opened N 19 s).bind (fun p => some (p.1, p.2)) = _
            rw [e]; rfl
          · have e := mOpenMany_n (N := N) hA hB mP mX.1 (by omega)
            show (f_M_openMany N t).bind (fun p => some (p.1, p.2)) = _
            rw [e]; rfl
        · by_cases c4 : a = 4
          · subst c4
            refine ⟨nI (jmC A H (pD A)), s, t, ?_, ?_, hI⟩
            · have e := xJammed_n hA hB hP hH hN
              show (f_X_jammedDoors N s).bind (fun p => some (p.1, p.2)) = _
              rw [e]; rfl
            · have e := mJammed_n hA hB mP mX.1 hN
              show (f_M_jammedMany N t).bind (fun p => some (p.1, p.2)) = _
              rw [e]; rfl
          · by_cases c5 : a = 5
            · subst c5
              refine ⟨nI (H.1 1), s, t, ?_, ?_, hI⟩
              · have e := r1
                show some (gA s 20 1, s) = _
                rw [e]
              · show some (gA t 34 1, t) = _
                rw [mX.1.2.1]
            · by_cases c6 : a = 6
              · subst c6
                refine ⟨nI (pS A), s, t, ?_, ?_, hI⟩
                · have e := hP.2.2.1
                  show some (gI s 402 2, s) = _
                  rw [e]
                · show some (gA t 28 6, t) = _
                  rw [mP.2.2.1]
              · by_cases c7 : a = 7
                · subst c7
                  refine ⟨nI (min 40 (H.1 3)), s, t, ?_, ?_, hI⟩
                  · have e := keptTold_n (N := N) (Or.inl rfl) hB hH
                    show (f_Ha_keptTold N 19 s).bind (fun p => some (p.1, p.2)) = _
                    rw [e]; rfl
                  · show some (gA t 34 84, t) = _
                    rw [(show MK H t from mX.2.2).1]
                · by_cases c8 : a = 8
                  · subst c8
                    refine ⟨nI se.1, s, t, ?_, ?_, hI⟩
                    · have e := hSe.1
                      show some (gI s 808 37, s) = _
                      rw [e]
                    · show some (gI t 1055 0, t) = _
                      rw [mSe.1]
                  · by_cases c9 : a = 9
                    · subst c9
                      refine ⟨nI pa.1, s, t, ?_, ?_, hI⟩
                      · have e := hPa.1
                        show some (gI s 302 23, s) = _
                        rw [e]
                      · show some (gI t 1061 0, t) = _
                        rw [mPa.1]
                    · exact ⟨-1, s, t, by simp only [f_X_has, c0, c1, c2, c3, c4, c5, c6, c7, c8, c9, if_false], by simp only [f_M_has, c0, c1, c2, c3, c4, c5, c6, c7, c8, c9, if_false], hI⟩
theorem P_octet (hN : 10000 ≤ N) : Pure_35 Inv N := by
  rintro a s t ⟨A, H, pa, se, hW, hX, hM, hR⟩
  have hI : Inv s t := ⟨A, H, pa, se, hW, hX, hM, hR⟩
  obtain ⟨n, hn, e1, e2, e3⟩ := hR.2.2.1
  obtain ⟨v, hv1, hv2, rfl⟩ := arg_z a
  have q1 : (zi v < 0) = (v < 0) := zi_n_lt (n := 0) ⟨hv1, hv2⟩ (by omega)
  have q2 : (zi v < nI n) = (v < n) := zi_n_lt ⟨hv1, hv2⟩ (by omega)
  by_cases c1 : v < 0
  · exact ⟨-1, s, t, by simp only [f_X_octet, q1, c1, if_true], by simp only [f_M_octet, q1, c1, if_true], hI⟩
  · by_cases c2 : v < n
    · obtain ⟨k, rfl⟩ := Int.eq_ofNat_of_zero_le (show 0 ≤ v by omega)
      have hk : k < n := by omega
      rw [zi_nI] at *
      refine ⟨gA s 40 k, s, t, ?_, ?_, hI⟩
      · simp (disch := first | omega | decide) only [f_X_octet, q1, c1, e1, q2, c2, if_true, if_false, cn_inb, cn_ix, grd_t]
      · simp (disch := first | omega | decide) only [f_M_octet, q1, c1, e2, q2, c2, if_true, if_false, cn_inb, cn_ix, grd_t, e3 k hk]
    · exact ⟨-1, s, t, by simp only [f_X_octet, q1, c1, e1, q2, c2, if_false], by simp only [f_M_octet, q1, c1, e2, q2, c2, if_false], hI⟩
theorem P_status (hN : 10000 ≤ N) : Pure_37 Inv N := by
  rintro a s t ⟨A, H, pa, se, hW, hX, hM, hR⟩
  have hI : Inv s t := ⟨A, H, pa, se, hW, hX, hM, hR⟩
  obtain ⟨v, hv1, hv2, rfl⟩ := arg_z a
  have q1 : (zi v < 0) = (v < 0) := zi_n_lt (n := 0) ⟨hv1, hv2⟩ (by omega)
  have q2 : (zi v < 6) = (v < 6) := zi_n_lt (n := 6) ⟨hv1, hv2⟩ (by omega)
  have q3 : f_M_isIn N (zi v).toInt64 0 5 t = some (nI (if 0 ≤ v ∧ v ≤ 5 then 1 else 0), t) := by
    rw [zi_l ⟨hv1, hv2⟩]; exact isIn_z (b := 0) (c := 5) ⟨hv1, hv2⟩ (by omega) (by omega)
  by_cases c1 : 0 ≤ v ∧ v ≤ 5
  · rw [if_pos c1] at q3
    obtain ⟨k, rfl⟩ := Int.eq_ofNat_of_zero_le c1.1
    have hk : k < 6 := by omega
    refine ⟨gA s 41 k, s, t, ?_, ?_, hI⟩
    · simp only [f_X_status, q1, q2]
      rw [if_neg (by omega), if_pos (by omega), zi_nI]
      simp (disch := first | omega | decide) only [cn_inb, cn_ix, grd_t]
    · simp only [f_M_status, q3, Option.bind_some]
      rw [if_neg (by decide), zi_nI, hR.2.1 k hk]
      simp (disch := first | omega | decide) only [cn_inb, cn_ix, grd_t]
  · rw [if_neg c1] at q3
    refine ⟨-1, s, t, ?_, ?_, hI⟩
    · simp only [f_X_status, q1, q2]
      by_cases c : v < 0
      · rw [if_pos c]
      · rw [if_neg c, if_neg (by omega)]
    · simp only [f_M_status, q3, Option.bind_some]
      rfl
theorem P_seed (hN : 10000 ≤ N) : Pure_32 Inv N := by
  rintro a s t ⟨A, H, pa, se, hW, hX, hM, hR⟩
  obtain ⟨v, hv1, hv2, rfl⟩ := arg_z a
  have q1 : (zi v < 0) = (v < 0) := zi_n_lt (n := 0) ⟨hv1, hv2⟩ (by omega)
  by_cases c : v < 0
  · refine ⟨0, _, _, ?_, ?_, Inv_rf (k := 5) hW hX hM hR (by omega)⟩
    · simp only [f_X_seed, q1, c, if_true]
      rw [show (5 : Int32) = nI 5 from rfl, xRef_n (by omega)]; rfl
    · simp only [f_M_seed, q1, c, if_true]
      rw [show (5 : Int32) = nI 5 from rfl, mIsRef_n (by omega)]; rfl
  · obtain ⟨k, rfl⟩ := Int.eq_ofNat_of_zero_le (show 0 ≤ v by omega)
    refine ⟨1, sI s 16 0 (nI k), sL t 1063 0 (lN k), ?_, ?_, ?_⟩
    · simp only [f_X_seed, q1, c, if_false]
      rw [zi_nI]
    · simp only [f_M_seed, q1, c, if_false]
      rw [zi_nI, nI_l (by omega)]
    · have F : Fr [11600] s (sI s 16 0 (nI k)) := Fr_sI _ _ _ (by decide)
      have G : Fr [306300] t (sL t 1063 0 (lN k)) := Fr_sL _ _ _ (by decide)
      exact ⟨A, H, pa, se, hW, IVX_fr F (by decide) (XO_fr F (by decide) (by decide) hX.2.2.2.1) hX, IVM_fr hW.1 G (by decide) hM, RTp_fr F G (by decide) (by decide) hR.1, RRf_fr F G (by decide) (by decide) hR.2.1, RIm_fr F G (by decide) (by decide) hR.2.2.1, ⟨k, by omega, by simp (disch := first | omega | decide) only [gI_sI, gI_sA, gI_sL, gI_sQ, gI_sC, gI_sO, gI_sD, gA_sI, gA_sL, gA_sQ, gA_sO, gA_sD, gL_sI, gL_sA, gL_sQ, gL_sC, gL_sO, gL_sD, gQ_sI, gQ_sA, gQ_sL, gQ_sC, gQ_sO, gO_sI, gO_sA, gO_sL, gO_sQ, gO_sC, gO_sO, gO_sD, gA_eq, gA_ne, gQ_eq, gQ_ne, gL_sL, gA_cin, gA_cou, gQ_cin, gQ_cou, Nat.reduceAdd, Nat.reduceSub, Nat.reduceMul, Nat.reduceLT, Nat.reduceEqDiff, eq_self, true_and, and_true, and_false, false_and, if_true, if_false, and_self, Bool.true_eq_false, Bool.false_eq_true], by simp (disch := first | omega | decide) only [gI_sI, gI_sA, gI_sL, gI_sQ, gI_sC, gI_sO, gI_sD, gA_sI, gA_sL, gA_sQ, gA_sO, gA_sD, gL_sI, gL_sA, gL_sQ, gL_sC, gL_sO, gL_sD, gQ_sI, gQ_sA, gQ_sL, gQ_sC, gQ_sO, gO_sI, gO_sA, gO_sL, gO_sQ, gO_sC, gO_sO, gO_sD, gA_eq, gA_ne, gQ_eq, gQ_ne, gL_sL, gA_cin, gA_cou, gQ_cin, gQ_cou, Nat.reduceAdd, Nat.reduceSub, Nat.reduceMul, Nat.reduceLT, Nat.reduceEqDiff, eq_self, true_and, and_true, and_false, false_and, if_true, if_false, and_self, Bool.true_eq_false, Bool.false_eq_true]⟩, RFt_fr F G (by decide) (by decide) hR.2.2.2.2⟩
theorem RTp_set {n : Nat} {tp : Nat → Nat} (hn : n ≤ 1600) (h1 : gI s' 1 0 = nI n) (h2 : gI t' 1001 0 = nI n) (h : ∀ i, i < n → tp i < 256 ∧ gA s' 1 i = nI (tp i) ∧ gA t' 1 i = nI (tp i)) : RTp s' t' := ⟨n, tp, hn, h1, h2, h⟩
theorem Inv_tp {n : Nat} {tp : Nat → Nat} (hW : IVW A H pa se) (hX : IVX A H pa se s) (hM : IVM A H pa se t) (hR : IVR s t) (F : Fr [10100, 1] s s') (G : Fr [110100, 1] t t') (hn : n ≤ 1600) (h1 : gI s' 1 0 = nI n) (h2 : gI t' 1001 0 = nI n) (h : ∀ i, i < n → tp i < 256 ∧ gA s' 1 i = nI (tp i) ∧ gA t' 1 i = nI (tp i)) : Inv s' t' :=
  ⟨A, H, pa, se, hW, IVX_fr F (by decide) (XO_fr F (by decide) (by decide) hX.2.2.2.1) hX, IVM_fr hW.1 G (by decide) hM, ⟨n, tp, hn, h1, h2, h⟩, RRf_fr F G (by decide) (by decide) hR.2.1, RIm_fr F G (by decide) (by decide) hR.2.2.1, RSd_fr F G (by decide) (by decide) hR.2.2.2.1, RFt_fr F G (by decide) (by decide) hR.2.2.2.2⟩
theorem P_end (hN : 10000 ≤ N) : Pure_1 Inv N := by
  rintro a s t ⟨A, H, pa, se, hW, hX, hM, hR⟩
  obtain ⟨n, tp, hn, e1, e2, e3⟩ := hR.1
  obtain ⟨v, hv1, hv2, rfl⟩ := arg_z a
  have q1 : (zi v < 0) = (v < 0) := zi_n_lt (n := 0) ⟨hv1, hv2⟩ (by omega)
  have q2 : (nI n < zi v) = ((n : Int) < v) := n_zi_lt ⟨hv1, hv2⟩ (by omega)
  by_cases c : v < 0 ∨ (n : Int) < v
  · have r1 := xRef_n (N := N) (s := s) (k := 0) (by omega)
    refine ⟨0, _, _, ?_, ?_, Inv_rf (k := 0) hW hX hM hR (by omega)⟩
    · simp only [f_X_end, f_X_end_j12, q1, e1, q2]
      by_cases c1 : v < 0
      · rw [if_pos c1, show (0 : Int32) = nI 0 from rfl, r1]; rfl
      · rw [if_neg c1, if_pos (by omega), show (0 : Int32) = nI 0 from rfl, r1]; rfl
    · simp only [f_M_end, f_M_end_j12, q1, e2, q2]
      by_cases c1 : v < 0
      · rw [if_pos c1]
      · rw [if_neg c1, if_pos (by omega)]
  · obtain ⟨k, rfl⟩ := Int.eq_ofNat_of_zero_le (show 0 ≤ v by omega)
    have hk : k ≤ n := by omega
    refine ⟨1, sI s 1 0 (nI k), sI t 1001 0 (nI k), ?_, ?_, ?_⟩
    · simp only [f_X_end, q1, e1, q2]
      rw [if_neg (by omega), if_neg (by omega), zi_nI]
    · simp only [f_M_end, q1, e2, q2]
      rw [if_neg (by omega), if_neg (by omega), zi_nI]
    · exact Inv_tp hW hX hM hR (Fr_sI _ _ _ (by decide)) (Fr_sI _ _ _ (by decide)) (n := k) (tp := tp) (by omega) (by simp (disch := first | omega | decide) only [gI_sI, gI_sA, gI_sL, gI_sQ, gI_sC, gI_sO, gI_sD, gA_sI, gA_sL, gA_sQ, gA_sO, gA_sD, gL_sI, gL_sA, gL_sQ, gL_sC, gL_sO, gL_sD, gQ_sI, gQ_sA, gQ_sL, gQ_sC, gQ_sO, gO_sI, gO_sA, gO_sL, gO_sQ, gO_sC, gO_sO, gO_sD, gA_eq, gA_ne, gQ_eq, gQ_ne, gL_sL, gA_cin, gA_cou, gQ_cin, gQ_cou, Nat.reduceAdd, Nat.reduceSub, Nat.reduceMul, Nat.reduceLT, Nat.reduceEqDiff, eq_self, true_and, and_true, and_false, false_and, if_true, if_false, and_self, Bool.true_eq_false, Bool.false_eq_true]) (by simp (disch := first | omega | decide) only [gI_sI, gI_sA, gI_sL, gI_sQ, gI_sC, gI_sO, gI_sD, gA_sI, gA_sL, gA_sQ, gA_sO, gA_sD, gL_sI, gL_sA, gL_sQ, gL_sC, gL_sO, gL_sD, gQ_sI, gQ_sA, gQ_sL, gQ_sC, gQ_sO, gO_sI, gO_sA, gO_sL, gO_sQ, gO_sC, gO_sO, gO_sD, gA_eq, gA_ne, gQ_eq, gQ_ne, gL_sL, gA_cin, gA_cou, gQ_cin, gQ_cou, Nat.reduceAdd, Nat.reduceSub, Nat.reduceMul, Nat.reduceLT, Nat.reduceEqDiff, eq_self, true_and, and_true, and_false, false_and, if_true, if_false, and_self, Bool.true_eq_false, Bool.false_eq_true]) fun i hi => e3 i (by omega)
end OPS1
