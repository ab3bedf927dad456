/-! WHAT A QUESTION's codes come to, at a door -/
def qB (A : pL) (H : hL) (d : Nat) (v : Int) : Int := if 0 ≤ v ∧ v < pP A then b01 ((ordS A H v.toNat).testBit d) else 0
def qN (A : pL) (H : hL) (d : Nat) (v : Int) : Int := if 0 ≤ (d : Int) + v ∧ (d : Int) + v < pD A then b01 ((H.1 2).testBit ((d : Int) + v).toNat) else 0
theorem b01_ty (b : Bool) : TyV true (b01 b) := by cases b <;> first | exact Or.inl rfl | exact Or.inr rfl
section TOLD
variable {N d j to len : Nat} {A : pL} {H : hL} {s s' t t' : mS} {e : List Nat} {v : Int} {g : Nat → Int} {gb gn : Int → Int} {ts ts' : List Bool} {st : List Int} {c : Nat}
theorem qGB (hA : WA A) (hB : HB A H) (hd : d < 24) : GB alQ (gv A H d 0) (qB A H d) (qN A H d) := by
  refine ⟨(gv_ty hA hB hd (by omega) alQ).1, fun v => ?_, fun v => ?_⟩
  · unfold qB
    split
    · exact b01_ty _
    · exact Or.inl rfl
  · unfold qN
    split
    · exact b01_ty _
    · exact Or.inl rfl
/-- the one side: by, near -/
theorem sBN (hA : WA A) (hB : HB A H) (hd : d < 24) (h27 : ∀ q, q < 10 → gA s 27 q = nI (if q < pP A then ordS A H q else 0)) (h9 : gI s 902 25 = nI (H.1 2)) (h26 : gA s 26 9 = nI d) : BN N s (qB A H d) (qN A H d) alQ := by
  have hP10 := hA.2.1
  have hD24 := hA.1
  have hop := HB_op hA hB
  refine ⟨fun _ v hv => ?_, fun _ v hv => ?_⟩
  · have q1 : (zi v < nI 0) = (v < 0) := zi_n_lt (n := 0) (by omega) (by omega)
    have q2 : (zi v < nI 10) = (v < 10) := zi_n_lt (n := 10) (by omega) (by omega)
    by_cases c1 : v < 0
    · have e : qB A H d v = 0 := if_neg (by omega)
      rw [e]
      simp (disch := first | omega | decide) only [f_Su_single, f_Su_single_j34, zI_0, zI_1, zI_2, zI_3, zI_4, zI_5, zI_6, zI_7, zI_8, zI_9, zI_10, zI_11, zI_12, zI_13, zI_14, zI_15, zI_16, zI_17, zI_18, zI_19, zI_20, zI_21, zI_22, zI_23, zI_24, zI_25, zI_26, zI_27, zI_28, zI_29, zI_30, zI_31, zI_32, zI_33, zI_34, zI_35, zI_36, zI_37, zI_38, zI_39, zI_40, zI_41, zI_42, zI_43, zI_44, zI_45, zI_46, zI_47, zI_48, zI_49, zI_50, zI_51, zI_52, zI_53, zI_54, zI_55, zI_56, zI_57, zI_58, zI_59, zI_60, zI_61, zI_62, zI_63, zI_64, zI_65, zI_66, zI_67, zI_74, zI_84, zI_85, zI_88, zI_91, zI_93, zI_97, zI_99, zI_100, zI_102, zI_105, zI_117, zI_122, zI_193, zI_202, zI_205, zI_251, zI_255, zI_256, zI_257, zI_258, zI_259, zI_260, zI_640, zI_999, zI_1000, zI_1024, zI_1600, zI_1602, zI_1700, zI_2040, zI_3200, zI_4100, zI_9728, zI_11784, zI_61440, zI_65536, zI_470536, zI_999999, zI_1000000, cn_eq, q1, c1, Nat.reduceAdd, Nat.reduceSub, Nat.reduceMul, Nat.reduceLT, Nat.reduceEqDiff, eq_self, true_and, and_true, and_false, false_and, if_true, if_false, and_self, Bool.true_eq_false, Bool.false_eq_true]
      rfl
    · by_cases c2 : v < 10
      · obtain ⟨q, rfl⟩ := Int.eq_ofNat_of_zero_le (show 0 ≤ v by omega)
        have e27 := h27 q (by omega)
        have q1 := q1.trans (eq_false c1)
        have q2 := q2.trans (eq_true c2)
        rw [zi_nI] at q1 q2 ⊢
        have ho : (if q < pP A then ordS A H q else 0) < 16777216 := by
          split
          · exact Nat.lt_of_lt_of_le (ordN_lt _ _ _ _) (pw_le hD24)
          · omega
        have ev : nI ((if q < pP A then ordS A H q else 0) >>> d &&& 1) = zi (qB A H d q) := by
          rw [bit_b01]
          unfold qB
          by_cases c3 : q < pP A
          · rw [if_pos c3, if_pos (by omega)]; rfl
          · rw [if_neg c3, if_neg (by omega), Nat.zero_testBit]; rfl
        generalize (if q < pP A then ordS A H q else 0) = O at *
        rw [← ev]
        simp (disch := first | omega | decide) only [f_Su_single, f_Su_single_j34, q1, q2, e27, h26, zI_0, zI_1, zI_2, zI_3, zI_4, zI_5, zI_6, zI_7, zI_8, zI_9, zI_10, zI_11, zI_12, zI_13, zI_14, zI_15, zI_16, zI_17, zI_18, zI_19, zI_20, zI_21, zI_22, zI_23, zI_24, zI_25, zI_26, zI_27, zI_28, zI_29, zI_30, zI_31, zI_32, zI_33, zI_34, zI_35, zI_36, zI_37, zI_38, zI_39, zI_40, zI_41, zI_42, zI_43, zI_44, zI_45, zI_46, zI_47, zI_48, zI_49, zI_50, zI_51, zI_52, zI_53, zI_54, zI_55, zI_56, zI_57, zI_58, zI_59, zI_60, zI_61, zI_62, zI_63, zI_64, zI_65, zI_66, zI_67, zI_74, zI_84, zI_85, zI_88, zI_91, zI_93, zI_97, zI_99, zI_100, zI_102, zI_105, zI_117, zI_122, zI_193, zI_202, zI_205, zI_251, zI_255, zI_256, zI_257, zI_258, zI_259, zI_260, zI_640, zI_999, zI_1000, zI_1024, zI_1600, zI_1602, zI_1700, zI_2040, zI_3200, zI_4100, zI_9728, zI_11784, zI_61440, zI_65536, zI_470536, zI_999999, zI_1000000, cn_eq, cn_ix, cn_inb, cn_irs, cn_and, grd_t, grd_bt, Nat.reduceAdd, Nat.reduceSub, Nat.reduceMul, Nat.reduceLT, Nat.reduceEqDiff, eq_self, true_and, and_true, and_false, false_and, if_true, if_false, and_self, Bool.true_eq_false, Bool.false_eq_true]
      · have e : qB A H d v = 0 := if_neg (by omega)
        rw [e]
        simp (disch := first | omega | decide) only [f_Su_single, f_Su_single_j34, zI_0, zI_1, zI_2, zI_3, zI_4, zI_5, zI_6, zI_7, zI_8, zI_9, zI_10, zI_11, zI_12, zI_13, zI_14, zI_15, zI_16, zI_17, zI_18, zI_19, zI_20, zI_21, zI_22, zI_23, zI_24, zI_25, zI_26, zI_27, zI_28, zI_29, zI_30, zI_31, zI_32, zI_33, zI_34, zI_35, zI_36, zI_37, zI_38, zI_39, zI_40, zI_41, zI_42, zI_43, zI_44, zI_45, zI_46, zI_47, zI_48, zI_49, zI_50, zI_51, zI_52, zI_53, zI_54, zI_55, zI_56, zI_57, zI_58, zI_59, zI_60, zI_61, zI_62, zI_63, zI_64, zI_65, zI_66, zI_67, zI_74, zI_84, zI_85, zI_88, zI_91, zI_93, zI_97, zI_99, zI_100, zI_102, zI_105, zI_117, zI_122, zI_193, zI_202, zI_205, zI_251, zI_255, zI_256, zI_257, zI_258, zI_259, zI_260, zI_640, zI_999, zI_1000, zI_1024, zI_1600, zI_1602, zI_1700, zI_2040, zI_3200, zI_4100, zI_9728, zI_11784, zI_61440, zI_65536, zI_470536, zI_999999, zI_1000000, cn_eq, q1, q2, c1, c2, Nat.reduceAdd, Nat.reduceSub, Nat.reduceMul, Nat.reduceLT, Nat.reduceEqDiff, eq_self, true_and, and_true, and_false, false_and, if_true, if_false, and_self, Bool.true_eq_false, Bool.false_eq_true]
        rfl
  · have es : nI d + zi v = zi ((d : Int) + v) := by rw [← zi_nI, zi_add]
    have q1 : (zi ((d : Int) + v) < nI 0) = ((d : Int) + v < 0) := zi_n_lt (n := 0) (by omega) (by omega)
    have q2 : (zi ((d : Int) + v) < nI 24) = ((d : Int) + v < 24) := zi_n_lt (n := 24) (by omega) (by omega)
    by_cases c1 : (d : Int) + v < 0
    · have e : qN A H d v = 0 := if_neg (by omega)
      rw [e]
      simp (disch := first | omega | decide) only [f_Su_single, h26, es, zI_0, zI_1, zI_2, zI_3, zI_4, zI_5, zI_6, zI_7, zI_8, zI_9, zI_10, zI_11, zI_12, zI_13, zI_14, zI_15, zI_16, zI_17, zI_18, zI_19, zI_20, zI_21, zI_22, zI_23, zI_24, zI_25, zI_26, zI_27, zI_28, zI_29, zI_30, zI_31, zI_32, zI_33, zI_34, zI_35, zI_36, zI_37, zI_38, zI_39, zI_40, zI_41, zI_42, zI_43, zI_44, zI_45, zI_46, zI_47, zI_48, zI_49, zI_50, zI_51, zI_52, zI_53, zI_54, zI_55, zI_56, zI_57, zI_58, zI_59, zI_60, zI_61, zI_62, zI_63, zI_64, zI_65, zI_66, zI_67, zI_74, zI_84, zI_85, zI_88, zI_91, zI_93, zI_97, zI_99, zI_100, zI_102, zI_105, zI_117, zI_122, zI_193, zI_202, zI_205, zI_251, zI_255, zI_256, zI_257, zI_258, zI_259, zI_260, zI_640, zI_999, zI_1000, zI_1024, zI_1600, zI_1602, zI_1700, zI_2040, zI_3200, zI_4100, zI_9728, zI_11784, zI_61440, zI_65536, zI_470536, zI_999999, zI_1000000, cn_eq, q1, c1, Nat.reduceAdd, Nat.reduceSub, Nat.reduceMul, Nat.reduceLT, Nat.reduceEqDiff, eq_self, true_and, and_true, and_false, false_and, if_true, if_false, and_self, Bool.true_eq_false, Bool.false_eq_true]
      rfl
    · by_cases c2 : (d : Int) + v < 24
      · obtain ⟨q, hq⟩ := Int.eq_ofNat_of_zero_le (show 0 ≤ (d : Int) + v by omega)
        have ev : nI (H.1 2 >>> q &&& 1) = zi (qN A H d v) := by
          rw [bit_b01]
          unfold qN
          rw [hq]
          by_cases c3 : q < pD A
          · rw [if_pos (by omega)]; rfl
          · rw [if_neg (by omega), Nat.testBit_lt_two_pow (Nat.lt_of_lt_of_le hB.2.2.1 (Nat.pow_le_pow_right (by omega) (by omega)))]; rfl
        have q1 := q1.trans (eq_false c1)
        have q2 := q2.trans (eq_true c2)
        rw [hq, zi_nI] at q1 q2 es
        have hq24 : q < 24 := by omega
        rw [← ev]
        simp (disch := first | omega | decide) only [f_Su_single, q1, q2, h9, h26, es, zI_0, zI_1, zI_2, zI_3, zI_4, zI_5, zI_6, zI_7, zI_8, zI_9, zI_10, zI_11, zI_12, zI_13, zI_14, zI_15, zI_16, zI_17, zI_18, zI_19, zI_20, zI_21, zI_22, zI_23, zI_24, zI_25, zI_26, zI_27, zI_28, zI_29, zI_30, zI_31, zI_32, zI_33, zI_34, zI_35, zI_36, zI_37, zI_38, zI_39, zI_40, zI_41, zI_42, zI_43, zI_44, zI_45, zI_46, zI_47, zI_48, zI_49, zI_50, zI_51, zI_52, zI_53, zI_54, zI_55, zI_56, zI_57, zI_58, zI_59, zI_60, zI_61, zI_62, zI_63, zI_64, zI_65, zI_66, zI_67, zI_74, zI_84, zI_85, zI_88, zI_91, zI_93, zI_97, zI_99, zI_100, zI_102, zI_105, zI_117, zI_122, zI_193, zI_202, zI_205, zI_251, zI_255, zI_256, zI_257, zI_258, zI_259, zI_260, zI_640, zI_999, zI_1000, zI_1024, zI_1600, zI_1602, zI_1700, zI_2040, zI_3200, zI_4100, zI_9728, zI_11784, zI_61440, zI_65536, zI_470536, zI_999999, zI_1000000, cn_eq, cn_irs, cn_and, Nat.reduceAdd, Nat.reduceSub, Nat.reduceMul, Nat.reduceLT, Nat.reduceEqDiff, eq_self, true_and, and_true, and_false, false_and, if_true, if_false, and_self, Bool.true_eq_false, Bool.false_eq_true]
      · have e : qN A H d v = 0 := if_neg (by omega)
        rw [e]
        simp (disch := first | omega | decide) only [f_Su_single, h26, es, zI_0, zI_1, zI_2, zI_3, zI_4, zI_5, zI_6, zI_7, zI_8, zI_9, zI_10, zI_11, zI_12, zI_13, zI_14, zI_15, zI_16, zI_17, zI_18, zI_19, zI_20, zI_21, zI_22, zI_23, zI_24, zI_25, zI_26, zI_27, zI_28, zI_29, zI_30, zI_31, zI_32, zI_33, zI_34, zI_35, zI_36, zI_37, zI_38, zI_39, zI_40, zI_41, zI_42, zI_43, zI_44, zI_45, zI_46, zI_47, zI_48, zI_49, zI_50, zI_51, zI_52, zI_53, zI_54, zI_55, zI_56, zI_57, zI_58, zI_59, zI_60, zI_61, zI_62, zI_63, zI_64, zI_65, zI_66, zI_67, zI_74, zI_84, zI_85, zI_88, zI_91, zI_93, zI_97, zI_99, zI_100, zI_102, zI_105, zI_117, zI_122, zI_193, zI_202, zI_205, zI_251, zI_255, zI_256, zI_257, zI_258, zI_259, zI_260, zI_640, zI_999, zI_1000, zI_1024, zI_1600, zI_1602, zI_1700, zI_2040, zI_3200, zI_4100, zI_9728, zI_11784, zI_61440, zI_65536, zI_470536, zI_999999, zI_1000000, cn_eq, q1, q2, c1, c2, Nat.reduceAdd, Nat.reduceSub, Nat.reduceMul, Nat.reduceLT, Nat.reduceEqDiff, eq_self, true_and, and_true, and_false, false_and, if_true, if_false, and_self, Bool.true_eq_false, Bool.false_eq_true]
        rfl
/-- the other side: by, near -/
theorem qOf_0 (hA : WA A) (hP : MP A t) (h35 : ∀ p, p < pP A → gA t 35 p = nI (ordS A H p)) (hd : d < 24) (hv : -1000000 ≤ v ∧ v ≤ 1000000) : f_M_qOf N (nI 0) (zl v) (nI d) t = some (zl (qB A H d v), t) := by
  have hP10 := hA.2.1
  have ip := mIsPorter_n (N := N) (v := v) hA hP (by omega)
  rw [zi_l (by omega)] at ip
  by_cases c : 0 ≤ v ∧ v < pP A
  · rw [if_pos c] at ip
    obtain ⟨q, rfl⟩ := Int.eq_ofNat_of_zero_le c.1
    have e35 := h35 q (by omega)
    have ho : ordS A H q < 16777216 := Nat.lt_of_lt_of_le (ordN_lt _ _ _ _) (pw_le hA.1)
    have e1 : (zl ((q : Nat) : Int)).toInt32 = nI q := by rw [zl_i (by omega), zi_nI]
    have ev : (nI (ordS A H q >>> d)).toInt64 &&& lN 1 = zl (qB A H d q) := by
      have hs : ordS A H q >>> d ≤ ordS A H q := by rw [Nat.shiftRight_eq_div_pow]; exact Nat.div_le_self _ _
      rw [nI_l (by omega), fb_andL, bit01]
      unfold qB
      rw [if_pos c, Int.toNat_natCast]
      cases (ordS A H q).testBit d <;> rfl
    rw [← ev]
    simp (disch := first | omega | decide) only [f_M_qOf, ip, e1, e35, show (1 : Int64) = lN 1 from rfl, zI_0, zI_1, zI_2, zI_3, zI_4, zI_5, zI_6, zI_7, zI_8, zI_9, zI_10, zI_11, zI_12, zI_13, zI_14, zI_15, zI_16, zI_17, zI_18, zI_19, zI_20, zI_21, zI_22, zI_23, zI_24, zI_25, zI_26, zI_27, zI_28, zI_29, zI_30, zI_31, zI_32, zI_33, zI_34, zI_35, zI_36, zI_37, zI_38, zI_39, zI_40, zI_41, zI_42, zI_43, zI_44, zI_45, zI_46, zI_47, zI_48, zI_49, zI_50, zI_51, zI_52, zI_53, zI_54, zI_55, zI_56, zI_57, zI_58, zI_59, zI_60, zI_61, zI_62, zI_63, zI_64, zI_65, zI_66, zI_67, zI_74, zI_84, zI_85, zI_88, zI_91, zI_93, zI_97, zI_99, zI_100, zI_102, zI_105, zI_117, zI_122, zI_193, zI_202, zI_205, zI_251, zI_255, zI_256, zI_257, zI_258, zI_259, zI_260, zI_640, zI_999, zI_1000, zI_1024, zI_1600, zI_1602, zI_1700, zI_2040, zI_3200, zI_4100, zI_9728, zI_11784, zI_61440, zI_65536, zI_470536, zI_999999, zI_1000000, cn_eq, cn_ix, cn_inb, cn_irs, grd_t, grd_bt, Nat.reduceAdd, Nat.reduceSub, Nat.reduceMul, Nat.reduceLT, Nat.reduceEqDiff, eq_self, true_and, and_true, and_false, false_and, if_true, if_false, and_self, Bool.true_eq_false, Bool.false_eq_true, Option.bind_some]
  · rw [if_neg c] at ip
    have ev : qB A H d v = 0 := if_neg c
    rw [ev]
    simp (disch := first | omega | decide) only [f_M_qOf, ip, zI_0, zI_1, zI_2, zI_3, zI_4, zI_5, zI_6, zI_7, zI_8, zI_9, zI_10, zI_11, zI_12, zI_13, zI_14, zI_15, zI_16, zI_17, zI_18, zI_19, zI_20, zI_21, zI_22, zI_23, zI_24, zI_25, zI_26, zI_27, zI_28, zI_29, zI_30, zI_31, zI_32, zI_33, zI_34, zI_35, zI_36, zI_37, zI_38, zI_39, zI_40, zI_41, zI_42, zI_43, zI_44, zI_45, zI_46, zI_47, zI_48, zI_49, zI_50, zI_51, zI_52, zI_53, zI_54, zI_55, zI_56, zI_57, zI_58, zI_59, zI_60, zI_61, zI_62, zI_63, zI_64, zI_65, zI_66, zI_67, zI_74, zI_84, zI_85, zI_88, zI_91, zI_93, zI_97, zI_99, zI_100, zI_102, zI_105, zI_117, zI_122, zI_193, zI_202, zI_205, zI_251, zI_255, zI_256, zI_257, zI_258, zI_259, zI_260, zI_640, zI_999, zI_1000, zI_1024, zI_1600, zI_1602, zI_1700, zI_2040, zI_3200, zI_4100, zI_9728, zI_11784, zI_61440, zI_65536, zI_470536, zI_999999, zI_1000000, cn_eq, Nat.reduceAdd, Nat.reduceSub, Nat.reduceMul, Nat.reduceLT, Nat.reduceEqDiff, eq_self, true_and, and_true, and_false, false_and, if_true, if_false, and_self, Bool.true_eq_false, Bool.false_eq_true, Option.bind_some]
    rfl
theorem qOf_1 (hA : WA A) (hP : MP A t) (hR : MRow A H t) (hd : d < 24) (hv : -1000000 ≤ v ∧ v ≤ 1000000) : f_M_qOf N (nI 1) (zl v) (nI d) t = some (zl (qN A H d v), t) := by
  have hD24 := hA.1
  have es : (nI d).toInt64 + zl v = zl ((d : Int) + v) := by rw [nI_zl (by omega), zl_add]
  have ip := mIsDoor_n (N := N) (v := (d : Int) + v) hA hP (by omega)
  rw [zi_l (by omega)] at ip
  by_cases c : 0 ≤ (d : Int) + v ∧ (d : Int) + v < pD A
  · rw [if_pos c] at ip
    obtain ⟨q, hq⟩ := Int.eq_ofNat_of_zero_le c.1
    have e1 : (zl ((d : Int) + v)).toInt32 = nI q := by rw [zl_i (by omega), hq, zi_nI]
    have o := mOpenOf_n (N := N) (d := q) hA hR (by omega)
    have ev : qN A H d v = b01 ((H.1 2).testBit q) := by unfold qN; rw [if_pos c, hq]; rfl
    rw [ev]
    simp (disch := first | omega | decide) only [f_M_qOf, es, ip, e1, o, zi_zl, zI_0, zI_1, zI_2, zI_3, zI_4, zI_5, zI_6, zI_7, zI_8, zI_9, zI_10, zI_11, zI_12, zI_13, zI_14, zI_15, zI_16, zI_17, zI_18, zI_19, zI_20, zI_21, zI_22, zI_23, zI_24, zI_25, zI_26, zI_27, zI_28, zI_29, zI_30, zI_31, zI_32, zI_33, zI_34, zI_35, zI_36, zI_37, zI_38, zI_39, zI_40, zI_41, zI_42, zI_43, zI_44, zI_45, zI_46, zI_47, zI_48, zI_49, zI_50, zI_51, zI_52, zI_53, zI_54, zI_55, zI_56, zI_57, zI_58, zI_59, zI_60, zI_61, zI_62, zI_63, zI_64, zI_65, zI_66, zI_67, zI_74, zI_84, zI_85, zI_88, zI_91, zI_93, zI_97, zI_99, zI_100, zI_102, zI_105, zI_117, zI_122, zI_193, zI_202, zI_205, zI_251, zI_255, zI_256, zI_257, zI_258, zI_259, zI_260, zI_640, zI_999, zI_1000, zI_1024, zI_1600, zI_1602, zI_1700, zI_2040, zI_3200, zI_4100, zI_9728, zI_11784, zI_61440, zI_65536, zI_470536, zI_999999, zI_1000000, cn_eq, Nat.reduceAdd, Nat.reduceSub, Nat.reduceMul, Nat.reduceLT, Nat.reduceEqDiff, eq_self, true_and, and_true, and_false, false_and, if_true, if_false, and_self, Bool.true_eq_false, Bool.false_eq_true, Option.bind_some]
  · rw [if_neg c] at ip
    have ev : qN A H d v = 0 := if_neg c
    rw [ev]
    simp (disch := first | omega | decide) only [f_M_qOf, es, ip, zI_0, zI_1, zI_2, zI_3, zI_4, zI_5, zI_6, zI_7, zI_8, zI_9, zI_10, zI_11, zI_12, zI_13, zI_14, zI_15, zI_16, zI_17, zI_18, zI_19, zI_20, zI_21, zI_22, zI_23, zI_24, zI_25, zI_26, zI_27, zI_28, zI_29, zI_30, zI_31, zI_32, zI_33, zI_34, zI_35, zI_36, zI_37, zI_38, zI_39, zI_40, zI_41, zI_42, zI_43, zI_44, zI_45, zI_46, zI_47, zI_48, zI_49, zI_50, zI_51, zI_52, zI_53, zI_54, zI_55, zI_56, zI_57, zI_58, zI_59, zI_60, zI_61, zI_62, zI_63, zI_64, zI_65, zI_66, zI_67, zI_74, zI_84, zI_85, zI_88, zI_91, zI_93, zI_97, zI_99, zI_100, zI_102, zI_105, zI_117, zI_122, zI_193, zI_202, zI_205, zI_251, zI_255, zI_256, zI_257, zI_258, zI_259, zI_260, zI_640, zI_999, zI_1000, zI_1024, zI_1600, zI_1602, zI_1700, zI_2040, zI_3200, zI_4100, zI_9728, zI_11784, zI_61440, zI_65536, zI_470536, zI_999999, zI_1000000, cn_eq, Nat.reduceAdd, Nat.reduceSub, Nat.reduceMul, Nat.reduceLT, Nat.reduceEqDiff, eq_self, true_and, and_true, and_false, false_and, if_true, if_false, and_self, Bool.true_eq_false, Bool.false_eq_true, Option.bind_some]
    rfl
theorem clip_in (h : -1000000 ≤ v ∧ v ≤ 1000000) : clip v = v := by
  unfold clip
  rw [if_neg (by omega), if_neg (by omega)]
theorem qtold_st {k : Int32 × Int32 × mS → Option (Int64 × mS)} (hd : d < 24) (hj : j < len) (hlen : len ≤ 1600) (h88 : gI t 1088 0 = nI len) (hc : gA t 64 j = nI c)
    (hck : ck1 alQ c ts = some ts') (hT : TyS ts st) (hl50 : ts.length ≤ 50) (hSt : PiQ t st) (hgb : GB alQ g gb gn) (hPQ : ∀ w, w ≤ 8 → alQ w = true → f_M_qPartOf N (nI w) (nI d) t = some (zl (g w), t)) (hO : ∀ v, -1000000 ≤ v ∧ v ≤ 1000000 → f_M_qOf N (nI 0) (zl v) (nI d) t = some (zl (gb v), t) ∧ f_M_qOf N (nI 1) (zl v) (nI d) t = some (zl (gn v), t)) :
    ∃ t2, f_M_qTold_L7 N k (nI d, nI j, t) = k (nI d, nI (j + 1), t2) ∧ Fr kQ t t2 ∧ PiQ t2 (ev1 g gb gn c st) := by
  have hl := TyS_len hT
  have hp1 := hSt.1
  rcases ck1_cases hck with ⟨h1, h2, h3, rfl⟩ | ⟨rfl, h2, r, rfl, rfl⟩ | ⟨rfl, h2, r, rfl, rfl⟩ | ⟨h1, h2, h3, h4, rfl⟩ | ⟨rfl, h2, rfl⟩ | ⟨rfl, r, rfl, rfl⟩ | ⟨h1, r, rfl, rfl⟩ | ⟨h1, r, rfl, rfl⟩ | ⟨h1, r, rfl, rfl⟩
  · obtain ⟨s', e, p, F⟩ := qPuts_n (N := N) (v := ((c - 1000 : Nat) : Int)) hSt (by omega)
    refine ⟨s', ?_, F, by rw [ev1_num h1]; exact p⟩
    simp (disch := first | omega | decide) only [f_M_qTold_L7, h88, hc, zI_0, zI_1, zI_2, zI_3, zI_4, zI_5, zI_6, zI_7, zI_8, zI_9, zI_10, zI_11, zI_12, zI_13, zI_14, zI_15, zI_16, zI_17, zI_18, zI_19, zI_20, zI_21, zI_22, zI_23, zI_24, zI_25, zI_26, zI_27, zI_28, zI_29, zI_30, zI_31, zI_32, zI_33, zI_34, zI_35, zI_36, zI_37, zI_38, zI_39, zI_40, zI_41, zI_42, zI_43, zI_44, zI_45, zI_46, zI_47, zI_48, zI_49, zI_50, zI_51, zI_52, zI_53, zI_54, zI_55, zI_56, zI_57, zI_58, zI_59, zI_60, zI_61, zI_62, zI_63, zI_64, zI_65, zI_66, zI_67, zI_74, zI_84, zI_85, zI_88, zI_91, zI_93, zI_97, zI_99, zI_100, zI_102, zI_105, zI_117, zI_122, zI_193, zI_202, zI_205, zI_251, zI_255, zI_256, zI_257, zI_258, zI_259, zI_260, zI_640, zI_999, zI_1000, zI_1024, zI_1600, zI_1602, zI_1700, zI_2040, zI_3200, zI_4100, zI_9728, zI_11784, zI_61440, zI_65536, zI_470536, zI_999999, zI_1000000, lt_T, lt_F, le_T, le_F, eq_T, eq_F, neg_1, cn_m1p, cn_m11, nI_add, cn_sub, pk_mul, cn_div, cn_irm, cn_lt, cn_eq, cn_ltm1, cn_m1lt, cn_eqm1, cn_m1eq, cn_ix, cn_inb, cn_ninb, cn_irs, cn_ils, cn_and, cn_or, cn_xor, grd_t, grd_bt, grd_bl, Nat.add_zero, Nat.zero_add, Nat.reduceAdd, Nat.reduceSub, Nat.reduceMul, Nat.reduceLT, Nat.reduceEqDiff, eq_self, true_and, and_true, and_false, false_and, if_true, if_false, and_self, Bool.true_eq_false, Bool.false_eq_true, nI_l, ← zl_lN, e, Option.bind_some]
  · obtain ⟨v, st, rfl, hv, hst⟩ := TyS_1 hT
    simp only [List.length_cons] at hl hl50 hp1
    have hS1 : gQ t 66 st.length = zl v := hSt.2.1
    obtain ⟨o1, o2⟩ := hO v (zi_tv hv)
    have cl := clipM (N := N) (v := gb v) t (by have := zi_tv (hgb.2.1 v); omega)
    rw [clip_in (zi_tv (hgb.2.1 v))] at cl
    refine ⟨sQ t 66 st.length (zl (gb v)), ?_, Fr_sQ _ _ _ (by decide), hp1, gQ_eq rfl, StQ_fr (fun i hi => gQ_ne (by omega)) hSt.2.2⟩
    simp (disch := first | omega | decide) only [f_M_qTold_L7, h88, hc, hp1, zI_0, zI_1, zI_2, zI_3, zI_4, zI_5, zI_6, zI_7, zI_8, zI_9, zI_10, zI_11, zI_12, zI_13, zI_14, zI_15, zI_16, zI_17, zI_18, zI_19, zI_20, zI_21, zI_22, zI_23, zI_24, zI_25, zI_26, zI_27, zI_28, zI_29, zI_30, zI_31, zI_32, zI_33, zI_34, zI_35, zI_36, zI_37, zI_38, zI_39, zI_40, zI_41, zI_42, zI_43, zI_44, zI_45, zI_46, zI_47, zI_48, zI_49, zI_50, zI_51, zI_52, zI_53, zI_54, zI_55, zI_56, zI_57, zI_58, zI_59, zI_60, zI_61, zI_62, zI_63, zI_64, zI_65, zI_66, zI_67, zI_74, zI_84, zI_85, zI_88, zI_91, zI_93, zI_97, zI_99, zI_100, zI_102, zI_105, zI_117, zI_122, zI_193, zI_202, zI_205, zI_251, zI_255, zI_256, zI_257, zI_258, zI_259, zI_260, zI_640, zI_999, zI_1000, zI_1024, zI_1600, zI_1602, zI_1700, zI_2040, zI_3200, zI_4100, zI_9728, zI_11784, zI_61440, zI_65536, zI_470536, zI_999999, zI_1000000, lt_T, lt_F, le_T, le_F, eq_T, eq_F, neg_1, cn_m1p, cn_m11, nI_add, cn_sub, pk_mul, cn_div, cn_irm, cn_lt, cn_eq, cn_ltm1, cn_m1lt, cn_eqm1, cn_m1eq, cn_ix, cn_inb, cn_ninb, cn_irs, cn_ils, cn_and, cn_or, cn_xor, grd_t, grd_bt, grd_bl, Nat.add_zero, Nat.zero_add, Nat.reduceAdd, Nat.reduceSub, Nat.reduceMul, Nat.reduceLT, Nat.reduceEqDiff, eq_self, true_and, and_true, and_false, false_and, if_true, if_false, and_self, Bool.true_eq_false, Bool.false_eq_true, Nat.add_sub_cancel, hS1, o1, cl, Option.bind_some]
  · obtain ⟨v, st, rfl, hv, hst⟩ := TyS_1 hT
    simp only [List.length_cons] at hl hl50 hp1
    have hS1 : gQ t 66 st.length = zl v := hSt.2.1
    obtain ⟨o1, o2⟩ := hO v (zi_tv hv)
    have cl := clipM (N := N) (v := gn v) t (by have := zi_tv (hgb.2.2 v); omega)
    rw [clip_in (zi_tv (hgb.2.2 v))] at cl
    refine ⟨sQ t 66 st.length (zl (gn v)), ?_, Fr_sQ _ _ _ (by decide), hp1, gQ_eq rfl, StQ_fr (fun i hi => gQ_ne (by omega)) hSt.2.2⟩
    simp (disch := first | omega | decide) only [f_M_qTold_L7, h88, hc, hp1, zI_0, zI_1, zI_2, zI_3, zI_4, zI_5, zI_6, zI_7, zI_8, zI_9, zI_10, zI_11, zI_12, zI_13, zI_14, zI_15, zI_16, zI_17, zI_18, zI_19, zI_20, zI_21, zI_22, zI_23, zI_24, zI_25, zI_26, zI_27, zI_28, zI_29, zI_30, zI_31, zI_32, zI_33, zI_34, zI_35, zI_36, zI_37, zI_38, zI_39, zI_40, zI_41, zI_42, zI_43, zI_44, zI_45, zI_46, zI_47, zI_48, zI_49, zI_50, zI_51, zI_52, zI_53, zI_54, zI_55, zI_56, zI_57, zI_58, zI_59, zI_60, zI_61, zI_62, zI_63, zI_64, zI_65, zI_66, zI_67, zI_74, zI_84, zI_85, zI_88, zI_91, zI_93, zI_97, zI_99, zI_100, zI_102, zI_105, zI_117, zI_122, zI_193, zI_202, zI_205, zI_251, zI_255, zI_256, zI_257, zI_258, zI_259, zI_260, zI_640, zI_999, zI_1000, zI_1024, zI_1600, zI_1602, zI_1700, zI_2040, zI_3200, zI_4100, zI_9728, zI_11784, zI_61440, zI_65536, zI_470536, zI_999999, zI_1000000, lt_T, lt_F, le_T, le_F, eq_T, eq_F, neg_1, cn_m1p, cn_m11, nI_add, cn_sub, pk_mul, cn_div, cn_irm, cn_lt, cn_eq, cn_ltm1, cn_m1lt, cn_eqm1, cn_m1eq, cn_ix, cn_inb, cn_ninb, cn_irs, cn_ils, cn_and, cn_or, cn_xor, grd_t, grd_bt, grd_bl, Nat.add_zero, Nat.zero_add, Nat.reduceAdd, Nat.reduceSub, Nat.reduceMul, Nat.reduceLT, Nat.reduceEqDiff, eq_self, true_and, and_true, and_false, false_and, if_true, if_false, and_self, Bool.true_eq_false, Bool.false_eq_true, Nat.add_sub_cancel, hS1, o2, cl, Option.bind_some]
  · obtain ⟨s', e, p, F⟩ := qPuts_n (N := N) (v := g (c - 40)) hSt (by omega)
    refine ⟨s', ?_, F, by rw [ev1_part ⟨h1, h2⟩]; exact p⟩
    have e2 := hPQ (c - 40) (by omega) h3
    have gt : -1000000 ≤ g (c - 40) ∧ g (c - 40) ≤ 1000000 := hgb.1 (c - 40) h3
    have cl := clipM (N := N) (v := g (c - 40)) t (by omega)
    rw [clip_in gt] at cl
    simp (disch := first | omega | decide) only [f_M_qTold_L7, h88, hc, zI_0, zI_1, zI_2, zI_3, zI_4, zI_5, zI_6, zI_7, zI_8, zI_9, zI_10, zI_11, zI_12, zI_13, zI_14, zI_15, zI_16, zI_17, zI_18, zI_19, zI_20, zI_21, zI_22, zI_23, zI_24, zI_25, zI_26, zI_27, zI_28, zI_29, zI_30, zI_31, zI_32, zI_33, zI_34, zI_35, zI_36, zI_37, zI_38, zI_39, zI_40, zI_41, zI_42, zI_43, zI_44, zI_45, zI_46, zI_47, zI_48, zI_49, zI_50, zI_51, zI_52, zI_53, zI_54, zI_55, zI_56, zI_57, zI_58, zI_59, zI_60, zI_61, zI_62, zI_63, zI_64, zI_65, zI_66, zI_67, zI_74, zI_84, zI_85, zI_88, zI_91, zI_93, zI_97, zI_99, zI_100, zI_102, zI_105, zI_117, zI_122, zI_193, zI_202, zI_205, zI_251, zI_255, zI_256, zI_257, zI_258, zI_259, zI_260, zI_640, zI_999, zI_1000, zI_1024, zI_1600, zI_1602, zI_1700, zI_2040, zI_3200, zI_4100, zI_9728, zI_11784, zI_61440, zI_65536, zI_470536, zI_999999, zI_1000000, lt_T, lt_F, le_T, le_F, eq_T, eq_F, neg_1, cn_m1p, cn_m11, nI_add, cn_sub, pk_mul, cn_div, cn_irm, cn_lt, cn_eq, cn_ltm1, cn_m1lt, cn_eqm1, cn_m1eq, cn_ix, cn_inb, cn_ninb, cn_irs, cn_ils, cn_and, cn_or, cn_xor, grd_t, grd_bt, grd_bl, Nat.add_zero, Nat.zero_add, Nat.reduceAdd, Nat.reduceSub, Nat.reduceMul, Nat.reduceLT, Nat.reduceEqDiff, eq_self, true_and, and_true, and_false, false_and, if_true, if_false, and_self, Bool.true_eq_false, Bool.false_eq_true, e, e2, cl, Option.bind_some]
  · obtain ⟨s', e, p, F⟩ := qPuts_n (N := N) (v := 1) hSt (by omega)
    refine ⟨s', ?_, F, p⟩
    simp (disch := first | omega | decide) only [f_M_qTold_L7, h88, hc, zI_0, zI_1, zI_2, zI_3, zI_4, zI_5, zI_6, zI_7, zI_8, zI_9, zI_10, zI_11, zI_12, zI_13, zI_14, zI_15, zI_16, zI_17, zI_18, zI_19, zI_20, zI_21, zI_22, zI_23, zI_24, zI_25, zI_26, zI_27, zI_28, zI_29, zI_30, zI_31, zI_32, zI_33, zI_34, zI_35, zI_36, zI_37, zI_38, zI_39, zI_40, zI_41, zI_42, zI_43, zI_44, zI_45, zI_46, zI_47, zI_48, zI_49, zI_50, zI_51, zI_52, zI_53, zI_54, zI_55, zI_56, zI_57, zI_58, zI_59, zI_60, zI_61, zI_62, zI_63, zI_64, zI_65, zI_66, zI_67, zI_74, zI_84, zI_85, zI_88, zI_91, zI_93, zI_97, zI_99, zI_100, zI_102, zI_105, zI_117, zI_122, zI_193, zI_202, zI_205, zI_251, zI_255, zI_256, zI_257, zI_258, zI_259, zI_260, zI_640, zI_999, zI_1000, zI_1024, zI_1600, zI_1602, zI_1700, zI_2040, zI_3200, zI_4100, zI_9728, zI_11784, zI_61440, zI_65536, zI_470536, zI_999999, zI_1000000, lt_T, lt_F, le_T, le_F, eq_T, eq_F, neg_1, cn_m1p, cn_m11, nI_add, cn_sub, pk_mul, cn_div, cn_irm, cn_lt, cn_eq, cn_ltm1, cn_m1lt, cn_eqm1, cn_m1eq, cn_ix, cn_inb, cn_ninb, cn_irs, cn_ils, cn_and, cn_or, cn_xor, grd_t, grd_bt, grd_bl, Nat.add_zero, Nat.zero_add, Nat.reduceAdd, Nat.reduceSub, Nat.reduceMul, Nat.reduceLT, Nat.reduceEqDiff, eq_self, true_and, and_true, and_false, false_and, if_true, if_false, and_self, Bool.true_eq_false, Bool.false_eq_true, zlc_1, e, Option.bind_some]
  · obtain ⟨v, st, rfl, hv, hst⟩ := TyS_1 hT
    simp only [List.length_cons] at hl hl50 hp1
    have hS1 : gQ t 66 st.length = zl v := hSt.2.1
    refine ⟨sQ t 66 st.length (zl (1 - v)), ?_, Fr_sQ _ _ _ (by decide), hp1, gQ_eq rfl, StQ_fr (fun i hi => gQ_ne (by omega)) hSt.2.2⟩
    simp (disch := first | omega | decide) only [f_M_qTold_L7, h88, hc, hp1, zI_0, zI_1, zI_2, zI_3, zI_4, zI_5, zI_6, zI_7, zI_8, zI_9, zI_10, zI_11, zI_12, zI_13, zI_14, zI_15, zI_16, zI_17, zI_18, zI_19, zI_20, zI_21, zI_22, zI_23, zI_24, zI_25, zI_26, zI_27, zI_28, zI_29, zI_30, zI_31, zI_32, zI_33, zI_34, zI_35, zI_36, zI_37, zI_38, zI_39, zI_40, zI_41, zI_42, zI_43, zI_44, zI_45, zI_46, zI_47, zI_48, zI_49, zI_50, zI_51, zI_52, zI_53, zI_54, zI_55, zI_56, zI_57, zI_58, zI_59, zI_60, zI_61, zI_62, zI_63, zI_64, zI_65, zI_66, zI_67, zI_74, zI_84, zI_85, zI_88, zI_91, zI_93, zI_97, zI_99, zI_100, zI_102, zI_105, zI_117, zI_122, zI_193, zI_202, zI_205, zI_251, zI_255, zI_256, zI_257, zI_258, zI_259, zI_260, zI_640, zI_999, zI_1000, zI_1024, zI_1600, zI_1602, zI_1700, zI_2040, zI_3200, zI_4100, zI_9728, zI_11784, zI_61440, zI_65536, zI_470536, zI_999999, zI_1000000, lt_T, lt_F, le_T, le_F, eq_T, eq_F, neg_1, cn_m1p, cn_m11, nI_add, cn_sub, pk_mul, cn_div, cn_irm, cn_lt, cn_eq, cn_ltm1, cn_m1lt, cn_eqm1, cn_m1eq, cn_ix, cn_inb, cn_ninb, cn_irs, cn_ils, cn_and, cn_or, cn_xor, grd_t, grd_bt, grd_bl, Nat.add_zero, Nat.zero_add, Nat.reduceAdd, Nat.reduceSub, Nat.reduceMul, Nat.reduceLT, Nat.reduceEqDiff, eq_self, true_and, and_true, and_false, false_and, if_true, if_false, and_self, Bool.true_eq_false, Bool.false_eq_true, Nat.add_sub_cancel, hS1, zlc_1, zl_sub]
  · obtain ⟨v, w2, st, rfl, hv, hw2, hst⟩ := TyS_2 hT
    simp only [List.length_cons] at hl hl50
    obtain ⟨s', e, p, F⟩ := qJoins_n (N := N) (c := c) hSt (by omega) (by omega) (zi_tv hw2) (zi_tv hv)
    refine ⟨s', ?_, F, by rw [ev1_bin (by omega)]; exact p⟩
    simp (disch := first | omega | decide) only [f_M_qTold_L7, h88, hc, zI_0, zI_1, zI_2, zI_3, zI_4, zI_5, zI_6, zI_7, zI_8, zI_9, zI_10, zI_11, zI_12, zI_13, zI_14, zI_15, zI_16, zI_17, zI_18, zI_19, zI_20, zI_21, zI_22, zI_23, zI_24, zI_25, zI_26, zI_27, zI_28, zI_29, zI_30, zI_31, zI_32, zI_33, zI_34, zI_35, zI_36, zI_37, zI_38, zI_39, zI_40, zI_41, zI_42, zI_43, zI_44, zI_45, zI_46, zI_47, zI_48, zI_49, zI_50, zI_51, zI_52, zI_53, zI_54, zI_55, zI_56, zI_57, zI_58, zI_59, zI_60, zI_61, zI_62, zI_63, zI_64, zI_65, zI_66, zI_67, zI_74, zI_84, zI_85, zI_88, zI_91, zI_93, zI_97, zI_99, zI_100, zI_102, zI_105, zI_117, zI_122, zI_193, zI_202, zI_205, zI_251, zI_255, zI_256, zI_257, zI_258, zI_259, zI_260, zI_640, zI_999, zI_1000, zI_1024, zI_1600, zI_1602, zI_1700, zI_2040, zI_3200, zI_4100, zI_9728, zI_11784, zI_61440, zI_65536, zI_470536, zI_999999, zI_1000000, lt_T, lt_F, le_T, le_F, eq_T, eq_F, neg_1, cn_m1p, cn_m11, nI_add, cn_sub, pk_mul, cn_div, cn_irm, cn_lt, cn_eq, cn_ltm1, cn_m1lt, cn_eqm1, cn_m1eq, cn_ix, cn_inb, cn_ninb, cn_irs, cn_ils, cn_and, cn_or, cn_xor, grd_t, grd_bt, grd_bl, Nat.add_zero, Nat.zero_add, Nat.reduceAdd, Nat.reduceSub, Nat.reduceMul, Nat.reduceLT, Nat.reduceEqDiff, eq_self, true_and, and_true, and_false, false_and, if_true, if_false, and_self, Bool.true_eq_false, Bool.false_eq_true, e, Option.bind_some]
  · obtain ⟨v, w2, st, rfl, hv, hw2, hst⟩ := TyS_2 hT
    simp only [List.length_cons] at hl hl50
    obtain ⟨s', e, p, F⟩ := qJoins_n (N := N) (c := c) hSt (by omega) (by omega) (zi_tv hw2) (zi_tv hv)
    refine ⟨s', ?_, F, by rw [ev1_bin (by omega)]; exact p⟩
    simp (disch := first | omega | decide) only [f_M_qTold_L7, h88, hc, zI_0, zI_1, zI_2, zI_3, zI_4, zI_5, zI_6, zI_7, zI_8, zI_9, zI_10, zI_11, zI_12, zI_13, zI_14, zI_15, zI_16, zI_17, zI_18, zI_19, zI_20, zI_21, zI_22, zI_23, zI_24, zI_25, zI_26, zI_27, zI_28, zI_29, zI_30, zI_31, zI_32, zI_33, zI_34, zI_35, zI_36, zI_37, zI_38, zI_39, zI_40, zI_41, zI_42, zI_43, zI_44, zI_45, zI_46, zI_47, zI_48, zI_49, zI_50, zI_51, zI_52, zI_53, zI_54, zI_55, zI_56, zI_57, zI_58, zI_59, zI_60, zI_61, zI_62, zI_63, zI_64, zI_65, zI_66, zI_67, zI_74, zI_84, zI_85, zI_88, zI_91, zI_93, zI_97, zI_99, zI_100, zI_102, zI_105, zI_117, zI_122, zI_193, zI_202, zI_205, zI_251, zI_255, zI_256, zI_257, zI_258, zI_259, zI_260, zI_640, zI_999, zI_1000, zI_1024, zI_1600, zI_1602, zI_1700, zI_2040, zI_3200, zI_4100, zI_9728, zI_11784, zI_61440, zI_65536, zI_470536, zI_999999, zI_1000000, lt_T, lt_F, le_T, le_F, eq_T, eq_F, neg_1, cn_m1p, cn_m11, nI_add, cn_sub, pk_mul, cn_div, cn_irm, cn_lt, cn_eq, cn_ltm1, cn_m1lt, cn_eqm1, cn_m1eq, cn_ix, cn_inb, cn_ninb, cn_irs, cn_ils, cn_and, cn_or, cn_xor, grd_t, grd_bt, grd_bl, Nat.add_zero, Nat.zero_add, Nat.reduceAdd, Nat.reduceSub, Nat.reduceMul, Nat.reduceLT, Nat.reduceEqDiff, eq_self, true_and, and_true, and_false, false_and, if_true, if_false, and_self, Bool.true_eq_false, Bool.false_eq_true, e, Option.bind_some]
  · obtain ⟨v, w2, st, rfl, hv, hw2, hst⟩ := TyS_2 hT
    simp only [List.length_cons] at hl hl50
    obtain ⟨s', e, p, F⟩ := qJoins_n (N := N) (c := c) hSt (by omega) (by omega) (zi_tv hw2) (zi_tv hv)
    refine ⟨s', ?_, F, by rw [ev1_bin (by omega)]; exact p⟩
    simp (disch := first | omega | decide) only [f_M_qTold_L7, h88, hc, zI_0, zI_1, zI_2, zI_3, zI_4, zI_5, zI_6, zI_7, zI_8, zI_9, zI_10, zI_11, zI_12, zI_13, zI_14, zI_15, zI_16, zI_17, zI_18, zI_19, zI_20, zI_21, zI_22, zI_23, zI_24, zI_25, zI_26, zI_27, zI_28, zI_29, zI_30, zI_31, zI_32, zI_33, zI_34, zI_35, zI_36, zI_37, zI_38, zI_39, zI_40, zI_41, zI_42, zI_43, zI_44, zI_45, zI_46, zI_47, zI_48, zI_49, zI_50, zI_51, zI_52, zI_53, zI_54, zI_55, zI_56, zI_57, zI_58, zI_59, zI_60, zI_61, zI_62, zI_63, zI_64, zI_65, zI_66, zI_67, zI_74, zI_84, zI_85, zI_88, zI_91, zI_93, zI_97, zI_99, zI_100, zI_102, zI_105, zI_117, zI_122, zI_193, zI_202, zI_205, zI_251, zI_255, zI_256, zI_257, zI_258, zI_259, zI_260, zI_640, zI_999, zI_1000, zI_1024, zI_1600, zI_1602, zI_1700, zI_2040, zI_3200, zI_4100, zI_9728, zI_11784, zI_61440, zI_65536, zI_470536, zI_999999, zI_1000000, lt_T, lt_F, le_T, le_F, eq_T, eq_F, neg_1, cn_m1p, cn_m11, nI_add, cn_sub, pk_mul, cn_div, cn_irm, cn_lt, cn_eq, cn_ltm1, cn_m1lt, cn_eqm1, cn_m1eq, cn_ix, cn_inb, cn_ninb, cn_irs, cn_ils, cn_and, cn_or, cn_xor, grd_t, grd_bt, grd_bl, Nat.add_zero, Nat.zero_add, Nat.reduceAdd, Nat.reduceSub, Nat.reduceMul, Nat.reduceLT, Nat.reduceEqDiff, eq_self, true_and, and_true, and_false, false_and, if_true, if_false, and_self, Bool.true_eq_false, Bool.false_eq_true, e, Option.bind_some]
theorem qtold_n {q : Bool} (hd : d < 24) (he : e.length ≤ 1600) (hC : RCd e t) (hck : ckL alQ e [] = some [q]) (hgb : GB alQ g gb gn) (hPQ : ∀ t', Fr kQ t t' → ∀ w, w ≤ 8 → alQ w = true → f_M_qPartOf N (nI w) (nI d) t' = some (zl (g w), t')) (hO : ∀ t', Fr kQ t t' → ∀ v, -1000000 ≤ v ∧ v ≤ 1000000 → f_M_qOf N (nI 0) (zl v) (nI d) t' = some (zl (gb v), t') ∧ f_M_qOf N (nI 1) (zl v) (nI d) t' = some (zl (gn v), t')) (hN : 10000 ≤ N) :
    ∃ t', f_M_qTold N (nI d) t = some (zl (ev g gb gn e), t') ∧ Fr kQ t t' := by
  have F0 : Fr kQ t (sI t 1094 0 (nI 0)) := Fr_sI _ _ _ (by decide)
  have h : Ok (mfix N (f_M_qTold_L7 N) (nI d, nI 0, sI t 1094 0 (nI 0))) (fun r => r.1 = zl (ev g gb gn e) ∧ Fr kQ t r.2) := by
    refine mfix_dn (fun q' x => ∃ i st ts s1, i + q' = e.length ∧ x = (nI d, nI i, s1) ∧ Fr kQ t s1 ∧ ckL alQ (e.drop i) ts = some [q] ∧ TyS ts st ∧ ts.length ≤ 50 ∧ PiQ s1 st ∧ evL g gb gn (e.drop i) st = [ev g gb gn e]) ?_ N e.length _ ⟨0, [], [], _, by omega, rfl, F0, hck, trivial, Nat.zero_le _, ⟨by simp (disch := first | omega | decide) only [gI_sI, gI_sA, gI_sL, gI_sQ, gI_sC, gI_sO, gI_sD, gA_sI, gA_sL, gA_sQ, gA_sO, gA_sD, gL_sI, gL_sA, gL_sQ, gL_sC, gL_sO, gL_sD, gQ_sI, gQ_sA, gQ_sL, gQ_sC, gQ_sO, gO_sI, gO_sA, gO_sL, gO_sQ, gO_sC, gO_sO, gO_sD, gA_eq, gA_ne, gQ_eq, gQ_ne, gL_sL, gA_cin, gA_cou, gQ_cin, gQ_cou, Nat.reduceAdd, Nat.reduceSub, Nat.reduceMul, Nat.reduceLT, Nat.reduceEqDiff, eq_self, true_and, and_true, and_false, false_and, if_true, if_false, and_self, Bool.true_eq_false, Bool.false_eq_true, List.length_nil], trivial⟩, (ev_ty hgb hck).2⟩ (by omega)
    rintro k q' x ⟨i, st, ts, s1, hi, rfl, hF, hc1, hT, hl, hS, hev⟩ hk
    have e2 : gI s1 1088 0 = nI e.length := by rw [hF.I 1088 0 (by decide)]; exact hC.1
    by_cases c0 : q' = 0
    · subst c0
      rw [List.drop_eq_nil_of_le (by omega)] at hc1 hev
      cases hc1
      obtain ⟨v, st2, rfl, _, h2⟩ := TyS_1 hT
      cases st2 with
      | cons _ _ => exact h2.elim
      | nil =>
        have hev : v = ev g gb gn e := by injection hev
        have e1 : gQ s1 66 0 = zl v := hS.2.1
        simp (disch := first | omega | decide) only [f_M_qTold_L7, e2, zI_0, zI_1, zI_2, zI_3, zI_4, zI_5, zI_6, zI_7, zI_8, zI_9, zI_10, zI_11, zI_12, zI_13, zI_14, zI_15, zI_16, zI_17, zI_18, zI_19, zI_20, zI_21, zI_22, zI_23, zI_24, zI_25, zI_26, zI_27, zI_28, zI_29, zI_30, zI_31, zI_32, zI_33, zI_34, zI_35, zI_36, zI_37, zI_38, zI_39, zI_40, zI_41, zI_42, zI_43, zI_44, zI_45, zI_46, zI_47, zI_48, zI_49, zI_50, zI_51, zI_52, zI_53, zI_54, zI_55, zI_56, zI_57, zI_58, zI_59, zI_60, zI_61, zI_62, zI_63, zI_64, zI_65, zI_66, zI_67, zI_74, zI_84, zI_85, zI_88, zI_91, zI_93, zI_97, zI_99, zI_100, zI_102, zI_105, zI_117, zI_122, zI_193, zI_202, zI_205, zI_251, zI_255, zI_256, zI_257, zI_258, zI_259, zI_260, zI_640, zI_999, zI_1000, zI_1024, zI_1600, zI_1602, zI_1700, zI_2040, zI_3200, zI_4100, zI_9728, zI_11784, zI_61440, zI_65536, zI_470536, zI_999999, zI_1000000, lt_T, lt_F, le_T, le_F, eq_T, eq_F, neg_1, cn_m1p, cn_m11, nI_add, cn_sub, pk_mul, cn_div, cn_irm, cn_lt, cn_eq, cn_ltm1, cn_m1lt, cn_eqm1, cn_m1eq, cn_ix, cn_inb, cn_ninb, cn_irs, cn_ils, cn_and, cn_or, cn_xor, grd_t, grd_bt, grd_bl, Nat.add_zero, Nat.zero_add, Nat.reduceAdd, Nat.reduceSub, Nat.reduceMul, Nat.reduceLT, Nat.reduceEqDiff, eq_self, true_and, and_true, and_false, false_and, if_true, if_false, and_self, Bool.true_eq_false, Bool.false_eq_true, e1]
        exact Ok_some ⟨by rw [hev], hF⟩
    · have ed : e.drop i = e.getD i 0 :: e.drop (i + 1) := by
        rw [List.drop_eq_getElem_cons (by omega), List.getD_eq_getElem?_getD, List.getElem?_eq_getElem (by omega)]; rfl
      rw [ed] at hc1 hev
      unfold ckL at hc1
      split at hc1
      · rename_i t2 h2'
        have hcc : gA s1 64 i = nI (e.getD i 0) := by rw [hF.A 64 i (by decide)]; exact hC.2 i (by omega)
        obtain ⟨s2, e1, F2, p2⟩ := qtold_st (N := N) (k := k) hd (show i < e.length by omega) he e2 hcc h2' hT hl hS hgb (hPQ s1 hF) (hO s1 hF)
        rw [e1]
        refine hk (q' - 1) _ (by omega) ⟨i + 1, _, t2, s2, by omega, rfl, Fr_t hF F2, hc1, ev1_ty hgb h2' hT, ?_, p2, hev⟩
        exact ckL_len (al := alQ) (cs := [e.getD i 0]) (ts := ts) (ts' := t2) (by unfold ckL; rw [h2']; rfl) hl
      · cases hc1
  obtain ⟨x, e1, e2, e3⟩ := h
  refine ⟨x.2, ?_, e3⟩
  simp only [f_M_qTold, zI_0]
  rw [e1, ← e2]
end TOLD
