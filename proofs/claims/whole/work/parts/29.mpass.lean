/-! A NIGHT on the other side -/
theorem clamp_n {N : Nat} {v : Int} (h : -1000000 ≤ v ∧ v ≤ 1000000) (s : mS) : f_M_clamp N (zl v) s = some (nI (clN v), s) := by
  have q1 : (lg_cmp (zl v) 0 < 0) = (v < 0) := zc_lt (b := 0) (by omega)
  have q2 : (0 < lg_cmp (zl v) 99) = (99 < v) := zc_gt (b := 99) (by omega)
  have q3 : (zl v).toInt32 = zi v := zl_i (by omega)
  simp only [f_M_clamp, q1, q2, q3]
  unfold clN
  by_cases c1 : v < 0
  · rw [if_pos c1, if_pos c1]; rfl
  · rw [if_neg c1, if_neg c1]
    by_cases c2 : 99 < v
    · rw [if_pos c2, if_pos c2]; rfl
    · rw [if_neg c2, if_neg c2, ← zi_nI, Int.toNat_of_nonneg (by omega)]
theorem hset_2 (H : hL) (i u v : Nat) : hset (hset H i u) i v = hset H i v := by
  unfold hset
  congr 1
  funext j
  show fU (fU H.1 i u) i v j = fU H.1 i v j
  by_cases ej : j = i
  · rw [fU_e ej, fU_e ej]
  · rw [fU_n ej, fU_n ej, fU_n ej]
section MPASS
variable {N d p : Nat} {A : pL} {H : hL} {s : mS} {th : Option hL}
theorem mColdBy_n (hA : WA A) (hB : HB A H) (hP : MP A s) (hR : MRow A H s) (hd : d < pD A) (hN : 2000 ≤ N) : ∃ s', f_M_coldBy N (nI d) s = some (nI (clN (ev (gv A H d 0) nog nog (pC A 11))), s') ∧ Fr kO s s' := by
  have hD := hA.1
  have hck := (hA.2.2.2.2.2.2.1 (by omega)).2
  have hgb := gv_ty (p := 0) hA hB (show d < 24 by omega) (by omega) alC
  have F2 : Fr kO s (sI s 1049 0 (nI d)) := Fr_sI _ _ _ (by decide)
  have hP2 := MP_fr F2 (by decide) hP
  cases ct : pTc A
  · have e1 := (hP2.2.2.2.2.2 (by omega)).2.2.2 ct
    have e2 := hA.2.2.2.2.2.2.2.2.2 ct
    refine ⟨_, ?_, F2⟩
    have e3 := mOpenOf_n (N := N) hA (MRow_fr F2 (by decide) hR) hd
    simp (disch := first | omega | decide) only [f_M_coldBy, f_M_isCoded, e1, zI_0, zI_1, zI_2, zI_3, zI_4, zI_5, zI_6, zI_7, zI_8, zI_9, zI_10, zI_11, zI_12, zI_13, zI_14, zI_15, zI_16, zI_17, zI_18, zI_19, zI_20, zI_21, zI_22, zI_23, zI_24, zI_25, zI_26, zI_27, zI_28, zI_29, zI_30, zI_31, zI_32, zI_33, zI_34, zI_35, zI_36, zI_37, zI_38, zI_39, zI_40, zI_41, zI_42, zI_43, zI_44, zI_45, zI_46, zI_47, zI_48, zI_49, zI_50, zI_51, zI_52, zI_53, zI_54, zI_55, zI_56, zI_57, zI_58, zI_59, zI_60, zI_61, zI_62, zI_63, zI_64, zI_65, zI_66, zI_67, zI_74, zI_84, zI_85, zI_88, zI_91, zI_93, zI_97, zI_99, zI_100, zI_102, zI_105, zI_117, zI_122, zI_193, zI_202, zI_205, zI_251, zI_255, zI_256, zI_257, zI_258, zI_259, zI_260, zI_640, zI_999, zI_1000, zI_1024, zI_1600, zI_1602, zI_1700, zI_2040, zI_3200, zI_4100, zI_9728, zI_11784, zI_61440, zI_65536, zI_470536, zI_999999, zI_1000000, lt_T, lt_F, le_T, le_F, eq_T, eq_F, neg_1, cn_m1p, cn_m11, nI_add, cn_sub, pk_mul, cn_div, cn_irm, cn_lt, cn_eq, cn_ltm1, cn_m1lt, cn_eqm1, cn_m1eq, cn_ix, cn_inb, cn_ninb, cn_irs, cn_ils, cn_and, cn_or, cn_xor, grd_t, grd_bt, grd_bl, Nat.add_zero, Nat.zero_add, Nat.reduceAdd, Nat.reduceSub, Nat.reduceMul, Nat.reduceLT, Nat.reduceEqDiff, eq_self, true_and, and_true, and_false, false_and, if_true, if_false, and_self, Bool.true_eq_false, Bool.false_eq_true, Option.bind_some, e3]
    rw [e2]
    show some (zi (b01 _), _) = some (nI (clN (b01 ((H.1 2).testBit d))), _)
    cases (H.1 2).testBit d <;> rfl
  · obtain ⟨fr, g1, g2, g3, g4⟩ := (hP2.2.2.2.2.2 (by omega)).2.2.1 ct
    have g2 : gA (sI s 1049 0 (nI d)) 31 23 = nI fr := g2
    obtain ⟨s3, e3, F3⟩ := tell_n (N := N) (s := sI s 1049 0 (nI d)) (w := 11) (by omega) ((hP2.2.2.2.2.2 (by omega)).2.2.1 ct) hck hgb (fun s' F' w hw hal => by
        have hal := of_decide_eq_true hal
        have F4 : Fr kO s s' := Fr_t F2 (Fr_w F' (by decide))
        exact mPart_n hA hB (MP_fr F4 (by decide) hP) (MRow_fr F4 (by decide) hR) hN hw (fun _ _ => ⟨hd, by rw [F'.I 1049 0 (by decide)]; rfl⟩) (fun h => by omega)) rfl rfl hN
    have hv := zi_tv (ev_ty hgb hck).1
    refine ⟨s3, ?_, Fr_t F2 (Fr_w F3 (by decide))⟩
    simp (disch := first | omega | decide) only [f_M_coldBy, f_M_isCoded, g2, zI_0, zI_1, zI_2, zI_3, zI_4, zI_5, zI_6, zI_7, zI_8, zI_9, zI_10, zI_11, zI_12, zI_13, zI_14, zI_15, zI_16, zI_17, zI_18, zI_19, zI_20, zI_21, zI_22, zI_23, zI_24, zI_25, zI_26, zI_27, zI_28, zI_29, zI_30, zI_31, zI_32, zI_33, zI_34, zI_35, zI_36, zI_37, zI_38, zI_39, zI_40, zI_41, zI_42, zI_43, zI_44, zI_45, zI_46, zI_47, zI_48, zI_49, zI_50, zI_51, zI_52, zI_53, zI_54, zI_55, zI_56, zI_57, zI_58, zI_59, zI_60, zI_61, zI_62, zI_63, zI_64, zI_65, zI_66, zI_67, zI_74, zI_84, zI_85, zI_88, zI_91, zI_93, zI_97, zI_99, zI_100, zI_102, zI_105, zI_117, zI_122, zI_193, zI_202, zI_205, zI_251, zI_255, zI_256, zI_257, zI_258, zI_259, zI_260, zI_640, zI_999, zI_1000, zI_1024, zI_1600, zI_1602, zI_1700, zI_2040, zI_3200, zI_4100, zI_9728, zI_11784, zI_61440, zI_65536, zI_470536, zI_999999, zI_1000000, lt_T, lt_F, le_T, le_F, eq_T, eq_F, neg_1, cn_m1p, cn_m11, nI_add, cn_sub, pk_mul, cn_div, cn_irm, cn_lt, cn_eq, cn_ltm1, cn_m1lt, cn_eqm1, cn_m1eq, cn_ix, cn_inb, cn_ninb, cn_irs, cn_ils, cn_and, cn_or, cn_xor, grd_t, grd_bt, grd_bl, Nat.add_zero, Nat.zero_add, Nat.reduceAdd, Nat.reduceSub, Nat.reduceMul, Nat.reduceLT, Nat.reduceEqDiff, eq_self, true_and, and_true, and_false, false_and, if_true, if_false, and_self, Bool.true_eq_false, Bool.false_eq_true, Option.bind_some, e3, clamp_n hv]
theorem MX_row {i v n : Nat} {x : Int32} (hX : MX A H th s) (hi : i ≠ 3) (hn : n < 84) (hr : MRow A (hset H i v) (sA s 34 n x)) : MX A (hset H i v) th (sA s 34 n x) :=
  ⟨hr, hX.2.1, MK_th hX.2.2 (fun j hj => gA_ne (by omega)) (hs_n (by omega)) rfl⟩
theorem mPass_n {aw w0 : Int32} (hA : WA A) (hB : HB A H) (hw : H.1 3 ≤ 10 * H.1 0) (h0 : H.1 0 ≤ 998) (hP : MP A s) (hX : MX A H th s) (hm : gI s 1052 0 = w0) (hN : 2000 ≤ N) :
    ∃ s', f_M_nightGoes N aw s = some s' ∧ MX A (passS A aw H).2 th s' ∧ gI s' 1052 0 = w0 + nI (passS A aw H).1 ∧ Fr kN s s' := by
  have hD := hA.1
  have hp10 := hA.2.1
  have inv := nigS_f (aw := aw) hA hB (by omega)
  have hl : Ok (mfix N (f_M_nightGoes_L2 N) (aw, nI 0, s)) (fun r => MX A (passS A aw H).2 th r ∧ gI r 1052 0 = w0 + nI (passS A aw H).1 ∧ Fr kN s r) := by
    refine mfix_up (fun i x => ∃ s2, x = (aw, nI i, s2) ∧ MX A (itN (nStep A aw) i (0, H)).2 th s2 ∧ gI s2 1052 0 = w0 + nI (itN (nStep A aw) i (0, H)).1 ∧ Fr kN s s2) (pP A) ?_ ?_ N 0 _ ⟨s, rfl, hX, hm.trans (by show w0 = w0 + 0; rw [Int32.add_zero]), Fr_r _ _⟩ (Nat.zero_le _) (by omega)
    · rintro i k x hi ⟨s2, rfl, hX2, hm2', F2⟩ hk
      obtain ⟨hB2, hpt, hz, hz3, hn⟩ := inv i (by omega)
      have hP2 : MP A s2 := MP_fr F2 (by decide) hP
      generalize hy : itN (nStep A aw) i (0, H) = y at *
      by_cases c : nI i = aw
      · subst c
        simp (disch := first | omega | decide) only [f_M_nightGoes_L2, f_M_nightGoes_j23, f_M_porterMany, hP2.2.1, zI_0, zI_1, zI_2, zI_3, zI_4, zI_5, zI_6, zI_7, zI_8, zI_9, zI_10, zI_11, zI_12, zI_13, zI_14, zI_15, zI_16, zI_17, zI_18, zI_19, zI_20, zI_21, zI_22, zI_23, zI_24, zI_25, zI_26, zI_27, zI_28, zI_29, zI_30, zI_31, zI_32, zI_33, zI_34, zI_35, zI_36, zI_37, zI_38, zI_39, zI_40, zI_41, zI_42, zI_43, zI_44, zI_45, zI_46, zI_47, zI_48, zI_49, zI_50, zI_51, zI_52, zI_53, zI_54, zI_55, zI_56, zI_57, zI_58, zI_59, zI_60, zI_61, zI_62, zI_63, zI_64, zI_65, zI_66, zI_67, zI_74, zI_84, zI_85, zI_88, zI_91, zI_93, zI_97, zI_99, zI_100, zI_102, zI_105, zI_117, zI_122, zI_193, zI_202, zI_205, zI_251, zI_255, zI_256, zI_257, zI_258, zI_259, zI_260, zI_640, zI_999, zI_1000, zI_1024, zI_1600, zI_1602, zI_1700, zI_2040, zI_3200, zI_4100, zI_9728, zI_11784, zI_61440, zI_65536, zI_470536, zI_999999, zI_1000000, lt_T, lt_F, le_T, le_F, eq_T, eq_F, neg_1, cn_m1p, cn_m11, nI_add, cn_sub, pk_mul, cn_div, cn_irm, cn_lt, cn_eq, cn_ltm1, cn_m1lt, cn_eqm1, cn_m1eq, cn_ix, cn_inb, cn_ninb, cn_irs, cn_ils, cn_and, cn_or, cn_xor, grd_t, grd_bt, grd_bl, Nat.add_zero, Nat.zero_add, Nat.reduceAdd, Nat.reduceSub, Nat.reduceMul, Nat.reduceLT, Nat.reduceEqDiff, eq_self, true_and, and_true, and_false, false_and, if_true, if_false, and_self, Bool.true_eq_false, Bool.false_eq_true, Option.bind_some]
        refine hk _ ⟨sA s2 34 (74 + i) (nI 0), rfl, ?_, ?_, Fr_t F2 (Fr_sA 34 _ _ (by decide))⟩
        · rw [itN_s, hy, nStep, if_pos (Or.inl rfl)]
          exact MX_row hX2 (by omega) (by omega) (MRow_set hX2.1 hA (by omega) rfl rfl)
        · rw [itN_s, hy, nStep, if_pos (Or.inl rfl)]; exact hm2'
      · obtain ⟨s3, e3, F3⟩ := mDoesWalk_n (N := N) hA hB2 hP2 hX2.1 hi hN
        have X3 := MX_fr F3 (by decide) (by decide) hX2
        have F23 : Fr kN s s3 := Fr_t F2 (Fr_w F3 (by decide))
        have m3 : gI s3 1052 0 = w0 + nI y.1 := by rw [F3.I 1052 0 (by decide)]; exact hm2'
        cases hwl : willS A y.2 i
        · rw [hwl] at e3
          simp (disch := first | omega | decide) only [f_M_nightGoes_L2, f_M_nightGoes_j23, f_M_porterMany, hP2.2.1, c, e3, zI_0, zI_1, zI_2, zI_3, zI_4, zI_5, zI_6, zI_7, zI_8, zI_9, zI_10, zI_11, zI_12, zI_13, zI_14, zI_15, zI_16, zI_17, zI_18, zI_19, zI_20, zI_21, zI_22, zI_23, zI_24, zI_25, zI_26, zI_27, zI_28, zI_29, zI_30, zI_31, zI_32, zI_33, zI_34, zI_35, zI_36, zI_37, zI_38, zI_39, zI_40, zI_41, zI_42, zI_43, zI_44, zI_45, zI_46, zI_47, zI_48, zI_49, zI_50, zI_51, zI_52, zI_53, zI_54, zI_55, zI_56, zI_57, zI_58, zI_59, zI_60, zI_61, zI_62, zI_63, zI_64, zI_65, zI_66, zI_67, zI_74, zI_84, zI_85, zI_88, zI_91, zI_93, zI_97, zI_99, zI_100, zI_102, zI_105, zI_117, zI_122, zI_193, zI_202, zI_205, zI_251, zI_255, zI_256, zI_257, zI_258, zI_259, zI_260, zI_640, zI_999, zI_1000, zI_1024, zI_1600, zI_1602, zI_1700, zI_2040, zI_3200, zI_4100, zI_9728, zI_11784, zI_61440, zI_65536, zI_470536, zI_999999, zI_1000000, lt_T, lt_F, le_T, le_F, eq_T, eq_F, neg_1, cn_m1p, cn_m11, nI_add, cn_sub, pk_mul, cn_div, cn_irm, cn_lt, cn_eq, cn_ltm1, cn_m1lt, cn_eqm1, cn_m1eq, cn_ix, cn_inb, cn_ninb, cn_irs, cn_ils, cn_and, cn_or, cn_xor, grd_t, grd_bt, grd_bl, Nat.add_zero, Nat.zero_add, Nat.reduceAdd, Nat.reduceSub, Nat.reduceMul, Nat.reduceLT, Nat.reduceEqDiff, eq_self, true_and, and_true, and_false, false_and, if_true, if_false, and_self, Bool.true_eq_false, Bool.false_eq_true, Option.bind_some]
          refine hk _ ⟨sA s3 34 (74 + i) (nI 0), rfl, ?_, ?_, Fr_t F23 (Fr_sA 34 _ _ (by decide))⟩
          · rw [itN_s, hy, nStep, if_pos (Or.inr hwl)]
            exact MX_row X3 (by omega) (by omega) (MRow_set X3.1 hA (by omega) rfl rfl)
          · rw [itN_s, hy, nStep, if_pos (Or.inr hwl)]; exact m3
        · rw [hwl] at e3
          obtain ⟨s4, e4, X4, F4⟩ := mWalks_n (N := N) hA hB2 (MP_fr F3 (by decide) hP2) X3 hi hN
          have w4 : (walkS A i y.2).2.1 3 = y.2.1 3 := by
            have : ∀ n, (itN (wkS A (ordS A y.2 i)) n (0, y.2)).2.1 3 = y.2.1 3 := itN_inv (fun _ (x : Nat × hL) => x.2.1 3 = y.2.1 3) rfl fun j x hx => by
              unfold wkS
              split
              · rw [sw_n (by omega)]; exact hx
              · exact hx
            exact this _
          have r4 : HB A (walkS A i y.2).2 := by
            unfold walkS
            refine itN_invL (D := pD A) (a := (0, y.2)) (fun _ (x : Nat × hL) => HB A x.2) hB2 (fun j x hj hx => ?_) _ (Nat.le_refl _)
            unfold wkS
            split
            · exact HB_sw hA hx hj
            · exact hx
          obtain ⟨s5, e5, X5, F5⟩ := mIsKept_n (N := N) (p := i) (t := (walkS A i y.2).1) X4 (by omega) hA hN
          have F45 : Fr kN s s5 := Fr_t F23 (Fr_t (Fr_w F4 (by decide)) (Fr_w F5 (by decide)))
          have m5 : gI s5 1052 0 = w0 + nI y.1 := by rw [F5.I 1052 0 (by decide), F4.I 1052 0 (by decide)]; exact m3
          have r5 := X5.1.2.2.2 i (by omega)
          have t5 : (kpS (walkS A i y.2).2 i (walkS A i y.2).1).1 (52 + i) ≤ 99 := by rw [kp_n (by omega)]; exact r4.2.2.2.2.2.2.1 i (by omega)
          have cn : ¬ (nI i = aw ∨ willS A y.2 i = false) := by rw [hwl]; simp [c]
          generalize hz5 : kpS (walkS A i y.2).2 i (walkS A i y.2).1 = H5 at *
          have et : trS H5 i = hset H5 (52 + i) (min 99 (H5.1 (52 + i) + 1)) := rfl
          by_cases c9 : H5.1 (52 + i) < 99
          · simp (disch := first | omega | decide) only [f_M_nightGoes_L2, f_M_nightGoes_j73, f_M_porterMany, hP2.2.1, c, e3, e4, e5, r5, m5, zI_0, zI_1, zI_2, zI_3, zI_4, zI_5, zI_6, zI_7, zI_8, zI_9, zI_10, zI_11, zI_12, zI_13, zI_14, zI_15, zI_16, zI_17, zI_18, zI_19, zI_20, zI_21, zI_22, zI_23, zI_24, zI_25, zI_26, zI_27, zI_28, zI_29, zI_30, zI_31, zI_32, zI_33, zI_34, zI_35, zI_36, zI_37, zI_38, zI_39, zI_40, zI_41, zI_42, zI_43, zI_44, zI_45, zI_46, zI_47, zI_48, zI_49, zI_50, zI_51, zI_52, zI_53, zI_54, zI_55, zI_56, zI_57, zI_58, zI_59, zI_60, zI_61, zI_62, zI_63, zI_64, zI_65, zI_66, zI_67, zI_74, zI_84, zI_85, zI_88, zI_91, zI_93, zI_97, zI_99, zI_100, zI_102, zI_105, zI_117, zI_122, zI_193, zI_202, zI_205, zI_251, zI_255, zI_256, zI_257, zI_258, zI_259, zI_260, zI_640, zI_999, zI_1000, zI_1024, zI_1600, zI_1602, zI_1700, zI_2040, zI_3200, zI_4100, zI_9728, zI_11784, zI_61440, zI_65536, zI_470536, zI_999999, zI_1000000, lt_T, lt_F, le_T, le_F, eq_T, eq_F, neg_1, cn_m1p, cn_m11, nI_add, cn_sub, pk_mul, cn_div, cn_irm, cn_lt, cn_eq, cn_ltm1, cn_m1lt, cn_eqm1, cn_m1eq, cn_ix, cn_inb, cn_ninb, cn_irs, cn_ils, cn_and, cn_or, cn_xor, grd_t, grd_bt, grd_bl, Nat.add_zero, Nat.zero_add, Nat.reduceAdd, Nat.reduceSub, Nat.reduceMul, Nat.reduceLT, Nat.reduceEqDiff, eq_self, true_and, and_true, and_false, false_and, if_true, if_false, and_self, Bool.true_eq_false, Bool.false_eq_true, gI_sI, gI_sA, gI_sL, gI_sQ, gI_sC, gI_sO, gI_sD, gA_sI, gA_sL, gA_sQ, gA_sO, gA_sD, gL_sI, gL_sA, gL_sQ, gL_sC, gL_sO, gL_sD, gQ_sI, gQ_sA, gQ_sL, gQ_sC, gQ_sO, gO_sI, gO_sA, gO_sL, gO_sQ, gO_sC, gO_sO, gO_sD, gA_eq, gA_ne, gQ_eq, gQ_ne, gL_sL, gA_cin, gA_cou, gQ_cin, gQ_cou, Option.bind_some]
            refine hk _ ⟨_, rfl, ?_, ?_, Fr_t F45 (Fr_t (Fr_sA 34 _ _ (by decide)) (Fr_sI 1052 _ _ (by decide)))⟩
            · rw [itN_s, hy, nStep, if_neg cn, hz5]
              refine MX_fr (l := [115200]) (Fr_sI _ _ _ (by decide)) (by decide) (by decide) ?_
              exact MX_row X5 (by omega) (by omega) (MRow_set X5.1 hA (by omega) rfl (by rw [Nat.min_eq_right (by omega)]))
            · rw [itN_s, hy, nStep, if_neg cn]; show w0 + nI y.1 + nI 1 = w0 + nI (y.1 + 1); rw [Int32.add_assoc, nI_add]
          · simp (disch := first | omega | decide) only [f_M_nightGoes_L2, f_M_nightGoes_j73, f_M_porterMany, hP2.2.1, c, e3, e4, e5, r5, m5, zI_0, zI_1, zI_2, zI_3, zI_4, zI_5, zI_6, zI_7, zI_8, zI_9, zI_10, zI_11, zI_12, zI_13, zI_14, zI_15, zI_16, zI_17, zI_18, zI_19, zI_20, zI_21, zI_22, zI_23, zI_24, zI_25, zI_26, zI_27, zI_28, zI_29, zI_30, zI_31, zI_32, zI_33, zI_34, zI_35, zI_36, zI_37, zI_38, zI_39, zI_40, zI_41, zI_42, zI_43, zI_44, zI_45, zI_46, zI_47, zI_48, zI_49, zI_50, zI_51, zI_52, zI_53, zI_54, zI_55, zI_56, zI_57, zI_58, zI_59, zI_60, zI_61, zI_62, zI_63, zI_64, zI_65, zI_66, zI_67, zI_74, zI_84, zI_85, zI_88, zI_91, zI_93, zI_97, zI_99, zI_100, zI_102, zI_105, zI_117, zI_122, zI_193, zI_202, zI_205, zI_251, zI_255, zI_256, zI_257, zI_258, zI_259, zI_260, zI_640, zI_999, zI_1000, zI_1024, zI_1600, zI_1602, zI_1700, zI_2040, zI_3200, zI_4100, zI_9728, zI_11784, zI_61440, zI_65536, zI_470536, zI_999999, zI_1000000, lt_T, lt_F, le_T, le_F, eq_T, eq_F, neg_1, cn_m1p, cn_m11, nI_add, cn_sub, pk_mul, cn_div, cn_irm, cn_lt, cn_eq, cn_ltm1, cn_m1lt, cn_eqm1, cn_m1eq, cn_ix, cn_inb, cn_ninb, cn_irs, cn_ils, cn_and, cn_or, cn_xor, grd_t, grd_bt, grd_bl, Nat.add_zero, Nat.zero_add, Nat.reduceAdd, Nat.reduceSub, Nat.reduceMul, Nat.reduceLT, Nat.reduceEqDiff, eq_self, true_and, and_true, and_false, false_and, if_true, if_false, and_self, Bool.true_eq_false, Bool.false_eq_true, gI_sI, gI_sA, gI_sL, gI_sQ, gI_sC, gI_sO, gI_sD, gA_sI, gA_sL, gA_sQ, gA_sO, gA_sD, gL_sI, gL_sA, gL_sQ, gL_sC, gL_sO, gL_sD, gQ_sI, gQ_sA, gQ_sL, gQ_sC, gQ_sO, gO_sI, gO_sA, gO_sL, gO_sQ, gO_sC, gO_sO, gO_sD, gA_eq, gA_ne, gQ_eq, gQ_ne, gL_sL, gA_cin, gA_cou, gQ_cin, gQ_cou, Option.bind_some]
            refine hk _ ⟨_, rfl, ?_, ?_, Fr_t F45 (Fr_sI 1052 _ _ (by decide))⟩
            · rw [itN_s, hy, nStep, if_neg cn, hz5]
              refine MX_fr (l := [115200]) (Fr_sI _ _ _ (by decide)) (by decide) (by decide) ?_
              have e9 : H5.1 (52 + i) = 99 := by omega
              have eq : trS H5 i = H5 := by
                rw [et, e9]
                unfold hset
                have : fU H5.1 (52 + i) (min 99 (99 + 1)) = H5.1 := by
                  funext j
                  by_cases ej : j = 52 + i
                  · rw [fU_e ej, ej, e9]; rfl
                  · rw [fU_n ej]
                rw [this]
              rw [eq]; exact X5
            · rw [itN_s, hy, nStep, if_neg cn]; show w0 + nI y.1 + nI 1 = w0 + nI (y.1 + 1); rw [Int32.add_assoc, nI_add]
    · rintro k x ⟨s2, rfl, hX2, hm2', F2⟩
      obtain ⟨hB2, hpt, hz, hz3, hn⟩ := inv _ (Nat.le_refl _)
      have hP2 : MP A s2 := MP_fr F2 (by decide) hP
      simp (disch := first | omega | decide) only [f_M_nightGoes_L2, f_M_porterMany, hP2.2.1, zI_0, zI_1, zI_2, zI_3, zI_4, zI_5, zI_6, zI_7, zI_8, zI_9, zI_10, zI_11, zI_12, zI_13, zI_14, zI_15, zI_16, zI_17, zI_18, zI_19, zI_20, zI_21, zI_22, zI_23, zI_24, zI_25, zI_26, zI_27, zI_28, zI_29, zI_30, zI_31, zI_32, zI_33, zI_34, zI_35, zI_36, zI_37, zI_38, zI_39, zI_40, zI_41, zI_42, zI_43, zI_44, zI_45, zI_46, zI_47, zI_48, zI_49, zI_50, zI_51, zI_52, zI_53, zI_54, zI_55, zI_56, zI_57, zI_58, zI_59, zI_60, zI_61, zI_62, zI_63, zI_64, zI_65, zI_66, zI_67, zI_74, zI_84, zI_85, zI_88, zI_91, zI_93, zI_97, zI_99, zI_100, zI_102, zI_105, zI_117, zI_122, zI_193, zI_202, zI_205, zI_251, zI_255, zI_256, zI_257, zI_258, zI_259, zI_260, zI_640, zI_999, zI_1000, zI_1024, zI_1600, zI_1602, zI_1700, zI_2040, zI_3200, zI_4100, zI_9728, zI_11784, zI_61440, zI_65536, zI_470536, zI_999999, zI_1000000, lt_T, lt_F, le_T, le_F, eq_T, eq_F, neg_1, cn_m1p, cn_m11, nI_add, cn_sub, pk_mul, cn_div, cn_irm, cn_lt, cn_eq, cn_ltm1, cn_m1lt, cn_eqm1, cn_m1eq, cn_ix, cn_inb, cn_ninb, cn_irs, cn_ils, cn_and, cn_or, cn_xor, grd_t, grd_bt, grd_bl, Nat.add_zero, Nat.zero_add, Nat.reduceAdd, Nat.reduceSub, Nat.reduceMul, Nat.reduceLT, Nat.reduceEqDiff, eq_self, true_and, and_true, and_false, false_and, if_true, if_false, and_self, Bool.true_eq_false, Bool.false_eq_true, Option.bind_some]
      generalize hy : itN (nStep A aw) (pP A) (0, H) = y at *
      have hy' : nigS A aw H = y := hy
      refine mfix_up (fun i x => ∃ s3, x = (nI i, s3) ∧ MX A (itN (cdS A) i y.2) th s3 ∧ gI s3 1052 0 = w0 + nI y.1 ∧ Fr kN s s3) (pD A) ?_ ?_ N 0 _ ⟨s2, rfl, hX2, hm2', F2⟩ (Nat.zero_le _) (by omega)
      · rintro i k x hi ⟨s3, rfl, hX3, hm3, F3⟩ hk
        obtain ⟨hB3, q2, q3, q4⟩ := coldS_f (A := A) hB2 i
        have hP3 : MP A s3 := MP_fr F3 (by decide) hP
        obtain ⟨s4, e4, F4⟩ := mColdBy_n (N := N) hA hB3 hP3 hX3.1 hi hN
        have X4 := MX_fr F4 (by decide) (by decide) hX3
        have r1 := hX3.1.2.1
        have hc := clN_le (ev (gv A (itN (cdS A) i y.2) i 0) nog nog (pC A 11))
        have h1 := hB3.2.1
        have m4 : gI s4 1052 0 = w0 + nI y.1 := by rw [F4.I 1052 0 (by decide)]; exact hm3
        have F34 : Fr kN s s4 := Fr_t F3 (Fr_w F4 (by decide))
        by_cases c : 999999 < (itN (cdS A) i y.2).1 1 + clN (ev (gv A (itN (cdS A) i y.2) i 0) nog nog (pC A 11))
        · simp (disch := first | omega | decide) only [f_M_nightGoes_L91, f_M_doorMany, hP3.1, e4, r1, zI_0, zI_1, zI_2, zI_3, zI_4, zI_5, zI_6, zI_7, zI_8, zI_9, zI_10, zI_11, zI_12, zI_13, zI_14, zI_15, zI_16, zI_17, zI_18, zI_19, zI_20, zI_21, zI_22, zI_23, zI_24, zI_25, zI_26, zI_27, zI_28, zI_29, zI_30, zI_31, zI_32, zI_33, zI_34, zI_35, zI_36, zI_37, zI_38, zI_39, zI_40, zI_41, zI_42, zI_43, zI_44, zI_45, zI_46, zI_47, zI_48, zI_49, zI_50, zI_51, zI_52, zI_53, zI_54, zI_55, zI_56, zI_57, zI_58, zI_59, zI_60, zI_61, zI_62, zI_63, zI_64, zI_65, zI_66, zI_67, zI_74, zI_84, zI_85, zI_88, zI_91, zI_93, zI_97, zI_99, zI_100, zI_102, zI_105, zI_117, zI_122, zI_193, zI_202, zI_205, zI_251, zI_255, zI_256, zI_257, zI_258, zI_259, zI_260, zI_640, zI_999, zI_1000, zI_1024, zI_1600, zI_1602, zI_1700, zI_2040, zI_3200, zI_4100, zI_9728, zI_11784, zI_61440, zI_65536, zI_470536, zI_999999, zI_1000000, lt_T, lt_F, le_T, le_F, eq_T, eq_F, neg_1, cn_m1p, cn_m11, nI_add, cn_sub, pk_mul, cn_div, cn_irm, cn_lt, cn_eq, cn_ltm1, cn_m1lt, cn_eqm1, cn_m1eq, cn_ix, cn_inb, cn_ninb, cn_irs, cn_ils, cn_and, cn_or, cn_xor, grd_t, grd_bt, grd_bl, Nat.add_zero, Nat.zero_add, Nat.reduceAdd, Nat.reduceSub, Nat.reduceMul, Nat.reduceLT, Nat.reduceEqDiff, eq_self, true_and, and_true, and_false, false_and, if_true, if_false, and_self, Bool.true_eq_false, Bool.false_eq_true, gI_sI, gI_sA, gI_sL, gI_sQ, gI_sC, gI_sO, gI_sD, gA_sI, gA_sL, gA_sQ, gA_sO, gA_sD, gL_sI, gL_sA, gL_sQ, gL_sC, gL_sO, gL_sD, gQ_sI, gQ_sA, gQ_sL, gQ_sC, gQ_sO, gO_sI, gO_sA, gO_sL, gO_sQ, gO_sC, gO_sO, gO_sD, gA_eq, gA_ne, gQ_eq, gQ_ne, gL_sL, gA_cin, gA_cou, gQ_cin, gQ_cou, Option.bind_some]
          refine hk _ ⟨_, rfl, ?_, m4, Fr_t F34 (Fr_t (Fr_sA 34 _ _ (by decide)) (Fr_sA 34 _ _ (by decide)))⟩
          rw [itN_s]
          have X5 := MX_row (i := 1) (x := nI ((itN (cdS A) i y.2).1 1 + clN (ev (gv A (itN (cdS A) i y.2) i 0) nog nog (pC A 11)))) X4 (by omega) (by omega) (MRow_set1 X4.1 rfl)
          have X6 := MX_row (i := 1) (x := nI 999999) X5 (by omega) (by omega) (MRow_set1 X5.1 rfl)
          have eq : cdS A i (itN (cdS A) i y.2) = hset (hset (itN (cdS A) i y.2) 1 ((itN (cdS A) i y.2).1 1 + clN (ev (gv A (itN (cdS A) i y.2) i 0) nog nog (pC A 11)))) 1 999999 := by
            rw [hset_2]
            show hset _ 1 (min 999999 _) = _
            rw [Nat.min_eq_left (by omega)]
          rw [eq]; exact X6
        · simp (disch := first | omega | decide) only [f_M_nightGoes_L91, f_M_doorMany, hP3.1, e4, r1, zI_0, zI_1, zI_2, zI_3, zI_4, zI_5, zI_6, zI_7, zI_8, zI_9, zI_10, zI_11, zI_12, zI_13, zI_14, zI_15, zI_16, zI_17, zI_18, zI_19, zI_20, zI_21, zI_22, zI_23, zI_24, zI_25, zI_26, zI_27, zI_28, zI_29, zI_30, zI_31, zI_32, zI_33, zI_34, zI_35, zI_36, zI_37, zI_38, zI_39, zI_40, zI_41, zI_42, zI_43, zI_44, zI_45, zI_46, zI_47, zI_48, zI_49, zI_50, zI_51, zI_52, zI_53, zI_54, zI_55, zI_56, zI_57, zI_58, zI_59, zI_60, zI_61, zI_62, zI_63, zI_64, zI_65, zI_66, zI_67, zI_74, zI_84, zI_85, zI_88, zI_91, zI_93, zI_97, zI_99, zI_100, zI_102, zI_105, zI_117, zI_122, zI_193, zI_202, zI_205, zI_251, zI_255, zI_256, zI_257, zI_258, zI_259, zI_260, zI_640, zI_999, zI_1000, zI_1024, zI_1600, zI_1602, zI_1700, zI_2040, zI_3200, zI_4100, zI_9728, zI_11784, zI_61440, zI_65536, zI_470536, zI_999999, zI_1000000, lt_T, lt_F, le_T, le_F, eq_T, eq_F, neg_1, cn_m1p, cn_m11, nI_add, cn_sub, pk_mul, cn_div, cn_irm, cn_lt, cn_eq, cn_ltm1, cn_m1lt, cn_eqm1, cn_m1eq, cn_ix, cn_inb, cn_ninb, cn_irs, cn_ils, cn_and, cn_or, cn_xor, grd_t, grd_bt, grd_bl, Nat.add_zero, Nat.zero_add, Nat.reduceAdd, Nat.reduceSub, Nat.reduceMul, Nat.reduceLT, Nat.reduceEqDiff, eq_self, true_and, and_true, and_false, false_and, if_true, if_false, and_self, Bool.true_eq_false, Bool.false_eq_true, gI_sI, gI_sA, gI_sL, gI_sQ, gI_sC, gI_sO, gI_sD, gA_sI, gA_sL, gA_sQ, gA_sO, gA_sD, gL_sI, gL_sA, gL_sQ, gL_sC, gL_sO, gL_sD, gQ_sI, gQ_sA, gQ_sL, gQ_sC, gQ_sO, gO_sI, gO_sA, gO_sL, gO_sQ, gO_sC, gO_sO, gO_sD, gA_eq, gA_ne, gQ_eq, gQ_ne, gL_sL, gA_cin, gA_cou, gQ_cin, gQ_cou, Option.bind_some]
          refine hk _ ⟨_, rfl, ?_, m4, Fr_t F34 (Fr_sA 34 _ _ (by decide))⟩
          rw [itN_s]
          exact MX_row X4 (by omega) (by omega) (MRow_set1 X4.1 (by rw [Nat.min_eq_right (by omega)]))
      · rintro k x ⟨s3, rfl, hX3, hm3, F3⟩
        obtain ⟨hB3, q2, q3, q4⟩ := coldS_f (A := A) hB2 (pD A)
        have hP3 : MP A s3 := MP_fr F3 (by decide) hP
        have r0 := hX3.1.1
        have e5 : (passS A aw H).2 = hset (itN (cdS A) (pD A) y.2) 0 ((itN (cdS A) (pD A) y.2).1 0 + 1) := by
          unfold passS
          rw [hy']
          show hset (itN (cdS A) (pD A) y.2) 0 (min 999 ((itN (cdS A) (pD A) y.2).1 0 + 1)) = _
          rw [Nat.min_eq_right (by omega)]
        simp (disch := first | omega | decide) only [f_M_nightGoes_L91, f_M_doorMany, hP3.1, r0, zI_0, zI_1, zI_2, zI_3, zI_4, zI_5, zI_6, zI_7, zI_8, zI_9, zI_10, zI_11, zI_12, zI_13, zI_14, zI_15, zI_16, zI_17, zI_18, zI_19, zI_20, zI_21, zI_22, zI_23, zI_24, zI_25, zI_26, zI_27, zI_28, zI_29, zI_30, zI_31, zI_32, zI_33, zI_34, zI_35, zI_36, zI_37, zI_38, zI_39, zI_40, zI_41, zI_42, zI_43, zI_44, zI_45, zI_46, zI_47, zI_48, zI_49, zI_50, zI_51, zI_52, zI_53, zI_54, zI_55, zI_56, zI_57, zI_58, zI_59, zI_60, zI_61, zI_62, zI_63, zI_64, zI_65, zI_66, zI_67, zI_74, zI_84, zI_85, zI_88, zI_91, zI_93, zI_97, zI_99, zI_100, zI_102, zI_105, zI_117, zI_122, zI_193, zI_202, zI_205, zI_251, zI_255, zI_256, zI_257, zI_258, zI_259, zI_260, zI_640, zI_999, zI_1000, zI_1024, zI_1600, zI_1602, zI_1700, zI_2040, zI_3200, zI_4100, zI_9728, zI_11784, zI_61440, zI_65536, zI_470536, zI_999999, zI_1000000, lt_T, lt_F, le_T, le_F, eq_T, eq_F, neg_1, cn_m1p, cn_m11, nI_add, cn_sub, pk_mul, cn_div, cn_irm, cn_lt, cn_eq, cn_ltm1, cn_m1lt, cn_eqm1, cn_m1eq, cn_ix, cn_inb, cn_ninb, cn_irs, cn_ils, cn_and, cn_or, cn_xor, grd_t, grd_bt, grd_bl, Nat.add_zero, Nat.zero_add, Nat.reduceAdd, Nat.reduceSub, Nat.reduceMul, Nat.reduceLT, Nat.reduceEqDiff, eq_self, true_and, and_true, and_false, false_and, if_true, if_false, and_self, Bool.true_eq_false, Bool.false_eq_true, Option.bind_some]
        refine Ok_some ⟨?_, ?_, Fr_t F3 (Fr_sA 34 _ _ (by decide))⟩
        · rw [e5]
          exact MX_row hX3 (by omega) (by omega) (MRow_set0 hX3.1 rfl)
        · show gI s3 1052 0 = w0 + nI (nigS A aw H).1
          rw [hy']; exact hm3
  obtain ⟨x, h1, h2, h3, h4⟩ := hl
  exact ⟨x, by unfold f_M_nightGoes; rw [show (0 : Int32) = nI 0 from rfl]; exact h1, h2, h3, h4⟩
end MPASS
