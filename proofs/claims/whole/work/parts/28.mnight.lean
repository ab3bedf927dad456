/-! NIGHTS on the other side -/
theorem MRow_set {A : pL} {H : hL} {s : mS} {p v : Nat} {n : Nat} {x : Int32} (h : MRow A H s) (hA : WA A) (hp : p < 10) (hn : n = 74 + p) (hx : x = nI v) : MRow A (hset H (52 + p) v) (sA s 34 n x) := by
  have hD := hA.1
  obtain ⟨h1, h2, h3, h4⟩ := h
  subst hn; subst hx
  refine ⟨?_, ?_, fun d hd => ?_, fun q hq => ?_⟩
  · rw [gA_ne (by omega), hs_n (by omega)]; exact h1
  · rw [gA_ne (by omega), hs_n (by omega)]; exact h2
  · rw [gA_ne (by omega), gA_ne (by omega), gA_ne (by omega), hs_n (by omega), hs_n (by omega), hs_n (by omega)]; exact h3 d hd
  · by_cases e : q = p
    · subst e; rw [gA_eq rfl, hs_e rfl]
    · rw [gA_ne (by omega), hs_n (by omega)]; exact h4 q hq
theorem MRow_set1 {A : pL} {H : hL} {s : mS} {v : Nat} {x : Int32} (h : MRow A H s) (hx : x = nI v) : MRow A (hset H 1 v) (sA s 34 1 x) := by
  obtain ⟨h1, h2, h3, h4⟩ := h
  subst hx
  refine ⟨?_, ?_, fun d hd => ?_, fun q hq => ?_⟩
  · rw [gA_ne (by omega), hs_n (by omega)]; exact h1
  · rw [gA_eq rfl, hs_e rfl]
  · rw [gA_ne (by omega), gA_ne (by omega), gA_ne (by omega), hs_n (by omega), hs_n (by omega), hs_n (by omega)]; exact h3 d hd
  · rw [gA_ne (by omega), hs_n (by omega)]; exact h4 q hq
theorem MRow_set0 {A : pL} {H : hL} {s : mS} {v : Nat} {x : Int32} (h : MRow A H s) (hx : x = nI v) : MRow A (hset H 0 v) (sA s 34 0 x) := by
  obtain ⟨h1, h2, h3, h4⟩ := h
  subst hx
  refine ⟨?_, ?_, fun d hd => ?_, fun q hq => ?_⟩
  · rw [gA_eq rfl, hs_e rfl]
  · rw [gA_ne (by omega), hs_n (by omega)]; exact h2
  · rw [gA_ne (by omega), gA_ne (by omega), gA_ne (by omega), hs_n (by omega), hs_n (by omega), hs_n (by omega)]; exact h3 d hd
  · rw [gA_ne (by omega), hs_n (by omega)]; exact h4 q hq
theorem MK_set {H : hL} {s : mS} {i v n : Nat} {x : Int32} (h : MK H s) (hi : i ≠ 3) (hn : n < 84) : MK (hset H i v) (sA s 34 n x) := by
  have e3 : (hset H i v).1 3 = H.1 3 := hs_n (by omega)
  refine ⟨?_, fun k hk => ?_⟩
  · rw [gA_ne (by omega), e3]; exact h.1
  · rw [e3] at hk ⊢
    rw [gA_ne (by omega), gA_ne (by omega), gA_ne (by omega)]; exact h.2 k hk
theorem MK_row {H : hL} {s : mS} {i v : Nat} (h : MK H s) (hi : i ≠ 3) : MK (hset H i v) s := by
  have e3 : (hset H i v).1 3 = H.1 3 := hs_n (by omega)
  refine ⟨?_, fun k hk => ?_⟩
  · rw [e3]; exact h.1
  · rw [e3] at hk ⊢; exact h.2 k hk
theorem bit_flip (n d i : Nat) : (n ^^^ 1 <<< d).testBit i = (n.testBit i ^^ decide (i = d)) := by
  rw [Nat.testBit_xor, Nat.shiftLeft_eq, Nat.one_mul, Nat.testBit_two_pow]
  congr 1
  exact decide_eq_decide.mpr eq_comm
section MNIGHT
variable {N d p : Nat} {A : pL} {H : hL} {s : mS} {th : Option hL}
theorem mIsTurned_n (hA : WA A) (hB : HB A H) (hP : MP A s) (hX : MX A H th s) (hd : d < pD A) : ∃ s', f_M_isTurned N (nI d) s = some (zi (b01 (!jm A H d)), s') ∧ MX A (if jm A H d then H else swS H d) th s' ∧ Fr [34] s s' := by
  have hD := hA.1
  have e1 := mIsJammed_n (N := N) hA hB hP hX.1 hd
  have h4 := hB.2.2.2.2.1 d (by omega)
  cases c : jm A H d
  · rw [c] at e1
    have eo := mOpenOf_n (N := N) hA hX.1 hd
    have ex : nI 1 - zi (b01 ((H.1 2).testBit d)) = zi (b01 (!(H.1 2).testBit d)) := by cases (H.1 2).testBit d <;> rfl
    have key : ∀ s', Fr [34] s s' → gA s' 34 (2 + 3 * d) = zi (b01 (!(H.1 2).testBit d)) → gA s' 34 (3 + 3 * d) = nI (min 99 (H.1 (4 + d) + 1)) → (∀ i, i ≠ 2 + 3 * d → i ≠ 3 + 3 * d → gA s' 34 i = gA s 34 i) → MX A (swS H d) th s' := by
      intro s' F g1 g2 g3
      obtain ⟨⟨r1, r2, r3, r4⟩, t1, t2⟩ := hX
      refine ⟨⟨?_, ?_, fun j hj => ?_, fun q hq => ?_⟩, ?_, MK_th t2 (fun i hi => g3 i (by omega) (by omega)) (sw_n (by omega)) rfl⟩
      · rw [g3 _ (by omega) (by omega), sw_n (by omega)]; exact r1
      · rw [g3 _ (by omega) (by omega), sw_n (by omega)]; exact r2
      · have e2 : (swS H d).1 2 = H.1 2 ^^^ 1 <<< d := by
          unfold swS; rw [hs_n (by omega), hs_e rfl]
        have eb : ((swS H d).1 2).testBit j = ((H.1 2).testBit j ^^ decide (j = d)) := by rw [e2, bit_flip]
        by_cases e : j = d
        · subst e
          rw [eb, g1, g2, g3 _ (by omega) (by omega), decide_eq_true rfl, Bool.xor_true, sw_n (j := 28 + j) (by omega)]
          refine ⟨rfl, ?_, (r3 j hj).2.2⟩
          unfold swS
          rw [hs_e rfl]
        · rw [eb, g3 _ (by omega) (by omega), g3 _ (by omega) (by omega), g3 _ (by omega) (by omega), decide_eq_false e, Bool.xor_false, sw_n (by omega), sw_n (by omega)]
          exact r3 j hj
      · rw [g3 _ (by omega) (by omega), sw_n (by omega)]; exact r4 q hq
      · rw [F.I 1053 0 (by decide)]; exact t1
    by_cases c9 : H.1 (4 + d) < 99
    · refine ⟨sA (sA s 34 (2 + 3 * d) (zi (b01 (!(H.1 2).testBit d)))) 34 (3 + 3 * d) (nI (H.1 (4 + d) + 1)), ?_, ?_, Fr_t (Fr_sA _ _ _ (by decide)) (Fr_sA _ _ _ (by decide))⟩
      · simp (disch := first | omega | decide) only [f_M_isTurned, e1, b01, zI_0, zI_1, zI_2, zI_3, zI_4, zI_5, zI_6, zI_7, zI_8, zI_9, zI_10, zI_11, zI_12, zI_13, zI_14, zI_15, zI_16, zI_17, zI_18, zI_19, zI_20, zI_21, zI_22, zI_23, zI_24, zI_25, zI_26, zI_27, zI_28, zI_29, zI_30, zI_31, zI_32, zI_33, zI_34, zI_35, zI_36, zI_37, zI_38, zI_39, zI_40, zI_41, zI_42, zI_43, zI_44, zI_45, zI_46, zI_47, zI_48, zI_49, zI_50, zI_51, zI_52, zI_53, zI_54, zI_55, zI_56, zI_57, zI_58, zI_59, zI_60, zI_61, zI_62, zI_63, zI_64, zI_65, zI_66, zI_67, zI_74, zI_84, zI_85, zI_88, zI_91, zI_93, zI_97, zI_99, zI_100, zI_102, zI_105, zI_117, zI_122, zI_193, zI_202, zI_205, zI_251, zI_255, zI_256, zI_257, zI_258, zI_259, zI_260, zI_640, zI_999, zI_1000, zI_1024, zI_1600, zI_1602, zI_1700, zI_2040, zI_3200, zI_4100, zI_9728, zI_11784, zI_61440, zI_65536, zI_470536, zI_999999, zI_1000000, lt_T, lt_F, le_T, le_F, eq_T, eq_F, neg_1, cn_m1p, cn_m11, nI_add, cn_sub, pk_mul, cn_div, cn_irm, cn_lt, cn_eq, cn_ltm1, cn_m1lt, cn_eqm1, cn_m1eq, cn_ix, cn_inb, cn_ninb, cn_irs, cn_ils, cn_and, cn_or, cn_xor, grd_t, grd_bt, grd_bl, Nat.add_zero, Nat.zero_add, Nat.reduceAdd, Nat.reduceSub, Nat.reduceMul, Nat.reduceLT, Nat.reduceEqDiff, eq_self, true_and, and_true, and_false, false_and, if_true, if_false, and_self, Bool.true_eq_false, Bool.false_eq_true, show zi 0 = nI 0 from rfl, Option.bind_some, mOpenOf_n hA hX.1 hd, f_M_turnedOf, gA_ne, (hX.1.2.2.1 d hd).2.1, Bool.not_false]
        simp only [b01] at ex
        rw [ex]; rfl
      · rw [if_neg (by decide)]
        refine key _ (Fr_t (Fr_sA 34 _ _ (by decide)) (Fr_sA 34 _ _ (by decide))) ?_ ?_ fun i h1 h2 => ?_
        · rw [gA_ne (by omega), gA_eq rfl]
        · rw [gA_eq rfl, Nat.min_eq_right (by omega)]
        · rw [gA_ne (by omega), gA_ne (by omega)]
    · refine ⟨sA s 34 (2 + 3 * d) (zi (b01 (!(H.1 2).testBit d))), ?_, ?_, Fr_sA _ _ _ (by decide)⟩
      · simp (disch := first | omega | decide) only [f_M_isTurned, e1, b01, zI_0, zI_1, zI_2, zI_3, zI_4, zI_5, zI_6, zI_7, zI_8, zI_9, zI_10, zI_11, zI_12, zI_13, zI_14, zI_15, zI_16, zI_17, zI_18, zI_19, zI_20, zI_21, zI_22, zI_23, zI_24, zI_25, zI_26, zI_27, zI_28, zI_29, zI_30, zI_31, zI_32, zI_33, zI_34, zI_35, zI_36, zI_37, zI_38, zI_39, zI_40, zI_41, zI_42, zI_43, zI_44, zI_45, zI_46, zI_47, zI_48, zI_49, zI_50, zI_51, zI_52, zI_53, zI_54, zI_55, zI_56, zI_57, zI_58, zI_59, zI_60, zI_61, zI_62, zI_63, zI_64, zI_65, zI_66, zI_67, zI_74, zI_84, zI_85, zI_88, zI_91, zI_93, zI_97, zI_99, zI_100, zI_102, zI_105, zI_117, zI_122, zI_193, zI_202, zI_205, zI_251, zI_255, zI_256, zI_257, zI_258, zI_259, zI_260, zI_640, zI_999, zI_1000, zI_1024, zI_1600, zI_1602, zI_1700, zI_2040, zI_3200, zI_4100, zI_9728, zI_11784, zI_61440, zI_65536, zI_470536, zI_999999, zI_1000000, lt_T, lt_F, le_T, le_F, eq_T, eq_F, neg_1, cn_m1p, cn_m11, nI_add, cn_sub, pk_mul, cn_div, cn_irm, cn_lt, cn_eq, cn_ltm1, cn_m1lt, cn_eqm1, cn_m1eq, cn_ix, cn_inb, cn_ninb, cn_irs, cn_ils, cn_and, cn_or, cn_xor, grd_t, grd_bt, grd_bl, Nat.add_zero, Nat.zero_add, Nat.reduceAdd, Nat.reduceSub, Nat.reduceMul, Nat.reduceLT, Nat.reduceEqDiff, eq_self, true_and, and_true, and_false, false_and, if_true, if_false, and_self, Bool.true_eq_false, Bool.false_eq_true, show zi 0 = nI 0 from rfl, Option.bind_some, mOpenOf_n hA hX.1 hd, f_M_turnedOf, gA_ne, (hX.1.2.2.1 d hd).2.1, Bool.not_false]
        simp only [b01] at ex
        rw [ex]; rfl
      · rw [if_neg (by decide)]
        refine key _ (Fr_sA 34 _ _ (by decide)) ?_ ?_ fun i h1 h2 => ?_
        · rw [gA_eq rfl]
        · rw [gA_ne (by omega), (hX.1.2.2.1 d hd).2.1, show min 99 (H.1 (4 + d) + 1) = H.1 (4 + d) from by omega]
        · rw [gA_ne (by omega)]
  · rw [c] at e1
    refine ⟨s, ?_, hX, Fr_r _ _⟩
    simp (disch := first | omega | decide) only [f_M_isTurned, e1, b01, zI_0, zI_1, zI_2, zI_3, zI_4, zI_5, zI_6, zI_7, zI_8, zI_9, zI_10, zI_11, zI_12, zI_13, zI_14, zI_15, zI_16, zI_17, zI_18, zI_19, zI_20, zI_21, zI_22, zI_23, zI_24, zI_25, zI_26, zI_27, zI_28, zI_29, zI_30, zI_31, zI_32, zI_33, zI_34, zI_35, zI_36, zI_37, zI_38, zI_39, zI_40, zI_41, zI_42, zI_43, zI_44, zI_45, zI_46, zI_47, zI_48, zI_49, zI_50, zI_51, zI_52, zI_53, zI_54, zI_55, zI_56, zI_57, zI_58, zI_59, zI_60, zI_61, zI_62, zI_63, zI_64, zI_65, zI_66, zI_67, zI_74, zI_84, zI_85, zI_88, zI_91, zI_93, zI_97, zI_99, zI_100, zI_102, zI_105, zI_117, zI_122, zI_193, zI_202, zI_205, zI_251, zI_255, zI_256, zI_257, zI_258, zI_259, zI_260, zI_640, zI_999, zI_1000, zI_1024, zI_1600, zI_1602, zI_1700, zI_2040, zI_3200, zI_4100, zI_9728, zI_11784, zI_61440, zI_65536, zI_470536, zI_999999, zI_1000000, lt_T, lt_F, le_T, le_F, eq_T, eq_F, neg_1, cn_m1p, cn_m11, nI_add, cn_sub, pk_mul, cn_div, cn_irm, cn_lt, cn_eq, cn_ltm1, cn_m1lt, cn_eqm1, cn_m1eq, cn_ix, cn_inb, cn_ninb, cn_irs, cn_ils, cn_and, cn_or, cn_xor, grd_t, grd_bt, grd_bl, Nat.add_zero, Nat.zero_add, Nat.reduceAdd, Nat.reduceSub, Nat.reduceMul, Nat.reduceLT, Nat.reduceEqDiff, eq_self, true_and, and_true, and_false, false_and, if_true, if_false, and_self, Bool.true_eq_false, Bool.false_eq_true, Option.bind_some, show zi 1 = nI 1 from rfl, Bool.not_true]
    rfl
def kN : List Nat := [114700, 119400, 5066, 114900, 115000, 115200, 34]
theorem mWalks_n (hA : WA A) (hB : HB A H) (hP : MP A s) (hX : MX A H th s) (hp : p < pP A) (hN : 2000 ≤ N) :
    ∃ s', f_M_walks N (nI p) s = some (nI (walkS A p H).1, s') ∧ MX A (walkS A p H).2 th s' ∧ Fr [114700, 119400, 5066, 114900, 34] s s' := by
  have hD := hA.1
  obtain ⟨s1, e1, F1⟩ := mOrderOf_n (N := N) hA hB hP hX.1 hp hN
  have hol : ordS A H p < 16777216 := Nat.lt_of_lt_of_le (ordN_lt _ _ _ _) (pw_le hD)
  have inv : ∀ i, i ≤ pD A → HB A (itN (wkS A (ordS A H p)) i (0, H)).2 ∧ (itN (wkS A (ordS A H p)) i (0, H)).1 ≤ i := by
    refine itN_invL (fun i (x : Nat × hL) => HB A x.2 ∧ x.1 ≤ i) ⟨hB, Nat.le_refl _⟩ fun i x hi hx => ?_
    unfold wkS
    split
    · exact ⟨HB_sw hA hx.1 hi, Nat.succ_le_succ hx.2⟩
    · exact ⟨hx.1, by omega⟩
  have hl : Ok (mfix N (f_M_walks_L11 N) (nI (ordS A H p), nI 0, nI 0, s1)) (fun r => r.1 = nI (walkS A p H).1 ∧ MX A (walkS A p H).2 th r.2 ∧ Fr [34] s1 r.2) := by
    refine mfix_up (fun i x => ∃ s2, x = (nI (ordS A H p), nI (itN (wkS A (ordS A H p)) i (0, H)).1, nI i, s2) ∧ MX A (itN (wkS A (ordS A H p)) i (0, H)).2 th s2 ∧ Fr [34] s1 s2) (pD A) ?_ ?_ N 0 _ ⟨s1, rfl, MX_fr F1 (by decide) (by decide) hX, Fr_r _ _⟩ (Nat.zero_le _) (by omega)
    · rintro i k x hi ⟨s2, rfl, hX2, F2⟩ hk
      obtain ⟨hB2, hn⟩ := inv i (by omega)
      have hP2 : MP A s2 := MP_fr F2 (by decide) (MP_fr F1 (by decide) hP)
      have hb := bit01 (ordS A H p) i
      by_cases c : (ordS A H p).testBit i = false
      · rw [c] at hb
        simp (disch := first | omega | decide) only [f_M_walks_L11, f_M_doorMany, hP2.1, zI_0, zI_1, zI_2, zI_3, zI_4, zI_5, zI_6, zI_7, zI_8, zI_9, zI_10, zI_11, zI_12, zI_13, zI_14, zI_15, zI_16, zI_17, zI_18, zI_19, zI_20, zI_21, zI_22, zI_23, zI_24, zI_25, zI_26, zI_27, zI_28, zI_29, zI_30, zI_31, zI_32, zI_33, zI_34, zI_35, zI_36, zI_37, zI_38, zI_39, zI_40, zI_41, zI_42, zI_43, zI_44, zI_45, zI_46, zI_47, zI_48, zI_49, zI_50, zI_51, zI_52, zI_53, zI_54, zI_55, zI_56, zI_57, zI_58, zI_59, zI_60, zI_61, zI_62, zI_63, zI_64, zI_65, zI_66, zI_67, zI_74, zI_84, zI_85, zI_88, zI_91, zI_93, zI_97, zI_99, zI_100, zI_102, zI_105, zI_117, zI_122, zI_193, zI_202, zI_205, zI_251, zI_255, zI_256, zI_257, zI_258, zI_259, zI_260, zI_640, zI_999, zI_1000, zI_1024, zI_1600, zI_1602, zI_1700, zI_2040, zI_3200, zI_4100, zI_9728, zI_11784, zI_61440, zI_65536, zI_470536, zI_999999, zI_1000000, lt_T, lt_F, le_T, le_F, eq_T, eq_F, neg_1, cn_m1p, cn_m11, nI_add, cn_sub, pk_mul, cn_div, cn_irm, cn_lt, cn_eq, cn_ltm1, cn_m1lt, cn_eqm1, cn_m1eq, cn_ix, cn_inb, cn_ninb, cn_irs, cn_ils, cn_and, cn_or, cn_xor, grd_t, grd_bt, grd_bl, Nat.add_zero, Nat.zero_add, Nat.reduceAdd, Nat.reduceSub, Nat.reduceMul, Nat.reduceLT, Nat.reduceEqDiff, eq_self, true_and, and_true, and_false, false_and, if_true, if_false, and_self, Bool.true_eq_false, Bool.false_eq_true, hb, Option.bind_some]
        refine hk _ ⟨s2, ?_, ?_, F2⟩
        · rw [itN_s, wkS, if_neg (by rw [c]; simp)]
        · rw [itN_s, wkS, if_neg (by rw [c]; simp)]; exact hX2
      · obtain ⟨s3, e3, R3, F3⟩ := mIsTurned_n (N := N) hA hB2 hP2 hX2 hi
        have c' : (ordS A H p).testBit i = true := by cases h : (ordS A H p).testBit i; exact absurd h c; rfl
        rw [c'] at hb
        cases hj : jm A (itN (wkS A (ordS A H p)) i (0, H)).2 i
        · rw [hj] at e3 R3
          simp (disch := first | omega | decide) only [f_M_walks_L11, f_M_doorMany, hP2.1, zI_0, zI_1, zI_2, zI_3, zI_4, zI_5, zI_6, zI_7, zI_8, zI_9, zI_10, zI_11, zI_12, zI_13, zI_14, zI_15, zI_16, zI_17, zI_18, zI_19, zI_20, zI_21, zI_22, zI_23, zI_24, zI_25, zI_26, zI_27, zI_28, zI_29, zI_30, zI_31, zI_32, zI_33, zI_34, zI_35, zI_36, zI_37, zI_38, zI_39, zI_40, zI_41, zI_42, zI_43, zI_44, zI_45, zI_46, zI_47, zI_48, zI_49, zI_50, zI_51, zI_52, zI_53, zI_54, zI_55, zI_56, zI_57, zI_58, zI_59, zI_60, zI_61, zI_62, zI_63, zI_64, zI_65, zI_66, zI_67, zI_74, zI_84, zI_85, zI_88, zI_91, zI_93, zI_97, zI_99, zI_100, zI_102, zI_105, zI_117, zI_122, zI_193, zI_202, zI_205, zI_251, zI_255, zI_256, zI_257, zI_258, zI_259, zI_260, zI_640, zI_999, zI_1000, zI_1024, zI_1600, zI_1602, zI_1700, zI_2040, zI_3200, zI_4100, zI_9728, zI_11784, zI_61440, zI_65536, zI_470536, zI_999999, zI_1000000, lt_T, lt_F, le_T, le_F, eq_T, eq_F, neg_1, cn_m1p, cn_m11, nI_add, cn_sub, pk_mul, cn_div, cn_irm, cn_lt, cn_eq, cn_ltm1, cn_m1lt, cn_eqm1, cn_m1eq, cn_ix, cn_inb, cn_ninb, cn_irs, cn_ils, cn_and, cn_or, cn_xor, grd_t, grd_bt, grd_bl, Nat.add_zero, Nat.zero_add, Nat.reduceAdd, Nat.reduceSub, Nat.reduceMul, Nat.reduceLT, Nat.reduceEqDiff, eq_self, true_and, and_true, and_false, false_and, if_true, if_false, and_self, Bool.true_eq_false, Bool.false_eq_true, hb, e3, Option.bind_some, b01, show zi 1 = nI 1 from rfl, Bool.not_false]
          refine hk _ ⟨s3, ?_, ?_, Fr_t F2 F3⟩
          · rw [itN_s, wkS, if_pos ⟨c', hj⟩]
          · rw [itN_s, wkS, if_pos ⟨c', hj⟩]; exact R3
        · rw [hj] at e3 R3
          simp (disch := first | omega | decide) only [f_M_walks_L11, f_M_doorMany, hP2.1, zI_0, zI_1, zI_2, zI_3, zI_4, zI_5, zI_6, zI_7, zI_8, zI_9, zI_10, zI_11, zI_12, zI_13, zI_14, zI_15, zI_16, zI_17, zI_18, zI_19, zI_20, zI_21, zI_22, zI_23, zI_24, zI_25, zI_26, zI_27, zI_28, zI_29, zI_30, zI_31, zI_32, zI_33, zI_34, zI_35, zI_36, zI_37, zI_38, zI_39, zI_40, zI_41, zI_42, zI_43, zI_44, zI_45, zI_46, zI_47, zI_48, zI_49, zI_50, zI_51, zI_52, zI_53, zI_54, zI_55, zI_56, zI_57, zI_58, zI_59, zI_60, zI_61, zI_62, zI_63, zI_64, zI_65, zI_66, zI_67, zI_74, zI_84, zI_85, zI_88, zI_91, zI_93, zI_97, zI_99, zI_100, zI_102, zI_105, zI_117, zI_122, zI_193, zI_202, zI_205, zI_251, zI_255, zI_256, zI_257, zI_258, zI_259, zI_260, zI_640, zI_999, zI_1000, zI_1024, zI_1600, zI_1602, zI_1700, zI_2040, zI_3200, zI_4100, zI_9728, zI_11784, zI_61440, zI_65536, zI_470536, zI_999999, zI_1000000, lt_T, lt_F, le_T, le_F, eq_T, eq_F, neg_1, cn_m1p, cn_m11, nI_add, cn_sub, pk_mul, cn_div, cn_irm, cn_lt, cn_eq, cn_ltm1, cn_m1lt, cn_eqm1, cn_m1eq, cn_ix, cn_inb, cn_ninb, cn_irs, cn_ils, cn_and, cn_or, cn_xor, grd_t, grd_bt, grd_bl, Nat.add_zero, Nat.zero_add, Nat.reduceAdd, Nat.reduceSub, Nat.reduceMul, Nat.reduceLT, Nat.reduceEqDiff, eq_self, true_and, and_true, and_false, false_and, if_true, if_false, and_self, Bool.true_eq_false, Bool.false_eq_true, hb, e3, Option.bind_some, b01, show zi 0 = nI 0 from rfl, Bool.not_true]
          refine hk _ ⟨s3, ?_, ?_, Fr_t F2 F3⟩
          · rw [itN_s, wkS, if_neg (by rw [hj]; simp)]
          · rw [itN_s, wkS, if_neg (by rw [hj]; simp)]; exact R3
    · rintro k x ⟨s2, rfl, hX2, F2⟩
      have hP2 : MP A s2 := MP_fr F2 (by decide) (MP_fr F1 (by decide) hP)
      simp (disch := first | omega | decide) only [f_M_walks_L11, f_M_doorMany, hP2.1, zI_0, zI_1, zI_2, zI_3, zI_4, zI_5, zI_6, zI_7, zI_8, zI_9, zI_10, zI_11, zI_12, zI_13, zI_14, zI_15, zI_16, zI_17, zI_18, zI_19, zI_20, zI_21, zI_22, zI_23, zI_24, zI_25, zI_26, zI_27, zI_28, zI_29, zI_30, zI_31, zI_32, zI_33, zI_34, zI_35, zI_36, zI_37, zI_38, zI_39, zI_40, zI_41, zI_42, zI_43, zI_44, zI_45, zI_46, zI_47, zI_48, zI_49, zI_50, zI_51, zI_52, zI_53, zI_54, zI_55, zI_56, zI_57, zI_58, zI_59, zI_60, zI_61, zI_62, zI_63, zI_64, zI_65, zI_66, zI_67, zI_74, zI_84, zI_85, zI_88, zI_91, zI_93, zI_97, zI_99, zI_100, zI_102, zI_105, zI_117, zI_122, zI_193, zI_202, zI_205, zI_251, zI_255, zI_256, zI_257, zI_258, zI_259, zI_260, zI_640, zI_999, zI_1000, zI_1024, zI_1600, zI_1602, zI_1700, zI_2040, zI_3200, zI_4100, zI_9728, zI_11784, zI_61440, zI_65536, zI_470536, zI_999999, zI_1000000, lt_T, lt_F, le_T, le_F, eq_T, eq_F, neg_1, cn_m1p, cn_m11, nI_add, cn_sub, pk_mul, cn_div, cn_irm, cn_lt, cn_eq, cn_ltm1, cn_m1lt, cn_eqm1, cn_m1eq, cn_ix, cn_inb, cn_ninb, cn_irs, cn_ils, cn_and, cn_or, cn_xor, grd_t, grd_bt, grd_bl, Nat.add_zero, Nat.zero_add, Nat.reduceAdd, Nat.reduceSub, Nat.reduceMul, Nat.reduceLT, Nat.reduceEqDiff, eq_self, true_and, and_true, and_false, false_and, if_true, if_false, and_self, Bool.true_eq_false, Bool.false_eq_true, Option.bind_some]
      exact Ok_some ⟨rfl, hX2, F2⟩
  obtain ⟨x, h1, h2, h3, h4⟩ := hl
  refine ⟨x.2, ?_, h3, Fr_t (Fr_w F1 (by decide)) (Fr_w h4 (by decide))⟩
  simp (disch := first | omega | decide) only [f_M_walks, e1, zI_0, zI_1, zI_2, zI_3, zI_4, zI_5, zI_6, zI_7, zI_8, zI_9, zI_10, zI_11, zI_12, zI_13, zI_14, zI_15, zI_16, zI_17, zI_18, zI_19, zI_20, zI_21, zI_22, zI_23, zI_24, zI_25, zI_26, zI_27, zI_28, zI_29, zI_30, zI_31, zI_32, zI_33, zI_34, zI_35, zI_36, zI_37, zI_38, zI_39, zI_40, zI_41, zI_42, zI_43, zI_44, zI_45, zI_46, zI_47, zI_48, zI_49, zI_50, zI_51, zI_52, zI_53, zI_54, zI_55, zI_56, zI_57, zI_58, zI_59, zI_60, zI_61, zI_62, zI_63, zI_64, zI_65, zI_66, zI_67, zI_74, zI_84, zI_85, zI_88, zI_91, zI_93, zI_97, zI_99, zI_100, zI_102, zI_105, zI_117, zI_122, zI_193, zI_202, zI_205, zI_251, zI_255, zI_256, zI_257, zI_258, zI_259, zI_260, zI_640, zI_999, zI_1000, zI_1024, zI_1600, zI_1602, zI_1700, zI_2040, zI_3200, zI_4100, zI_9728, zI_11784, zI_61440, zI_65536, zI_470536, zI_999999, zI_1000000, lt_T, lt_F, le_T, le_F, eq_T, eq_F, neg_1, cn_m1p, cn_m11, nI_add, cn_sub, pk_mul, cn_div, cn_irm, cn_lt, cn_eq, cn_ltm1, cn_m1lt, cn_eqm1, cn_m1eq, cn_ix, cn_inb, cn_ninb, cn_irs, cn_ils, cn_and, cn_or, cn_xor, grd_t, grd_bt, grd_bl, Nat.add_zero, Nat.zero_add, Nat.reduceAdd, Nat.reduceSub, Nat.reduceMul, Nat.reduceLT, Nat.reduceEqDiff, eq_self, true_and, and_true, and_false, false_and, if_true, if_false, and_self, Bool.true_eq_false, Bool.false_eq_true, Option.bind_some]
  rw [h1, ← h2]
theorem mIsKept_n {t : Nat} (hX : MX A H th s) (hw : H.1 3 ≤ 20000) (hA : WA A) (hN : 2000 ≤ N) : ∃ s', f_M_isKept N (nI p) (nI t) s = some s' ∧ MX A (kpS H p t) th s' ∧ Fr [34] s s' := by
  have hD := hA.1
  have rowk : ∀ s', (∀ i, i < 84 → gA s' 34 i = gA s 34 i) → MRow A (kpS H p t) s' := by
    intro s' g
    obtain ⟨⟨r1, r2, r3, r4⟩, _⟩ := hX
    refine ⟨?_, ?_, fun j hj => ?_, fun q hq => ?_⟩
    · rw [g _ (by omega), kp_n (by omega)]; exact r1
    · rw [g _ (by omega), kp_n (by omega)]; exact r2
    · rw [g _ (by omega), g _ (by omega), g _ (by omega), kp_n (by omega), kp_n (by omega), kp_n (by omega)]; exact r3 j hj
    · rw [g _ (by omega), kp_n (by omega)]; exact r4 q hq
  cases th with
  | none =>
    have ht : gI s 1053 0 = nI 0 := hX.2.1
    obtain ⟨k1, k2⟩ : MK H s := hX.2.2
    have tail : ∀ s1, Fr [34] s s1 → (∀ i, i < 84 → gA s1 34 i = gA s 34 i) → gA s1 34 84 = nI (min 40 (H.1 3 + 1)) → (∀ k, k + 1 < min 40 (H.1 3 + 1) → gA s1 34 (85 + 3 * k) = nI (H.2 (H.1 3 + 1 - min 40 (H.1 3 + 1) + k)).1 ∧ gA s1 34 (86 + 3 * k) = nI (H.2 (H.1 3 + 1 - min 40 (H.1 3 + 1) + k)).2.1 ∧ gA s1 34 (87 + 3 * k) = nI (H.2 (H.1 3 + 1 - min 40 (H.1 3 + 1) + k)).2.2) →
        ∃ s', f_M_isKept_j64 N (nI p, nI t, s1) = some s' ∧ MX A (kpS H p t) none s' ∧ Fr [34] s s' := by
      intro s1 F g0 g1 g2
      have h0 : gA s1 34 0 = nI (H.1 0) := by rw [g0 0 (by omega)]; exact hX.1.1
      refine ⟨sA (sA (sA s1 34 (85 + 3 * min 40 (H.1 3 + 1) - 3) (nI (H.1 0))) 34 (85 + 3 * min 40 (H.1 3 + 1) - 3 + 1) (nI p)) 34 (85 + 3 * min 40 (H.1 3 + 1) - 3 + 2) (nI t), ?_, ⟨rowk _ fun i hi => ?_, ?_, (show MK (kpS H p t) _ from ⟨?_, fun k hk => ?_⟩)⟩, Fr_t F (Fr_t (Fr_sA _ _ _ (by decide)) (Fr_t (Fr_sA _ _ _ (by decide)) (Fr_sA _ _ _ (by decide))))⟩
      · simp (disch := first | omega | decide) only [f_M_isKept_j64, g1, h0, zI_0, zI_1, zI_2, zI_3, zI_4, zI_5, zI_6, zI_7, zI_8, zI_9, zI_10, zI_11, zI_12, zI_13, zI_14, zI_15, zI_16, zI_17, zI_18, zI_19, zI_20, zI_21, zI_22, zI_23, zI_24, zI_25, zI_26, zI_27, zI_28, zI_29, zI_30, zI_31, zI_32, zI_33, zI_34, zI_35, zI_36, zI_37, zI_38, zI_39, zI_40, zI_41, zI_42, zI_43, zI_44, zI_45, zI_46, zI_47, zI_48, zI_49, zI_50, zI_51, zI_52, zI_53, zI_54, zI_55, zI_56, zI_57, zI_58, zI_59, zI_60, zI_61, zI_62, zI_63, zI_64, zI_65, zI_66, zI_67, zI_74, zI_84, zI_85, zI_88, zI_91, zI_93, zI_97, zI_99, zI_100, zI_102, zI_105, zI_117, zI_122, zI_193, zI_202, zI_205, zI_251, zI_255, zI_256, zI_257, zI_258, zI_259, zI_260, zI_640, zI_999, zI_1000, zI_1024, zI_1600, zI_1602, zI_1700, zI_2040, zI_3200, zI_4100, zI_9728, zI_11784, zI_61440, zI_65536, zI_470536, zI_999999, zI_1000000, lt_T, lt_F, le_T, le_F, eq_T, eq_F, neg_1, cn_m1p, cn_m11, nI_add, cn_sub, pk_mul, cn_div, cn_irm, cn_lt, cn_eq, cn_ltm1, cn_m1lt, cn_eqm1, cn_m1eq, cn_ix, cn_inb, cn_ninb, cn_irs, cn_ils, cn_and, cn_or, cn_xor, grd_t, grd_bt, grd_bl, Nat.add_zero, Nat.zero_add, Nat.reduceAdd, Nat.reduceSub, Nat.reduceMul, Nat.reduceLT, Nat.reduceEqDiff, eq_self, true_and, and_true, and_false, false_and, if_true, if_false, and_self, Bool.true_eq_false, Bool.false_eq_true, gA_ne]
      · rw [gA_ne (by omega), gA_ne (by omega), gA_ne (by omega)]; exact g0 i hi
      · show gI s1 1053 0 = _
        rw [F.I 1053 0 (by decide)]; exact ht
      · rw [gA_ne (by omega), gA_ne (by omega), gA_ne (by omega), kp_3]; exact g1
      · rw [kp_3] at hk ⊢
        show _ = nI (fU H.2 (H.1 3) (H.1 0, p, t) _).1 ∧ _ = nI (fU H.2 (H.1 3) (H.1 0, p, t) _).2.1 ∧ _ = nI (fU H.2 (H.1 3) (H.1 0, p, t) _).2.2
        by_cases e : k + 1 = min 40 (H.1 3 + 1)
        · rw [fU_e (show H.1 3 + 1 - min 40 (H.1 3 + 1) + k = H.1 3 by omega)]
          refine ⟨?_, ?_, ?_⟩
          · rw [gA_ne (by omega), gA_ne (by omega), gA_eq (by omega)]
          · rw [gA_ne (by omega), gA_eq (by omega)]
          · rw [gA_eq (by omega)]
        · rw [fU_n (show H.1 3 + 1 - min 40 (H.1 3 + 1) + k ≠ H.1 3 by omega)]
          rw [gA_ne (by omega), gA_ne (by omega), gA_ne (by omega), gA_ne (by omega), gA_ne (by omega), gA_ne (by omega), gA_ne (by omega), gA_ne (by omega), gA_ne (by omega)]
          exact g2 k (by omega)
    by_cases c : 40 ≤ H.1 3
    · have k1' : gA s 34 84 = nI 40 := by rw [k1, Nat.min_eq_left c]
      have hl : Ok (mfix N (f_M_isKept_L23 N) (nI p, nI t, nI 85, s)) (fun r => MX A (kpS H p t) none r ∧ Fr [34] s r) := by
        refine mfix_up (fun i x => ∃ s1, x = (nI p, nI t, nI (85 + i), s1) ∧ Fr [34] s s1 ∧ (∀ j, j < 85 → gA s1 34 j = gA s 34 j) ∧ (∀ j, 85 ≤ j → j < 85 + i → gA s1 34 j = gA s 34 (j + 3)) ∧ ∀ j, 85 + i ≤ j → gA s1 34 j = gA s 34 j) 117 ?_ ?_ N 0 _ ⟨s, rfl, Fr_r _ _, fun _ _ => rfl, fun _ _ h => by omega, fun _ _ => rfl⟩ (Nat.zero_le _) (by omega)
        · rintro i k x hi ⟨s1, rfl, F1, g1, g2, g3⟩ hk
          simp (disch := first | omega | decide) only [f_M_isKept_L23, zI_0, zI_1, zI_2, zI_3, zI_4, zI_5, zI_6, zI_7, zI_8, zI_9, zI_10, zI_11, zI_12, zI_13, zI_14, zI_15, zI_16, zI_17, zI_18, zI_19, zI_20, zI_21, zI_22, zI_23, zI_24, zI_25, zI_26, zI_27, zI_28, zI_29, zI_30, zI_31, zI_32, zI_33, zI_34, zI_35, zI_36, zI_37, zI_38, zI_39, zI_40, zI_41, zI_42, zI_43, zI_44, zI_45, zI_46, zI_47, zI_48, zI_49, zI_50, zI_51, zI_52, zI_53, zI_54, zI_55, zI_56, zI_57, zI_58, zI_59, zI_60, zI_61, zI_62, zI_63, zI_64, zI_65, zI_66, zI_67, zI_74, zI_84, zI_85, zI_88, zI_91, zI_93, zI_97, zI_99, zI_100, zI_102, zI_105, zI_117, zI_122, zI_193, zI_202, zI_205, zI_251, zI_255, zI_256, zI_257, zI_258, zI_259, zI_260, zI_640, zI_999, zI_1000, zI_1024, zI_1600, zI_1602, zI_1700, zI_2040, zI_3200, zI_4100, zI_9728, zI_11784, zI_61440, zI_65536, zI_470536, zI_999999, zI_1000000, lt_T, lt_F, le_T, le_F, eq_T, eq_F, neg_1, cn_m1p, cn_m11, nI_add, cn_sub, pk_mul, cn_div, cn_irm, cn_lt, cn_eq, cn_ltm1, cn_m1lt, cn_eqm1, cn_m1eq, cn_ix, cn_inb, cn_ninb, cn_irs, cn_ils, cn_and, cn_or, cn_xor, grd_t, grd_bt, grd_bl, Nat.add_zero, Nat.zero_add, Nat.reduceAdd, Nat.reduceSub, Nat.reduceMul, Nat.reduceLT, Nat.reduceEqDiff, eq_self, true_and, and_true, and_false, false_and, if_true, if_false, and_self, Bool.true_eq_false, Bool.false_eq_true]
          refine hk _ ⟨_, rfl, Fr_t F1 (Fr_sA 34 _ _ (by decide)), fun j hj => ?_, fun j h1 h2 => ?_, fun j h1 => ?_⟩
          · rw [gA_ne (by omega)]; exact g1 j hj
          · by_cases e : j = 85 + i
            · rw [gA_eq e, e]; exact g3 _ (by omega)
            · rw [gA_ne (by omega)]; exact g2 j h1 (by omega)
          · rw [gA_ne (by omega)]; exact g3 j (by omega)
        · rintro k x ⟨s1, rfl, F1, g1, g2, g3⟩
          simp (disch := first | omega | decide) only [f_M_isKept_L23, zI_0, zI_1, zI_2, zI_3, zI_4, zI_5, zI_6, zI_7, zI_8, zI_9, zI_10, zI_11, zI_12, zI_13, zI_14, zI_15, zI_16, zI_17, zI_18, zI_19, zI_20, zI_21, zI_22, zI_23, zI_24, zI_25, zI_26, zI_27, zI_28, zI_29, zI_30, zI_31, zI_32, zI_33, zI_34, zI_35, zI_36, zI_37, zI_38, zI_39, zI_40, zI_41, zI_42, zI_43, zI_44, zI_45, zI_46, zI_47, zI_48, zI_49, zI_50, zI_51, zI_52, zI_53, zI_54, zI_55, zI_56, zI_57, zI_58, zI_59, zI_60, zI_61, zI_62, zI_63, zI_64, zI_65, zI_66, zI_67, zI_74, zI_84, zI_85, zI_88, zI_91, zI_93, zI_97, zI_99, zI_100, zI_102, zI_105, zI_117, zI_122, zI_193, zI_202, zI_205, zI_251, zI_255, zI_256, zI_257, zI_258, zI_259, zI_260, zI_640, zI_999, zI_1000, zI_1024, zI_1600, zI_1602, zI_1700, zI_2040, zI_3200, zI_4100, zI_9728, zI_11784, zI_61440, zI_65536, zI_470536, zI_999999, zI_1000000, lt_T, lt_F, le_T, le_F, eq_T, eq_F, neg_1, cn_m1p, cn_m11, nI_add, cn_sub, pk_mul, cn_div, cn_irm, cn_lt, cn_eq, cn_ltm1, cn_m1lt, cn_eqm1, cn_m1eq, cn_ix, cn_inb, cn_ninb, cn_irs, cn_ils, cn_and, cn_or, cn_xor, grd_t, grd_bt, grd_bl, Nat.add_zero, Nat.zero_add, Nat.reduceAdd, Nat.reduceSub, Nat.reduceMul, Nat.reduceLT, Nat.reduceEqDiff, eq_self, true_and, and_true, and_false, false_and, if_true, if_false, and_self, Bool.true_eq_false, Bool.false_eq_true]
          obtain ⟨s', e, X, F⟩ := tail s1 F1 (fun i hi => g1 i (by omega)) (by rw [g1 84 (by omega), k1', Nat.min_eq_left (by omega)]) (fun k hk => by
            have hm : min 40 (H.1 3 + 1) = 40 := Nat.min_eq_left (by omega)
            have hm2 : min 40 (H.1 3) = 40 := Nat.min_eq_left c
            have q := k2 (k + 1) (by omega)
            rw [hm] at hk ⊢
            rw [hm2] at q
            rw [g2 _ (by omega) (by omega), g2 _ (by omega) (by omega), g2 _ (by omega) (by omega), show H.1 3 + 1 - 40 + k = H.1 3 - 40 + (k + 1) by omega]
            exact q)
          rw [e]; exact Ok_some ⟨X, F⟩
      obtain ⟨s', e, X, F⟩ := hl
      refine ⟨s', ?_, X, F⟩
      simp (disch := first | omega | decide) only [f_M_isKept, ht, k1', zI_0, zI_1, zI_2, zI_3, zI_4, zI_5, zI_6, zI_7, zI_8, zI_9, zI_10, zI_11, zI_12, zI_13, zI_14, zI_15, zI_16, zI_17, zI_18, zI_19, zI_20, zI_21, zI_22, zI_23, zI_24, zI_25, zI_26, zI_27, zI_28, zI_29, zI_30, zI_31, zI_32, zI_33, zI_34, zI_35, zI_36, zI_37, zI_38, zI_39, zI_40, zI_41, zI_42, zI_43, zI_44, zI_45, zI_46, zI_47, zI_48, zI_49, zI_50, zI_51, zI_52, zI_53, zI_54, zI_55, zI_56, zI_57, zI_58, zI_59, zI_60, zI_61, zI_62, zI_63, zI_64, zI_65, zI_66, zI_67, zI_74, zI_84, zI_85, zI_88, zI_91, zI_93, zI_97, zI_99, zI_100, zI_102, zI_105, zI_117, zI_122, zI_193, zI_202, zI_205, zI_251, zI_255, zI_256, zI_257, zI_258, zI_259, zI_260, zI_640, zI_999, zI_1000, zI_1024, zI_1600, zI_1602, zI_1700, zI_2040, zI_3200, zI_4100, zI_9728, zI_11784, zI_61440, zI_65536, zI_470536, zI_999999, zI_1000000, lt_T, lt_F, le_T, le_F, eq_T, eq_F, neg_1, cn_m1p, cn_m11, nI_add, cn_sub, pk_mul, cn_div, cn_irm, cn_lt, cn_eq, cn_ltm1, cn_m1lt, cn_eqm1, cn_m1eq, cn_ix, cn_inb, cn_ninb, cn_irs, cn_ils, cn_and, cn_or, cn_xor, grd_t, grd_bt, grd_bl, Nat.add_zero, Nat.zero_add, Nat.reduceAdd, Nat.reduceSub, Nat.reduceMul, Nat.reduceLT, Nat.reduceEqDiff, eq_self, true_and, and_true, and_false, false_and, if_true, if_false, and_self, Bool.true_eq_false, Bool.false_eq_true]
      exact e
    · have k1' : gA s 34 84 = nI (H.1 3) := by rw [k1, Nat.min_eq_right (by omega)]
      obtain ⟨s', e, X, F⟩ := tail (sA s 34 84 (nI (H.1 3 + 1))) (Fr_sA 34 _ _ (by decide)) (fun i hi => gA_ne (by omega)) (by rw [gA_eq rfl, Nat.min_eq_right (by omega)]) (fun k hk => by
        have hm : min 40 (H.1 3 + 1) = H.1 3 + 1 := Nat.min_eq_right (by omega)
        have hm2 : min 40 (H.1 3) = H.1 3 := Nat.min_eq_right (by omega)
        have q := k2 k (by omega)
        rw [hm] at hk ⊢
        rw [hm2] at q
        rw [gA_ne (by omega), gA_ne (by omega), gA_ne (by omega), show H.1 3 + 1 - (H.1 3 + 1) + k = H.1 3 - H.1 3 + k by omega]
        exact q)
      refine ⟨s', ?_, X, F⟩
      simp (disch := first | omega | decide) only [f_M_isKept, ht, k1', zI_0, zI_1, zI_2, zI_3, zI_4, zI_5, zI_6, zI_7, zI_8, zI_9, zI_10, zI_11, zI_12, zI_13, zI_14, zI_15, zI_16, zI_17, zI_18, zI_19, zI_20, zI_21, zI_22, zI_23, zI_24, zI_25, zI_26, zI_27, zI_28, zI_29, zI_30, zI_31, zI_32, zI_33, zI_34, zI_35, zI_36, zI_37, zI_38, zI_39, zI_40, zI_41, zI_42, zI_43, zI_44, zI_45, zI_46, zI_47, zI_48, zI_49, zI_50, zI_51, zI_52, zI_53, zI_54, zI_55, zI_56, zI_57, zI_58, zI_59, zI_60, zI_61, zI_62, zI_63, zI_64, zI_65, zI_66, zI_67, zI_74, zI_84, zI_85, zI_88, zI_91, zI_93, zI_97, zI_99, zI_100, zI_102, zI_105, zI_117, zI_122, zI_193, zI_202, zI_205, zI_251, zI_255, zI_256, zI_257, zI_258, zI_259, zI_260, zI_640, zI_999, zI_1000, zI_1024, zI_1600, zI_1602, zI_1700, zI_2040, zI_3200, zI_4100, zI_9728, zI_11784, zI_61440, zI_65536, zI_470536, zI_999999, zI_1000000, lt_T, lt_F, le_T, le_F, eq_T, eq_F, neg_1, cn_m1p, cn_m11, nI_add, cn_sub, pk_mul, cn_div, cn_irm, cn_lt, cn_eq, cn_ltm1, cn_m1lt, cn_eqm1, cn_m1eq, cn_ix, cn_inb, cn_ninb, cn_irs, cn_ils, cn_and, cn_or, cn_xor, grd_t, grd_bt, grd_bl, Nat.add_zero, Nat.zero_add, Nat.reduceAdd, Nat.reduceSub, Nat.reduceMul, Nat.reduceLT, Nat.reduceEqDiff, eq_self, true_and, and_true, and_false, false_and, if_true, if_false, and_self, Bool.true_eq_false, Bool.false_eq_true, e]
  | some K =>
    have ht : gI s 1053 0 = nI 1 := hX.2.1
    refine ⟨s, ?_, ⟨rowk s fun _ _ => rfl, ht, hX.2.2⟩, Fr_r _ _⟩
    simp (disch := first | omega | decide) only [f_M_isKept, ht, zI_0, zI_1, zI_2, zI_3, zI_4, zI_5, zI_6, zI_7, zI_8, zI_9, zI_10, zI_11, zI_12, zI_13, zI_14, zI_15, zI_16, zI_17, zI_18, zI_19, zI_20, zI_21, zI_22, zI_23, zI_24, zI_25, zI_26, zI_27, zI_28, zI_29, zI_30, zI_31, zI_32, zI_33, zI_34, zI_35, zI_36, zI_37, zI_38, zI_39, zI_40, zI_41, zI_42, zI_43, zI_44, zI_45, zI_46, zI_47, zI_48, zI_49, zI_50, zI_51, zI_52, zI_53, zI_54, zI_55, zI_56, zI_57, zI_58, zI_59, zI_60, zI_61, zI_62, zI_63, zI_64, zI_65, zI_66, zI_67, zI_74, zI_84, zI_85, zI_88, zI_91, zI_93, zI_97, zI_99, zI_100, zI_102, zI_105, zI_117, zI_122, zI_193, zI_202, zI_205, zI_251, zI_255, zI_256, zI_257, zI_258, zI_259, zI_260, zI_640, zI_999, zI_1000, zI_1024, zI_1600, zI_1602, zI_1700, zI_2040, zI_3200, zI_4100, zI_9728, zI_11784, zI_61440, zI_65536, zI_470536, zI_999999, zI_1000000, lt_T, lt_F, le_T, le_F, eq_T, eq_F, neg_1, cn_m1p, cn_m11, nI_add, cn_sub, pk_mul, cn_div, cn_irm, cn_lt, cn_eq, cn_ltm1, cn_m1lt, cn_eqm1, cn_m1eq, cn_ix, cn_inb, cn_ninb, cn_irs, cn_ils, cn_and, cn_or, cn_xor, grd_t, grd_bt, grd_bl, Nat.add_zero, Nat.zero_add, Nat.reduceAdd, Nat.reduceSub, Nat.reduceMul, Nat.reduceLT, Nat.reduceEqDiff, eq_self, true_and, and_true, and_false, false_and, if_true, if_false, and_self, Bool.true_eq_false, Bool.false_eq_true]
end MNIGHT
