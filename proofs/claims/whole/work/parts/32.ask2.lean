/-! CALLS that ask, further; the tape is fed -/
theorem wb_of32 (x : Int32) : ∃ n, n < 2 ^ 32 ∧ x = nI n := ⟨x.toBitVec.toNat, x.toBitVec.isLt, Int32.toBitVec_inj.mp (by show _ = BitVec.ofNat 32 _; simp)⟩
theorem fa_mask (n k : Nat) : nI n &&& nI (2 ^ k - 1) = nI (n % 2 ^ k) := by rw [fa_and, Nat.and_two_pow_sub_one_eq_mod]
section OPS2
variable {N : Nat} {A : pL} {H : hL} {pa : Nat × (Nat → hL)} {se : Nat × (Nat → Nat × Bool)} {s s' t t' : mS}
theorem and255 (x : Int32) : ∃ b, b < 256 ∧ x &&& 255 = nI b := by
  obtain ⟨n, _, rfl⟩ := wb_of32 x
  exact ⟨n % 2 ^ 8, Nat.mod_lt _ (by decide), fa_mask n 8⟩
noncomputable def byX (a : Int32) (j : Nat) : Int32 := irs a (nI (24 - 8 * j)) &&& 255
theorem tapeN {n : Nat} (a : Int32) (h1 : gI s 1 0 = nI n) (hn : n + 4 ≤ 1600) (hN : 10000 ≤ N) :
    ∃ s', f_X_tapeNumber N a s = some s' ∧ gI s' 1 0 = nI (n + 4) ∧ (∀ j, j < 4 → gA s' 1 (n + j) = byX a j) ∧ (∀ j, j < n → gA s' 1 j = gA s 1 j) ∧ Fr [10100, 1] s s' := by
  have hl : Ok (mfix N (f_X_tapeNumber_L3 N) (a, nI 24, s)) (fun r => gI r 1 0 = nI (n + 4) ∧ (∀ j, j < 4 → gA r 1 (n + j) = byX a j) ∧ (∀ j, j < n → gA r 1 j = gA s 1 j) ∧ Fr [10100, 1] s r) := by
    refine mfix_up (fun i x => ∃ s1, x = (a, (if i = 4 then nI 0 - nI 8 else nI (24 - 8 * i)), s1) ∧ gI s1 1 0 = nI (n + i) ∧ (∀ j, j < i → gA s1 1 (n + j) = byX a j) ∧ (∀ j, j < n → gA s1 1 j = gA s 1 j) ∧ Fr [10100, 1] s s1) 4 ?_ ?_ N 0 _ ⟨s, rfl, h1, fun j hj => by omega, fun _ _ => rfl, Fr_r _ _⟩ (Nat.zero_le _) (by omega)
    · rintro i k x hi ⟨s1, rfl, g1, g2, g3, F⟩ hk
      rw [if_neg (by omega)]
      have e : nI (24 - 8 * i) - nI 8 = if i + 1 = 4 then nI 0 - nI 8 else nI (24 - 8 * (i + 1)) := by
        by_cases c : i + 1 = 4
        · rw [if_pos c, show 24 - 8 * i = 0 by omega]
        · rw [if_neg c, cn_sub (by omega), show 24 - 8 * i - 8 = 24 - 8 * (i + 1) by omega]
      have ebx : irs a (nI (24 - 8 * i)) &&& nI 255 = byX a i := rfl
      simp (disch := first | omega | decide) only [f_X_tapeNumber_L3, zI_0, zI_1, zI_2, zI_3, zI_4, zI_5, zI_6, zI_7, zI_8, zI_9, zI_10, zI_11, zI_12, zI_13, zI_14, zI_15, zI_16, zI_17, zI_18, zI_19, zI_20, zI_21, zI_22, zI_23, zI_24, zI_25, zI_26, zI_27, zI_28, zI_29, zI_30, zI_31, zI_32, zI_33, zI_34, zI_35, zI_36, zI_37, zI_38, zI_39, zI_40, zI_41, zI_42, zI_43, zI_44, zI_45, zI_46, zI_47, zI_48, zI_49, zI_50, zI_51, zI_52, zI_53, zI_54, zI_55, zI_56, zI_57, zI_58, zI_59, zI_60, zI_61, zI_62, zI_63, zI_64, zI_65, zI_66, zI_67, zI_74, zI_84, zI_85, zI_88, zI_91, zI_93, zI_97, zI_99, zI_100, zI_102, zI_105, zI_117, zI_122, zI_193, zI_202, zI_205, zI_251, zI_255, zI_256, zI_257, zI_258, zI_259, zI_260, zI_640, zI_999, zI_1000, zI_1024, zI_1600, zI_1602, zI_1700, zI_2040, zI_3200, zI_4100, zI_9728, zI_11784, zI_61440, zI_65536, zI_470536, zI_999999, zI_1000000, lt_T, lt_F, le_T, le_F, eq_T, eq_F, neg_1, cn_m1p, cn_m11, nI_add, cn_sub, pk_mul, cn_div, cn_irm, cn_lt, cn_eq, cn_ltm1, cn_m1lt, cn_eqm1, cn_m1eq, cn_ix, cn_inb, cn_ninb, cn_irs, cn_ils, cn_and, cn_or, cn_xor, grd_t, grd_bt, grd_bl, Nat.add_zero, Nat.zero_add, Nat.reduceAdd, Nat.reduceSub, Nat.reduceMul, Nat.reduceLT, Nat.reduceEqDiff, eq_self, true_and, and_true, and_false, false_and, if_true, if_false, and_self, Bool.true_eq_false, Bool.false_eq_true, g1, gI_sI, gI_sA, gI_sL, gI_sQ, gI_sC, gI_sO, gI_sD, gA_sI, gA_sL, gA_sQ, gA_sO, gA_sD, gL_sI, gL_sA, gL_sQ, gL_sC, gL_sO, gL_sD, gQ_sI, gQ_sA, gQ_sL, gQ_sC, gQ_sO, gO_sI, gO_sA, gO_sL, gO_sQ, gO_sC, gO_sO, gO_sD, gA_eq, gA_ne, gQ_eq, gQ_ne, gL_sL, gA_cin, gA_cou, gQ_cin, gQ_cou, ebx]
      refine hk _ ⟨sI (sA s1 1 (n + i) (byX a i)) 1 0 (nI (n + i + 1)), ?_, by simp (disch := first | omega | decide) only [gI_sI, gI_sA, gI_sL, gI_sQ, gI_sC, gI_sO, gI_sD, gA_sI, gA_sL, gA_sQ, gA_sO, gA_sD, gL_sI, gL_sA, gL_sQ, gL_sC, gL_sO, gL_sD, gQ_sI, gQ_sA, gQ_sL, gQ_sC, gQ_sO, gO_sI, gO_sA, gO_sL, gO_sQ, gO_sC, gO_sO, gO_sD, gA_eq, gA_ne, gQ_eq, gQ_ne, gL_sL, gA_cin, gA_cou, gQ_cin, gQ_cou, Nat.reduceAdd, Nat.reduceSub, Nat.reduceMul, Nat.reduceLT, Nat.reduceEqDiff, eq_self, true_and, and_true, and_false, false_and, if_true, if_false, and_self, Bool.true_eq_false, Bool.false_eq_true, Nat.add_assoc], fun j hj => ?_, fun j hj => ?_, Fr_t F (Fr_t (Fr_sA _ _ _ (by decide)) (Fr_sI _ _ _ (by decide)))⟩
      · rw [← e]
      · rw [gA_sI]
        by_cases c : j = i
        · rw [c, gA_eq rfl]
        · rw [gA_ne (by omega)]; exact g2 j (by omega)
      · rw [gA_sI, gA_ne (by omega)]; exact g3 j hj
    · rintro k x ⟨s1, rfl, g1, g2, g3, F⟩
      have e : (nI 0 - nI 8 < nI 0) = True := eq_true (by decide)
      simp (disch := first | omega | decide) only [f_X_tapeNumber_L3, zI_0, if_true, e]
      exact Ok_some ⟨g1, g2, g3, F⟩
  obtain ⟨x, e0, e1, e2, e3, e4⟩ := hl
  exact ⟨x, e0, e1, e2, e3, e4⟩
def argN (a b c d e : Int32) (k : Nat) : Int32 := if k < 4 then a else if k < 8 then b else if k < 12 then c else if k < 16 then d else e
theorem mFeed_n {n : Nat} (a b c d e : Int32) (h1 : gI t 1001 0 = nI n) (hn : n + 20 ≤ 1600) (hN : 10000 ≤ N) :
    ∃ t', f_M_feed N a b c d e t = some (nI (n + 20), t') ∧ gI t' 1001 0 = nI (n + 20) ∧ (∀ j, j < 20 → gA t' 1 (n + j) = byX (argN a b c d e j) (j % 4)) ∧ (∀ j, j < n → gA t' 1 j = gA t 1 j) ∧ Fr [110100, 1] t t' := by
  have hl : Ok (mfix N (f_M_feed_L28 N) (a, b, c, d, e, nI 0, t)) (fun r => r.1 = nI (n + 20) ∧ gI r.2 1001 0 = nI (n + 20) ∧ (∀ j, j < 20 → gA r.2 1 (n + j) = byX (argN a b c d e j) (j % 4)) ∧ (∀ j, j < n → gA r.2 1 j = gA t 1 j) ∧ Fr [110100, 1] t r.2) := by
    refine mfix_up (fun i x => ∃ s1, x = (a, b, c, d, e, nI i, s1) ∧ gI s1 1001 0 = nI (n + i) ∧ (∀ j, j < i → gA s1 1 (n + j) = byX (argN a b c d e j) (j % 4)) ∧ (∀ j, j < n → gA s1 1 j = gA t 1 j) ∧ Fr [110100, 1] t s1) 20 ?_ ?_ N 0 _ ⟨t, rfl, h1, fun j hj => by omega, fun _ _ => rfl, Fr_r _ _⟩ (Nat.zero_le _) (by omega)
    · rintro i k x hi ⟨s1, rfl, g1, g2, g3, F⟩ hk
      have ej : ∀ w, f_M_feed_j81 N k (a, b, c, d, e, nI i, w, s1) = k (a, b, c, d, e, nI (i + 1), sI (sA s1 1 (n + i) (byX w (i % 4))) 1001 0 (nI (n + i + 1))) := by
        intro w
        have ebx : irs w (nI (8 * (3 - i % 4))) &&& nI 255 = byX w (i % 4) := by
          unfold byX; rw [show 8 * (3 - i % 4) = 24 - 8 * (i % 4) by omega]; rfl
        simp (disch := first | omega | decide) only [f_M_feed_j81, zI_0, zI_1, zI_2, zI_3, zI_4, zI_5, zI_6, zI_7, zI_8, zI_9, zI_10, zI_11, zI_12, zI_13, zI_14, zI_15, zI_16, zI_17, zI_18, zI_19, zI_20, zI_21, zI_22, zI_23, zI_24, zI_25, zI_26, zI_27, zI_28, zI_29, zI_30, zI_31, zI_32, zI_33, zI_34, zI_35, zI_36, zI_37, zI_38, zI_39, zI_40, zI_41, zI_42, zI_43, zI_44, zI_45, zI_46, zI_47, zI_48, zI_49, zI_50, zI_51, zI_52, zI_53, zI_54, zI_55, zI_56, zI_57, zI_58, zI_59, zI_60, zI_61, zI_62, zI_63, zI_64, zI_65, zI_66, zI_67, zI_74, zI_84, zI_85, zI_88, zI_91, zI_93, zI_97, zI_99, zI_100, zI_102, zI_105, zI_117, zI_122, zI_193, zI_202, zI_205, zI_251, zI_255, zI_256, zI_257, zI_258, zI_259, zI_260, zI_640, zI_999, zI_1000, zI_1024, zI_1600, zI_1602, zI_1700, zI_2040, zI_3200, zI_4100, zI_9728, zI_11784, zI_61440, zI_65536, zI_470536, zI_999999, zI_1000000, lt_T, lt_F, le_T, le_F, eq_T, eq_F, neg_1, cn_m1p, cn_m11, nI_add, cn_sub, pk_mul, cn_div, cn_irm, cn_lt, cn_eq, cn_ltm1, cn_m1lt, cn_eqm1, cn_m1eq, cn_ix, cn_inb, cn_ninb, cn_irs, cn_ils, cn_and, cn_or, cn_xor, grd_t, grd_bt, grd_bl, Nat.add_zero, Nat.zero_add, Nat.reduceAdd, Nat.reduceSub, Nat.reduceMul, Nat.reduceLT, Nat.reduceEqDiff, eq_self, true_and, and_true, and_false, false_and, if_true, if_false, and_self, Bool.true_eq_false, Bool.false_eq_true, g1, gI_sI, gI_sA, gI_sL, gI_sQ, gI_sC, gI_sO, gI_sD, gA_sI, gA_sL, gA_sQ, gA_sO, gA_sD, gL_sI, gL_sA, gL_sQ, gL_sC, gL_sO, gL_sD, gQ_sI, gQ_sA, gQ_sL, gQ_sC, gQ_sO, gO_sI, gO_sA, gO_sL, gO_sQ, gO_sC, gO_sO, gO_sD, gA_eq, gA_ne, gQ_eq, gQ_ne, gL_sL, gA_cin, gA_cou, gQ_cin, gQ_cou, ebx]
      have key : Ok (k (a, b, c, d, e, nI (i + 1), sI (sA s1 1 (n + i) (byX (argN a b c d e i) (i % 4))) 1001 0 (nI (n + i + 1)))) (fun r => r.1 = nI (n + 20) ∧ gI r.2 1001 0 = nI (n + 20) ∧ (∀ j, j < 20 → gA r.2 1 (n + j) = byX (argN a b c d e j) (j % 4)) ∧ (∀ j, j < n → gA r.2 1 j = gA t 1 j) ∧ Fr [110100, 1] t r.2) := by
        refine hk _ ⟨_, rfl, by simp (disch := first | omega | decide) only [gI_sI, gI_sA, gI_sL, gI_sQ, gI_sC, gI_sO, gI_sD, gA_sI, gA_sL, gA_sQ, gA_sO, gA_sD, gL_sI, gL_sA, gL_sQ, gL_sC, gL_sO, gL_sD, gQ_sI, gQ_sA, gQ_sL, gQ_sC, gQ_sO, gO_sI, gO_sA, gO_sL, gO_sQ, gO_sC, gO_sO, gO_sD, gA_eq, gA_ne, gQ_eq, gQ_ne, gL_sL, gA_cin, gA_cou, gQ_cin, gQ_cou, Nat.reduceAdd, Nat.reduceSub, Nat.reduceMul, Nat.reduceLT, Nat.reduceEqDiff, eq_self, true_and, and_true, and_false, false_and, if_true, if_false, and_self, Bool.true_eq_false, Bool.false_eq_true, Nat.add_assoc], fun j hj => ?_, fun j hj => ?_, Fr_t F (Fr_t (Fr_sA _ _ _ (by decide)) (Fr_sI _ _ _ (by decide)))⟩
        · rw [gA_sI]
          by_cases c : j = i
          · rw [c, gA_eq rfl]
          · rw [gA_ne (by omega)]; exact g2 j (by omega)
        · rw [gA_sI, gA_ne (by omega)]; exact g3 j hj
      simp only [f_M_feed_L28, ej]
      have q : ∀ m, m < 100 → (nI i < nI m) = (i < m) := fun m hm => cn_lt ⟨by omega, by omega⟩
      simp only [zI_20, zI_4, zI_8, zI_12, zI_16, q 20 (by omega), q 4 (by omega), q 8 (by omega), q 12 (by omega), q 16 (by omega)]
      unfold argN at key
      rw [if_pos hi]
      by_cases c1 : i < 4
      · simp only [c1, if_true] at key ⊢; exact key
      · by_cases c2 : i < 8
        · simp only [c1, c2, if_true, if_false] at key ⊢; exact key
        · by_cases c3 : i < 12
          · simp only [c1, c2, c3, if_true, if_false] at key ⊢; exact key
          · by_cases c4 : i < 16
            · simp only [c1, c2, c3, c4, if_true, if_false] at key ⊢; exact key
            · simp only [c1, c2, c3, c4, if_false] at key ⊢; exact key
    · rintro k x ⟨s1, rfl, g1, g2, g3, F⟩
      simp (disch := first | omega | decide) only [f_M_feed_L28, zI_0, zI_1, zI_2, zI_3, zI_4, zI_5, zI_6, zI_7, zI_8, zI_9, zI_10, zI_11, zI_12, zI_13, zI_14, zI_15, zI_16, zI_17, zI_18, zI_19, zI_20, zI_21, zI_22, zI_23, zI_24, zI_25, zI_26, zI_27, zI_28, zI_29, zI_30, zI_31, zI_32, zI_33, zI_34, zI_35, zI_36, zI_37, zI_38, zI_39, zI_40, zI_41, zI_42, zI_43, zI_44, zI_45, zI_46, zI_47, zI_48, zI_49, zI_50, zI_51, zI_52, zI_53, zI_54, zI_55, zI_56, zI_57, zI_58, zI_59, zI_60, zI_61, zI_62, zI_63, zI_64, zI_65, zI_66, zI_67, zI_74, zI_84, zI_85, zI_88, zI_91, zI_93, zI_97, zI_99, zI_100, zI_102, zI_105, zI_117, zI_122, zI_193, zI_202, zI_205, zI_251, zI_255, zI_256, zI_257, zI_258, zI_259, zI_260, zI_640, zI_999, zI_1000, zI_1024, zI_1600, zI_1602, zI_1700, zI_2040, zI_3200, zI_4100, zI_9728, zI_11784, zI_61440, zI_65536, zI_470536, zI_999999, zI_1000000, lt_T, lt_F, le_T, le_F, eq_T, eq_F, neg_1, cn_m1p, cn_m11, nI_add, cn_sub, pk_mul, cn_div, cn_irm, cn_lt, cn_eq, cn_ltm1, cn_m1lt, cn_eqm1, cn_m1eq, cn_ix, cn_inb, cn_ninb, cn_irs, cn_ils, cn_and, cn_or, cn_xor, grd_t, grd_bt, grd_bl, Nat.add_zero, Nat.zero_add, Nat.reduceAdd, Nat.reduceSub, Nat.reduceMul, Nat.reduceLT, Nat.reduceEqDiff, eq_self, true_and, and_true, and_false, false_and, if_true, if_false, and_self, Bool.true_eq_false, Bool.false_eq_true]
      exact Ok_some ⟨g1, g1, g2, g3, F⟩
  obtain ⟨x, e0, e1, e2, e3, e4, e5⟩ := hl
  refine ⟨x.2, ?_, e2, e3, e4, e5⟩
  simp (disch := first | omega | decide) only [f_M_feed, zI_0, zI_1, zI_2, zI_3, zI_4, zI_5, zI_6, zI_7, zI_8, zI_9, zI_10, zI_11, zI_12, zI_13, zI_14, zI_15, zI_16, zI_17, zI_18, zI_19, zI_20, zI_21, zI_22, zI_23, zI_24, zI_25, zI_26, zI_27, zI_28, zI_29, zI_30, zI_31, zI_32, zI_33, zI_34, zI_35, zI_36, zI_37, zI_38, zI_39, zI_40, zI_41, zI_42, zI_43, zI_44, zI_45, zI_46, zI_47, zI_48, zI_49, zI_50, zI_51, zI_52, zI_53, zI_54, zI_55, zI_56, zI_57, zI_58, zI_59, zI_60, zI_61, zI_62, zI_63, zI_64, zI_65, zI_66, zI_67, zI_74, zI_84, zI_85, zI_88, zI_91, zI_93, zI_97, zI_99, zI_100, zI_102, zI_105, zI_117, zI_122, zI_193, zI_202, zI_205, zI_251, zI_255, zI_256, zI_257, zI_258, zI_259, zI_260, zI_640, zI_999, zI_1000, zI_1024, zI_1600, zI_1602, zI_1700, zI_2040, zI_3200, zI_4100, zI_9728, zI_11784, zI_61440, zI_65536, zI_470536, zI_999999, zI_1000000, lt_T, lt_F, le_T, le_F, eq_T, eq_F, neg_1, cn_m1p, cn_m11, nI_add, cn_sub, pk_mul, cn_div, cn_irm, cn_lt, cn_eq, cn_ltm1, cn_m1lt, cn_eqm1, cn_m1eq, cn_ix, cn_inb, cn_ninb, cn_irs, cn_ils, cn_and, cn_or, cn_xor, grd_t, grd_bt, grd_bl, Nat.add_zero, Nat.zero_add, Nat.reduceAdd, Nat.reduceSub, Nat.reduceMul, Nat.reduceLT, Nat.reduceEqDiff, eq_self, true_and, and_true, and_false, false_and, if_true, if_false, and_self, Bool.true_eq_false, Bool.false_eq_true, h1]
  rw [e0, ← e1]
theorem P_feed (hN : 10000 ≤ N) : Pure_0 Inv N := by
  rintro a b c d e s t ⟨A, H, pa, se, hW, hX, hM, hR⟩
  obtain ⟨n, tp, hn, h1, h2, h3⟩ := hR.1
  by_cases cn : 1600 < n + 20
  · refine ⟨m1, _, _, ?_, ?_, Inv_rf (k := 0) hW hX hM hR (by omega)⟩
    · simp (disch := first | omega | decide) only [f_X_feed, h1, zI_0, zI_1, zI_2, zI_3, zI_4, zI_5, zI_6, zI_7, zI_8, zI_9, zI_10, zI_11, zI_12, zI_13, zI_14, zI_15, zI_16, zI_17, zI_18, zI_19, zI_20, zI_21, zI_22, zI_23, zI_24, zI_25, zI_26, zI_27, zI_28, zI_29, zI_30, zI_31, zI_32, zI_33, zI_34, zI_35, zI_36, zI_37, zI_38, zI_39, zI_40, zI_41, zI_42, zI_43, zI_44, zI_45, zI_46, zI_47, zI_48, zI_49, zI_50, zI_51, zI_52, zI_53, zI_54, zI_55, zI_56, zI_57, zI_58, zI_59, zI_60, zI_61, zI_62, zI_63, zI_64, zI_65, zI_66, zI_67, zI_74, zI_84, zI_85, zI_88, zI_91, zI_93, zI_97, zI_99, zI_100, zI_102, zI_105, zI_117, zI_122, zI_193, zI_202, zI_205, zI_251, zI_255, zI_256, zI_257, zI_258, zI_259, zI_260, zI_640, zI_999, zI_1000, zI_1024, zI_1600, zI_1602, zI_1700, zI_2040, zI_3200, zI_4100, zI_9728, zI_11784, zI_61440, zI_65536, zI_470536, zI_999999, zI_1000000, lt_T, lt_F, le_T, le_F, eq_T, eq_F, neg_1, cn_m1p, cn_m11, nI_add, cn_sub, pk_mul, cn_div, cn_irm, cn_lt, cn_eq, cn_ltm1, cn_m1lt, cn_eqm1, cn_m1eq, cn_ix, cn_inb, cn_ninb, cn_irs, cn_ils, cn_and, cn_or, cn_xor, grd_t, grd_bt, grd_bl, Nat.add_zero, Nat.zero_add, Nat.reduceAdd, Nat.reduceSub, Nat.reduceMul, Nat.reduceLT, Nat.reduceEqDiff, eq_self, true_and, and_true, and_false, false_and, if_true, if_false, and_self, Bool.true_eq_false, Bool.false_eq_true, xRef_n, Option.bind_some]
    · simp (disch := first | omega | decide) only [f_M_feed, h2, zI_0, zI_1, zI_2, zI_3, zI_4, zI_5, zI_6, zI_7, zI_8, zI_9, zI_10, zI_11, zI_12, zI_13, zI_14, zI_15, zI_16, zI_17, zI_18, zI_19, zI_20, zI_21, zI_22, zI_23, zI_24, zI_25, zI_26, zI_27, zI_28, zI_29, zI_30, zI_31, zI_32, zI_33, zI_34, zI_35, zI_36, zI_37, zI_38, zI_39, zI_40, zI_41, zI_42, zI_43, zI_44, zI_45, zI_46, zI_47, zI_48, zI_49, zI_50, zI_51, zI_52, zI_53, zI_54, zI_55, zI_56, zI_57, zI_58, zI_59, zI_60, zI_61, zI_62, zI_63, zI_64, zI_65, zI_66, zI_67, zI_74, zI_84, zI_85, zI_88, zI_91, zI_93, zI_97, zI_99, zI_100, zI_102, zI_105, zI_117, zI_122, zI_193, zI_202, zI_205, zI_251, zI_255, zI_256, zI_257, zI_258, zI_259, zI_260, zI_640, zI_999, zI_1000, zI_1024, zI_1600, zI_1602, zI_1700, zI_2040, zI_3200, zI_4100, zI_9728, zI_11784, zI_61440, zI_65536, zI_470536, zI_999999, zI_1000000, lt_T, lt_F, le_T, le_F, eq_T, eq_F, neg_1, cn_m1p, cn_m11, nI_add, cn_sub, pk_mul, cn_div, cn_irm, cn_lt, cn_eq, cn_ltm1, cn_m1lt, cn_eqm1, cn_m1eq, cn_ix, cn_inb, cn_ninb, cn_irs, cn_ils, cn_and, cn_or, cn_xor, grd_t, grd_bt, grd_bl, Nat.add_zero, Nat.zero_add, Nat.reduceAdd, Nat.reduceSub, Nat.reduceMul, Nat.reduceLT, Nat.reduceEqDiff, eq_self, true_and, and_true, and_false, false_and, if_true, if_false, and_self, Bool.true_eq_false, Bool.false_eq_true]
  · obtain ⟨s1, e1, f1, g1, k1, F1⟩ := tapeN (N := N) a h1 (by omega) hN
    obtain ⟨s2, e2, f2, g2, k2, F2⟩ := tapeN (N := N) b f1 (by omega) hN
    obtain ⟨s3, e3, f3, g3, k3, F3⟩ := tapeN (N := N) c f2 (by omega) hN
    obtain ⟨s4, e4, f4, g4, k4, F4⟩ := tapeN (N := N) d f3 (by omega) hN
    obtain ⟨s5, e5, f5, g5, k5, F5⟩ := tapeN (N := N) e f4 (by omega) hN
    obtain ⟨t1, m1, m2, m3, m4, G⟩ := mFeed_n (N := N) a b c d e h2 (by omega) hN
    have F := Fr_t F1 (Fr_t F2 (Fr_t F3 (Fr_t F4 F5)))
    have xs : ∀ j, j < 20 → gA s5 1 (n + j) = byX (argN a b c d e j) (j % 4) := by
      intro j hj
      unfold argN
      by_cases c1 : j < 4
      · rw [if_pos c1, k5 _ (by omega), k4 _ (by omega), k3 _ (by omega), k2 _ (by omega), g1 j c1, Nat.mod_eq_of_lt c1]
      · rw [if_neg c1]
        by_cases c2 : j < 8
        · rw [if_pos c2, k5 _ (by omega), k4 _ (by omega), k3 _ (by omega), show n + j = n + 4 + j % 4 by omega]; exact g2 _ (by omega)
        · rw [if_neg c2]
          by_cases c3 : j < 12
          · rw [if_pos c3, k5 _ (by omega), k4 _ (by omega), show n + j = n + 4 + 4 + j % 4 by omega]; exact g3 _ (by omega)
          · rw [if_neg c3]
            by_cases c4 : j < 16
            · rw [if_pos c4, k5 _ (by omega), show n + j = n + 4 + 4 + 4 + j % 4 by omega]; exact g4 _ (by omega)
            · rw [if_neg c4, show n + j = n + 4 + 4 + 4 + 4 + j % 4 by omega]; exact g5 _ (by omega)
    have hx : ∀ i, ∃ b, i < n + 20 → b < 256 ∧ gA s5 1 i = nI b ∧ gA t1 1 i = nI b := by
      intro i
      by_cases c1 : i < n
      · refine ⟨tp i, fun _ => ⟨(h3 i c1).1, ?_, ?_⟩⟩
        · rw [k5 _ (by omega), k4 _ (by omega), k3 _ (by omega), k2 _ (by omega), k1 _ c1]; exact (h3 i c1).2.1
        · rw [m4 i c1]; exact (h3 i c1).2.2
      · by_cases c2 : i < n + 20
        · obtain ⟨bb, hb, eb⟩ := and255 (irs (argN a b c d e (i - n)) (nI (24 - 8 * ((i - n) % 4))))
          refine ⟨bb, fun _ => ⟨hb, ?_, ?_⟩⟩
          · rw [show i = n + (i - n) by omega, xs _ (by omega)]; exact eb
          · rw [show i = n + (i - n) by omega, m3 _ (by omega)]; exact eb
        · exact ⟨0, fun h => absurd h c2⟩
    refine ⟨nI (n + 20), s5, t1, ?_, m1, ?_⟩
    · simp (disch := first | omega | decide) only [f_X_feed, h1, zI_0, zI_1, zI_2, zI_3, zI_4, zI_5, zI_6, zI_7, zI_8, zI_9, zI_10, zI_11, zI_12, zI_13, zI_14, zI_15, zI_16, zI_17, zI_18, zI_19, zI_20, zI_21, zI_22, zI_23, zI_24, zI_25, zI_26, zI_27, zI_28, zI_29, zI_30, zI_31, zI_32, zI_33, zI_34, zI_35, zI_36, zI_37, zI_38, zI_39, zI_40, zI_41, zI_42, zI_43, zI_44, zI_45, zI_46, zI_47, zI_48, zI_49, zI_50, zI_51, zI_52, zI_53, zI_54, zI_55, zI_56, zI_57, zI_58, zI_59, zI_60, zI_61, zI_62, zI_63, zI_64, zI_65, zI_66, zI_67, zI_74, zI_84, zI_85, zI_88, zI_91, zI_93, zI_97, zI_99, zI_100, zI_102, zI_105, zI_117, zI_122, zI_193, zI_202, zI_205, zI_251, zI_255, zI_256, zI_257, zI_258, zI_259, zI_260, zI_640, zI_999, zI_1000, zI_1024, zI_1600, zI_1602, zI_1700, zI_2040, zI_3200, zI_4100, zI_9728, zI_11784, zI_61440, zI_65536, zI_470536, zI_999999, zI_1000000, lt_T, lt_F, le_T, le_F, eq_T, eq_F, neg_1, cn_m1p, cn_m11, nI_add, cn_sub, pk_mul, cn_div, cn_irm, cn_lt, cn_eq, cn_ltm1, cn_m1lt, cn_eqm1, cn_m1eq, cn_ix, cn_inb, cn_ninb, cn_irs, cn_ils, cn_and, cn_or, cn_xor, grd_t, grd_bt, grd_bl, Nat.add_zero, Nat.zero_add, Nat.reduceAdd, Nat.reduceSub, Nat.reduceMul, Nat.reduceLT, Nat.reduceEqDiff, eq_self, true_and, and_true, and_false, false_and, if_true, if_false, and_self, Bool.true_eq_false, Bool.false_eq_true, e1, e2, e3, e4, e5, f5, Option.bind_some]
    · exact Inv_tp hW hX hM hR F G (n := n + 20) (tp := fun i => Classical.choose (hx i)) (by omega) f5 m2 fun i hi => Classical.choose_spec (hx i) hi
/-! orders -/
theorem mLays_n (hA : WA A) (hB : HB A H) (hP : MP A t) (hR : MRow A H t) (hN : 10000 ≤ N) : ∃ t', f_M_laysOrders N t = some t' ∧ (∀ p, p < pP A → gA t' 35 p = nI (ordS A H p)) ∧ Fr [114700, 119400, 5066, 114900, 35] t t' := by
  have hp10 := hA.2.1
  have hl : Ok (mfix N (f_M_laysOrders_L2 N) (nI 0, t)) (fun r => (∀ p, p < pP A → gA r 35 p = nI (ordS A H p)) ∧ Fr [114700, 119400, 5066, 114900, 35] t r) := by
    refine mfix_up (fun i x => ∃ s1, x = (nI i, s1) ∧ (∀ p, p < i → gA s1 35 p = nI (ordS A H p)) ∧ Fr [114700, 119400, 5066, 114900, 35] t s1) (pP A) ?_ ?_ N 0 _ ⟨t, rfl, fun _ h => by omega, Fr_r _ _⟩ (Nat.zero_le _) (by omega)
    · rintro i k x hi ⟨s1, rfl, g1, F⟩ hk
      have hP1 := MP_fr F (by decide) hP
      obtain ⟨s2, e2, F2⟩ := mOrderOf_n (N := N) hA hB hP1 (MRow_fr F (by decide) hR) hi (by omega)
      simp (disch := first | omega | decide) only [f_M_laysOrders_L2, f_M_porterMany, hP1.2.1, zI_0, zI_1, zI_2, zI_3, zI_4, zI_5, zI_6, zI_7, zI_8, zI_9, zI_10, zI_11, zI_12, zI_13, zI_14, zI_15, zI_16, zI_17, zI_18, zI_19, zI_20, zI_21, zI_22, zI_23, zI_24, zI_25, zI_26, zI_27, zI_28, zI_29, zI_30, zI_31, zI_32, zI_33, zI_34, zI_35, zI_36, zI_37, zI_38, zI_39, zI_40, zI_41, zI_42, zI_43, zI_44, zI_45, zI_46, zI_47, zI_48, zI_49, zI_50, zI_51, zI_52, zI_53, zI_54, zI_55, zI_56, zI_57, zI_58, zI_59, zI_60, zI_61, zI_62, zI_63, zI_64, zI_65, zI_66, zI_67, zI_74, zI_84, zI_85, zI_88, zI_91, zI_93, zI_97, zI_99, zI_100, zI_102, zI_105, zI_117, zI_122, zI_193, zI_202, zI_205, zI_251, zI_255, zI_256, zI_257, zI_258, zI_259, zI_260, zI_640, zI_999, zI_1000, zI_1024, zI_1600, zI_1602, zI_1700, zI_2040, zI_3200, zI_4100, zI_9728, zI_11784, zI_61440, zI_65536, zI_470536, zI_999999, zI_1000000, lt_T, lt_F, le_T, le_F, eq_T, eq_F, neg_1, cn_m1p, cn_m11, nI_add, cn_sub, pk_mul, cn_div, cn_irm, cn_lt, cn_eq, cn_ltm1, cn_m1lt, cn_eqm1, cn_m1eq, cn_ix, cn_inb, cn_ninb, cn_irs, cn_ils, cn_and, cn_or, cn_xor, grd_t, grd_bt, grd_bl, Nat.add_zero, Nat.zero_add, Nat.reduceAdd, Nat.reduceSub, Nat.reduceMul, Nat.reduceLT, Nat.reduceEqDiff, eq_self, true_and, and_true, and_false, false_and, if_true, if_false, and_self, Bool.true_eq_false, Bool.false_eq_true, e2, Option.bind_some]
      refine hk _ ⟨_, rfl, fun p hp => ?_, Fr_t F (Fr_t (Fr_w F2 (by decide)) (Fr_sA 35 _ _ (by decide)))⟩
      by_cases c : p = i
      · rw [c, gA_eq rfl]
      · rw [gA_ne (by omega), F2.A _ _ (by decide)]; exact g1 p (by omega)
    · rintro k x ⟨s1, rfl, g1, F⟩
      have hP1 := MP_fr F (by decide) hP
      simp (disch := first | omega | decide) only [f_M_laysOrders_L2, f_M_porterMany, hP1.2.1, zI_0, zI_1, zI_2, zI_3, zI_4, zI_5, zI_6, zI_7, zI_8, zI_9, zI_10, zI_11, zI_12, zI_13, zI_14, zI_15, zI_16, zI_17, zI_18, zI_19, zI_20, zI_21, zI_22, zI_23, zI_24, zI_25, zI_26, zI_27, zI_28, zI_29, zI_30, zI_31, zI_32, zI_33, zI_34, zI_35, zI_36, zI_37, zI_38, zI_39, zI_40, zI_41, zI_42, zI_43, zI_44, zI_45, zI_46, zI_47, zI_48, zI_49, zI_50, zI_51, zI_52, zI_53, zI_54, zI_55, zI_56, zI_57, zI_58, zI_59, zI_60, zI_61, zI_62, zI_63, zI_64, zI_65, zI_66, zI_67, zI_74, zI_84, zI_85, zI_88, zI_91, zI_93, zI_97, zI_99, zI_100, zI_102, zI_105, zI_117, zI_122, zI_193, zI_202, zI_205, zI_251, zI_255, zI_256, zI_257, zI_258, zI_259, zI_260, zI_640, zI_999, zI_1000, zI_1024, zI_1600, zI_1602, zI_1700, zI_2040, zI_3200, zI_4100, zI_9728, zI_11784, zI_61440, zI_65536, zI_470536, zI_999999, zI_1000000, lt_T, lt_F, le_T, le_F, eq_T, eq_F, neg_1, cn_m1p, cn_m11, nI_add, cn_sub, pk_mul, cn_div, cn_irm, cn_lt, cn_eq, cn_ltm1, cn_m1lt, cn_eqm1, cn_m1eq, cn_ix, cn_inb, cn_ninb, cn_irs, cn_ils, cn_and, cn_or, cn_xor, grd_t, grd_bt, grd_bl, Nat.add_zero, Nat.zero_add, Nat.reduceAdd, Nat.reduceSub, Nat.reduceMul, Nat.reduceLT, Nat.reduceEqDiff, eq_self, true_and, and_true, and_false, false_and, if_true, if_false, and_self, Bool.true_eq_false, Bool.false_eq_true, Option.bind_some]
      exact Ok_some ⟨g1, F⟩
  obtain ⟨x, e0, e1, e2⟩ := hl
  exact ⟨x, e0, e1, e2⟩
theorem P_order (hN : 10000 ≤ N) : Pure_8 Inv N := by
  rintro a s t ⟨A, H, pa, se, hW, hX, hM, hR⟩
  have hI : Inv s t := ⟨A, H, pa, se, hW, hX, hM, hR⟩
  have hA := hW.1
  have hB := hW.2.1
  obtain ⟨v, hv1, hv2, rfl⟩ := arg_z a
  have q1 := xIsPorter_n (N := N) hA hX.1 ⟨hv1, hv2⟩
  have q2 := mIsPorter_n (N := N) hA hM.1 ⟨hv1, hv2⟩
  by_cases c : 0 ≤ v ∧ v < pP A
  · rw [if_pos c] at q1 q2
    obtain ⟨p, rfl⟩ := Int.eq_ofNat_of_zero_le c.1
    have hp : p < pP A := by omega
    obtain ⟨s1, e1, F1, X1⟩ := orderOf_n (N := N) (Or.inl rfl) hA hB hX.1 hX.2.2.1 hX.2.2.2.1 hp (by omega)
    obtain ⟨t1, e2, F2⟩ := mOrderOf_n (N := N) hA hB hM.1 hM.2.2.1.1 hp (by omega)
    rw [zi_nI] at q1 q2 ⊢
    refine ⟨nI (ordS A H p), s1, t1, ?_, ?_, Inv_q hW hX hM hR F1 X1 (Fr_w F2 (by decide))⟩
    · simp (disch := first | omega | decide) only [f_X_order, q1, Option.bind_some, e1, zI_0, zI_1, zI_2, zI_3, zI_4, zI_5, zI_6, zI_7, zI_8, zI_9, zI_10, zI_11, zI_12, zI_13, zI_14, zI_15, zI_16, zI_17, zI_18, zI_19, zI_20, zI_21, zI_22, zI_23, zI_24, zI_25, zI_26, zI_27, zI_28, zI_29, zI_30, zI_31, zI_32, zI_33, zI_34, zI_35, zI_36, zI_37, zI_38, zI_39, zI_40, zI_41, zI_42, zI_43, zI_44, zI_45, zI_46, zI_47, zI_48, zI_49, zI_50, zI_51, zI_52, zI_53, zI_54, zI_55, zI_56, zI_57, zI_58, zI_59, zI_60, zI_61, zI_62, zI_63, zI_64, zI_65, zI_66, zI_67, zI_74, zI_84, zI_85, zI_88, zI_91, zI_93, zI_97, zI_99, zI_100, zI_102, zI_105, zI_117, zI_122, zI_193, zI_202, zI_205, zI_251, zI_255, zI_256, zI_257, zI_258, zI_259, zI_260, zI_640, zI_999, zI_1000, zI_1024, zI_1600, zI_1602, zI_1700, zI_2040, zI_3200, zI_4100, zI_9728, zI_11784, zI_61440, zI_65536, zI_470536, zI_999999, zI_1000000, lt_T, lt_F, le_T, le_F, eq_T, eq_F, neg_1, cn_m1p, cn_m11, nI_add, cn_sub, pk_mul, cn_div, cn_irm, cn_lt, cn_eq, cn_ltm1, cn_m1lt, cn_eqm1, cn_m1eq, cn_ix, cn_inb, cn_ninb, cn_irs, cn_ils, cn_and, cn_or, cn_xor, grd_t, grd_bt, grd_bl, Nat.add_zero, Nat.zero_add, Nat.reduceAdd, Nat.reduceSub, Nat.reduceMul, Nat.reduceLT, Nat.reduceEqDiff, eq_self, true_and, and_true, and_false, false_and, if_true, if_false, and_self, Bool.true_eq_false, Bool.false_eq_true]
    · simp (disch := first | omega | decide) only [f_M_order, q2, Option.bind_some, e2, zI_0, zI_1, zI_2, zI_3, zI_4, zI_5, zI_6, zI_7, zI_8, zI_9, zI_10, zI_11, zI_12, zI_13, zI_14, zI_15, zI_16, zI_17, zI_18, zI_19, zI_20, zI_21, zI_22, zI_23, zI_24, zI_25, zI_26, zI_27, zI_28, zI_29, zI_30, zI_31, zI_32, zI_33, zI_34, zI_35, zI_36, zI_37, zI_38, zI_39, zI_40, zI_41, zI_42, zI_43, zI_44, zI_45, zI_46, zI_47, zI_48, zI_49, zI_50, zI_51, zI_52, zI_53, zI_54, zI_55, zI_56, zI_57, zI_58, zI_59, zI_60, zI_61, zI_62, zI_63, zI_64, zI_65, zI_66, zI_67, zI_74, zI_84, zI_85, zI_88, zI_91, zI_93, zI_97, zI_99, zI_100, zI_102, zI_105, zI_117, zI_122, zI_193, zI_202, zI_205, zI_251, zI_255, zI_256, zI_257, zI_258, zI_259, zI_260, zI_640, zI_999, zI_1000, zI_1024, zI_1600, zI_1602, zI_1700, zI_2040, zI_3200, zI_4100, zI_9728, zI_11784, zI_61440, zI_65536, zI_470536, zI_999999, zI_1000000, lt_T, lt_F, le_T, le_F, eq_T, eq_F, neg_1, cn_m1p, cn_m11, nI_add, cn_sub, pk_mul, cn_div, cn_irm, cn_lt, cn_eq, cn_ltm1, cn_m1lt, cn_eqm1, cn_m1eq, cn_ix, cn_inb, cn_ninb, cn_irs, cn_ils, cn_and, cn_or, cn_xor, grd_t, grd_bt, grd_bl, Nat.add_zero, Nat.zero_add, Nat.reduceAdd, Nat.reduceSub, Nat.reduceMul, Nat.reduceLT, Nat.reduceEqDiff, eq_self, true_and, and_true, and_false, false_and, if_true, if_false, and_self, Bool.true_eq_false, Bool.false_eq_true]
  · rw [if_neg c] at q1 q2
    refine ⟨-1, s, t, ?_, ?_, hI⟩
    · simp only [f_X_order, q1, Option.bind_some]; rfl
    · simp only [f_M_order, q2, Option.bind_some]; rfl
theorem P_porter (hN : 10000 ≤ N) : Pure_7 Inv N := by
  rintro a b s t ⟨A, H, pa, se, hW, hX, hM, hR⟩
  have hI : Inv s t := ⟨A, H, pa, se, hW, hX, hM, hR⟩
  have hA := hW.1
  have hB := hW.2.1
  have hp10 := hA.2.1
  obtain ⟨v, hv1, hv2, rfl⟩ := arg_z a
  have q1 := xIsPorter_n (N := N) hA hX.1 ⟨hv1, hv2⟩
  have q2 := mIsPorter_n (N := N) hA hM.1 ⟨hv1, hv2⟩
  by_cases c : 0 ≤ v ∧ v < pP A
  · rw [if_pos c] at q1 q2
    obtain ⟨p, rfl⟩ := Int.eq_ofNat_of_zero_le c.1
    have hp : p < pP A := by omega
    rw [zi_nI] at q1 q2 ⊢
    have i0 : (nI 1 = 0) = False := eq_false (by decide)
    by_cases c0 : b = 0
    · subst c0
      have r : gA s 20 (52 + p) = nI (H.1 (52 + p)) := hX.2.2.1.1 (52 + p) (by omega)
      have r2 := hM.2.2.1.1.2.2.2 p (by omega)
      refine ⟨nI (H.1 (52 + p)), s, t, ?_, ?_, hI⟩
      · simp (disch := first | omega | decide) only [f_X_porter, q1, Option.bind_some, i0, if_false, if_true, show (52 : Int32) = nI 52 from rfl, nI_add, cn_inb, cn_ix, grd_t, r]
      · simp (disch := first | omega | decide) only [f_M_porter, q2, Option.bind_some, i0, if_false, if_true, show (74 : Int32) = nI 74 from rfl, nI_add, cn_inb, cn_ix, grd_t, r2]
    · by_cases c1 : b = 1
      · obtain ⟨s1, e1, F1, X1⟩ := orderOf_n (N := N) (Or.inl rfl) hA hB hX.1 hX.2.2.1 hX.2.2.2.1 hp (by omega)
        obtain ⟨t1, e2, F2⟩ := mOrderOf_n (N := N) hA hB hM.1 hM.2.2.1.1 hp (by omega)
        have hol : ordS A H p < 16777216 := Nat.lt_of_lt_of_le (ordN_lt _ _ _ _) (pw_le hA.1)
        refine ⟨nI (pc (ordS A H p)), s1, t1, ?_, ?_, Inv_q hW hX hM hR F1 X1 (Fr_w F2 (by decide))⟩
        · simp only [f_X_porter, q1, Option.bind_some, i0, if_false, c0, e1]
          rw [if_pos c1, bitCount_n N s1 hol]; rfl
        · simp only [f_M_porter, q2, Option.bind_some, i0, if_false, c0, e2]
          rw [if_pos c1, M_bits_n t1 (by omega) hol]; rfl
      · by_cases c2 : b = 2
        · obtain ⟨s1, e1, F1⟩ := isWilling_n (N := N) (Or.inl rfl) hA hB hX.1 hX.2.2.1 hp (by omega)
          obtain ⟨t1, e2, F2⟩ := mDoesWalk_n (N := N) hA hB hM.1 hM.2.2.1.1 hp (by omega)
          refine ⟨nI (if willS A H p then 1 else 0), s1, t1, ?_, ?_, Inv_q hW hX hM hR (Fr_w F1 (by decide)) (XO_fr F1 (by decide) (by decide) hX.2.2.2.1) (Fr_w F2 (by decide))⟩
          · simp only [f_X_porter, q1, Option.bind_some, i0, if_false, c0, c1, e1]
            rw [if_pos c2]
            cases willS A H p <;> rfl
          · simp only [f_M_porter, q2, Option.bind_some, i0, if_false, c0, c1, e2]
            rw [if_pos c2]
            cases willS A H p <;> rfl
        · refine ⟨-1, s, t, ?_, ?_, hI⟩
          · simp only [f_X_porter, q1, Option.bind_some, i0, if_false, c0, c1, c2]
          · simp only [f_M_porter, q2, Option.bind_some, i0, if_false, c0, c1, c2]
  · rw [if_neg c] at q1 q2
    refine ⟨-1, s, t, ?_, ?_, hI⟩
    · simp only [f_X_porter, q1, Option.bind_some]; rfl
    · simp only [f_M_porter, q2, Option.bind_some]; rfl
end OPS2
