/-! IMAGE -/
def imB (A : pL) (H : hL) (k : Nat) : Nat :=
  if k = 0 then H.1 0 / 256 else if k = 1 then H.1 0 % 256 else if k = 2 then H.1 1 / 65536 else if k = 3 then H.1 1 % 65536 / 256 else if k = 4 then H.1 1 % 65536 % 256
  else if k < 5 + 3 * pD A then (if (k - 5) % 3 = 0 then (if (H.1 2).testBit ((k - 5) / 3) then 1 else 0) else if (k - 5) % 3 = 1 then H.1 (4 + (k - 5) / 3) else H.1 (28 + (k - 5) / 3))
  else H.1 (52 + (k - 5 - 3 * pD A))
def ckS (f : Nat → Nat) (n : Nat) : Nat := itN (fun k c => (3 * c + f k) % 251) n 193
theorem ckS_lt (f : Nat → Nat) : ∀ n, ckS f n < 256
  | 0 => (by decide : 193 < 256)
  | n + 1 => by
    show (3 * ckS f n + f n) % 251 < 256
    have := Nat.mod_lt (3 * ckS f n + f n) (show 0 < 251 by omega)
    omega
section IMAGE
variable {N : Nat} {A : pL} {H : hL} {pa : Nat × (Nat → hL)} {se : Nat × (Nat → Nat × Bool)} {s s' t t' : mS}
theorem xChk_n {o L n : Nat} {f : Nat → Nat} (ho : (o = 40 ∧ L = 88) ∨ (o = 1 ∧ L = 1600)) (hn : n ≤ L) (hf : ∀ k, k < n → f k < 256 ∧ gA s o k = nI (f k)) (hN : 10000 ≤ N) : f_X_checkOf N o (nI n) s = some (nI (ckS f n), s) := by
  have q : isA Sx o = true ∧ alA Sx o = L ∧ aln Sx 0 o = L := by
    rcases ho with ⟨rfl, rfl⟩ | ⟨rfl, rfl⟩ <;> decide +kernel
  have hL : L ≤ 1600 := by rcases ho with h | h <;> omega
  have eL : Int32.ofNat L = nI L := rfl
  have hl : Ok (mfix N (f_X_checkOf_L6 N) (o, nI n, nI 193, nI 0, s)) (fun r => r = (nI (ckS f n), s)) := by
    refine mfix_up (fun i x => x = (o, nI n, nI (ckS f i), nI i, s)) n ?_ ?_ N 0 _ rfl (Nat.zero_le _) (by omega)
    · rintro i k x hi hx hk
      rw [hx]
      obtain ⟨h1, h2⟩ := hf i hi
      have := ckS_lt f i
      simp (disch := first | omega | decide) only [f_X_checkOf_L6, q.1, q.2.1, q.2.2, eL, zI_0, zI_1, zI_2, zI_3, zI_4, zI_5, zI_6, zI_7, zI_8, zI_9, zI_10, zI_11, zI_12, zI_13, zI_14, zI_15, zI_16, zI_17, zI_18, zI_19, zI_20, zI_21, zI_22, zI_23, zI_24, zI_25, zI_26, zI_27, zI_28, zI_29, zI_30, zI_31, zI_32, zI_33, zI_34, zI_35, zI_36, zI_37, zI_38, zI_39, zI_40, zI_41, zI_42, zI_43, zI_44, zI_45, zI_46, zI_47, zI_48, zI_49, zI_50, zI_51, zI_52, zI_53, zI_54, zI_55, zI_56, zI_57, zI_58, zI_59, zI_60, zI_61, zI_62, zI_63, zI_64, zI_65, zI_66, zI_67, zI_74, zI_84, zI_85, zI_88, zI_91, zI_93, zI_97, zI_99, zI_100, zI_102, zI_105, zI_117, zI_122, zI_193, zI_202, zI_205, zI_251, zI_255, zI_256, zI_257, zI_258, zI_259, zI_260, zI_640, zI_999, zI_1000, zI_1024, zI_1600, zI_1602, zI_1700, zI_2040, zI_3200, zI_4100, zI_9728, zI_11784, zI_61440, zI_65536, zI_470536, zI_999999, zI_1000000, lt_T, lt_F, le_T, le_F, eq_T, eq_F, neg_1, cn_m1p, cn_m11, nI_add, cn_sub, pk_mul, cn_div, cn_irm, cn_lt, cn_eq, cn_ltm1, cn_m1lt, cn_eqm1, cn_m1eq, cn_ix, cn_inb, cn_ninb, cn_irs, cn_ils, cn_and, cn_or, cn_xor, grd_t, grd_bt, grd_bl, Nat.add_zero, Nat.zero_add, Nat.reduceAdd, Nat.reduceSub, Nat.reduceMul, Nat.reduceLT, Nat.reduceEqDiff, eq_self, true_and, and_true, and_false, false_and, if_true, if_false, and_self, Bool.true_eq_false, Bool.false_eq_true, h2]
      exact hk _ rfl
    · rintro k x hx
      rw [hx]
      simp (disch := first | omega | decide) only [f_X_checkOf_L6, zI_0, zI_1, zI_2, zI_3, zI_4, zI_5, zI_6, zI_7, zI_8, zI_9, zI_10, zI_11, zI_12, zI_13, zI_14, zI_15, zI_16, zI_17, zI_18, zI_19, zI_20, zI_21, zI_22, zI_23, zI_24, zI_25, zI_26, zI_27, zI_28, zI_29, zI_30, zI_31, zI_32, zI_33, zI_34, zI_35, zI_36, zI_37, zI_38, zI_39, zI_40, zI_41, zI_42, zI_43, zI_44, zI_45, zI_46, zI_47, zI_48, zI_49, zI_50, zI_51, zI_52, zI_53, zI_54, zI_55, zI_56, zI_57, zI_58, zI_59, zI_60, zI_61, zI_62, zI_63, zI_64, zI_65, zI_66, zI_67, zI_74, zI_84, zI_85, zI_88, zI_91, zI_93, zI_97, zI_99, zI_100, zI_102, zI_105, zI_117, zI_122, zI_193, zI_202, zI_205, zI_251, zI_255, zI_256, zI_257, zI_258, zI_259, zI_260, zI_640, zI_999, zI_1000, zI_1024, zI_1600, zI_1602, zI_1700, zI_2040, zI_3200, zI_4100, zI_9728, zI_11784, zI_61440, zI_65536, zI_470536, zI_999999, zI_1000000, lt_T, lt_F, le_T, le_F, eq_T, eq_F, neg_1, cn_m1p, cn_m11, nI_add, cn_sub, pk_mul, cn_div, cn_irm, cn_lt, cn_eq, cn_ltm1, cn_m1lt, cn_eqm1, cn_m1eq, cn_ix, cn_inb, cn_ninb, cn_irs, cn_ils, cn_and, cn_or, cn_xor, grd_t, grd_bt, grd_bl, Nat.add_zero, Nat.zero_add, Nat.reduceAdd, Nat.reduceSub, Nat.reduceMul, Nat.reduceLT, Nat.reduceEqDiff, eq_self, true_and, and_true, and_false, false_and, if_true, if_false, and_self, Bool.true_eq_false, Bool.false_eq_true]
      exact Ok_some rfl
  obtain ⟨x, x1, x2⟩ := hl
  unfold f_X_checkOf
  rw [zI_0, zI_193, x1, x2]
theorem mChk_n {o L n : Nat} {f : Nat → Nat} (ho : (o = 67 ∧ L = 88) ∨ (o = 1 ∧ L = 1600)) (hn : n ≤ L) (hf : ∀ k, k < n → f k < 256 ∧ gA t o k = nI (f k)) (hN : 10000 ≤ N) : f_M_checked N o (nI n) t = some (nI (ckS f n), t) := by
  have q : aln Sm 0 o = L := by
    rcases ho with ⟨rfl, rfl⟩ | ⟨rfl, rfl⟩ <;> decide +kernel
  have hL : L ≤ 1600 := by rcases ho with h | h <;> omega
  have hl : Ok (mfix N (f_M_checked_L6 N) (o, nI n, nI 193, nI 0, t)) (fun r => r = (nI (ckS f n), t)) := by
    refine mfix_up (fun i x => x = (o, nI n, nI (ckS f i), nI i, t)) n ?_ ?_ N 0 _ rfl (Nat.zero_le _) (by omega)
    · rintro i k x hi hx hk
      rw [hx]
      obtain ⟨h1, h2⟩ := hf i hi
      have := ckS_lt f i
      simp (disch := first | omega | decide) only [f_M_checked_L6, q, zI_0, zI_1, zI_2, zI_3, zI_4, zI_5, zI_6, zI_7, zI_8, zI_9, zI_10, zI_11, zI_12, zI_13, zI_14, zI_15, zI_16, zI_17, zI_18, zI_19, zI_20, zI_21, zI_22, zI_23, zI_24, zI_25, zI_26, zI_27, zI_28, zI_29, zI_30, zI_31, zI_32, zI_33, zI_34, zI_35, zI_36, zI_37, zI_38, zI_39, zI_40, zI_41, zI_42, zI_43, zI_44, zI_45, zI_46, zI_47, zI_48, zI_49, zI_50, zI_51, zI_52, zI_53, zI_54, zI_55, zI_56, zI_57, zI_58, zI_59, zI_60, zI_61, zI_62, zI_63, zI_64, zI_65, zI_66, zI_67, zI_74, zI_84, zI_85, zI_88, zI_91, zI_93, zI_97, zI_99, zI_100, zI_102, zI_105, zI_117, zI_122, zI_193, zI_202, zI_205, zI_251, zI_255, zI_256, zI_257, zI_258, zI_259, zI_260, zI_640, zI_999, zI_1000, zI_1024, zI_1600, zI_1602, zI_1700, zI_2040, zI_3200, zI_4100, zI_9728, zI_11784, zI_61440, zI_65536, zI_470536, zI_999999, zI_1000000, lt_T, lt_F, le_T, le_F, eq_T, eq_F, neg_1, cn_m1p, cn_m11, nI_add, cn_sub, pk_mul, cn_div, cn_irm, cn_lt, cn_eq, cn_ltm1, cn_m1lt, cn_eqm1, cn_m1eq, cn_ix, cn_inb, cn_ninb, cn_irs, cn_ils, cn_and, cn_or, cn_xor, grd_t, grd_bt, grd_bl, Nat.add_zero, Nat.zero_add, Nat.reduceAdd, Nat.reduceSub, Nat.reduceMul, Nat.reduceLT, Nat.reduceEqDiff, eq_self, true_and, and_true, and_false, false_and, if_true, if_false, and_self, Bool.true_eq_false, Bool.false_eq_true, h2]
      exact hk _ rfl
    · rintro k x hx
      rw [hx]
      simp (disch := first | omega | decide) only [f_M_checked_L6, zI_0, zI_1, zI_2, zI_3, zI_4, zI_5, zI_6, zI_7, zI_8, zI_9, zI_10, zI_11, zI_12, zI_13, zI_14, zI_15, zI_16, zI_17, zI_18, zI_19, zI_20, zI_21, zI_22, zI_23, zI_24, zI_25, zI_26, zI_27, zI_28, zI_29, zI_30, zI_31, zI_32, zI_33, zI_34, zI_35, zI_36, zI_37, zI_38, zI_39, zI_40, zI_41, zI_42, zI_43, zI_44, zI_45, zI_46, zI_47, zI_48, zI_49, zI_50, zI_51, zI_52, zI_53, zI_54, zI_55, zI_56, zI_57, zI_58, zI_59, zI_60, zI_61, zI_62, zI_63, zI_64, zI_65, zI_66, zI_67, zI_74, zI_84, zI_85, zI_88, zI_91, zI_93, zI_97, zI_99, zI_100, zI_102, zI_105, zI_117, zI_122, zI_193, zI_202, zI_205, zI_251, zI_255, zI_256, zI_257, zI_258, zI_259, zI_260, zI_640, zI_999, zI_1000, zI_1024, zI_1600, zI_1602, zI_1700, zI_2040, zI_3200, zI_4100, zI_9728, zI_11784, zI_61440, zI_65536, zI_470536, zI_999999, zI_1000000, lt_T, lt_F, le_T, le_F, eq_T, eq_F, neg_1, cn_m1p, cn_m11, nI_add, cn_sub, pk_mul, cn_div, cn_irm, cn_lt, cn_eq, cn_ltm1, cn_m1lt, cn_eqm1, cn_m1eq, cn_ix, cn_inb, cn_ninb, cn_irs, cn_ils, cn_and, cn_or, cn_xor, grd_t, grd_bt, grd_bl, Nat.add_zero, Nat.zero_add, Nat.reduceAdd, Nat.reduceSub, Nat.reduceMul, Nat.reduceLT, Nat.reduceEqDiff, eq_self, true_and, and_true, and_false, false_and, if_true, if_false, and_self, Bool.true_eq_false, Bool.false_eq_true]
      exact Ok_some rfl
  obtain ⟨x, x1, x2⟩ := hl
  unfold f_M_checked
  rw [zI_0, zI_193, x1, x2]
/-- so many bytes are written, by f -/
def WrX (f : Nat → Nat) (n : Nat) (s0 s : mS) : Prop := gI s 14 0 = nI n ∧ (∀ k, k < n → gA s 40 k = nI (f k)) ∧ Fr [11400, 40] s0 s
def WrM (f : Nat → Nat) (n : Nat) (t0 t : mS) : Prop := gI t 1098 0 = nI n ∧ (∀ k, k < n → gA t 67 k = nI (f k)) ∧ Fr [119800, 67] t0 t
theorem xWr_n {f : Nat → Nat} {n v m : Nat} {s0 : mS} (h : WrX f n s0 s) (hm : 1 ≤ m ∧ m ≤ 3) (hv : v < 16777216) (hn : n + m ≤ 88) (hf : ∀ i, i < m → f (n + i) = v >>> (8 * m - 8 - 8 * i) &&& 255) (hN : 10000 ≤ N) :
    ∃ s', f_X_write N (nI v) (nI m) s = some s' ∧ WrX f (n + m) s0 s' := by
  have hl : Ok (mfix N (f_X_write_L8 N) (nI v, nI (8 * m - 8), s)) (WrX f (n + m) s0) := by
    refine mfix_up (fun i x => ∃ s1, x = (nI v, (if i = m then nI 0 - nI 8 else nI (8 * m - 8 - 8 * i)), s1) ∧ WrX f (n + i) s0 s1) m ?_ ?_ N 0 _ ⟨s, by rw [if_neg (by omega)]; rfl, h⟩ (Nat.zero_le _) (by omega)
    · rintro i k x hi ⟨s1, rfl, g1, g2, F⟩ hk
      rw [if_neg (by omega)]
      have e : nI (8 * m - 8 - 8 * i) - nI 8 = if i + 1 = m then nI 0 - nI 8 else nI (8 * m - 8 - 8 * (i + 1)) := by
        by_cases c : i + 1 = m
        · rw [if_pos c, show 8 * m - 8 - 8 * i = 0 by omega]
        · rw [if_neg c, cn_sub (by omega), show 8 * m - 8 - 8 * i - 8 = 8 * m - 8 - 8 * (i + 1) by omega]
      have hfi := hf i hi
      have e2 : irs (nI v) (nI (8 * m - 8 - 8 * i)) &&& nI 255 = nI (f (n + i)) := by
        rw [cn_irs ⟨by omega, by omega⟩, cn_and, hfi]
      simp (disch := first | omega | decide) only [f_X_write_L8, zI_0, zI_1, zI_2, zI_3, zI_4, zI_5, zI_6, zI_7, zI_8, zI_9, zI_10, zI_11, zI_12, zI_13, zI_14, zI_15, zI_16, zI_17, zI_18, zI_19, zI_20, zI_21, zI_22, zI_23, zI_24, zI_25, zI_26, zI_27, zI_28, zI_29, zI_30, zI_31, zI_32, zI_33, zI_34, zI_35, zI_36, zI_37, zI_38, zI_39, zI_40, zI_41, zI_42, zI_43, zI_44, zI_45, zI_46, zI_47, zI_48, zI_49, zI_50, zI_51, zI_52, zI_53, zI_54, zI_55, zI_56, zI_57, zI_58, zI_59, zI_60, zI_61, zI_62, zI_63, zI_64, zI_65, zI_66, zI_67, zI_74, zI_84, zI_85, zI_88, zI_91, zI_93, zI_97, zI_99, zI_100, zI_102, zI_105, zI_117, zI_122, zI_193, zI_202, zI_205, zI_251, zI_255, zI_256, zI_257, zI_258, zI_259, zI_260, zI_640, zI_999, zI_1000, zI_1024, zI_1600, zI_1602, zI_1700, zI_2040, zI_3200, zI_4100, zI_9728, zI_11784, zI_61440, zI_65536, zI_470536, zI_999999, zI_1000000, cn_lt, lt_F, lt_T, Nat.reduceAdd, Nat.reduceSub, Nat.reduceMul, Nat.reduceLT, Nat.reduceEqDiff, eq_self, true_and, and_true, and_false, false_and, if_true, if_false, and_self, Bool.true_eq_false, Bool.false_eq_true, g1, cn_inb, cn_ix, grd_t, grd_bt, e2, gI_sI, gI_sA, gI_sL, gI_sQ, gI_sC, gI_sO, gI_sD, gA_sI, gA_sL, gA_sQ, gA_sO, gA_sD, gL_sI, gL_sA, gL_sQ, gL_sC, gL_sO, gL_sD, gQ_sI, gQ_sA, gQ_sL, gQ_sC, gQ_sO, gO_sI, gO_sA, gO_sL, gO_sQ, gO_sC, gO_sO, gO_sD, gA_eq, gA_ne, gQ_eq, gQ_ne, gL_sL, gA_cin, gA_cou, gQ_cin, gQ_cou, nI_add]
      refine hk _ ⟨_, by rw [← e], by simp (disch := first | omega | decide) only [gI_sI, gI_sA, gI_sL, gI_sQ, gI_sC, gI_sO, gI_sD, gA_sI, gA_sL, gA_sQ, gA_sO, gA_sD, gL_sI, gL_sA, gL_sQ, gL_sC, gL_sO, gL_sD, gQ_sI, gQ_sA, gQ_sL, gQ_sC, gQ_sO, gO_sI, gO_sA, gO_sL, gO_sQ, gO_sC, gO_sO, gO_sD, gA_eq, gA_ne, gQ_eq, gQ_ne, gL_sL, gA_cin, gA_cou, gQ_cin, gQ_cou, Nat.reduceAdd, Nat.reduceSub, Nat.reduceMul, Nat.reduceLT, Nat.reduceEqDiff, eq_self, true_and, and_true, and_false, false_and, if_true, if_false, and_self, Bool.true_eq_false, Bool.false_eq_true, Nat.add_assoc], fun j hj => ?_, Fr_t F (Fr_t (Fr_sA _ _ _ (by decide)) (Fr_sI _ _ _ (by decide)))⟩
      rw [gA_sI]
      by_cases c : j = n + i
      · rw [c, gA_eq rfl]
      · rw [gA_ne (by omega)]; exact g2 j (by omega)
    · rintro k x ⟨s1, rfl, g1, g2, F⟩
      have e : (nI 0 - nI 8 < nI 0) = True := eq_true (by decide)
      simp (disch := first | omega | decide) only [f_X_write_L8, zI_0, if_true, e]
      exact Ok_some ⟨g1, g2, F⟩
  obtain ⟨x, x1, x2⟩ := hl
  refine ⟨x, ?_, x2⟩
  simp (disch := first | omega | decide) only [f_X_write, zI_0, zI_1, zI_2, zI_3, zI_4, zI_5, zI_6, zI_7, zI_8, zI_9, zI_10, zI_11, zI_12, zI_13, zI_14, zI_15, zI_16, zI_17, zI_18, zI_19, zI_20, zI_21, zI_22, zI_23, zI_24, zI_25, zI_26, zI_27, zI_28, zI_29, zI_30, zI_31, zI_32, zI_33, zI_34, zI_35, zI_36, zI_37, zI_38, zI_39, zI_40, zI_41, zI_42, zI_43, zI_44, zI_45, zI_46, zI_47, zI_48, zI_49, zI_50, zI_51, zI_52, zI_53, zI_54, zI_55, zI_56, zI_57, zI_58, zI_59, zI_60, zI_61, zI_62, zI_63, zI_64, zI_65, zI_66, zI_67, zI_74, zI_84, zI_85, zI_88, zI_91, zI_93, zI_97, zI_99, zI_100, zI_102, zI_105, zI_117, zI_122, zI_193, zI_202, zI_205, zI_251, zI_255, zI_256, zI_257, zI_258, zI_259, zI_260, zI_640, zI_999, zI_1000, zI_1024, zI_1600, zI_1602, zI_1700, zI_2040, zI_3200, zI_4100, zI_9728, zI_11784, zI_61440, zI_65536, zI_470536, zI_999999, zI_1000000, pk_mul, cn_sub]
  exact x1
theorem mWr_n {f : Nat → Nat} {n v : Nat} {t0 : mS} (h : WrM f n t0 t) (hn : n < 88) (hf : f n = v) : ∃ t', f_M_writes N (nI v) t = some t' ∧ WrM f (n + 1) t0 t' := by
  obtain ⟨g1, g2, F⟩ := h
  refine ⟨sI (sA t 67 n (nI v)) 1098 0 (nI (n + 1)), ?_, by simp (disch := first | omega | decide) only [gI_sI, gI_sA, gI_sL, gI_sQ, gI_sC, gI_sO, gI_sD, gA_sI, gA_sL, gA_sQ, gA_sO, gA_sD, gL_sI, gL_sA, gL_sQ, gL_sC, gL_sO, gL_sD, gQ_sI, gQ_sA, gQ_sL, gQ_sC, gQ_sO, gO_sI, gO_sA, gO_sL, gO_sQ, gO_sC, gO_sO, gO_sD, gA_eq, gA_ne, gQ_eq, gQ_ne, gL_sL, gA_cin, gA_cou, gQ_cin, gQ_cou, Nat.reduceAdd, Nat.reduceSub, Nat.reduceMul, Nat.reduceLT, Nat.reduceEqDiff, eq_self, true_and, and_true, and_false, false_and, if_true, if_false, and_self, Bool.true_eq_false, Bool.false_eq_true], fun j hj => ?_, Fr_t F (Fr_t (Fr_sA _ _ _ (by decide)) (Fr_sI _ _ _ (by decide)))⟩
  · simp (disch := first | omega | decide) only [f_M_writes, g1, zI_0, zI_1, zI_2, zI_3, zI_4, zI_5, zI_6, zI_7, zI_8, zI_9, zI_10, zI_11, zI_12, zI_13, zI_14, zI_15, zI_16, zI_17, zI_18, zI_19, zI_20, zI_21, zI_22, zI_23, zI_24, zI_25, zI_26, zI_27, zI_28, zI_29, zI_30, zI_31, zI_32, zI_33, zI_34, zI_35, zI_36, zI_37, zI_38, zI_39, zI_40, zI_41, zI_42, zI_43, zI_44, zI_45, zI_46, zI_47, zI_48, zI_49, zI_50, zI_51, zI_52, zI_53, zI_54, zI_55, zI_56, zI_57, zI_58, zI_59, zI_60, zI_61, zI_62, zI_63, zI_64, zI_65, zI_66, zI_67, zI_74, zI_84, zI_85, zI_88, zI_91, zI_93, zI_97, zI_99, zI_100, zI_102, zI_105, zI_117, zI_122, zI_193, zI_202, zI_205, zI_251, zI_255, zI_256, zI_257, zI_258, zI_259, zI_260, zI_640, zI_999, zI_1000, zI_1024, zI_1600, zI_1602, zI_1700, zI_2040, zI_3200, zI_4100, zI_9728, zI_11784, zI_61440, zI_65536, zI_470536, zI_999999, zI_1000000, lt_T, lt_F, le_T, le_F, eq_T, eq_F, neg_1, cn_m1p, cn_m11, nI_add, cn_sub, pk_mul, cn_div, cn_irm, cn_lt, cn_eq, cn_ltm1, cn_m1lt, cn_eqm1, cn_m1eq, cn_ix, cn_inb, cn_ninb, cn_irs, cn_ils, cn_and, cn_or, cn_xor, grd_t, grd_bt, grd_bl, Nat.add_zero, Nat.zero_add, Nat.reduceAdd, Nat.reduceSub, Nat.reduceMul, Nat.reduceLT, Nat.reduceEqDiff, eq_self, true_and, and_true, and_false, false_and, if_true, if_false, and_self, Bool.true_eq_false, Bool.false_eq_true, gI_sI, gI_sA, gI_sL, gI_sQ, gI_sC, gI_sO, gI_sD, gA_sI, gA_sL, gA_sQ, gA_sO, gA_sD, gL_sI, gL_sA, gL_sQ, gL_sC, gL_sO, gL_sD, gQ_sI, gQ_sA, gQ_sL, gQ_sC, gQ_sO, gO_sI, gO_sA, gO_sL, gO_sQ, gO_sC, gO_sO, gO_sD, gA_eq, gA_ne, gQ_eq, gQ_ne, gL_sL, gA_cin, gA_cou, gQ_cin, gQ_cou]
  · rw [gA_sI]
    by_cases c : j = n
    · rw [c, gA_eq rfl, hf]
    · rw [gA_ne (by omega)]; exact g2 j (by omega)
theorem imB_lt (hA : WA A) (hB : HB A H) {k : Nat} (hk : k < 5 + 3 * pD A + pP A) : imB A H k < 256 := by
  have hD := hA.1
  have hp := hA.2.1
  have h0 := hB.1
  have h1 := hB.2.1
  unfold imB
  split
  · omega
  · split
    · omega
    · split
      · omega
      · split
        · omega
        · split
          · omega
          · split
            · split
              · split <;> omega
              · split
                · have := hB.2.2.2.2.1 ((k - 5) / 3) (by omega); omega
                · have := hB.2.2.2.2.2.1 ((k - 5) / 3) (by omega); omega
            · have := hB.2.2.2.2.2.2.1 (k - 5 - 3 * pD A) (by omega); omega
theorem imB_d (A : pL) (H : hL) {d : Nat} (hd : d < pD A) : imB A H (5 + 3 * d) = (if (H.1 2).testBit d then 1 else 0) ∧ imB A H (6 + 3 * d) = H.1 (4 + d) ∧ imB A H (7 + 3 * d) = H.1 (28 + d) := by
  refine ⟨?_, ?_, ?_⟩
  · unfold imB
    rw [if_neg (by omega), if_neg (by omega), if_neg (by omega), if_neg (by omega), if_neg (by omega), if_pos (by omega), if_pos (by omega), show (5 + 3 * d - 5) / 3 = d by omega]
  · unfold imB
    rw [if_neg (by omega), if_neg (by omega), if_neg (by omega), if_neg (by omega), if_neg (by omega), if_pos (by omega), if_neg (by omega), if_pos (by omega), show (6 + 3 * d - 5) / 3 = d by omega]
  · unfold imB
    rw [if_neg (by omega), if_neg (by omega), if_neg (by omega), if_neg (by omega), if_neg (by omega), if_pos (by omega), if_neg (by omega), if_neg (by omega), show (7 + 3 * d - 5) / 3 = d by omega]
theorem imB_p (A : pL) (H : hL) (p : Nat) : imB A H (5 + 3 * pD A + p) = H.1 (52 + p) := by
  unfold imB
  rw [if_neg (by omega), if_neg (by omega), if_neg (by omega), if_neg (by omega), if_neg (by omega), if_neg (by omega), show 5 + 3 * pD A + p - 5 - 3 * pD A = p by omega]
def imC (A : pL) (H : hL) (k : Nat) : Nat := if k = 5 + 3 * pD A + pP A then ckS (imB A H) k else imB A H k
theorem ckS_cong {f g : Nat → Nat} (n : Nat) (h : ∀ k, k < n → f k = g k) : ckS f n = ckS g n := by
  unfold ckS
  exact itN_cong n fun i x hi => by rw [h i hi]
theorem imC_b (A : pL) (H : hL) {k : Nat} (h : k < 5 + 3 * pD A + pP A) : imC A H k = imB A H k := if_neg (by omega)
theorem imC_c (A : pL) (H : hL) : imC A H (5 + 3 * pD A + pP A) = ckS (imC A H) (5 + 3 * pD A + pP A) := by
  unfold imC
  rw [if_pos rfl]
  exact ckS_cong _ fun k hk => (if_neg (by omega)).symm
theorem xIm_n (hA : WA A) (hB : HB A H) (hP : XP A s) (hR : HR 19 H s) (hN : 10000 ≤ N) : ∃ s', f_X_image N s = some (nI (6 + 3 * pD A + pP A), s') ∧ WrX (imC A H) (6 + 3 * pD A + pP A) s s' := by
  have hD := hA.1
  have hp := hA.2.1
  have h0 := hB.1
  have h1 := hB.2.1
  have W0 : WrX (imC A H) 0 s (sI s 14 0 (nI 0)) := ⟨by simp (disch := first | omega | decide) only [gI_sI, gI_sA, gI_sL, gI_sQ, gI_sC, gI_sO, gI_sD, gA_sI, gA_sL, gA_sQ, gA_sO, gA_sD, gL_sI, gL_sA, gL_sQ, gL_sC, gL_sO, gL_sD, gQ_sI, gQ_sA, gQ_sL, gQ_sC, gQ_sO, gO_sI, gO_sA, gO_sL, gO_sQ, gO_sC, gO_sO, gO_sD, gA_eq, gA_ne, gQ_eq, gQ_ne, gL_sL, gA_cin, gA_cou, gQ_cin, gQ_cou, Nat.reduceAdd, Nat.reduceSub, Nat.reduceMul, Nat.reduceLT, Nat.reduceEqDiff, eq_self, true_and, and_true, and_false, false_and, if_true, if_false, and_self, Bool.true_eq_false, Bool.false_eq_true], fun k hk => absurd hk (Nat.not_lt_zero _), Fr_sI _ _ _ (by decide)⟩
  have rr : ∀ {n s1}, WrX (imC A H) n s s1 → ∀ i, i < 62 → gA s1 20 i = nI (H.1 i) := fun W i hi => by rw [W.2.2.A 20 i (by decide)]; exact hR.1 i hi
  have a20 : aln Sx 0 20 = 102 := by decide +kernel
  have b8 : ∀ v k, v >>> k &&& 255 = v / 2 ^ k % 256 := fun v k => by rw [Nat.shiftRight_eq_div_pow]; exact Nat.and_two_pow_sub_one_eq_mod _ 8
  obtain ⟨s1, e1, W1⟩ := xWr_n (N := N) (v := H.1 0) (m := 2) W0 (by omega) (by omega) (by omega) (fun i hi => by
    have : i = 0 ∨ i = 1 := by omega
    rcases this with rfl | rfl
    · rw [b8, imC_b A H (by omega)]
      show H.1 0 / 256 = H.1 0 / 256 % 256
      omega
    · rw [b8, imC_b A H (by omega)]
      show H.1 0 % 256 = H.1 0 / 1 % 256
      omega) hN
  obtain ⟨s2, e2, W2⟩ := xWr_n (N := N) (v := H.1 1) (m := 3) W1 (by omega) (by omega) (by omega) (fun i hi => by
    have : i = 0 ∨ i = 1 ∨ i = 2 := by omega
    rcases this with rfl | rfl | rfl
    · rw [b8, imC_b A H (by omega)]
      show H.1 1 / 65536 = H.1 1 / 65536 % 256
      omega
    · rw [b8, imC_b A H (by omega)]
      show H.1 1 % 65536 / 256 = H.1 1 / 256 % 256
      omega
    · rw [b8, imC_b A H (by omega)]
      show H.1 1 % 65536 % 256 = H.1 1 / 1 % 256
      omega) hN
  have one : ∀ {n v s3}, WrX (imC A H) n s s3 → n < 88 → v < 256 → imC A H n = v → ∃ s4, f_X_write N (nI v) (nI 1) s3 = some s4 ∧ WrX (imC A H) (n + 1) s s4 := fun W hn hv he =>
    xWr_n (m := 1) W (by omega) (by omega) (by omega) (fun i hi => by
      have : i = 0 := by omega
      subst this
      rw [b8]
      show imC A H _ = _ / 1 % 256
      rw [Nat.add_zero, he]; omega) hN
  have hl : Ok (mfix N (f_X_image_L31 N) (20, nI 0, s2)) (fun r => r.1 = nI (6 + 3 * pD A + pP A) ∧ WrX (imC A H) (6 + 3 * pD A + pP A) s r.2) := by
    refine mfix_up (fun i x => ∃ s3, x = (20, nI i, s3) ∧ WrX (imC A H) (5 + 3 * i) s s3) (pD A) ?_ ?_ N 0 _ ⟨s2, rfl, W2⟩ (Nat.zero_le _) (by omega)
    · rintro i k x hi ⟨s3, rfl, W3⟩ hk
      obtain ⟨d1, d2, d3⟩ := imB_d A H hi
      rw [← imC_b A H (by omega)] at d1 d2 d3
      have hP3 := XP_fr W3.2.2 (by decide) hP
      have h4 := hB.2.2.2.2.1 i (by omega)
      have h5 := hB.2.2.2.2.2.1 i (by omega)
      have o := isOpen_n (N := N) (o := 19) (Or.inl rfl) hA hB (HR_fr W3.2.2 (by decide) hR) (show i < 24 by omega)
      rw [b01_i] at o
      obtain ⟨s4, e4, W4⟩ := one W3 (by omega) (by split <;> omega) d1
      obtain ⟨s5, e5, W5⟩ := one (v := H.1 (4 + i)) W4 (by omega) (by omega) (by rw [show 5 + 3 * i + 1 = 6 + 3 * i by omega]; exact d2)
      obtain ⟨s6, e6, W6⟩ := one (v := H.1 (28 + i)) W5 (by omega) (by omega) (by rw [show 5 + 3 * i + 1 + 1 = 7 + 3 * i by omega]; exact d3)
      have r4 := rr W4 (4 + i) (by omega)
      have r5 := rr W5 (28 + i) (by omega)
      simp (disch := first | omega | decide) only [f_X_image_L31, hP3.1, a20, o, e4, e5, e6, r4, r5, zI_0, zI_1, zI_2, zI_3, zI_4, zI_5, zI_6, zI_7, zI_8, zI_9, zI_10, zI_11, zI_12, zI_13, zI_14, zI_15, zI_16, zI_17, zI_18, zI_19, zI_20, zI_21, zI_22, zI_23, zI_24, zI_25, zI_26, zI_27, zI_28, zI_29, zI_30, zI_31, zI_32, zI_33, zI_34, zI_35, zI_36, zI_37, zI_38, zI_39, zI_40, zI_41, zI_42, zI_43, zI_44, zI_45, zI_46, zI_47, zI_48, zI_49, zI_50, zI_51, zI_52, zI_53, zI_54, zI_55, zI_56, zI_57, zI_58, zI_59, zI_60, zI_61, zI_62, zI_63, zI_64, zI_65, zI_66, zI_67, zI_74, zI_84, zI_85, zI_88, zI_91, zI_93, zI_97, zI_99, zI_100, zI_102, zI_105, zI_117, zI_122, zI_193, zI_202, zI_205, zI_251, zI_255, zI_256, zI_257, zI_258, zI_259, zI_260, zI_640, zI_999, zI_1000, zI_1024, zI_1600, zI_1602, zI_1700, zI_2040, zI_3200, zI_4100, zI_9728, zI_11784, zI_61440, zI_65536, zI_470536, zI_999999, zI_1000000, lt_T, lt_F, le_T, le_F, eq_T, eq_F, neg_1, cn_m1p, cn_m11, nI_add, cn_sub, pk_mul, cn_div, cn_irm, cn_lt, cn_eq, cn_ltm1, cn_m1lt, cn_eqm1, cn_m1eq, cn_ix, cn_inb, cn_ninb, cn_irs, cn_ils, cn_and, cn_or, cn_xor, grd_t, grd_bt, grd_bl, Nat.add_zero, Nat.zero_add, Nat.reduceAdd, Nat.reduceSub, Nat.reduceMul, Nat.reduceLT, Nat.reduceEqDiff, eq_self, true_and, and_true, and_false, false_and, if_true, if_false, and_self, Bool.true_eq_false, Bool.false_eq_true, Option.bind_some]
      exact hk _ ⟨s6, rfl, by rw [show 5 + 3 * (i + 1) = 5 + 3 * i + 1 + 1 + 1 by omega]; exact W6⟩
    · rintro k x ⟨s3, rfl, W3⟩
      have hP3 := XP_fr W3.2.2 (by decide) hP
      simp (disch := first | omega | decide) only [f_X_image_L31, hP3.1, zI_0, zI_1, zI_2, zI_3, zI_4, zI_5, zI_6, zI_7, zI_8, zI_9, zI_10, zI_11, zI_12, zI_13, zI_14, zI_15, zI_16, zI_17, zI_18, zI_19, zI_20, zI_21, zI_22, zI_23, zI_24, zI_25, zI_26, zI_27, zI_28, zI_29, zI_30, zI_31, zI_32, zI_33, zI_34, zI_35, zI_36, zI_37, zI_38, zI_39, zI_40, zI_41, zI_42, zI_43, zI_44, zI_45, zI_46, zI_47, zI_48, zI_49, zI_50, zI_51, zI_52, zI_53, zI_54, zI_55, zI_56, zI_57, zI_58, zI_59, zI_60, zI_61, zI_62, zI_63, zI_64, zI_65, zI_66, zI_67, zI_74, zI_84, zI_85, zI_88, zI_91, zI_93, zI_97, zI_99, zI_100, zI_102, zI_105, zI_117, zI_122, zI_193, zI_202, zI_205, zI_251, zI_255, zI_256, zI_257, zI_258, zI_259, zI_260, zI_640, zI_999, zI_1000, zI_1024, zI_1600, zI_1602, zI_1700, zI_2040, zI_3200, zI_4100, zI_9728, zI_11784, zI_61440, zI_65536, zI_470536, zI_999999, zI_1000000, lt_T, lt_F, le_T, le_F, eq_T, eq_F, neg_1, cn_m1p, cn_m11, nI_add, cn_sub, pk_mul, cn_div, cn_irm, cn_lt, cn_eq, cn_ltm1, cn_m1lt, cn_eqm1, cn_m1eq, cn_ix, cn_inb, cn_ninb, cn_irs, cn_ils, cn_and, cn_or, cn_xor, grd_t, grd_bt, grd_bl, Nat.add_zero, Nat.zero_add, Nat.reduceAdd, Nat.reduceSub, Nat.reduceMul, Nat.reduceLT, Nat.reduceEqDiff, eq_self, true_and, and_true, and_false, false_and, if_true, if_false, and_self, Bool.true_eq_false, Bool.false_eq_true]
      refine mfix_up (fun i x => ∃ s4, x = (20, nI i, s4) ∧ WrX (imC A H) (5 + 3 * pD A + i) s s4) (pP A) ?_ ?_ N 0 _ ⟨s3, rfl, W3⟩ (Nat.zero_le _) (by omega)
      · rintro i k x hi ⟨s4, rfl, W4⟩ hk
        have hP4 := XP_fr W4.2.2 (by decide) hP
        have d1 := imB_p A H i
        rw [← imC_b A H (by omega)] at d1
        have h6 := hB.2.2.2.2.2.2.1 i (by omega)
        have r4 := rr W4 (52 + i) (by omega)
        obtain ⟨s5, e5, W5⟩ := one W4 (by omega) (by omega) d1
        simp (disch := first | omega | decide) only [f_X_image_L84, hP4.2.1, a20, e5, r4, zI_0, zI_1, zI_2, zI_3, zI_4, zI_5, zI_6, zI_7, zI_8, zI_9, zI_10, zI_11, zI_12, zI_13, zI_14, zI_15, zI_16, zI_17, zI_18, zI_19, zI_20, zI_21, zI_22, zI_23, zI_24, zI_25, zI_26, zI_27, zI_28, zI_29, zI_30, zI_31, zI_32, zI_33, zI_34, zI_35, zI_36, zI_37, zI_38, zI_39, zI_40, zI_41, zI_42, zI_43, zI_44, zI_45, zI_46, zI_47, zI_48, zI_49, zI_50, zI_51, zI_52, zI_53, zI_54, zI_55, zI_56, zI_57, zI_58, zI_59, zI_60, zI_61, zI_62, zI_63, zI_64, zI_65, zI_66, zI_67, zI_74, zI_84, zI_85, zI_88, zI_91, zI_93, zI_97, zI_99, zI_100, zI_102, zI_105, zI_117, zI_122, zI_193, zI_202, zI_205, zI_251, zI_255, zI_256, zI_257, zI_258, zI_259, zI_260, zI_640, zI_999, zI_1000, zI_1024, zI_1600, zI_1602, zI_1700, zI_2040, zI_3200, zI_4100, zI_9728, zI_11784, zI_61440, zI_65536, zI_470536, zI_999999, zI_1000000, lt_T, lt_F, le_T, le_F, eq_T, eq_F, neg_1, cn_m1p, cn_m11, nI_add, cn_sub, pk_mul, cn_div, cn_irm, cn_lt, cn_eq, cn_ltm1, cn_m1lt, cn_eqm1, cn_m1eq, cn_ix, cn_inb, cn_ninb, cn_irs, cn_ils, cn_and, cn_or, cn_xor, grd_t, grd_bt, grd_bl, Nat.add_zero, Nat.zero_add, Nat.reduceAdd, Nat.reduceSub, Nat.reduceMul, Nat.reduceLT, Nat.reduceEqDiff, eq_self, true_and, and_true, and_false, false_and, if_true, if_false, and_self, Bool.true_eq_false, Bool.false_eq_true, Option.bind_some]
        exact hk _ ⟨s5, rfl, W5⟩
      · rintro k x ⟨s4, rfl, W4⟩
        have hP4 := XP_fr W4.2.2 (by decide) hP
        have ck := xChk_n (N := N) (o := 40) (L := 88) (n := 5 + 3 * pD A + pP A) (f := imC A H) (Or.inl ⟨rfl, rfl⟩) (by omega) (fun k hk => ⟨by rw [imC_b A H hk]; exact imB_lt hA hB hk, W4.2.1 k hk⟩) hN
        obtain ⟨s5, e5, W5⟩ := one W4 (by omega) (ckS_lt _ _) (imC_c A H)
        have e6 : gI s5 14 0 = nI (6 + 3 * pD A + pP A) := by rw [W5.1]; congr 1; omega
        have e7 := W4.1
        simp (disch := first | omega | decide) only [f_X_image_L84, hP4.2.1, e7, ck, e5, e6, zI_0, zI_1, zI_2, zI_3, zI_4, zI_5, zI_6, zI_7, zI_8, zI_9, zI_10, zI_11, zI_12, zI_13, zI_14, zI_15, zI_16, zI_17, zI_18, zI_19, zI_20, zI_21, zI_22, zI_23, zI_24, zI_25, zI_26, zI_27, zI_28, zI_29, zI_30, zI_31, zI_32, zI_33, zI_34, zI_35, zI_36, zI_37, zI_38, zI_39, zI_40, zI_41, zI_42, zI_43, zI_44, zI_45, zI_46, zI_47, zI_48, zI_49, zI_50, zI_51, zI_52, zI_53, zI_54, zI_55, zI_56, zI_57, zI_58, zI_59, zI_60, zI_61, zI_62, zI_63, zI_64, zI_65, zI_66, zI_67, zI_74, zI_84, zI_85, zI_88, zI_91, zI_93, zI_97, zI_99, zI_100, zI_102, zI_105, zI_117, zI_122, zI_193, zI_202, zI_205, zI_251, zI_255, zI_256, zI_257, zI_258, zI_259, zI_260, zI_640, zI_999, zI_1000, zI_1024, zI_1600, zI_1602, zI_1700, zI_2040, zI_3200, zI_4100, zI_9728, zI_11784, zI_61440, zI_65536, zI_470536, zI_999999, zI_1000000, lt_T, lt_F, le_T, le_F, eq_T, eq_F, neg_1, cn_m1p, cn_m11, nI_add, cn_sub, pk_mul, cn_div, cn_irm, cn_lt, cn_eq, cn_ltm1, cn_m1lt, cn_eqm1, cn_m1eq, cn_ix, cn_inb, cn_ninb, cn_irs, cn_ils, cn_and, cn_or, cn_xor, grd_t, grd_bt, grd_bl, Nat.add_zero, Nat.zero_add, Nat.reduceAdd, Nat.reduceSub, Nat.reduceMul, Nat.reduceLT, Nat.reduceEqDiff, eq_self, true_and, and_true, and_false, false_and, if_true, if_false, and_self, Bool.true_eq_false, Bool.false_eq_true, Option.bind_some]
        exact Ok_some ⟨rfl, by rw [show 6 + 3 * pD A + pP A = 5 + 3 * pD A + pP A + 1 by omega]; exact W5⟩
  obtain ⟨x, x1, x2, x3⟩ := hl
  have q1 := rr W0 0 (by omega)
  have q2 := rr W1 1 (by omega)
  refine ⟨x.2, ?_, x3⟩
  simp (disch := first | omega | decide) only [f_X_image, zI_0, zI_1, zI_2, zI_3, zI_4, zI_5, zI_6, zI_7, zI_8, zI_9, zI_10, zI_11, zI_12, zI_13, zI_14, zI_15, zI_16, zI_17, zI_18, zI_19, zI_20, zI_21, zI_22, zI_23, zI_24, zI_25, zI_26, zI_27, zI_28, zI_29, zI_30, zI_31, zI_32, zI_33, zI_34, zI_35, zI_36, zI_37, zI_38, zI_39, zI_40, zI_41, zI_42, zI_43, zI_44, zI_45, zI_46, zI_47, zI_48, zI_49, zI_50, zI_51, zI_52, zI_53, zI_54, zI_55, zI_56, zI_57, zI_58, zI_59, zI_60, zI_61, zI_62, zI_63, zI_64, zI_65, zI_66, zI_67, zI_74, zI_84, zI_85, zI_88, zI_91, zI_93, zI_97, zI_99, zI_100, zI_102, zI_105, zI_117, zI_122, zI_193, zI_202, zI_205, zI_251, zI_255, zI_256, zI_257, zI_258, zI_259, zI_260, zI_640, zI_999, zI_1000, zI_1024, zI_1600, zI_1602, zI_1700, zI_2040, zI_3200, zI_4100, zI_9728, zI_11784, zI_61440, zI_65536, zI_470536, zI_999999, zI_1000000, q1, e1, q2, e2, Option.bind_some]
  rw [x1, ← x2]
theorem mIm_n (hA : WA A) (hB : HB A H) (hP : MP A t) (hR : MRow A H t) (hN : 10000 ≤ N) : ∃ t', f_M_image N t = some (nI (6 + 3 * pD A + pP A), t') ∧ WrM (imC A H) (6 + 3 * pD A + pP A) t t' := by
  have hD := hA.1
  have hp := hA.2.1
  have h0 := hB.1
  have h1 := hB.2.1
  have W0 : WrM (imC A H) 0 t (sI t 1098 0 (nI 0)) := ⟨by simp (disch := first | omega | decide) only [gI_sI, gI_sA, gI_sL, gI_sQ, gI_sC, gI_sO, gI_sD, gA_sI, gA_sL, gA_sQ, gA_sO, gA_sD, gL_sI, gL_sA, gL_sQ, gL_sC, gL_sO, gL_sD, gQ_sI, gQ_sA, gQ_sL, gQ_sC, gQ_sO, gO_sI, gO_sA, gO_sL, gO_sQ, gO_sC, gO_sO, gO_sD, gA_eq, gA_ne, gQ_eq, gQ_ne, gL_sL, gA_cin, gA_cou, gQ_cin, gQ_cou, Nat.reduceAdd, Nat.reduceSub, Nat.reduceMul, Nat.reduceLT, Nat.reduceEqDiff, eq_self, true_and, and_true, and_false, false_and, if_true, if_false, and_self, Bool.true_eq_false, Bool.false_eq_true], fun k hk => absurd hk (Nat.not_lt_zero _), Fr_sI _ _ _ (by decide)⟩
  have rr : ∀ {n t1}, WrM (imC A H) n t t1 → MRow A H t1 := fun W => MRow_fr W.2.2 (by decide) hR
  have pp : ∀ {n t1}, WrM (imC A H) n t t1 → MP A t1 := fun W => MP_fr W.2.2 (by decide) hP
  obtain ⟨t1, e1, W1⟩ := mWr_n (N := N) (v := H.1 0 / 256) W0 (by omega) (by rw [imC_b A H (by omega)]; rfl)
  obtain ⟨t2, e2, W2⟩ := mWr_n (N := N) (v := H.1 0 % 256) W1 (by omega) (by rw [imC_b A H (by omega)]; rfl)
  obtain ⟨t3, e3, W3⟩ := mWr_n (N := N) (v := H.1 1 / 65536) W2 (by omega) (by rw [imC_b A H (by omega)]; rfl)
  obtain ⟨t4, e4, W4⟩ := mWr_n (N := N) (v := H.1 1 % 65536 / 256) W3 (by omega) (by rw [imC_b A H (by omega)]; rfl)
  obtain ⟨t5, e5, W5⟩ := mWr_n (N := N) (v := H.1 1 % 65536 % 256) W4 (by omega) (by rw [imC_b A H (by omega)]; rfl)
  have hl : Ok (mfix N (f_M_image_L45 N) (nI 0, t5)) (fun r => r.1 = nI (6 + 3 * pD A + pP A) ∧ WrM (imC A H) (6 + 3 * pD A + pP A) t r.2) := by
    refine mfix_up (fun i x => ∃ t6, x = (nI i, t6) ∧ WrM (imC A H) (5 + i) t t6) (3 * pD A) ?_ ?_ N 0 _ ⟨t5, rfl, W5⟩ (Nat.zero_le _) (by omega)
    · rintro i k x hi ⟨t6, rfl, W6⟩ hk
      have P6 := pp W6
      obtain ⟨c1, c2, c3⟩ := (rr W6).2.2.1 (i / 3) (by omega)
      obtain ⟨d1, d2, d3⟩ := imB_d A H (show i / 3 < pD A by omega)
      have cell : gA t6 34 (2 + i) = nI (imB A H (5 + i)) := by
        have : i % 3 = 0 ∨ i % 3 = 1 ∨ i % 3 = 2 := by omega
        rcases this with h | h | h
        · rw [show 2 + i = 2 + 3 * (i / 3) by omega, show 5 + i = 5 + 3 * (i / 3) by omega, c1, d1, b01_i]
        · rw [show 2 + i = 3 + 3 * (i / 3) by omega, show 5 + i = 6 + 3 * (i / 3) by omega, c2, d2]
        · rw [show 2 + i = 4 + 3 * (i / 3) by omega, show 5 + i = 7 + 3 * (i / 3) by omega, c3, d3]
      obtain ⟨t7, e7, W7⟩ := mWr_n (N := N) (v := imB A H (5 + i)) W6 (by omega) (imC_b A H (by omega))
      simp (disch := first | omega | decide) only [f_M_image_L45, f_M_doorMany, P6.1, cell, e7, zI_0, zI_1, zI_2, zI_3, zI_4, zI_5, zI_6, zI_7, zI_8, zI_9, zI_10, zI_11, zI_12, zI_13, zI_14, zI_15, zI_16, zI_17, zI_18, zI_19, zI_20, zI_21, zI_22, zI_23, zI_24, zI_25, zI_26, zI_27, zI_28, zI_29, zI_30, zI_31, zI_32, zI_33, zI_34, zI_35, zI_36, zI_37, zI_38, zI_39, zI_40, zI_41, zI_42, zI_43, zI_44, zI_45, zI_46, zI_47, zI_48, zI_49, zI_50, zI_51, zI_52, zI_53, zI_54, zI_55, zI_56, zI_57, zI_58, zI_59, zI_60, zI_61, zI_62, zI_63, zI_64, zI_65, zI_66, zI_67, zI_74, zI_84, zI_85, zI_88, zI_91, zI_93, zI_97, zI_99, zI_100, zI_102, zI_105, zI_117, zI_122, zI_193, zI_202, zI_205, zI_251, zI_255, zI_256, zI_257, zI_258, zI_259, zI_260, zI_640, zI_999, zI_1000, zI_1024, zI_1600, zI_1602, zI_1700, zI_2040, zI_3200, zI_4100, zI_9728, zI_11784, zI_61440, zI_65536, zI_470536, zI_999999, zI_1000000, lt_T, lt_F, le_T, le_F, eq_T, eq_F, neg_1, cn_m1p, cn_m11, nI_add, cn_sub, pk_mul, cn_div, cn_irm, cn_lt, cn_eq, cn_ltm1, cn_m1lt, cn_eqm1, cn_m1eq, cn_ix, cn_inb, cn_ninb, cn_irs, cn_ils, cn_and, cn_or, cn_xor, grd_t, grd_bt, grd_bl, Nat.add_zero, Nat.zero_add, Nat.reduceAdd, Nat.reduceSub, Nat.reduceMul, Nat.reduceLT, Nat.reduceEqDiff, eq_self, true_and, and_true, and_false, false_and, if_true, if_false, and_self, Bool.true_eq_false, Bool.false_eq_true, Option.bind_some]
      exact hk _ ⟨t7, rfl, W7⟩
    · rintro k x ⟨t6, rfl, W6⟩
      have P6 := pp W6
      simp (disch := first | omega | decide) only [f_M_image_L45, f_M_doorMany, P6.1, zI_0, zI_1, zI_2, zI_3, zI_4, zI_5, zI_6, zI_7, zI_8, zI_9, zI_10, zI_11, zI_12, zI_13, zI_14, zI_15, zI_16, zI_17, zI_18, zI_19, zI_20, zI_21, zI_22, zI_23, zI_24, zI_25, zI_26, zI_27, zI_28, zI_29, zI_30, zI_31, zI_32, zI_33, zI_34, zI_35, zI_36, zI_37, zI_38, zI_39, zI_40, zI_41, zI_42, zI_43, zI_44, zI_45, zI_46, zI_47, zI_48, zI_49, zI_50, zI_51, zI_52, zI_53, zI_54, zI_55, zI_56, zI_57, zI_58, zI_59, zI_60, zI_61, zI_62, zI_63, zI_64, zI_65, zI_66, zI_67, zI_74, zI_84, zI_85, zI_88, zI_91, zI_93, zI_97, zI_99, zI_100, zI_102, zI_105, zI_117, zI_122, zI_193, zI_202, zI_205, zI_251, zI_255, zI_256, zI_257, zI_258, zI_259, zI_260, zI_640, zI_999, zI_1000, zI_1024, zI_1600, zI_1602, zI_1700, zI_2040, zI_3200, zI_4100, zI_9728, zI_11784, zI_61440, zI_65536, zI_470536, zI_999999, zI_1000000, lt_T, lt_F, le_T, le_F, eq_T, eq_F, neg_1, cn_m1p, cn_m11, nI_add, cn_sub, pk_mul, cn_div, cn_irm, cn_lt, cn_eq, cn_ltm1, cn_m1lt, cn_eqm1, cn_m1eq, cn_ix, cn_inb, cn_ninb, cn_irs, cn_ils, cn_and, cn_or, cn_xor, grd_t, grd_bt, grd_bl, Nat.add_zero, Nat.zero_add, Nat.reduceAdd, Nat.reduceSub, Nat.reduceMul, Nat.reduceLT, Nat.reduceEqDiff, eq_self, true_and, and_true, and_false, false_and, if_true, if_false, and_self, Bool.true_eq_false, Bool.false_eq_true, Option.bind_some]
      refine mfix_up (fun i x => ∃ t7, x = (nI i, t7) ∧ WrM (imC A H) (5 + 3 * pD A + i) t t7) (pP A) ?_ ?_ N 0 _ ⟨t6, rfl, W6⟩ (Nat.zero_le _) (by omega)
      · rintro i k x hi ⟨t7, rfl, W7⟩ hk
        have P7 := pp W7
        have c1 := (rr W7).2.2.2 i (by omega)
        obtain ⟨t8, e8, W8⟩ := mWr_n (N := N) (v := H.1 (52 + i)) W7 (by omega) (by rw [imC_b A H (by omega)]; exact imB_p A H i)
        simp (disch := first | omega | decide) only [f_M_image_L75, f_M_porterMany, P7.2.1, c1, e8, zI_0, zI_1, zI_2, zI_3, zI_4, zI_5, zI_6, zI_7, zI_8, zI_9, zI_10, zI_11, zI_12, zI_13, zI_14, zI_15, zI_16, zI_17, zI_18, zI_19, zI_20, zI_21, zI_22, zI_23, zI_24, zI_25, zI_26, zI_27, zI_28, zI_29, zI_30, zI_31, zI_32, zI_33, zI_34, zI_35, zI_36, zI_37, zI_38, zI_39, zI_40, zI_41, zI_42, zI_43, zI_44, zI_45, zI_46, zI_47, zI_48, zI_49, zI_50, zI_51, zI_52, zI_53, zI_54, zI_55, zI_56, zI_57, zI_58, zI_59, zI_60, zI_61, zI_62, zI_63, zI_64, zI_65, zI_66, zI_67, zI_74, zI_84, zI_85, zI_88, zI_91, zI_93, zI_97, zI_99, zI_100, zI_102, zI_105, zI_117, zI_122, zI_193, zI_202, zI_205, zI_251, zI_255, zI_256, zI_257, zI_258, zI_259, zI_260, zI_640, zI_999, zI_1000, zI_1024, zI_1600, zI_1602, zI_1700, zI_2040, zI_3200, zI_4100, zI_9728, zI_11784, zI_61440, zI_65536, zI_470536, zI_999999, zI_1000000, lt_T, lt_F, le_T, le_F, eq_T, eq_F, neg_1, cn_m1p, cn_m11, nI_add, cn_sub, pk_mul, cn_div, cn_irm, cn_lt, cn_eq, cn_ltm1, cn_m1lt, cn_eqm1, cn_m1eq, cn_ix, cn_inb, cn_ninb, cn_irs, cn_ils, cn_and, cn_or, cn_xor, grd_t, grd_bt, grd_bl, Nat.add_zero, Nat.zero_add, Nat.reduceAdd, Nat.reduceSub, Nat.reduceMul, Nat.reduceLT, Nat.reduceEqDiff, eq_self, true_and, and_true, and_false, false_and, if_true, if_false, and_self, Bool.true_eq_false, Bool.false_eq_true, Option.bind_some]
        exact hk _ ⟨t8, rfl, W8⟩
      · rintro k x ⟨t7, rfl, W7⟩
        have P7 := pp W7
        have ck := mChk_n (N := N) (o := 67) (L := 88) (n := 5 + 3 * pD A + pP A) (f := imC A H) (Or.inl ⟨rfl, rfl⟩) (by omega) (fun k hk => ⟨by rw [imC_b A H hk]; exact imB_lt hA hB hk, W7.2.1 k hk⟩) hN
        obtain ⟨t8, e8, W8⟩ := mWr_n (N := N) (v := ckS (imC A H) (5 + 3 * pD A + pP A)) W7 (by omega) (imC_c A H)
        have e6 : gI t8 1098 0 = nI (6 + 3 * pD A + pP A) := by rw [W8.1]; congr 1; omega
        have e7 := W7.1
        simp (disch := first | omega | decide) only [f_M_image_L75, f_M_porterMany, P7.2.1, e7, ck, e8, e6, zI_0, zI_1, zI_2, zI_3, zI_4, zI_5, zI_6, zI_7, zI_8, zI_9, zI_10, zI_11, zI_12, zI_13, zI_14, zI_15, zI_16, zI_17, zI_18, zI_19, zI_20, zI_21, zI_22, zI_23, zI_24, zI_25, zI_26, zI_27, zI_28, zI_29, zI_30, zI_31, zI_32, zI_33, zI_34, zI_35, zI_36, zI_37, zI_38, zI_39, zI_40, zI_41, zI_42, zI_43, zI_44, zI_45, zI_46, zI_47, zI_48, zI_49, zI_50, zI_51, zI_52, zI_53, zI_54, zI_55, zI_56, zI_57, zI_58, zI_59, zI_60, zI_61, zI_62, zI_63, zI_64, zI_65, zI_66, zI_67, zI_74, zI_84, zI_85, zI_88, zI_91, zI_93, zI_97, zI_99, zI_100, zI_102, zI_105, zI_117, zI_122, zI_193, zI_202, zI_205, zI_251, zI_255, zI_256, zI_257, zI_258, zI_259, zI_260, zI_640, zI_999, zI_1000, zI_1024, zI_1600, zI_1602, zI_1700, zI_2040, zI_3200, zI_4100, zI_9728, zI_11784, zI_61440, zI_65536, zI_470536, zI_999999, zI_1000000, lt_T, lt_F, le_T, le_F, eq_T, eq_F, neg_1, cn_m1p, cn_m11, nI_add, cn_sub, pk_mul, cn_div, cn_irm, cn_lt, cn_eq, cn_ltm1, cn_m1lt, cn_eqm1, cn_m1eq, cn_ix, cn_inb, cn_ninb, cn_irs, cn_ils, cn_and, cn_or, cn_xor, grd_t, grd_bt, grd_bl, Nat.add_zero, Nat.zero_add, Nat.reduceAdd, Nat.reduceSub, Nat.reduceMul, Nat.reduceLT, Nat.reduceEqDiff, eq_self, true_and, and_true, and_false, false_and, if_true, if_false, and_self, Bool.true_eq_false, Bool.false_eq_true, Option.bind_some]
        exact Ok_some ⟨rfl, by rw [show 6 + 3 * pD A + pP A = 5 + 3 * pD A + pP A + 1 by omega]; exact W8⟩
  obtain ⟨x, x1, x2, x3⟩ := hl
  have q0 := (rr W0).1
  have q2 := (rr W2).2.1
  have q3 := (rr W3).2.1
  refine ⟨x.2, ?_, x3⟩
  simp (disch := first | omega | decide) only [f_M_image, f_M_writesTwo, zI_0, zI_1, zI_2, zI_3, zI_4, zI_5, zI_6, zI_7, zI_8, zI_9, zI_10, zI_11, zI_12, zI_13, zI_14, zI_15, zI_16, zI_17, zI_18, zI_19, zI_20, zI_21, zI_22, zI_23, zI_24, zI_25, zI_26, zI_27, zI_28, zI_29, zI_30, zI_31, zI_32, zI_33, zI_34, zI_35, zI_36, zI_37, zI_38, zI_39, zI_40, zI_41, zI_42, zI_43, zI_44, zI_45, zI_46, zI_47, zI_48, zI_49, zI_50, zI_51, zI_52, zI_53, zI_54, zI_55, zI_56, zI_57, zI_58, zI_59, zI_60, zI_61, zI_62, zI_63, zI_64, zI_65, zI_66, zI_67, zI_74, zI_84, zI_85, zI_88, zI_91, zI_93, zI_97, zI_99, zI_100, zI_102, zI_105, zI_117, zI_122, zI_193, zI_202, zI_205, zI_251, zI_255, zI_256, zI_257, zI_258, zI_259, zI_260, zI_640, zI_999, zI_1000, zI_1024, zI_1600, zI_1602, zI_1700, zI_2040, zI_3200, zI_4100, zI_9728, zI_11784, zI_61440, zI_65536, zI_470536, zI_999999, zI_1000000, q0, cn_div, cn_irm, e1, e2, q2, e3, q3, e4, e5, Option.bind_some]
  rw [x1, ← x2]
theorem P_image (hN : 10000 ≤ N) : Pure_34 Inv N := by
  rintro s t ⟨A, H, pa, se, hW, hX, hM, hR⟩
  have hA := hW.1
  have hD := hA.1
  have hp := hA.2.1
  obtain ⟨s1, e1, a1, a2, F⟩ := xIm_n (N := N) hA hW.2.1 hX.1 hX.2.2.1 hN
  obtain ⟨t1, g1, b1, b2, G⟩ := mIm_n (N := N) hA hW.2.1 hM.1 hM.2.2.1.1 hN
  exact ⟨_, s1, t1, e1, g1, A, H, pa, se, hW, IVX_fr F (by decide) (XO_fr F (by decide) (by decide) hX.2.2.2.1) hX, IVM_fr hA G (by decide) hM, RTp_fr F G (by decide) (by decide) hR.1, RRf_fr F G (by decide) (by decide) hR.2.1, ⟨_, by omega, a1, b1, fun i hi => by rw [a2 i hi, b2 i hi]⟩, RSd_fr F G (by decide) (by decide) hR.2.2.2.1, RFt_fr F G (by decide) (by decide) hR.2.2.2.2⟩
end IMAGE
