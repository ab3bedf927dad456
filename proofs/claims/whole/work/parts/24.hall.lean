/-! THE HALL on the one side: what doors and porters do -/
def alT (w : Nat) : Bool := decide (w < 3)
def alC (w : Nat) : Bool := decide (w < 5)
def alW (w : Nat) : Bool := decide (w = 0 ∨ w = 5 ∨ w = 6 ∨ w = 7)
def alQ (w : Nat) : Bool := decide (w < 5 ∨ w = 8 ∨ w = 9 ∨ w = 10)
def alD (w : Nat) : Bool := decide (w < 5 ∨ w = 8)
def nog (_ : Int) : Int := 0
def enc (q : Nat × Nat × Nat) : Nat := (q.1 * 10 + q.2.1) * 25 + q.2.2
def HO (o : Nat) : Prop := o = 19 ∨ o = 21 ∨ o = 33
theorem ho_ok {o : Nat} (h : HO o) : isO Sx o 2 = true ∧ aln Sx 0 (o + 1) = 102 := by
  rcases h with rfl | rfl | rfl <;> decide +kernel
/-- the row of a hall -/
def HR (o : Nat) (H : hL) (s : mS) : Prop := (∀ i, i < 62 → gA s (o + 1) i = nI (H.1 i)) ∧ ∀ i, i < H.1 3 → H.1 3 ≤ i + 40 → gA s (o + 1) (62 + i % 40) = nI (enc (H.2 i))
def HB (A : pL) (H : hL) : Prop := H.1 0 ≤ 999 ∧ H.1 1 ≤ 999999 ∧ H.1 2 < 2 ^ pD A ∧ H.1 3 ≤ 20000 ∧ (∀ d, d < 24 → H.1 (4 + d) ≤ 99) ∧ (∀ d, d < 24 → H.1 (28 + d) ≤ 9) ∧ (∀ p, p < 10 → H.1 (52 + p) ≤ 99) ∧ ∀ i, i < H.1 3 → (H.2 i).1 ≤ 999 ∧ (H.2 i).2.1 ≤ 9 ∧ (H.2 i).2.2 ≤ 24
def WA (A : pL) : Prop := pD A ≤ 24 ∧ pP A ≤ 10 ∧ pS A ≤ 99 ∧ pI A ≤ 100 ∧ (pD A = 0 → pP A = 0) ∧ (∀ p, p < pP A → ckL alT (pC A p) [] = some [true]) ∧ (0 < pD A → ckL alW (pC A 10) [] = some [true] ∧ ckL alC (pC A 11) [] = some [false])
  ∧ (∀ p, p < pP A → 1 ≤ (pNm A p).length ∧ (pNm A p).length ≤ 6 ∧ ∀ x ∈ pNm A p, 1 ≤ x ∧ x ≤ 26) ∧ (pTw A = false → pC A 10 = [13]) ∧ (pTc A = false → pC A 11 = [43])
theorem HR_fr {o : Nat} {H : hL} {l : List Nat} {s s' : mS} (hF : Fr l s s') (hk : o + 1 ∉ l) (h : HR o H s) : HR o H s' :=
  ⟨fun i hi => by rw [hF.A _ _ hk]; exact h.1 i hi, fun i hi h2 => by rw [hF.A _ _ hk]; exact h.2 i hi h2⟩
theorem HR_set {o i : Nat} {H : hL} {s : mS} {v : Nat} {x : Int32} {n : Nat} (h : HR o H s) (hi : i < 62) (h3 : i ≠ 3) (hn : n = i) (hx : x = nI v) : HR o (fU H.1 i v, H.2) (sA s (o + 1) n x) := by
  subst hn; subst hx
  refine ⟨fun j hj => ?_, fun j hj h2 => ?_⟩
  · by_cases e : j = n
    · subst e; rw [gA_eq rfl]; exact (congrArg nI (fU_s _ _ _)).symm
    · rw [gA_ne (by omega), h.1 j hj]; exact (congrArg nI (fU_n e)).symm
  · have e3 : fU H.1 n v 3 = H.1 3 := fU_n (by omega)
    have hj : j < fU H.1 n v 3 := hj
    have h2 : fU H.1 n v 3 ≤ j + 40 := h2
    rw [e3] at hj h2
    rw [gA_ne (by omega)]; exact h.2 j hj h2
theorem pw_le {k : Nat} (h : k ≤ 24) : 2 ^ k ≤ 16777216 := Nat.pow_le_pow_right (n := 2) (by omega) h
theorem HB_op {A : pL} {H : hL} (hA : WA A) (h : HB A H) : H.1 2 < 16777216 := Nat.lt_of_lt_of_le h.2.2.1 (pw_le hA.1)
theorem HB_row {A : pL} {H : hL} (hA : WA A) (h : HB A H) : ∀ i, i < 62 → H.1 i < 16777216 := by
  intro i hi
  have h0 := h.1
  have h1 := h.2.1
  have h2 := HB_op hA h
  have h3 := h.2.2.2.1
  by_cases c : i < 4
  · have : i = 0 ∨ i = 1 ∨ i = 2 ∨ i = 3 := by omega
    rcases this with rfl | rfl | rfl | rfl <;> omega
  · by_cases c2 : i < 28
    · have := h.2.2.2.2.1 (i - 4) (by omega)
      rw [show 4 + (i - 4) = i from by omega] at this; omega
    · by_cases c3 : i < 52
      · have := h.2.2.2.2.2.1 (i - 28) (by omega)
        rw [show 28 + (i - 28) = i from by omega] at this; omega
      · have := h.2.2.2.2.2.2.1 (i - 52) (by omega)
        rw [show 52 + (i - 52) = i from by omega] at this; omega
theorem bit_b01 (a d : Nat) : nI (a >>> d &&& 1) = zi (b01 (a.testBit d)) := by
  rw [bit01]; cases a.testBit d <;> rfl
section HALL
variable {N o d p : Nat} {A : pL} {H : hL} {s : mS}
theorem isOpen_n (ho : HO o) (hA : WA A) (hB : HB A H) (hR : HR o H s) (hd : d < 24) : f_Ha_isOpen N o (nI d) s = some (zi (b01 ((H.1 2).testBit d)), s) := by
  obtain ⟨o1, o2⟩ := ho_ok ho
  have h2 := HB_op hA hB
  have r2 := hR.1 2 (by omega)
  simp (disch := first | omega | decide) only [f_Ha_isOpen, o1, o2, r2, zI_0, zI_1, zI_2, zI_3, zI_4, zI_5, zI_6, zI_7, zI_8, zI_9, zI_10, zI_11, zI_12, zI_13, zI_14, zI_15, zI_16, zI_17, zI_18, zI_19, zI_20, zI_21, zI_22, zI_23, zI_24, zI_25, zI_26, zI_27, zI_28, zI_29, zI_30, zI_31, zI_32, zI_33, zI_34, zI_35, zI_36, zI_37, zI_38, zI_39, zI_40, zI_41, zI_42, zI_43, zI_44, zI_45, zI_46, zI_47, zI_48, zI_49, zI_50, zI_51, zI_52, zI_53, zI_54, zI_55, zI_56, zI_57, zI_58, zI_59, zI_60, zI_61, zI_62, zI_63, zI_64, zI_65, zI_66, zI_67, zI_74, zI_84, zI_85, zI_88, zI_91, zI_93, zI_97, zI_99, zI_100, zI_102, zI_105, zI_117, zI_122, zI_193, zI_202, zI_205, zI_251, zI_255, zI_256, zI_257, zI_258, zI_259, zI_260, zI_640, zI_999, zI_1000, zI_1024, zI_1600, zI_1602, zI_1700, zI_2040, zI_3200, zI_4100, zI_9728, zI_11784, zI_61440, zI_65536, zI_470536, zI_999999, zI_1000000, lt_T, lt_F, le_T, le_F, eq_T, eq_F, neg_1, cn_m1p, cn_m11, nI_add, cn_sub, pk_mul, cn_div, cn_irm, cn_lt, cn_eq, cn_ltm1, cn_m1lt, cn_eqm1, cn_m1eq, cn_ix, cn_inb, cn_ninb, cn_irs, cn_ils, cn_and, cn_or, cn_xor, grd_t, grd_bt, grd_bl, Nat.add_zero, Nat.zero_add, Nat.reduceAdd, Nat.reduceSub, Nat.reduceMul, Nat.reduceLT, Nat.reduceEqDiff, eq_self, true_and, and_true, and_false, false_and, if_true, if_false, and_self, Bool.true_eq_false, Bool.false_eq_true]
  rw [bit_b01]
theorem isJammed_n (ho : HO o) (hA : WA A) (hB : HB A H) (hR : HR o H s) (hd : d < 24) : f_Ha_isJammed N o (nI d) (nI (pS A)) s = some (zi (b01 (jm A H d)), s) := by
  obtain ⟨o1, o2⟩ := ho_ok ho
  have h4 := HB_row hA hB (4 + d) (by omega)
  have r4 := hR.1 (4 + d) (by omega)
  have hS := hA.2.2.1
  unfold jm
  by_cases c : 0 < pS A
  · by_cases c2 : pS A ≤ H.1 (4 + d)
    · simp (disch := first | omega | decide) only [f_Ha_isJammed, o1, o2, r4, zI_0, zI_1, zI_2, zI_3, zI_4, zI_5, zI_6, zI_7, zI_8, zI_9, zI_10, zI_11, zI_12, zI_13, zI_14, zI_15, zI_16, zI_17, zI_18, zI_19, zI_20, zI_21, zI_22, zI_23, zI_24, zI_25, zI_26, zI_27, zI_28, zI_29, zI_30, zI_31, zI_32, zI_33, zI_34, zI_35, zI_36, zI_37, zI_38, zI_39, zI_40, zI_41, zI_42, zI_43, zI_44, zI_45, zI_46, zI_47, zI_48, zI_49, zI_50, zI_51, zI_52, zI_53, zI_54, zI_55, zI_56, zI_57, zI_58, zI_59, zI_60, zI_61, zI_62, zI_63, zI_64, zI_65, zI_66, zI_67, zI_74, zI_84, zI_85, zI_88, zI_91, zI_93, zI_97, zI_99, zI_100, zI_102, zI_105, zI_117, zI_122, zI_193, zI_202, zI_205, zI_251, zI_255, zI_256, zI_257, zI_258, zI_259, zI_260, zI_640, zI_999, zI_1000, zI_1024, zI_1600, zI_1602, zI_1700, zI_2040, zI_3200, zI_4100, zI_9728, zI_11784, zI_61440, zI_65536, zI_470536, zI_999999, zI_1000000, lt_T, lt_F, le_T, le_F, eq_T, eq_F, neg_1, cn_m1p, cn_m11, nI_add, cn_sub, pk_mul, cn_div, cn_irm, cn_lt, cn_eq, cn_ltm1, cn_m1lt, cn_eqm1, cn_m1eq, cn_ix, cn_inb, cn_ninb, cn_irs, cn_ils, cn_and, cn_or, cn_xor, grd_t, grd_bt, grd_bl, Nat.add_zero, Nat.zero_add, Nat.reduceAdd, Nat.reduceSub, Nat.reduceMul, Nat.reduceLT, Nat.reduceEqDiff, eq_self, true_and, and_true, and_false, false_and, if_true, if_false, and_self, Bool.true_eq_false, Bool.false_eq_true, decide_true, Bool.and_true, Bool.and_self]
      rfl
    · simp (disch := first | omega | decide) only [f_Ha_isJammed, o1, o2, r4, zI_0, zI_1, zI_2, zI_3, zI_4, zI_5, zI_6, zI_7, zI_8, zI_9, zI_10, zI_11, zI_12, zI_13, zI_14, zI_15, zI_16, zI_17, zI_18, zI_19, zI_20, zI_21, zI_22, zI_23, zI_24, zI_25, zI_26, zI_27, zI_28, zI_29, zI_30, zI_31, zI_32, zI_33, zI_34, zI_35, zI_36, zI_37, zI_38, zI_39, zI_40, zI_41, zI_42, zI_43, zI_44, zI_45, zI_46, zI_47, zI_48, zI_49, zI_50, zI_51, zI_52, zI_53, zI_54, zI_55, zI_56, zI_57, zI_58, zI_59, zI_60, zI_61, zI_62, zI_63, zI_64, zI_65, zI_66, zI_67, zI_74, zI_84, zI_85, zI_88, zI_91, zI_93, zI_97, zI_99, zI_100, zI_102, zI_105, zI_117, zI_122, zI_193, zI_202, zI_205, zI_251, zI_255, zI_256, zI_257, zI_258, zI_259, zI_260, zI_640, zI_999, zI_1000, zI_1024, zI_1600, zI_1602, zI_1700, zI_2040, zI_3200, zI_4100, zI_9728, zI_11784, zI_61440, zI_65536, zI_470536, zI_999999, zI_1000000, lt_T, lt_F, le_T, le_F, eq_T, eq_F, neg_1, cn_m1p, cn_m11, nI_add, cn_sub, pk_mul, cn_div, cn_irm, cn_lt, cn_eq, cn_ltm1, cn_m1lt, cn_eqm1, cn_m1eq, cn_ix, cn_inb, cn_ninb, cn_irs, cn_ils, cn_and, cn_or, cn_xor, grd_t, grd_bt, grd_bl, Nat.add_zero, Nat.zero_add, Nat.reduceAdd, Nat.reduceSub, Nat.reduceMul, Nat.reduceLT, Nat.reduceEqDiff, eq_self, true_and, and_true, and_false, false_and, if_true, if_false, and_self, Bool.true_eq_false, Bool.false_eq_true, decide_true, decide_false, Bool.and_false]
      rfl
  · simp (disch := first | omega | decide) only [f_Ha_isJammed, o1, o2, r4, zI_0, zI_1, zI_2, zI_3, zI_4, zI_5, zI_6, zI_7, zI_8, zI_9, zI_10, zI_11, zI_12, zI_13, zI_14, zI_15, zI_16, zI_17, zI_18, zI_19, zI_20, zI_21, zI_22, zI_23, zI_24, zI_25, zI_26, zI_27, zI_28, zI_29, zI_30, zI_31, zI_32, zI_33, zI_34, zI_35, zI_36, zI_37, zI_38, zI_39, zI_40, zI_41, zI_42, zI_43, zI_44, zI_45, zI_46, zI_47, zI_48, zI_49, zI_50, zI_51, zI_52, zI_53, zI_54, zI_55, zI_56, zI_57, zI_58, zI_59, zI_60, zI_61, zI_62, zI_63, zI_64, zI_65, zI_66, zI_67, zI_74, zI_84, zI_85, zI_88, zI_91, zI_93, zI_97, zI_99, zI_100, zI_102, zI_105, zI_117, zI_122, zI_193, zI_202, zI_205, zI_251, zI_255, zI_256, zI_257, zI_258, zI_259, zI_260, zI_640, zI_999, zI_1000, zI_1024, zI_1600, zI_1602, zI_1700, zI_2040, zI_3200, zI_4100, zI_9728, zI_11784, zI_61440, zI_65536, zI_470536, zI_999999, zI_1000000, lt_T, lt_F, le_T, le_F, eq_T, eq_F, neg_1, cn_m1p, cn_m11, nI_add, cn_sub, pk_mul, cn_div, cn_irm, cn_lt, cn_eq, cn_ltm1, cn_m1lt, cn_eqm1, cn_m1eq, cn_ix, cn_inb, cn_ninb, cn_irs, cn_ils, cn_and, cn_or, cn_xor, grd_t, grd_bt, grd_bl, Nat.add_zero, Nat.zero_add, Nat.reduceAdd, Nat.reduceSub, Nat.reduceMul, Nat.reduceLT, Nat.reduceEqDiff, eq_self, true_and, and_true, and_false, false_and, if_true, if_false, and_self, Bool.true_eq_false, Bool.false_eq_true, decide_false, Bool.false_and]
    rfl
theorem opened_n (ho : HO o) (hA : WA A) (hB : HB A H) (hR : HR o H s) : f_Ha_opened N o s = some (nI (pc (H.1 2)), s) := by
  obtain ⟨o1, o2⟩ := ho_ok ho
  have r2 := hR.1 2 (by omega)
  simp (disch := first | omega | decide) only [f_Ha_opened, o1, o2, r2, zI_0, zI_1, zI_2, zI_3, zI_4, zI_5, zI_6, zI_7, zI_8, zI_9, zI_10, zI_11, zI_12, zI_13, zI_14, zI_15, zI_16, zI_17, zI_18, zI_19, zI_20, zI_21, zI_22, zI_23, zI_24, zI_25, zI_26, zI_27, zI_28, zI_29, zI_30, zI_31, zI_32, zI_33, zI_34, zI_35, zI_36, zI_37, zI_38, zI_39, zI_40, zI_41, zI_42, zI_43, zI_44, zI_45, zI_46, zI_47, zI_48, zI_49, zI_50, zI_51, zI_52, zI_53, zI_54, zI_55, zI_56, zI_57, zI_58, zI_59, zI_60, zI_61, zI_62, zI_63, zI_64, zI_65, zI_66, zI_67, zI_74, zI_84, zI_85, zI_88, zI_91, zI_93, zI_97, zI_99, zI_100, zI_102, zI_105, zI_117, zI_122, zI_193, zI_202, zI_205, zI_251, zI_255, zI_256, zI_257, zI_258, zI_259, zI_260, zI_640, zI_999, zI_1000, zI_1024, zI_1600, zI_1602, zI_1700, zI_2040, zI_3200, zI_4100, zI_9728, zI_11784, zI_61440, zI_65536, zI_470536, zI_999999, zI_1000000, lt_T, lt_F, le_T, le_F, eq_T, eq_F, neg_1, cn_m1p, cn_m11, nI_add, cn_sub, pk_mul, cn_div, cn_irm, cn_lt, cn_eq, cn_ltm1, cn_m1lt, cn_eqm1, cn_m1eq, cn_ix, cn_inb, cn_ninb, cn_irs, cn_ils, cn_and, cn_or, cn_xor, grd_t, grd_bt, grd_bl, Nat.add_zero, Nat.zero_add, Nat.reduceAdd, Nat.reduceSub, Nat.reduceMul, Nat.reduceLT, Nat.reduceEqDiff, eq_self, true_and, and_true, and_false, false_and, if_true, if_false, and_self, Bool.true_eq_false, Bool.false_eq_true, bitCount_n N s (HB_op hA hB), Option.bind_some]
theorem standAt_n (p : Nat) (ho : HO o) (hA : WA A) (hB : HB A H) (hR : HR o H s) (hd : d < 24) : ∃ s', f_Su_standAt N o (nI d) (nI (pS A)) s = some s' ∧ Fr [26] s s' ∧ GV s' (gv A H d p) alD := by
  obtain ⟨o1, o2⟩ := ho_ok ho
  have ok : o + 1 ∉ [26] := by rcases ho with rfl | rfl | rfl <;> decide
  have F1 : Fr [26] s (sA (sA s 26 13 (gA s (o + 1) 0)) 26 9 (nI d)) := Fr_t (Fr_sA _ _ _ (by decide)) (Fr_sA _ _ _ (by decide))
  have F2 : Fr [26] s (sA (sA (sA s 26 13 (gA s (o + 1) 0)) 26 9 (nI d)) 26 10 (nI (H.1 (28 + d)))) := Fr_t F1 (Fr_sA _ _ _ (by decide))
  have e1 := isOpen_n (N := N) ho hA hB (HR_fr F2 ok hR) hd
  have F3 := Fr_t F2 (Fr_sA (l := [26]) 26 3 (zi (b01 ((H.1 2).testBit d))) (by decide))
  have F4 := Fr_t F3 (Fr_sA (l := [26]) 26 11 (nI (H.1 (4 + d))) (by decide))
  have e2 := isJammed_n (N := N) ho hA hB (HR_fr F4 ok hR) hd
  have F5 := Fr_t F4 (Fr_sA (l := [26]) 26 16 (zi (b01 (jm A H d))) (by decide))
  have c1 := hR.1 (28 + d) (by omega)
  have c2 := hR.1 (4 + d) (by omega)
  have c0 := hR.1 0 (by omega)
  have n1 : ¬ (o + 1 = 26) := by rcases ho with rfl | rfl | rfl <;> decide
  refine ⟨_, ?_, F5, ?_⟩
  · have q1 : ∀ i, gA (sA (sA s 26 13 (gA s (o + 1) 0)) 26 9 (nI d)) (o + 1) i = gA s (o + 1) i := fun i => F1.A _ _ ok
    have q3 : ∀ i, gA (sA (sA (sA (sA s 26 13 (gA s (o + 1) 0)) 26 9 (nI d)) 26 10 (nI (H.1 (28 + d)))) 26 3 (zi (b01 ((H.1 2).testBit d)))) (o + 1) i = gA s (o + 1) i := fun i => F3.A _ _ ok
    simp (disch := first | omega | decide) only [f_Su_standAt, o1, o2, zI_0, zI_1, zI_2, zI_3, zI_4, zI_5, zI_6, zI_7, zI_8, zI_9, zI_10, zI_11, zI_12, zI_13, zI_14, zI_15, zI_16, zI_17, zI_18, zI_19, zI_20, zI_21, zI_22, zI_23, zI_24, zI_25, zI_26, zI_27, zI_28, zI_29, zI_30, zI_31, zI_32, zI_33, zI_34, zI_35, zI_36, zI_37, zI_38, zI_39, zI_40, zI_41, zI_42, zI_43, zI_44, zI_45, zI_46, zI_47, zI_48, zI_49, zI_50, zI_51, zI_52, zI_53, zI_54, zI_55, zI_56, zI_57, zI_58, zI_59, zI_60, zI_61, zI_62, zI_63, zI_64, zI_65, zI_66, zI_67, zI_74, zI_84, zI_85, zI_88, zI_91, zI_93, zI_97, zI_99, zI_100, zI_102, zI_105, zI_117, zI_122, zI_193, zI_202, zI_205, zI_251, zI_255, zI_256, zI_257, zI_258, zI_259, zI_260, zI_640, zI_999, zI_1000, zI_1024, zI_1600, zI_1602, zI_1700, zI_2040, zI_3200, zI_4100, zI_9728, zI_11784, zI_61440, zI_65536, zI_470536, zI_999999, zI_1000000, lt_T, lt_F, le_T, le_F, eq_T, eq_F, neg_1, cn_m1p, cn_m11, nI_add, cn_sub, pk_mul, cn_div, cn_irm, cn_lt, cn_eq, cn_ltm1, cn_m1lt, cn_eqm1, cn_m1eq, cn_ix, cn_inb, cn_ninb, cn_irs, cn_ils, cn_and, cn_or, cn_xor, grd_t, grd_bt, grd_bl, Nat.add_zero, Nat.zero_add, Nat.reduceAdd, Nat.reduceSub, Nat.reduceMul, Nat.reduceLT, Nat.reduceEqDiff, eq_self, true_and, and_true, and_false, false_and, if_true, if_false, and_self, Bool.true_eq_false, Bool.false_eq_true, q1, q3, c1, c2, e1, e2, Option.bind_some]
    cases jm A H d <;> rfl
  · intro w hw hal
    unfold alD at hal
    have hal := of_decide_eq_true hal
    have : w = 0 ∨ w = 1 ∨ w = 2 ∨ w = 3 ∨ w = 4 ∨ w = 8 := by omega
    rcases this with rfl | rfl | rfl | rfl | rfl | rfl
    · exact c0.trans (zi_nI _).symm
    · exact (zi_nI d).symm
    · exact (zi_nI _).symm
    · rfl
    · exact (zi_nI _).symm
    · rfl
theorem standWith_n (ho : HO o) (hA : WA A) (hB : HB A H) (hR : HR o H s) (hp : p < 10) : ∃ s', f_Su_standWith N o (nI p) s = some s' ∧ Fr [26] s s' ∧ GV s' (gv A H 0 p) alW := by
  obtain ⟨o1, o2⟩ := ho_ok ho
  have ok : o + 1 ∉ [26] := by rcases ho with rfl | rfl | rfl <;> decide
  have F1 : Fr [26] s (sA (sA s 26 13 (gA s (o + 1) 0)) 26 12 (nI p)) := Fr_t (Fr_sA _ _ _ (by decide)) (Fr_sA _ _ _ (by decide))
  have e1 := opened_n (N := N) ho hA hB (HR_fr F1 ok hR)
  have F2 := Fr_t F1 (Fr_sA (l := [26]) 26 14 (nI (pc (H.1 2))) (by decide))
  have F3 := Fr_t F2 (Fr_sA (l := [26]) 26 15 (nI (H.1 (52 + p))) (by decide))
  have c1 := hR.1 (52 + p) (by omega)
  have c0 := hR.1 0 (by omega)
  refine ⟨_, ?_, F3, ?_⟩
  · have q1 : ∀ i, gA (sA (sA (sA s 26 13 (gA s (o + 1) 0)) 26 12 (nI p)) 26 14 (nI (pc (H.1 2)))) (o + 1) i = gA s (o + 1) i := fun i => F2.A _ _ ok
    simp (disch := first | omega | decide) only [f_Su_standWith, o1, o2, zI_0, zI_1, zI_2, zI_3, zI_4, zI_5, zI_6, zI_7, zI_8, zI_9, zI_10, zI_11, zI_12, zI_13, zI_14, zI_15, zI_16, zI_17, zI_18, zI_19, zI_20, zI_21, zI_22, zI_23, zI_24, zI_25, zI_26, zI_27, zI_28, zI_29, zI_30, zI_31, zI_32, zI_33, zI_34, zI_35, zI_36, zI_37, zI_38, zI_39, zI_40, zI_41, zI_42, zI_43, zI_44, zI_45, zI_46, zI_47, zI_48, zI_49, zI_50, zI_51, zI_52, zI_53, zI_54, zI_55, zI_56, zI_57, zI_58, zI_59, zI_60, zI_61, zI_62, zI_63, zI_64, zI_65, zI_66, zI_67, zI_74, zI_84, zI_85, zI_88, zI_91, zI_93, zI_97, zI_99, zI_100, zI_102, zI_105, zI_117, zI_122, zI_193, zI_202, zI_205, zI_251, zI_255, zI_256, zI_257, zI_258, zI_259, zI_260, zI_640, zI_999, zI_1000, zI_1024, zI_1600, zI_1602, zI_1700, zI_2040, zI_3200, zI_4100, zI_9728, zI_11784, zI_61440, zI_65536, zI_470536, zI_999999, zI_1000000, lt_T, lt_F, le_T, le_F, eq_T, eq_F, neg_1, cn_m1p, cn_m11, nI_add, cn_sub, pk_mul, cn_div, cn_irm, cn_lt, cn_eq, cn_ltm1, cn_m1lt, cn_eqm1, cn_m1eq, cn_ix, cn_inb, cn_ninb, cn_irs, cn_ils, cn_and, cn_or, cn_xor, grd_t, grd_bt, grd_bl, Nat.add_zero, Nat.zero_add, Nat.reduceAdd, Nat.reduceSub, Nat.reduceMul, Nat.reduceLT, Nat.reduceEqDiff, eq_self, true_and, and_true, and_false, false_and, if_true, if_false, and_self, Bool.true_eq_false, Bool.false_eq_true, q1, c1, e1, Option.bind_some]
  · intro w hw hal
    unfold alW at hal
    have hal := of_decide_eq_true hal
    rcases hal with rfl | rfl | rfl | rfl
    · exact c0.trans (zi_nI _).symm
    · exact (zi_nI p).symm
    · exact (zi_nI _).symm
    · exact (zi_nI _).symm
end HALL
theorem gv_ty {A : pL} {H : hL} {d p : Nat} (hA : WA A) (hB : HB A H) (hd : d < 24) (hp : p < 10) (al : Nat → Bool) : GB al (gv A H d p) nog nog := by
  refine ⟨fun w _ => ?_, fun _ => Or.inl rfl, fun _ => Or.inl rfl⟩
  have h0 := hB.1
  have hT := hB.2.2.2.2.1 d hd
  have hP := hB.2.2.2.2.2.1 d hd
  have hR := hB.2.2.2.2.2.2.1 p hp
  have hc := pc_le (H.1 2)
  unfold gv
  split
  · exact (TyV_n _).mpr (by omega)
  · exact (TyV_n _).mpr (by omega)
  · exact (TyV_n _).mpr (by omega)
  · exact b01_n _
  · exact (TyV_n _).mpr (by omega)
  · exact (TyV_n _).mpr (by omega)
  · exact (TyV_n _).mpr (by omega)
  · exact (TyV_n _).mpr (by omega)
  · exact b01_n _
