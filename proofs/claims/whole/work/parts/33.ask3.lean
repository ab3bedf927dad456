/-! CALLS that ask, the rest of the small ones -/
theorem pf_lI {a : Nat} (h : a < 2 ^ 63) : (lN a).toInt = (a : Int) := lg_ofNat_toInt h
theorem vaL_snoc (b : Nat) (l : List Nat) (x : Nat) : vaL b (l ++ [x]) = b * vaL b l + x := by
  unfold vaL; rw [List.foldl_append]; rfl
theorem vaL_zero (b : Nat) (l : List Nat) : ∀ m, vaL b (l ++ List.replicate m 0) = vaL b l * b ^ m
  | 0 => by rw [List.replicate_zero, List.append_nil, Nat.pow_zero, Nat.mul_one]
  | m + 1 => by rw [List.replicate_succ', ← List.append_assoc, vaL_snoc, vaL_zero b l m, Nat.add_zero, Nat.pow_succ, Nat.mul_comm b, Nat.mul_assoc]
theorem take_snoc {l : List Nat} {k : Nat} (h : k < l.length) : l.take (k + 1) = l.take k ++ [l.getD k 0] := by
  rw [List.take_succ_eq_append_getElem h, List.getD_eq_getElem?_getD, List.getElem?_eq_getElem h]; rfl
theorem getD_mem {l : List Nat} {k : Nat} (h : k < l.length) : l.getD k 0 ∈ l := by
  rw [List.getD_eq_getElem?_getD, List.getElem?_eq_getElem h]; exact List.getElem_mem h
theorem va_lt {b : Nat} {l : List Nat} (hb : ∀ x ∈ l, x < b) : ∀ k, k ≤ l.length → vaL b (l.take k) < b ^ k
  | 0, _ => by rw [List.take_zero]; exact Nat.one_pos
  | k + 1, h => by
    have i := va_lt hb k (by omega)
    have g := hb _ (getD_mem (show k < l.length by omega))
    rw [take_snoc (by omega), vaL_snoc, Nat.pow_succ, Nat.mul_comm _ b]
    calc b * vaL b (l.take k) + l.getD k 0 < b * vaL b (l.take k) + b := by omega
      _ = b * (vaL b (l.take k) + 1) := by rw [Nat.mul_add, Nat.mul_one]
      _ ≤ b * b ^ k := Nat.mul_le_mul (Nat.le_refl _) i
theorem va_step {b : Nat} {l : List Nat} (hb : ∀ x ∈ l, x < b) {k : Nat} (h : k < l.length) : vaL b (l.take (k + 1)) / b = vaL b (l.take k) ∧ vaL b (l.take (k + 1)) % b = l.getD k 0 := by
  have g := hb _ (getD_mem h)
  rw [take_snoc h, vaL_snoc]
  refine ⟨?_, ?_⟩
  · rw [Nat.mul_add_div (by omega), Nat.div_eq_of_lt g, Nat.add_zero]
  · rw [Nat.mul_add_mod, Nat.mod_eq_of_lt g]
theorem qN_div {a d : Nat} (ha : a < 2 ^ 62 ∧ 0 < d ∧ d < 2 ^ 62) : lN a / lN d = lN (a / d) := by
  apply Int64.toInt_inj.mp
  have e1 := pf_lI (a := a) (by omega)
  have e2 := pf_lI (a := d) (by omega)
  have := Nat.div_le_self a d
  rw [lg_ldiv_nonneg (by rw [e1]; omega) (by rw [e2]; omega), e1, e2, pf_lI (by omega)]; exact (Int.natCast_ediv a d).symm
theorem qN_mul (a b : Nat) : lN a * lN b = lN (a * b) := by rw [← zl_lN, ← zl_lN, zl_mul, ← zl_lN]; exact congrArg zl (Int.natCast_mul a b).symm
theorem qN_sub {a b : Nat} (h : b ≤ a) : lN a - lN b = lN (a - b) := by
  rw [← zl_lN, ← zl_lN, zl_sub, ← zl_lN]; exact congrArg zl (by omega)
theorem qN_rem {a d : Nat} (ha : a < 2 ^ 62 ∧ 0 < d ∧ d < 2 ^ 62) : lrm (lN a) (lN d) = lN (a % d) := by
  unfold lrm
  rw [qN_div ha, qN_mul, qN_sub (Nat.div_mul_le_self a d)]
  exact congrArg lN (by have := Nat.div_add_mod' a d; omega)
theorem qN_pos {a : Nat} (h : a < 2 ^ 62) : (0 < lg_cmp (lN a) 0) = (0 < a) := by
  rw [← zl_lN, zlc_0, zc_gt (by omega)]
  exact propext ⟨fun h => by omega, fun h => by omega⟩
section OPS3
variable {N : Nat} {A : pL} {H : hL} {pa : Nat × (Nat → hL)} {se : Nat × (Nat → Nat × Bool)} {s s' t t' : mS}
def pad6 (l : List Nat) : List Nat := l ++ List.replicate (6 - l.length) 0
theorem pad6_va {l : List Nat} : nmX l = vaL 100 (pad6 l) := (vaL_zero _ _ _).symm
theorem letX {l : List Nat} {p k : Nat} (hl : l.length ≤ 6) (hx : ∀ x ∈ l, x < 100) (hp : p < 10) (hk : k < 6) (hq : gQ s 4 p = lN (nmX l)) (hN : 10000 ≤ N) : f_Pl_letterOf N 2 (nI p) (nI k) s = some (nI ((pad6 l).getD k 0), s) := by
  have h6 : (pad6 l).length = 6 := by unfold pad6; rw [List.length_append, List.length_replicate]; omega
  have hx6 : ∀ x ∈ pad6 l, x < 100 := by
    intro x h
    rcases List.mem_append.mp h with h | h
    · exact hx x h
    · rw [(List.mem_replicate.mp h).2]; omega
  have lt6 : ∀ j, j ≤ 6 → vaL 100 ((pad6 l).take j) < 1000000000000 := fun j hj => by
    have := va_lt hx6 j (by omega)
    exact Nat.lt_of_lt_of_le this (Nat.pow_le_pow_right (n := 100) (by omega) hj)
  have e0 : nmX l = vaL 100 ((pad6 l).take 6) := by rw [pad6_va, List.take_of_length_le (by omega)]
  have hl2 : Ok (mfix N (f_Pl_letterOf_L10 N) (lN (nmX l), nI k, s)) (fun r => r = (nI ((pad6 l).getD k 0), s)) := by
    refine mfix_up (fun i x => x = (lN (vaL 100 ((pad6 l).take (6 - i))), nI (k + i), s)) (5 - k) ?_ ?_ N 0 _ (by rw [e0]; rfl) (Nat.zero_le _) (by omega)
    · rintro i f x hi hx2 hk2
      rw [hx2]
      have e := (va_step hx6 (show 5 - i < (pad6 l).length by omega)).1
      rw [show 5 - i + 1 = 6 - i by omega] at e
      have := lt6 (6 - i) (by omega)
      have q : lN (vaL 100 ((pad6 l).take (6 - i))) / 100 = lN (vaL 100 ((pad6 l).take (5 - i))) := by rw [show (100 : Int64) = lN 100 from rfl, qN_div ⟨by omega, by omega, by omega⟩, e]
      simp (disch := first | omega | decide) only [f_Pl_letterOf_L10, zI_0, zI_1, zI_2, zI_3, zI_4, zI_5, zI_6, zI_7, zI_8, zI_9, zI_10, zI_11, zI_12, zI_13, zI_14, zI_15, zI_16, zI_17, zI_18, zI_19, zI_20, zI_21, zI_22, zI_23, zI_24, zI_25, zI_26, zI_27, zI_28, zI_29, zI_30, zI_31, zI_32, zI_33, zI_34, zI_35, zI_36, zI_37, zI_38, zI_39, zI_40, zI_41, zI_42, zI_43, zI_44, zI_45, zI_46, zI_47, zI_48, zI_49, zI_50, zI_51, zI_52, zI_53, zI_54, zI_55, zI_56, zI_57, zI_58, zI_59, zI_60, zI_61, zI_62, zI_63, zI_64, zI_65, zI_66, zI_67, zI_74, zI_84, zI_85, zI_88, zI_91, zI_93, zI_97, zI_99, zI_100, zI_102, zI_105, zI_117, zI_122, zI_193, zI_202, zI_205, zI_251, zI_255, zI_256, zI_257, zI_258, zI_259, zI_260, zI_640, zI_999, zI_1000, zI_1024, zI_1600, zI_1602, zI_1700, zI_2040, zI_3200, zI_4100, zI_9728, zI_11784, zI_61440, zI_65536, zI_470536, zI_999999, zI_1000000, lt_T, lt_F, le_T, le_F, eq_T, eq_F, neg_1, cn_m1p, cn_m11, nI_add, cn_sub, pk_mul, cn_div, cn_irm, cn_lt, cn_eq, cn_ltm1, cn_m1lt, cn_eqm1, cn_m1eq, cn_ix, cn_inb, cn_ninb, cn_irs, cn_ils, cn_and, cn_or, cn_xor, grd_t, grd_bt, grd_bl, Nat.add_zero, Nat.zero_add, Nat.reduceAdd, Nat.reduceSub, Nat.reduceMul, Nat.reduceLT, Nat.reduceEqDiff, eq_self, true_and, and_true, and_false, false_and, if_true, if_false, and_self, Bool.true_eq_false, Bool.false_eq_true, q]
      refine hk2 _ ?_
      rw [show 6 - (i + 1) = 5 - i by omega]; rfl
    · rintro f x hx2
      rw [hx2]
      have e := (va_step hx6 (show k < (pad6 l).length by omega)).2
      have := lt6 (k + 1) (by omega)
      have q : lrm (lN (vaL 100 ((pad6 l).take (k + 1)))) 100 = lN ((pad6 l).getD k 0) := by rw [show (100 : Int64) = lN 100 from rfl, qN_rem ⟨by omega, by omega, by omega⟩, e]
      rw [show 6 - (5 - k) = k + 1 by omega, show k + (5 - k) = 5 by omega]
      simp (disch := first | omega | decide) only [f_Pl_letterOf_L10, zI_0, zI_1, zI_2, zI_3, zI_4, zI_5, zI_6, zI_7, zI_8, zI_9, zI_10, zI_11, zI_12, zI_13, zI_14, zI_15, zI_16, zI_17, zI_18, zI_19, zI_20, zI_21, zI_22, zI_23, zI_24, zI_25, zI_26, zI_27, zI_28, zI_29, zI_30, zI_31, zI_32, zI_33, zI_34, zI_35, zI_36, zI_37, zI_38, zI_39, zI_40, zI_41, zI_42, zI_43, zI_44, zI_45, zI_46, zI_47, zI_48, zI_49, zI_50, zI_51, zI_52, zI_53, zI_54, zI_55, zI_56, zI_57, zI_58, zI_59, zI_60, zI_61, zI_62, zI_63, zI_64, zI_65, zI_66, zI_67, zI_74, zI_84, zI_85, zI_88, zI_91, zI_93, zI_97, zI_99, zI_100, zI_102, zI_105, zI_117, zI_122, zI_193, zI_202, zI_205, zI_251, zI_255, zI_256, zI_257, zI_258, zI_259, zI_260, zI_640, zI_999, zI_1000, zI_1024, zI_1600, zI_1602, zI_1700, zI_2040, zI_3200, zI_4100, zI_9728, zI_11784, zI_61440, zI_65536, zI_470536, zI_999999, zI_1000000, lt_T, lt_F, le_T, le_F, eq_T, eq_F, neg_1, cn_m1p, cn_m11, nI_add, cn_sub, pk_mul, cn_div, cn_irm, cn_lt, cn_eq, cn_ltm1, cn_m1lt, cn_eqm1, cn_m1eq, cn_ix, cn_inb, cn_ninb, cn_irs, cn_ils, cn_and, cn_or, cn_xor, grd_t, grd_bt, grd_bl, Nat.add_zero, Nat.zero_add, Nat.reduceAdd, Nat.reduceSub, Nat.reduceMul, Nat.reduceLT, Nat.reduceEqDiff, eq_self, true_and, and_true, and_false, false_and, if_true, if_false, and_self, Bool.true_eq_false, Bool.false_eq_true, q, lN_i]
      exact Ok_some rfl
  obtain ⟨x, h1, h2⟩ := hl2
  have o1 : isO Sx 2 4 = true := by decide +kernel
  have o2 : aln Sx 3 (2 + 2) = 10 := by decide +kernel
  simp (disch := first | omega | decide) only [f_Pl_letterOf, o1, o2, cn_inb, cn_ix, grd_t, show 2 + 2 = 4 from rfl, hq]
  rw [h1, h2]
theorem letM {l : List Nat} {p k : Nat} (hl : l.length ≤ 6) (hx : ∀ x ∈ l, 1 ≤ x ∧ x ≤ 26) (hk : k < 6) (hN : 10000 ≤ N) : Ok (mfix N (f_M_letter_L39 N) (nI k, lN (vaL 27 l), nI 0, lN (vaL 27 l), t)) (fun r => r = (nI (l.getD k 0), t)) := by
  have hx27 : ∀ x ∈ l, x < 27 := fun x h => by have := hx x h; omega
  have ltj : ∀ j, j ≤ l.length → vaL 27 (l.take j) < 1000000000 := fun j hj => by
    have := va_lt hx27 j hj
    exact Nat.lt_of_lt_of_le this (Nat.le_trans (Nat.pow_le_pow_right (n := 27) (by omega) (show j ≤ 6 by omega)) (by decide))
  have e0 : vaL 27 l = vaL 27 (l.take l.length) := by rw [List.take_of_length_le (Nat.le_refl _)]
  have d27 : ∀ j, j < l.length → lN (vaL 27 (l.take (j + 1))) / 27 = lN (vaL 27 (l.take j)) := fun j hj => by
    have := ltj (j + 1) hj
    rw [show (27 : Int64) = lN 27 from rfl, qN_div ⟨by omega, by omega, by omega⟩, (va_step hx27 hj).1]
  refine mfix_up (fun i x => x = (nI k, lN (vaL 27 l), nI i, lN (vaL 27 (l.take (l.length - i))), t)) l.length ?_ ?_ N 0 _ (by rw [Nat.sub_zero, ← e0]) (Nat.zero_le _) (by omega)
  · rintro i f x hi hx2 hk2
    rw [hx2]
    have hb := ltj (l.length - i) (by omega)
    have e := (va_step hx27 (show l.length - i - 1 < l.length by omega)).2
    rw [show l.length - i - 1 + 1 = l.length - i by omega] at e
    have hg := (hx _ (getD_mem (show l.length - i - 1 < l.length by omega))).1
    have hpos : 0 < vaL 27 (l.take (l.length - i)) := by
      rcases Nat.eq_zero_or_pos (vaL 27 (l.take (l.length - i))) with h | h
      · rw [h] at e; omega
      · exact h
    have q := (qN_pos (show vaL 27 (l.take (l.length - i)) < 2 ^ 62 by omega)).trans (eq_true hpos)
    have d := d27 (l.length - i - 1) (by omega)
    rw [show l.length - i - 1 + 1 = l.length - i by omega] at d
    simp only [f_M_letter_L39, q, if_true, d]
    exact hk2 _ (by rw [show l.length - (i + 1) = l.length - i - 1 by omega, nI_succ])
  · rintro f x hx2
    rw [hx2, Nat.sub_self, List.take_zero]
    have q : (0 < lg_cmp (lN (vaL 27 [])) 0) = False := (qN_pos (show vaL 27 [] < 2 ^ 62 by decide)).trans (eq_false (by decide))
    have q2 : (nI k < nI l.length) = (k < l.length) := cn_lt ⟨by omega, by omega⟩
    simp only [f_M_letter_L39, q, if_false, q2]
    by_cases c : k < l.length
    · rw [if_pos c, show nI l.length - 1 = nI (l.length - 1) from cn_sub (b := 1) (by omega)]
      refine mfix_up (fun i x => x = (nI k, lN (vaL 27 (l.take (l.length - i))), nI (l.length - 1 - i), t)) (l.length - 1 - k) ?_ ?_ N 0 _ (by rw [Nat.sub_zero, Nat.sub_zero, ← e0]) (Nat.zero_le _) (by omega)
      · rintro i f x hi hx3 hk2
        rw [hx3]
        have d := d27 (l.length - 1 - i) (by omega)
        rw [show l.length - 1 - i + 1 = l.length - i by omega] at d
        simp (disch := first | omega | decide) only [f_M_letter_L74, zI_0, zI_1, zI_2, zI_3, zI_4, zI_5, zI_6, zI_7, zI_8, zI_9, zI_10, zI_11, zI_12, zI_13, zI_14, zI_15, zI_16, zI_17, zI_18, zI_19, zI_20, zI_21, zI_22, zI_23, zI_24, zI_25, zI_26, zI_27, zI_28, zI_29, zI_30, zI_31, zI_32, zI_33, zI_34, zI_35, zI_36, zI_37, zI_38, zI_39, zI_40, zI_41, zI_42, zI_43, zI_44, zI_45, zI_46, zI_47, zI_48, zI_49, zI_50, zI_51, zI_52, zI_53, zI_54, zI_55, zI_56, zI_57, zI_58, zI_59, zI_60, zI_61, zI_62, zI_63, zI_64, zI_65, zI_66, zI_67, zI_74, zI_84, zI_85, zI_88, zI_91, zI_93, zI_97, zI_99, zI_100, zI_102, zI_105, zI_117, zI_122, zI_193, zI_202, zI_205, zI_251, zI_255, zI_256, zI_257, zI_258, zI_259, zI_260, zI_640, zI_999, zI_1000, zI_1024, zI_1600, zI_1602, zI_1700, zI_2040, zI_3200, zI_4100, zI_9728, zI_11784, zI_61440, zI_65536, zI_470536, zI_999999, zI_1000000, lt_T, lt_F, le_T, le_F, eq_T, eq_F, neg_1, cn_m1p, cn_m11, nI_add, cn_sub, pk_mul, cn_div, cn_irm, cn_lt, cn_eq, cn_ltm1, cn_m1lt, cn_eqm1, cn_m1eq, cn_ix, cn_inb, cn_ninb, cn_irs, cn_ils, cn_and, cn_or, cn_xor, grd_t, grd_bt, grd_bl, Nat.add_zero, Nat.zero_add, Nat.reduceAdd, Nat.reduceSub, Nat.reduceMul, Nat.reduceLT, Nat.reduceEqDiff, eq_self, true_and, and_true, and_false, false_and, if_true, if_false, and_self, Bool.true_eq_false, Bool.false_eq_true, d]
        refine hk2 _ ?_
        rw [show l.length - (i + 1) = l.length - 1 - i by omega, show l.length - 1 - (i + 1) = l.length - 1 - i - 1 by omega]
      · rintro f x hx3
        rw [hx3, show l.length - (l.length - 1 - k) = k + 1 by omega, show l.length - 1 - (l.length - 1 - k) = k by omega]
        have hb := ltj (k + 1) (by omega)
        have e := (va_step hx27 c).2
        have q : lrm (lN (vaL 27 (l.take (k + 1)))) 27 = lN (l.getD k 0) := by rw [show (27 : Int64) = lN 27 from rfl, qN_rem ⟨by omega, by omega, by omega⟩, e]
        simp (disch := first | omega | decide) only [f_M_letter_L74, zI_0, zI_1, zI_2, zI_3, zI_4, zI_5, zI_6, zI_7, zI_8, zI_9, zI_10, zI_11, zI_12, zI_13, zI_14, zI_15, zI_16, zI_17, zI_18, zI_19, zI_20, zI_21, zI_22, zI_23, zI_24, zI_25, zI_26, zI_27, zI_28, zI_29, zI_30, zI_31, zI_32, zI_33, zI_34, zI_35, zI_36, zI_37, zI_38, zI_39, zI_40, zI_41, zI_42, zI_43, zI_44, zI_45, zI_46, zI_47, zI_48, zI_49, zI_50, zI_51, zI_52, zI_53, zI_54, zI_55, zI_56, zI_57, zI_58, zI_59, zI_60, zI_61, zI_62, zI_63, zI_64, zI_65, zI_66, zI_67, zI_74, zI_84, zI_85, zI_88, zI_91, zI_93, zI_97, zI_99, zI_100, zI_102, zI_105, zI_117, zI_122, zI_193, zI_202, zI_205, zI_251, zI_255, zI_256, zI_257, zI_258, zI_259, zI_260, zI_640, zI_999, zI_1000, zI_1024, zI_1600, zI_1602, zI_1700, zI_2040, zI_3200, zI_4100, zI_9728, zI_11784, zI_61440, zI_65536, zI_470536, zI_999999, zI_1000000, lt_T, lt_F, le_T, le_F, eq_T, eq_F, neg_1, cn_m1p, cn_m11, nI_add, cn_sub, pk_mul, cn_div, cn_irm, cn_lt, cn_eq, cn_ltm1, cn_m1lt, cn_eqm1, cn_m1eq, cn_ix, cn_inb, cn_ninb, cn_irs, cn_ils, cn_and, cn_or, cn_xor, grd_t, grd_bt, grd_bl, Nat.add_zero, Nat.zero_add, Nat.reduceAdd, Nat.reduceSub, Nat.reduceMul, Nat.reduceLT, Nat.reduceEqDiff, eq_self, true_and, and_true, and_false, false_and, if_true, if_false, and_self, Bool.true_eq_false, Bool.false_eq_true, q, lN_i]
        exact Ok_some rfl
    · rw [if_neg c]
      refine Ok_some ?_
      rw [List.getD_eq_getElem?_getD, List.getElem?_eq_none (by omega)]; rfl
theorem pad_get {l : List Nat} (k : Nat) : (pad6 l).getD k 0 = l.getD k 0 := by
  rw [List.getD_eq_getElem?_getD, List.getD_eq_getElem?_getD]
  unfold pad6
  rw [List.getElem?_append]
  split
  · rfl
  · rw [List.getElem?_replicate, List.getElem?_eq_none (by omega)]
    split <;> rfl
theorem P_letter (hN : 10000 ≤ N) : Pure_5 Inv N := by
  rintro a b s t ⟨A, H, pa, se, hW, hX, hM, hR⟩
  have hI : Inv s t := ⟨A, H, pa, se, hW, hX, hM, hR⟩
  have hA := hW.1
  have hp10 := hA.2.1
  obtain ⟨v, hv1, hv2, rfl⟩ := arg_z a
  obtain ⟨u, hu1, hu2, rfl⟩ := arg_z b
  have q1 := xIsPorter_n (N := N) hA hX.1 ⟨hv1, hv2⟩
  have q2 := mIsPorter_n (N := N) hA hM.1 ⟨hv1, hv2⟩
  have q3 : (zi u < 0) = (u < 0) := zi_n_lt (n := 0) ⟨hu1, hu2⟩ (by omega)
  have q4 : (5 < zi u) = (5 < u) := n_zi_lt (n := 5) ⟨hu1, hu2⟩ (by omega)
  have q5 : f_M_isIn N (zi u).toInt64 0 5 t = some (nI (if 0 ≤ u ∧ u ≤ 5 then 1 else 0), t) := by
    rw [zi_l ⟨hu1, hu2⟩]; exact isIn_z (b := 0) (c := 5) ⟨hu1, hu2⟩ (by omega) (by omega)
  have i0 : (nI 1 = 0) = False := eq_false (by decide)
  have i1 : (nI 0 = 0) = True := eq_true (by decide)
  by_cases c : 0 ≤ v ∧ v < pP A
  · rw [if_pos c] at q1 q2
    by_cases c2 : 0 ≤ u ∧ u ≤ 5
    · rw [if_pos c2] at q5
      obtain ⟨p, rfl⟩ := Int.eq_ofNat_of_zero_le c.1
      obtain ⟨k, rfl⟩ := Int.eq_ofNat_of_zero_le c2.1
      have hp : p < pP A := by omega
      obtain ⟨l1, l2, l3⟩ := hA.2.2.2.2.2.2.2.1 p hp
      have eX := letX (N := N) (k := k) l2 (fun x hx => by have := l3 x hx; omega) (show p < 10 by omega) (by omega) (hX.2.1 p hp) hN
      obtain ⟨x, m1, m2⟩ := letM (N := N) (t := t) (p := p) (k := k) l2 l3 (by omega) hN
      have g := hM.2.1.1 p hp
      refine ⟨nI ((pNm A p).getD k 0), s, t, ?_, ?_, hI⟩
      · simp only [f_X_letter, q1, Option.bind_some, i0, if_false, q3, q4]
        rw [if_neg (by omega), if_neg (by omega), zi_nI, zi_nI, eX, pad_get]; rfl
      · simp only [f_M_letter, q2, q5, Option.bind_some, i0, if_false]
        rw [zi_nI, zi_nI, show (10 : Int32) + nI p = nI (10 + p) from nI_add 10 p, cn_inb (by omega), grd_t, cn_ix (by omega), g, show (0 : Int32) = nI 0 from rfl, m1, m2]
    · rw [if_neg c2] at q5
      refine ⟨-1, s, t, ?_, ?_, hI⟩
      · simp only [f_X_letter, q1, Option.bind_some, i0, if_false, q3, q4]
        by_cases c3 : u < 0
        · rw [if_pos c3]
        · rw [if_neg c3, if_pos (by omega)]
      · simp only [f_M_letter, q2, q5, Option.bind_some, i0, i1, if_false, if_true]
  · rw [if_neg c] at q1 q2
    refine ⟨-1, s, t, ?_, ?_, hI⟩
    · simp only [f_X_letter, q1, Option.bind_some]; rfl
    · simp only [f_M_letter, q2, Option.bind_some]; rfl
theorem P_kept (hN : 10000 ≤ N) : Pure_9 Inv N := by
  rintro a b s t ⟨A, H, pa, se, hW, hX, hM, hR⟩
  have hI : Inv s t := ⟨A, H, pa, se, hW, hX, hM, hR⟩
  have hB := hW.2.1
  have h3 := hB.2.2.2.1
  have hK : MK H t := hM.2.2.1.2.2
  have hm : min 40 (H.1 3) ≤ 40 := Nat.min_le_left _ _
  obtain ⟨v, hv1, hv2, rfl⟩ := arg_z a
  have q1 : (zi v < 0) = (v < 0) := zi_n_lt (n := 0) ⟨hv1, hv2⟩ (by omega)
  have q2 : (zi v < nI (min 40 (H.1 3))) = (v < ((min 40 (H.1 3) : Nat) : Int)) := zi_n_lt ⟨hv1, hv2⟩ (by omega)
  have q3 := isIn_n (N := N) (s := t) ⟨hv1, hv2⟩ (show min 40 (H.1 3) < 1000000 by omega)
  have eK := keptTold_n (N := N) (Or.inl rfl) hB hX.2.2.1
  rw [← hK.1] at q3
  have i0 : (nI 1 = 0) = False := eq_false (by decide)
  have i1 : (nI 0 = 0) = True := eq_true (by decide)
  by_cases c : 0 ≤ v ∧ v < ((min 40 (H.1 3) : Nat) : Int)
  · rw [if_pos c] at q3
    obtain ⟨k, rfl⟩ := Int.eq_ofNat_of_zero_le c.1
    have hk : k < min 40 (H.1 3) := by omega
    have r3 : gA s 20 3 = nI (H.1 3) := hX.2.2.1.1 3 (by omega)
    have rr : gA s 20 (62 + (H.1 3 - min 40 (H.1 3) + k) % 40) = nI (enc (H.2 (H.1 3 - min 40 (H.1 3) + k))) := hX.2.2.1.2 _ (by omega) (by omega)
    obtain ⟨b1, b2, b3⟩ := hB.2.2.2.2.2.2.2 (H.1 3 - min 40 (H.1 3) + k) (by omega)
    have mm := hK.2 k hk
    generalize H.2 (H.1 3 - min 40 (H.1 3) + k) = q at *
    have eAt : ∀ w, f_Ha_keptAt N 19 (nI k) w s = if w = 0 then some (nI q.1, s) else if w = 1 then some (nI q.2.1, s) else if w = 2 then some (nI q.2.2, s) else some (-1, s) := by
      intro w
      obtain ⟨o1, o2⟩ := ho_ok (o := 19) (Or.inl rfl)
      have e0 : (enc q / 25 / 10) = q.1 := by unfold enc; omega
      have e1 : (enc q / 25 % 10) = q.2.1 := by unfold enc; omega
      have e2 : enc q % 25 = q.2.2 := by unfold enc; omega
      have hq : enc q < 1000000 := by unfold enc; omega
      unfold f_Ha_keptAt
      simp (disch := first | omega | decide) only [o1, o2, grd_t, eK, Option.bind_some, show (19 + 1) = 20 from rfl, r3, show (3 : Int32) = nI 3 from rfl, cn_inb, cn_sub, nI_add, show (40 : Int32) = nI 40 from rfl, cn_irm, show (62 : Int32) = nI 62 from rfl, cn_ix, rr, show (25 : Int32) = nI 25 from rfl, show (10 : Int32) = nI 10 from rfl, cn_div, e0, e1, e2]
    by_cases cb : ∃ j, j < 3 ∧ b = nI j
    · obtain ⟨j, hj, rfl⟩ := cb
      have q5 : f_M_isIn N (nI j).toInt64 0 2 t = some (nI 1, t) := by
        rw [nI_zl (by omega)]
        have := isIn_z (N := N) (s := t) (a := j) (b := 0) (c := 2) ⟨by omega, by omega⟩ (by omega) (by omega)
        rw [if_pos (by omega)] at this; exact this
      have : j = 0 ∨ j = 1 ∨ j = 2 := by omega
      have ej : ∀ x, (gA t 34 (85 + 3 * k + j) = nI x) → f_M_kept N (zi (k : Int)) (nI j) t = some (nI x, t) := by
        intro x hx
        simp only [f_M_kept, show (1 : Int32) = 1 from rfl, q3, Option.bind_some, i0, if_false, q5]
        rw [zi_nI]
        simp (disch := first | omega | decide) only [show (85 : Int32) = nI 85 from rfl, show (3 : Int32) = nI 3 from rfl, pk_mul, nI_add, cn_inb, cn_ix, grd_t, hx]
      have eX : ∀ x, f_Ha_keptAt N 19 (nI k) (nI j) s = some (nI x, s) → f_X_kept N (zi (k : Int)) (nI j) s = some (nI x, s) := by
        intro x hx
        simp only [f_X_kept, q1, eK, Option.bind_some, q2]
        rw [if_neg (by omega), if_pos (by omega), zi_nI, hx]; rfl
      rcases this with rfl | rfl | rfl
      · exact ⟨nI q.1, s, t, eX _ (by rw [eAt]; rfl), ej _ mm.1, hI⟩
      · exact ⟨nI q.2.1, s, t, eX _ (by rw [eAt]; rfl), ej _ (by rw [show 85 + 3 * k + 1 = 86 + 3 * k by omega]; exact mm.2.1), hI⟩
      · exact ⟨nI q.2.2, s, t, eX _ (by rw [eAt]; rfl), ej _ (by rw [show 85 + 3 * k + 2 = 87 + 3 * k by omega]; exact mm.2.2), hI⟩
    · refine ⟨-1, s, t, ?_, ?_, hI⟩
      · simp only [f_X_kept, q1, eK, Option.bind_some, q2]
        rw [if_neg (by omega), if_pos (by omega), zi_nI, eAt, if_neg (show ¬ b = 0 from fun h => cb ⟨0, by omega, h⟩), if_neg (show ¬ b = 1 from fun h => cb ⟨1, by omega, h⟩), if_neg (show ¬ b = 2 from fun h => cb ⟨2, by omega, h⟩)]; rfl
      · obtain ⟨u, hu1, hu2, rfl⟩ := arg_z b
        have q5 : f_M_isIn N (zi u).toInt64 0 2 t = some (nI (if 0 ≤ u ∧ u ≤ 2 then 1 else 0), t) := by
          rw [zi_l ⟨hu1, hu2⟩]; exact isIn_z (b := 0) (c := 2) ⟨hu1, hu2⟩ (by omega) (by omega)
        rw [if_neg (fun h => by
          obtain ⟨j, rfl⟩ := Int.eq_ofNat_of_zero_le h.1
          exact cb ⟨j, by omega, zi_nI j⟩)] at q5
        simp only [f_M_kept, q3, Option.bind_some, i0, i1, if_false, if_true, q5]
  · rw [if_neg c] at q3
    refine ⟨-1, s, t, ?_, ?_, hI⟩
    · simp only [f_X_kept, q1, eK, Option.bind_some, q2]
      by_cases c1 : v < 0
      · rw [if_pos c1]
      · rw [if_neg c1, if_neg (by omega)]
    · simp only [f_M_kept, q3, Option.bind_some, i1, if_true]
end OPS3
