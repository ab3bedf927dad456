/-! SETS of porters: what is reckoned -/
def chN (A : pL) (H : hL) (c n : Nat) : Nat := itN (fun p acc => if c.testBit p then acc ^^^ ordS A H p else acc) n 0
theorem chN_s (A : pL) (H : hL) (c n : Nat) : chN A H c (n + 1) = if c.testBit n then chN A H c n ^^^ ordS A H n else chN A H c n := rfl
theorem chN_P (A : pL) (H : hL) (c : Nat) : chN A H c (pP A) = chS A H c := rfl
theorem chN_lt {A : pL} {H : hL} (c : Nat) : ∀ n, chN A H c n < 2 ^ pD A
  | 0 => Nat.two_pow_pos _
  | n + 1 => by
    rw [chN_s]
    split
    · exact Nat.xor_lt_two_pow (chN_lt c n) (ordN_lt _ _ _ _)
    · exact chN_lt c n
theorem chS_lt {A : pL} {H : hL} (hA : WA A) (c : Nat) : chS A H c < 16777216 := Nat.lt_of_lt_of_le (chN_lt c _) (pw_le hA.1)
theorem chN_hi {A : pL} {H : hL} {c n : Nat} (hc : c < 2 ^ n) : ∀ m, m ≤ n → chN A H (2 ^ n + c) m = chN A H c m
  | 0, _ => rfl
  | m + 1, h => by
    rw [chN_s, chN_s, chN_hi hc m (by omega)]
    have : (2 ^ n + c).testBit m = c.testBit m := by
      rw [Nat.testBit_two_pow_add_gt (by omega)]
    rw [this]
theorem chN_top {A : pL} {H : hL} {c n : Nat} (hc : c < 2 ^ n) : chN A H (2 ^ n + c) (n + 1) = chN A H c n ^^^ ordS A H n := by
  rw [chN_s, chN_hi hc n (Nat.le_refl _), Nat.testBit_two_pow_add_eq, Nat.testBit_lt_two_pow hc]; rfl
theorem chN_low {A : pL} {H : hL} {c n : Nat} (hc : c < 2 ^ n) : chN A H c (n + 1) = chN A H c n := by
  rw [chN_s, Nat.testBit_lt_two_pow hc]; rfl
theorem sOp_lt {A : pL} {se : Nat × (Nat → Nat × Bool)} (hA : WA A) (hS : WS A se) : sOp se < 16777216 := by
  have : sOp se < 2 ^ pD A := by
    unfold sOp
    refine itN_invL (D := se.1) (fun _ (x : Nat) => x < 2 ^ pD A) (Nat.two_pow_pos _) (fun i x hi hx => ?_) _ (Nat.le_refl _)
    show (if _ then _ else _) < _
    split
    · exact Nat.or_lt_two_pow hx (by rw [Nat.shiftLeft_eq, Nat.one_mul]; exact Nat.pow_lt_pow_right (by omega) (hS.2 i hi))
    · exact hx
  exact Nat.lt_of_lt_of_le this (pw_le hA.1)
theorem sSh_lt {A : pL} {se : Nat × (Nat → Nat × Bool)} (hA : WA A) (hS : WS A se) : sSh se < 16777216 := by
  have : sSh se < 2 ^ pD A := by
    unfold sSh
    refine itN_invL (D := se.1) (fun _ (x : Nat) => x < 2 ^ pD A) (Nat.two_pow_pos _) (fun i x hi hx => ?_) _ (Nat.le_refl _)
    show (if _ then _ else _) < _
    split
    · exact hx
    · exact Nat.or_lt_two_pow hx (by rw [Nat.shiftLeft_eq, Nat.one_mul]; exact Nat.pow_lt_pow_right (by omega) (hS.2 i hi))
  exact Nat.lt_of_lt_of_le this (pw_le hA.1)
theorem cntN_le (p : Nat → Bool) : ∀ n, cntN p n ≤ n
  | 0 => Nat.le_refl _
  | n + 1 => by
    have := cntN_le p n
    unfold cntN; split <;> omega
theorem cntN_mono (p : Nat → Bool) {m n : Nat} (h : m ≤ n) : cntN p m ≤ cntN p n := by
  induction n with
  | zero => rw [Nat.le_zero.mp h]; exact Nat.le_refl _
  | succ n ih =>
    by_cases e : m = n + 1
    · rw [e]; exact Nat.le_refl _
    · have h1 := ih (by omega)
      have h2 : cntN p (n + 1) = cntN p n + (if p n then 1 else 0) := rfl
      omega
theorem cntN_yes {p : Nat → Bool} {n : Nat} (h : p n = true) : cntN p (n + 1) = cntN p n + 1 := by rw [cntN, if_pos h]
theorem cntN_no {p : Nat → Bool} {n : Nat} (h : p n = false) : cntN p (n + 1) = cntN p n := by rw [cntN, if_neg (by rw [h]; decide)]; rfl
theorem cntN_kth {p : Nat → Bool} {k : Nat} : ∀ {n : Nat}, k < cntN p n → ∃ c, c < n ∧ p c = true ∧ cntN p c = k
  | 0, h => absurd h (Nat.not_lt_zero _)
  | n + 1, h => by
    by_cases c : k < cntN p n
    · obtain ⟨i, h1, h2, h3⟩ := cntN_kth c
      exact ⟨i, by omega, h2, h3⟩
    · cases e : p n
      · rw [cntN_no e] at h; exact absurd h c
      · rw [cntN_yes e] at h
        exact ⟨n, by omega, e, by omega⟩
theorem pw10 {n : Nat} (h : n ≤ 10) : 2 ^ n ≤ 1024 := Nat.pow_le_pow_right (n := 2) (by omega) h
section SETS
variable {N : Nat} {A : pL} {H : hL} {pa : Nat × (Nat → hL)} {se : Nat × (Nat → Nat × Bool)} {s s' t t' : mS}
def kSe : List Nat := [26, 28, 30, 31, 90337, 90437, 90637, 38, 39]
theorem recFits_n (hA : WA A) (hB : HB A H) (hS : WS A se) (hR : HR 19 H s) (h1 : gI s 804 37 = nI (2 ^ pP A)) (h2 : ∀ c, c < 2 ^ pP A → gA s 38 c = nI (chS A H c)) (h3 : gI s 809 37 = nI (sOp se)) (h4 : gI s 810 37 = nI (sSh se)) (hN : 10000 ≤ N) :
    ∃ s', f_Se_reckonFits N s = some s' ∧ XRk A H se s' ∧ Fr [90637, 39] s s' := by
  have hp := pw10 hA.2.1
  have l1 := sOp_lt hA hS
  have l2 := sSh_lt hA hS
  have F0 : Fr [90637, 39] s (sI s 806 37 (nI 0)) := Fr_sI _ _ _ (by decide)
  have hl : Ok (mfix N (f_Se_reckonFits_L7 N) (nI 0, sI s 806 37 (nI 0))) (fun r => XRk A H se r ∧ Fr [90637, 39] s r) := by
    refine mfix_up (fun i x => ∃ s1, x = (nI i, s1) ∧ gI s1 806 37 = nI (cntN (fitS A H se) i) ∧ (∀ c, c < i → fitS A H se c = true → gA s1 39 (cntN (fitS A H se) c) = nI c) ∧ Fr [90637, 39] s s1) (2 ^ pP A) ?_ ?_ N 0 _ ⟨_, rfl, by simp (disch := first | omega | decide) only [gI_sI, gI_sA, gI_sL, gI_sQ, gI_sC, gI_sO, gI_sD, gA_sI, gA_sL, gA_sQ, gA_sO, gA_sD, gL_sI, gL_sA, gL_sQ, gL_sC, gL_sO, gL_sD, gQ_sI, gQ_sA, gQ_sL, gQ_sC, gQ_sO, gO_sI, gO_sA, gO_sL, gO_sQ, gO_sC, gO_sO, gO_sD, gA_eq, gA_ne, gQ_eq, gQ_ne, gL_sL, gA_cin, gA_cou, gQ_cin, gQ_cou, Nat.reduceAdd, Nat.reduceSub, Nat.reduceMul, Nat.reduceLT, Nat.reduceEqDiff, eq_self, true_and, and_true, and_false, false_and, if_true, if_false, and_self, Bool.true_eq_false, Bool.false_eq_true]; rfl, fun c h => by omega, F0⟩ (Nat.zero_le _) (by omega)
    · rintro i k x hi ⟨s1, rfl, g1, g2, F⟩ hk
      have e1 : gI s1 804 37 = nI (2 ^ pP A) := by rw [F.I 804 37 (by decide)]; exact h1
      have e2 : gA s1 38 i = nI (chS A H i) := by rw [F.A 38 i (by decide)]; exact h2 i hi
      have e3 : gI s1 809 37 = nI (sOp se) := by rw [F.I 809 37 (by decide)]; exact h3
      have e4 : gI s1 810 37 = nI (sSh se) := by rw [F.I 810 37 (by decide)]; exact h4
      have e5 : gA s1 20 2 = nI (H.1 2) := by rw [F.A 20 2 (by decide)]; exact hR.1 2 (by omega)
      have hc := chS_lt (H := H) hA i
      have ho := HB_op hA hB
      have hx : (H.1 2 ^^^ chS A H i) < 16777216 := Nat.xor_lt_two_pow (n := 24) ho hc
      have hx1 : (H.1 2 ^^^ chS A H i) &&& sOp se < 16777216 := Nat.lt_of_le_of_lt Nat.and_le_left hx
      have hx2 : (H.1 2 ^^^ chS A H i) &&& sSh se < 16777216 := Nat.lt_of_le_of_lt Nat.and_le_left hx
      have cl := cntN_le (fitS A H se) i
      have hfit : fitS A H se i = (decide ((H.1 2 ^^^ chS A H i) &&& sOp se = sOp se) && decide ((H.1 2 ^^^ chS A H i) &&& sSh se = 0)) := rfl
      by_cases c1 : (H.1 2 ^^^ chS A H i) &&& sOp se = sOp se
      · by_cases c2 : (H.1 2 ^^^ chS A H i) &&& sSh se = 0
        · rw [decide_eq_true c1, decide_eq_true c2, Bool.and_self] at hfit
          simp (disch := first | omega | decide) only [f_Se_reckonFits_L7, f_Se_doorsBehind, e1, e2, e3, e4, e5, zI_0, zI_1, zI_2, zI_3, zI_4, zI_5, zI_6, zI_7, zI_8, zI_9, zI_10, zI_11, zI_12, zI_13, zI_14, zI_15, zI_16, zI_17, zI_18, zI_19, zI_20, zI_21, zI_22, zI_23, zI_24, zI_25, zI_26, zI_27, zI_28, zI_29, zI_30, zI_31, zI_32, zI_33, zI_34, zI_35, zI_36, zI_37, zI_38, zI_39, zI_40, zI_41, zI_42, zI_43, zI_44, zI_45, zI_46, zI_47, zI_48, zI_49, zI_50, zI_51, zI_52, zI_53, zI_54, zI_55, zI_56, zI_57, zI_58, zI_59, zI_60, zI_61, zI_62, zI_63, zI_64, zI_65, zI_66, zI_67, zI_74, zI_84, zI_85, zI_88, zI_91, zI_93, zI_97, zI_99, zI_100, zI_102, zI_105, zI_117, zI_122, zI_193, zI_202, zI_205, zI_251, zI_255, zI_256, zI_257, zI_258, zI_259, zI_260, zI_640, zI_999, zI_1000, zI_1024, zI_1600, zI_1602, zI_1700, zI_2040, zI_3200, zI_4100, zI_9728, zI_11784, zI_61440, zI_65536, zI_470536, zI_999999, zI_1000000, lt_T, lt_F, le_T, le_F, eq_T, eq_F, neg_1, cn_m1p, cn_m11, nI_add, cn_sub, pk_mul, cn_div, cn_irm, cn_lt, cn_eq, cn_ltm1, cn_m1lt, cn_eqm1, cn_m1eq, cn_ix, cn_inb, cn_ninb, cn_irs, cn_ils, cn_and, cn_or, cn_xor, grd_t, grd_bt, grd_bl, Nat.add_zero, Nat.zero_add, Nat.reduceAdd, Nat.reduceSub, Nat.reduceMul, Nat.reduceLT, Nat.reduceEqDiff, eq_self, true_and, and_true, and_false, false_and, if_true, if_false, and_self, Bool.true_eq_false, Bool.false_eq_true, Option.bind_some, c1, c2, g1, gI_sI, gI_sA, gI_sL, gI_sQ, gI_sC, gI_sO, gI_sD, gA_sI, gA_sL, gA_sQ, gA_sO, gA_sD, gL_sI, gL_sA, gL_sQ, gL_sC, gL_sO, gL_sD, gQ_sI, gQ_sA, gQ_sL, gQ_sC, gQ_sO, gO_sI, gO_sA, gO_sL, gO_sQ, gO_sC, gO_sO, gO_sD, gA_eq, gA_ne, gQ_eq, gQ_ne, gL_sL, gA_cin, gA_cou, gQ_cin, gQ_cou]
          refine hk _ ⟨_, rfl, ?_, fun c hc hf => ?_, Fr_t F (Fr_t (Fr_sA 39 _ _ (by decide)) (Fr_sI 806 _ _ (by decide)))⟩
          · rw [cntN_yes hfit]; simp (disch := first | omega | decide) only [gI_sI, gI_sA, gI_sL, gI_sQ, gI_sC, gI_sO, gI_sD, gA_sI, gA_sL, gA_sQ, gA_sO, gA_sD, gL_sI, gL_sA, gL_sQ, gL_sC, gL_sO, gL_sD, gQ_sI, gQ_sA, gQ_sL, gQ_sC, gQ_sO, gO_sI, gO_sA, gO_sL, gO_sQ, gO_sC, gO_sO, gO_sD, gA_eq, gA_ne, gQ_eq, gQ_ne, gL_sL, gA_cin, gA_cou, gQ_cin, gQ_cou, Nat.reduceAdd, Nat.reduceSub, Nat.reduceMul, Nat.reduceLT, Nat.reduceEqDiff, eq_self, true_and, and_true, and_false, false_and, if_true, if_false, and_self, Bool.true_eq_false, Bool.false_eq_true]
          · rw [gA_sI]
            by_cases e : c = i
            · rw [e, gA_eq rfl]
            · have h9 : c < i := by omega
              have hm : cntN (fitS A H se) (c + 1) ≤ cntN (fitS A H se) i := cntN_mono _ h9
              rw [cntN_yes hf] at hm
              rw [gA_ne (by omega)]; exact g2 c h9 hf
        · rw [decide_eq_false c2, Bool.and_false] at hfit
          simp (disch := first | omega | decide) only [f_Se_reckonFits_L7, f_Se_doorsBehind, e1, e2, e3, e4, e5, zI_0, zI_1, zI_2, zI_3, zI_4, zI_5, zI_6, zI_7, zI_8, zI_9, zI_10, zI_11, zI_12, zI_13, zI_14, zI_15, zI_16, zI_17, zI_18, zI_19, zI_20, zI_21, zI_22, zI_23, zI_24, zI_25, zI_26, zI_27, zI_28, zI_29, zI_30, zI_31, zI_32, zI_33, zI_34, zI_35, zI_36, zI_37, zI_38, zI_39, zI_40, zI_41, zI_42, zI_43, zI_44, zI_45, zI_46, zI_47, zI_48, zI_49, zI_50, zI_51, zI_52, zI_53, zI_54, zI_55, zI_56, zI_57, zI_58, zI_59, zI_60, zI_61, zI_62, zI_63, zI_64, zI_65, zI_66, zI_67, zI_74, zI_84, zI_85, zI_88, zI_91, zI_93, zI_97, zI_99, zI_100, zI_102, zI_105, zI_117, zI_122, zI_193, zI_202, zI_205, zI_251, zI_255, zI_256, zI_257, zI_258, zI_259, zI_260, zI_640, zI_999, zI_1000, zI_1024, zI_1600, zI_1602, zI_1700, zI_2040, zI_3200, zI_4100, zI_9728, zI_11784, zI_61440, zI_65536, zI_470536, zI_999999, zI_1000000, lt_T, lt_F, le_T, le_F, eq_T, eq_F, neg_1, cn_m1p, cn_m11, nI_add, cn_sub, pk_mul, cn_div, cn_irm, cn_lt, cn_eq, cn_ltm1, cn_m1lt, cn_eqm1, cn_m1eq, cn_ix, cn_inb, cn_ninb, cn_irs, cn_ils, cn_and, cn_or, cn_xor, grd_t, grd_bt, grd_bl, Nat.add_zero, Nat.zero_add, Nat.reduceAdd, Nat.reduceSub, Nat.reduceMul, Nat.reduceLT, Nat.reduceEqDiff, eq_self, true_and, and_true, and_false, false_and, if_true, if_false, and_self, Bool.true_eq_false, Bool.false_eq_true, Option.bind_some, c1, c2]
          refine hk _ ⟨s1, rfl, ?_, fun c hc hf => ?_, F⟩
          · rw [cntN_no hfit]; exact g1
          · by_cases e : c = i
            · rw [e, hfit] at hf; cases hf
            · exact g2 c (by omega) hf
      · rw [decide_eq_false c1, Bool.false_and] at hfit
        simp (disch := first | omega | decide) only [f_Se_reckonFits_L7, f_Se_doorsBehind, e1, e2, e3, e4, e5, zI_0, zI_1, zI_2, zI_3, zI_4, zI_5, zI_6, zI_7, zI_8, zI_9, zI_10, zI_11, zI_12, zI_13, zI_14, zI_15, zI_16, zI_17, zI_18, zI_19, zI_20, zI_21, zI_22, zI_23, zI_24, zI_25, zI_26, zI_27, zI_28, zI_29, zI_30, zI_31, zI_32, zI_33, zI_34, zI_35, zI_36, zI_37, zI_38, zI_39, zI_40, zI_41, zI_42, zI_43, zI_44, zI_45, zI_46, zI_47, zI_48, zI_49, zI_50, zI_51, zI_52, zI_53, zI_54, zI_55, zI_56, zI_57, zI_58, zI_59, zI_60, zI_61, zI_62, zI_63, zI_64, zI_65, zI_66, zI_67, zI_74, zI_84, zI_85, zI_88, zI_91, zI_93, zI_97, zI_99, zI_100, zI_102, zI_105, zI_117, zI_122, zI_193, zI_202, zI_205, zI_251, zI_255, zI_256, zI_257, zI_258, zI_259, zI_260, zI_640, zI_999, zI_1000, zI_1024, zI_1600, zI_1602, zI_1700, zI_2040, zI_3200, zI_4100, zI_9728, zI_11784, zI_61440, zI_65536, zI_470536, zI_999999, zI_1000000, lt_T, lt_F, le_T, le_F, eq_T, eq_F, neg_1, cn_m1p, cn_m11, nI_add, cn_sub, pk_mul, cn_div, cn_irm, cn_lt, cn_eq, cn_ltm1, cn_m1lt, cn_eqm1, cn_m1eq, cn_ix, cn_inb, cn_ninb, cn_irs, cn_ils, cn_and, cn_or, cn_xor, grd_t, grd_bt, grd_bl, Nat.add_zero, Nat.zero_add, Nat.reduceAdd, Nat.reduceSub, Nat.reduceMul, Nat.reduceLT, Nat.reduceEqDiff, eq_self, true_and, and_true, and_false, false_and, if_true, if_false, and_self, Bool.true_eq_false, Bool.false_eq_true, Option.bind_some, c1]
        refine hk _ ⟨s1, rfl, ?_, fun c hc hf => ?_, F⟩
        · rw [cntN_no hfit]; exact g1
        · by_cases e : c = i
          · rw [e, hfit] at hf; cases hf
          · exact g2 c (by omega) hf
    · rintro k x ⟨s1, rfl, g1, g2, F⟩
      have e1 : gI s1 804 37 = nI (2 ^ pP A) := by rw [F.I 804 37 (by decide)]; exact h1
      simp (disch := first | omega | decide) only [f_Se_reckonFits_L7, e1, zI_0, zI_1, zI_2, zI_3, zI_4, zI_5, zI_6, zI_7, zI_8, zI_9, zI_10, zI_11, zI_12, zI_13, zI_14, zI_15, zI_16, zI_17, zI_18, zI_19, zI_20, zI_21, zI_22, zI_23, zI_24, zI_25, zI_26, zI_27, zI_28, zI_29, zI_30, zI_31, zI_32, zI_33, zI_34, zI_35, zI_36, zI_37, zI_38, zI_39, zI_40, zI_41, zI_42, zI_43, zI_44, zI_45, zI_46, zI_47, zI_48, zI_49, zI_50, zI_51, zI_52, zI_53, zI_54, zI_55, zI_56, zI_57, zI_58, zI_59, zI_60, zI_61, zI_62, zI_63, zI_64, zI_65, zI_66, zI_67, zI_74, zI_84, zI_85, zI_88, zI_91, zI_93, zI_97, zI_99, zI_100, zI_102, zI_105, zI_117, zI_122, zI_193, zI_202, zI_205, zI_251, zI_255, zI_256, zI_257, zI_258, zI_259, zI_260, zI_640, zI_999, zI_1000, zI_1024, zI_1600, zI_1602, zI_1700, zI_2040, zI_3200, zI_4100, zI_9728, zI_11784, zI_61440, zI_65536, zI_470536, zI_999999, zI_1000000, lt_T, lt_F, le_T, le_F, eq_T, eq_F, neg_1, cn_m1p, cn_m11, nI_add, cn_sub, pk_mul, cn_div, cn_irm, cn_lt, cn_eq, cn_ltm1, cn_m1lt, cn_eqm1, cn_m1eq, cn_ix, cn_inb, cn_ninb, cn_irs, cn_ils, cn_and, cn_or, cn_xor, grd_t, grd_bt, grd_bl, Nat.add_zero, Nat.zero_add, Nat.reduceAdd, Nat.reduceSub, Nat.reduceMul, Nat.reduceLT, Nat.reduceEqDiff, eq_self, true_and, and_true, and_false, false_and, if_true, if_false, and_self, Bool.true_eq_false, Bool.false_eq_true]
      exact Ok_some ⟨⟨e1, fun c hc => by rw [F.A 38 c (by decide)]; exact h2 c hc, g1, g2⟩, F⟩
  obtain ⟨x, e1, e2, e3⟩ := hl
  refine ⟨x, ?_, e2, e3⟩
  simp only [f_Se_reckonFits, zI_0]
  exact e1
theorem reckon_n (hW : IVW A H pa se) (hX : IVX A H pa se s) (hN : 10000 ≤ N) : ∃ s', f_Se_reckon N s = some s' ∧ IVX A H pa se s' ∧ XRk A H se s' ∧ Fr kSe s s' := by
  obtain ⟨hA, hB, hw, hpa, hse⟩ := hW
  obtain ⟨x1, x2, x3, x4, x5, x6, x7⟩ := hX
  obtain ⟨y1, y2, y3, y4⟩ := x6
  have hp10 := hA.2.1
  rcases y4 with h0 | ⟨h1, hk⟩
  · have F0 : Fr kSe s (sA (sI s 804 37 (nI 1)) 38 0 (nI 0)) := Fr_t (Fr_sI _ _ _ (by decide)) (Fr_sA _ _ _ (by decide))
    have hl : Ok (mfix N (f_Se_reckon_L22 N) (nI 0, sA (sI s 804 37 (nI 1)) 38 0 (nI 0))) (fun r => IVX A H pa se r ∧ XRk A H se r ∧ Fr kSe s r) := by
      have done : ∀ s1, gI s1 804 37 = nI (2 ^ pP A) → (∀ c, c < 2 ^ pP A → gA s1 38 c = nI (chN A H c (pP A))) → XO A (ptH H) s1 → Fr kSe s s1 → Ok (f_Se_reckon_j109 N s1) (fun r => IVX A H pa se r ∧ XRk A H se r ∧ Fr kSe s r) := by
        intro s1 g1 g2 O1 F1
        obtain ⟨s2, e2, K2, F2⟩ := recFits_n (N := N) (s := s1) hA hB hse (HR_fr F1 (by decide) x3) g1 g2 (by rw [F1.I 809 37 (by decide)]; exact y2) (by rw [F1.I 810 37 (by decide)]; exact y3) hN
        have F3 : Fr [90337] s2 (sI s2 803 37 (nI 1)) := Fr_sI _ _ _ (by decide)
        have K3 := XRk_fr F3 (by decide) K2
        have FF : Fr kSe s (sI s2 803 37 (nI 1)) := Fr_t F1 (Fr_t (Fr_w F2 (by decide)) (Fr_w F3 (by decide)))
        simp only [f_Se_reckon_j109, e2, Option.bind_some, zI_1]
        refine Ok_some ⟨⟨XP_fr FF (by decide) x1, XNm_fr FF (by decide) x2, HR_fr FF (by decide) x3, XO_fr (l := [90637, 39, 90337]) (Fr_t (Fr_w F2 (by decide)) (Fr_w F3 (by decide))) (by decide) (by decide) O1, XAh_fr FF (by decide) x5, ⟨?_, ?_, ?_, Or.inr ⟨by simp (disch := first | omega | decide) only [gI_sI, gI_sA, gI_sL, gI_sQ, gI_sC, gI_sO, gI_sD, gA_sI, gA_sL, gA_sQ, gA_sO, gA_sD, gL_sI, gL_sA, gL_sQ, gL_sC, gL_sO, gL_sD, gQ_sI, gQ_sA, gQ_sL, gQ_sC, gQ_sO, gO_sI, gO_sA, gO_sL, gO_sQ, gO_sC, gO_sO, gO_sD, gA_eq, gA_ne, gQ_eq, gQ_ne, gL_sL, gA_cin, gA_cou, gQ_cin, gQ_cou, Nat.reduceAdd, Nat.reduceSub, Nat.reduceMul, Nat.reduceLT, Nat.reduceEqDiff, eq_self, true_and, and_true, and_false, false_and, if_true, if_false, and_self, Bool.true_eq_false, Bool.false_eq_true], K3⟩⟩, XPa_fr FF (by decide) x7⟩, K3, FF⟩
        · rw [FF.I 808 37 (by decide)]; exact y1
        · rw [FF.I 809 37 (by decide)]; exact y2
        · rw [FF.I 810 37 (by decide)]; exact y3
      refine mfix_up (fun i x => ∃ s1, x = (nI i, s1) ∧ gI s1 804 37 = nI (2 ^ i) ∧ (∀ c, c < 2 ^ i → gA s1 38 c = nI (chN A H c i)) ∧ XO A (ptH H) s1 ∧ Fr kSe s s1) (pP A) ?_ ?_ N 0 _ ⟨_, rfl, by simp (disch := first | omega | decide) only [gI_sI, gI_sA, gI_sL, gI_sQ, gI_sC, gI_sO, gI_sD, gA_sI, gA_sL, gA_sQ, gA_sO, gA_sD, gL_sI, gL_sA, gL_sQ, gL_sC, gL_sO, gL_sD, gQ_sI, gQ_sA, gQ_sL, gQ_sC, gQ_sO, gO_sI, gO_sA, gO_sL, gO_sQ, gO_sC, gO_sO, gO_sD, gA_eq, gA_ne, gQ_eq, gQ_ne, gL_sL, gA_cin, gA_cou, gQ_cin, gQ_cou, Nat.reduceAdd, Nat.reduceSub, Nat.reduceMul, Nat.reduceLT, Nat.reduceEqDiff, eq_self, true_and, and_true, and_false, false_and, if_true, if_false, and_self, Bool.true_eq_false, Bool.false_eq_true, Nat.pow_zero], fun c hc => ?_, XO_fr (l := [90437, 38]) (Fr_t (Fr_sI _ _ _ (by decide)) (Fr_sA _ _ _ (by decide))) (by decide) (by decide) x4, F0⟩ (Nat.zero_le _) (by omega)
      · rintro i k x hi ⟨s1, rfl, g1, g2, O1, F1⟩ hk
        have hpi := pw10 (show i + 1 ≤ 10 by omega)
        rw [Nat.pow_succ] at hpi
        have P1 := XP_fr F1 (by decide) x1
        obtain ⟨s2, e2, F2, O2⟩ := orderOf_n (N := N) (o := 19) (Or.inl rfl) hA hB P1 (HR_fr F1 (by decide) x3) O1 hi (by omega)
        have q : ¬ 1024 < 2 * 2 ^ i := by omega
        simp (disch := first | omega | decide) only [f_Se_reckon_L22, P1.2.1, g1, zI_0, zI_1, zI_2, zI_3, zI_4, zI_5, zI_6, zI_7, zI_8, zI_9, zI_10, zI_11, zI_12, zI_13, zI_14, zI_15, zI_16, zI_17, zI_18, zI_19, zI_20, zI_21, zI_22, zI_23, zI_24, zI_25, zI_26, zI_27, zI_28, zI_29, zI_30, zI_31, zI_32, zI_33, zI_34, zI_35, zI_36, zI_37, zI_38, zI_39, zI_40, zI_41, zI_42, zI_43, zI_44, zI_45, zI_46, zI_47, zI_48, zI_49, zI_50, zI_51, zI_52, zI_53, zI_54, zI_55, zI_56, zI_57, zI_58, zI_59, zI_60, zI_61, zI_62, zI_63, zI_64, zI_65, zI_66, zI_67, zI_74, zI_84, zI_85, zI_88, zI_91, zI_93, zI_97, zI_99, zI_100, zI_102, zI_105, zI_117, zI_122, zI_193, zI_202, zI_205, zI_251, zI_255, zI_256, zI_257, zI_258, zI_259, zI_260, zI_640, zI_999, zI_1000, zI_1024, zI_1600, zI_1602, zI_1700, zI_2040, zI_3200, zI_4100, zI_9728, zI_11784, zI_61440, zI_65536, zI_470536, zI_999999, zI_1000000, lt_T, lt_F, le_T, le_F, eq_T, eq_F, neg_1, cn_m1p, cn_m11, nI_add, cn_sub, pk_mul, cn_div, cn_irm, cn_lt, cn_eq, cn_ltm1, cn_m1lt, cn_eqm1, cn_m1eq, cn_ix, cn_inb, cn_ninb, cn_irs, cn_ils, cn_and, cn_or, cn_xor, grd_t, grd_bt, grd_bl, Nat.add_zero, Nat.zero_add, Nat.reduceAdd, Nat.reduceSub, Nat.reduceMul, Nat.reduceLT, Nat.reduceEqDiff, eq_self, true_and, and_true, and_false, false_and, if_true, if_false, and_self, Bool.true_eq_false, Bool.false_eq_true, e2, Option.bind_some]
        have F12 : Fr kSe s s2 := Fr_t F1 (Fr_w F2 (by decide))
        refine mfix_up (fun j x => ∃ s3, x = (nI i, nI (ordS A H i), nI j, s3) ∧ gI s3 804 37 = nI (2 ^ i) ∧ (∀ c, c < 2 ^ i → gA s3 38 c = nI (chN A H c i)) ∧ (∀ c, c < j → gA s3 38 (2 ^ i + c) = nI (chN A H c i ^^^ ordS A H i)) ∧ XO A (ptH H) s3 ∧ Fr kSe s s3) (2 ^ i) ?_ ?_ N 0 _ ⟨s2, rfl, by rw [F2.I 804 37 (by decide)]; exact g1, fun c hc => by rw [F2.A 38 c (by decide)]; exact g2 c hc, fun c hc => by omega, O2, F12⟩ (Nat.zero_le _) (by omega)
        · rintro j k2 x hj ⟨s3, rfl, d1, d2, d3, O3, F3⟩ hk2
          have dj := d2 j hj
          simp (disch := first | omega | decide) only [f_Se_reckon_L60, d1, dj, zI_0, zI_1, zI_2, zI_3, zI_4, zI_5, zI_6, zI_7, zI_8, zI_9, zI_10, zI_11, zI_12, zI_13, zI_14, zI_15, zI_16, zI_17, zI_18, zI_19, zI_20, zI_21, zI_22, zI_23, zI_24, zI_25, zI_26, zI_27, zI_28, zI_29, zI_30, zI_31, zI_32, zI_33, zI_34, zI_35, zI_36, zI_37, zI_38, zI_39, zI_40, zI_41, zI_42, zI_43, zI_44, zI_45, zI_46, zI_47, zI_48, zI_49, zI_50, zI_51, zI_52, zI_53, zI_54, zI_55, zI_56, zI_57, zI_58, zI_59, zI_60, zI_61, zI_62, zI_63, zI_64, zI_65, zI_66, zI_67, zI_74, zI_84, zI_85, zI_88, zI_91, zI_93, zI_97, zI_99, zI_100, zI_102, zI_105, zI_117, zI_122, zI_193, zI_202, zI_205, zI_251, zI_255, zI_256, zI_257, zI_258, zI_259, zI_260, zI_640, zI_999, zI_1000, zI_1024, zI_1600, zI_1602, zI_1700, zI_2040, zI_3200, zI_4100, zI_9728, zI_11784, zI_61440, zI_65536, zI_470536, zI_999999, zI_1000000, lt_T, lt_F, le_T, le_F, eq_T, eq_F, neg_1, cn_m1p, cn_m11, nI_add, cn_sub, pk_mul, cn_div, cn_irm, cn_lt, cn_eq, cn_ltm1, cn_m1lt, cn_eqm1, cn_m1eq, cn_ix, cn_inb, cn_ninb, cn_irs, cn_ils, cn_and, cn_or, cn_xor, grd_t, grd_bt, grd_bl, Nat.add_zero, Nat.zero_add, Nat.reduceAdd, Nat.reduceSub, Nat.reduceMul, Nat.reduceLT, Nat.reduceEqDiff, eq_self, true_and, and_true, and_false, false_and, if_true, if_false, and_self, Bool.true_eq_false, Bool.false_eq_true]
          have F4 : Fr [38] s3 (sA s3 38 (2 ^ i + j) (nI (chN A H j i ^^^ ordS A H i))) := Fr_sA 38 _ _ (by decide)
          refine hk2 _ ⟨_, rfl, d1, fun c hc => ?_, fun c hc => ?_, XO_fr F4 (by decide) (by decide) O3, Fr_t F3 (Fr_w F4 (by decide))⟩
          · rw [gA_ne (by omega)]; exact d2 c hc
          · by_cases e : c = j
            · rw [e, gA_eq rfl]
            · rw [gA_ne (by omega)]; exact d3 c (by omega)
        · rintro k2 x ⟨s3, rfl, d1, d2, d3, O3, F3⟩
          simp (disch := first | omega | decide) only [f_Se_reckon_L60, d1, zI_0, zI_1, zI_2, zI_3, zI_4, zI_5, zI_6, zI_7, zI_8, zI_9, zI_10, zI_11, zI_12, zI_13, zI_14, zI_15, zI_16, zI_17, zI_18, zI_19, zI_20, zI_21, zI_22, zI_23, zI_24, zI_25, zI_26, zI_27, zI_28, zI_29, zI_30, zI_31, zI_32, zI_33, zI_34, zI_35, zI_36, zI_37, zI_38, zI_39, zI_40, zI_41, zI_42, zI_43, zI_44, zI_45, zI_46, zI_47, zI_48, zI_49, zI_50, zI_51, zI_52, zI_53, zI_54, zI_55, zI_56, zI_57, zI_58, zI_59, zI_60, zI_61, zI_62, zI_63, zI_64, zI_65, zI_66, zI_67, zI_74, zI_84, zI_85, zI_88, zI_91, zI_93, zI_97, zI_99, zI_100, zI_102, zI_105, zI_117, zI_122, zI_193, zI_202, zI_205, zI_251, zI_255, zI_256, zI_257, zI_258, zI_259, zI_260, zI_640, zI_999, zI_1000, zI_1024, zI_1600, zI_1602, zI_1700, zI_2040, zI_3200, zI_4100, zI_9728, zI_11784, zI_61440, zI_65536, zI_470536, zI_999999, zI_1000000, lt_T, lt_F, le_T, le_F, eq_T, eq_F, neg_1, cn_m1p, cn_m11, nI_add, cn_sub, pk_mul, cn_div, cn_irm, cn_lt, cn_eq, cn_ltm1, cn_m1lt, cn_eqm1, cn_m1eq, cn_ix, cn_inb, cn_ninb, cn_irs, cn_ils, cn_and, cn_or, cn_xor, grd_t, grd_bt, grd_bl, Nat.add_zero, Nat.zero_add, Nat.reduceAdd, Nat.reduceSub, Nat.reduceMul, Nat.reduceLT, Nat.reduceEqDiff, eq_self, true_and, and_true, and_false, false_and, if_true, if_false, and_self, Bool.true_eq_false, Bool.false_eq_true]
          have F4 : Fr [90437] s3 (sI s3 804 37 (nI (2 ^ i * 2))) := Fr_sI _ _ _ (by decide)
          refine hk _ ⟨_, rfl, by rw [Nat.pow_succ]; simp (disch := first | omega | decide) only [gI_sI, gI_sA, gI_sL, gI_sQ, gI_sC, gI_sO, gI_sD, gA_sI, gA_sL, gA_sQ, gA_sO, gA_sD, gL_sI, gL_sA, gL_sQ, gL_sC, gL_sO, gL_sD, gQ_sI, gQ_sA, gQ_sL, gQ_sC, gQ_sO, gO_sI, gO_sA, gO_sL, gO_sQ, gO_sC, gO_sO, gO_sD, gA_eq, gA_ne, gQ_eq, gQ_ne, gL_sL, gA_cin, gA_cou, gQ_cin, gQ_cou, Nat.reduceAdd, Nat.reduceSub, Nat.reduceMul, Nat.reduceLT, Nat.reduceEqDiff, eq_self, true_and, and_true, and_false, false_and, if_true, if_false, and_self, Bool.true_eq_false, Bool.false_eq_true], fun c hc => ?_, XO_fr F4 (by decide) (by decide) O3, Fr_t F3 (Fr_w F4 (by decide))⟩
          rw [gA_sI]
          rw [Nat.pow_succ] at hc
          by_cases e : c < 2 ^ i
          · rw [d2 c e, chN_low e]
          · obtain ⟨c', rfl⟩ : ∃ c', c = 2 ^ i + c' := ⟨c - 2 ^ i, by omega⟩
            rw [d3 c' (by omega), chN_top (by omega)]
      · rintro k x ⟨s1, rfl, g1, g2, O1, F1⟩
        have P1 := XP_fr F1 (by decide) x1
        simp (disch := first | omega | decide) only [f_Se_reckon_L22, P1.2.1, zI_0, zI_1, zI_2, zI_3, zI_4, zI_5, zI_6, zI_7, zI_8, zI_9, zI_10, zI_11, zI_12, zI_13, zI_14, zI_15, zI_16, zI_17, zI_18, zI_19, zI_20, zI_21, zI_22, zI_23, zI_24, zI_25, zI_26, zI_27, zI_28, zI_29, zI_30, zI_31, zI_32, zI_33, zI_34, zI_35, zI_36, zI_37, zI_38, zI_39, zI_40, zI_41, zI_42, zI_43, zI_44, zI_45, zI_46, zI_47, zI_48, zI_49, zI_50, zI_51, zI_52, zI_53, zI_54, zI_55, zI_56, zI_57, zI_58, zI_59, zI_60, zI_61, zI_62, zI_63, zI_64, zI_65, zI_66, zI_67, zI_74, zI_84, zI_85, zI_88, zI_91, zI_93, zI_97, zI_99, zI_100, zI_102, zI_105, zI_117, zI_122, zI_193, zI_202, zI_205, zI_251, zI_255, zI_256, zI_257, zI_258, zI_259, zI_260, zI_640, zI_999, zI_1000, zI_1024, zI_1600, zI_1602, zI_1700, zI_2040, zI_3200, zI_4100, zI_9728, zI_11784, zI_61440, zI_65536, zI_470536, zI_999999, zI_1000000, lt_T, lt_F, le_T, le_F, eq_T, eq_F, neg_1, cn_m1p, cn_m11, nI_add, cn_sub, pk_mul, cn_div, cn_irm, cn_lt, cn_eq, cn_ltm1, cn_m1lt, cn_eqm1, cn_m1eq, cn_ix, cn_inb, cn_ninb, cn_irs, cn_ils, cn_and, cn_or, cn_xor, grd_t, grd_bt, grd_bl, Nat.add_zero, Nat.zero_add, Nat.reduceAdd, Nat.reduceSub, Nat.reduceMul, Nat.reduceLT, Nat.reduceEqDiff, eq_self, true_and, and_true, and_false, false_and, if_true, if_false, and_self, Bool.true_eq_false, Bool.false_eq_true]
        exact done s1 g1 g2 O1 F1
      · have : c = 0 := by
          have : c < 1 := hc
          omega
        subst this
        rw [gA_eq rfl]; rfl
    obtain ⟨x, e1, e2, e3, e4⟩ := hl
    refine ⟨x, ?_, e2, e3, e4⟩
    simp (disch := first | omega | decide) only [f_Se_reckon, h0, zI_0, zI_1, zI_2, zI_3, zI_4, zI_5, zI_6, zI_7, zI_8, zI_9, zI_10, zI_11, zI_12, zI_13, zI_14, zI_15, zI_16, zI_17, zI_18, zI_19, zI_20, zI_21, zI_22, zI_23, zI_24, zI_25, zI_26, zI_27, zI_28, zI_29, zI_30, zI_31, zI_32, zI_33, zI_34, zI_35, zI_36, zI_37, zI_38, zI_39, zI_40, zI_41, zI_42, zI_43, zI_44, zI_45, zI_46, zI_47, zI_48, zI_49, zI_50, zI_51, zI_52, zI_53, zI_54, zI_55, zI_56, zI_57, zI_58, zI_59, zI_60, zI_61, zI_62, zI_63, zI_64, zI_65, zI_66, zI_67, zI_74, zI_84, zI_85, zI_88, zI_91, zI_93, zI_97, zI_99, zI_100, zI_102, zI_105, zI_117, zI_122, zI_193, zI_202, zI_205, zI_251, zI_255, zI_256, zI_257, zI_258, zI_259, zI_260, zI_640, zI_999, zI_1000, zI_1024, zI_1600, zI_1602, zI_1700, zI_2040, zI_3200, zI_4100, zI_9728, zI_11784, zI_61440, zI_65536, zI_470536, zI_999999, zI_1000000, lt_T, lt_F, le_T, le_F, eq_T, eq_F, neg_1, cn_m1p, cn_m11, nI_add, cn_sub, pk_mul, cn_div, cn_irm, cn_lt, cn_eq, cn_ltm1, cn_m1lt, cn_eqm1, cn_m1eq, cn_ix, cn_inb, cn_ninb, cn_irs, cn_ils, cn_and, cn_or, cn_xor, grd_t, grd_bt, grd_bl, Nat.add_zero, Nat.zero_add, Nat.reduceAdd, Nat.reduceSub, Nat.reduceMul, Nat.reduceLT, Nat.reduceEqDiff, eq_self, true_and, and_true, and_false, false_and, if_true, if_false, and_self, Bool.true_eq_false, Bool.false_eq_true]
    exact e1
  · refine ⟨s, ?_, ⟨x1, x2, x3, x4, x5, ⟨y1, y2, y3, Or.inr ⟨h1, hk⟩⟩, x7⟩, hk, Fr_r _ _⟩
    simp (disch := first | omega | decide) only [f_Se_reckon, h1, zI_0, zI_1, zI_2, zI_3, zI_4, zI_5, zI_6, zI_7, zI_8, zI_9, zI_10, zI_11, zI_12, zI_13, zI_14, zI_15, zI_16, zI_17, zI_18, zI_19, zI_20, zI_21, zI_22, zI_23, zI_24, zI_25, zI_26, zI_27, zI_28, zI_29, zI_30, zI_31, zI_32, zI_33, zI_34, zI_35, zI_36, zI_37, zI_38, zI_39, zI_40, zI_41, zI_42, zI_43, zI_44, zI_45, zI_46, zI_47, zI_48, zI_49, zI_50, zI_51, zI_52, zI_53, zI_54, zI_55, zI_56, zI_57, zI_58, zI_59, zI_60, zI_61, zI_62, zI_63, zI_64, zI_65, zI_66, zI_67, zI_74, zI_84, zI_85, zI_88, zI_91, zI_93, zI_97, zI_99, zI_100, zI_102, zI_105, zI_117, zI_122, zI_193, zI_202, zI_205, zI_251, zI_255, zI_256, zI_257, zI_258, zI_259, zI_260, zI_640, zI_999, zI_1000, zI_1024, zI_1600, zI_1602, zI_1700, zI_2040, zI_3200, zI_4100, zI_9728, zI_11784, zI_61440, zI_65536, zI_470536, zI_999999, zI_1000000, lt_T, lt_F, le_T, le_F, eq_T, eq_F, neg_1, cn_m1p, cn_m11, nI_add, cn_sub, pk_mul, cn_div, cn_irm, cn_lt, cn_eq, cn_ltm1, cn_m1lt, cn_eqm1, cn_m1eq, cn_ix, cn_inb, cn_ninb, cn_irs, cn_ils, cn_and, cn_or, cn_xor, grd_t, grd_bt, grd_bl, Nat.add_zero, Nat.zero_add, Nat.reduceAdd, Nat.reduceSub, Nat.reduceMul, Nat.reduceLT, Nat.reduceEqDiff, eq_self, true_and, and_true, and_false, false_and, if_true, if_false, and_self, Bool.true_eq_false, Bool.false_eq_true]
/-- the other side: the set's changes by laid orders -/
theorem mChBy_n {c : Nat} (hA : WA A) (hP : MP A t) (ho : ∀ p, p < pP A → gA t 35 p = nI (ordS A H p)) (hc : c < 1024) (hN : 10000 ≤ N) : f_M_changedBy N (nI c) t = some (nI (chS A H c), t) := by
  have hp10 := hA.2.1
  have hl : Ok (mfix N (f_M_changedBy_L4 N) (nI c, nI 0, nI 0, t)) (fun r => r = (nI (chS A H c), t)) := by
    refine mfix_up (fun i x => x = (nI c, nI (chN A H c i), nI i, t)) (pP A) ?_ ?_ N 0 _ rfl (Nat.zero_le _) (by omega)
    · rintro i k x hi hx hk
      rw [hx]
      have hb := bit01 c i
      have oi := ho i hi
      cases cb : c.testBit i
      · rw [cb] at hb
        simp (disch := first | omega | decide) only [f_M_changedBy_L4, f_M_porterMany, hP.2.1, zI_0, zI_1, zI_2, zI_3, zI_4, zI_5, zI_6, zI_7, zI_8, zI_9, zI_10, zI_11, zI_12, zI_13, zI_14, zI_15, zI_16, zI_17, zI_18, zI_19, zI_20, zI_21, zI_22, zI_23, zI_24, zI_25, zI_26, zI_27, zI_28, zI_29, zI_30, zI_31, zI_32, zI_33, zI_34, zI_35, zI_36, zI_37, zI_38, zI_39, zI_40, zI_41, zI_42, zI_43, zI_44, zI_45, zI_46, zI_47, zI_48, zI_49, zI_50, zI_51, zI_52, zI_53, zI_54, zI_55, zI_56, zI_57, zI_58, zI_59, zI_60, zI_61, zI_62, zI_63, zI_64, zI_65, zI_66, zI_67, zI_74, zI_84, zI_85, zI_88, zI_91, zI_93, zI_97, zI_99, zI_100, zI_102, zI_105, zI_117, zI_122, zI_193, zI_202, zI_205, zI_251, zI_255, zI_256, zI_257, zI_258, zI_259, zI_260, zI_640, zI_999, zI_1000, zI_1024, zI_1600, zI_1602, zI_1700, zI_2040, zI_3200, zI_4100, zI_9728, zI_11784, zI_61440, zI_65536, zI_470536, zI_999999, zI_1000000, lt_T, lt_F, le_T, le_F, eq_T, eq_F, neg_1, cn_m1p, cn_m11, nI_add, cn_sub, pk_mul, cn_div, cn_irm, cn_lt, cn_eq, cn_ltm1, cn_m1lt, cn_eqm1, cn_m1eq, cn_ix, cn_inb, cn_ninb, cn_irs, cn_ils, cn_and, cn_or, cn_xor, grd_t, grd_bt, grd_bl, Nat.add_zero, Nat.zero_add, Nat.reduceAdd, Nat.reduceSub, Nat.reduceMul, Nat.reduceLT, Nat.reduceEqDiff, eq_self, true_and, and_true, and_false, false_and, if_true, if_false, and_self, Bool.true_eq_false, Bool.false_eq_true, hb, Option.bind_some]
        exact hk _ (by rw [chN_s, cb]; rfl)
      · rw [cb] at hb
        simp (disch := first | omega | decide) only [f_M_changedBy_L4, f_M_porterMany, hP.2.1, zI_0, zI_1, zI_2, zI_3, zI_4, zI_5, zI_6, zI_7, zI_8, zI_9, zI_10, zI_11, zI_12, zI_13, zI_14, zI_15, zI_16, zI_17, zI_18, zI_19, zI_20, zI_21, zI_22, zI_23, zI_24, zI_25, zI_26, zI_27, zI_28, zI_29, zI_30, zI_31, zI_32, zI_33, zI_34, zI_35, zI_36, zI_37, zI_38, zI_39, zI_40, zI_41, zI_42, zI_43, zI_44, zI_45, zI_46, zI_47, zI_48, zI_49, zI_50, zI_51, zI_52, zI_53, zI_54, zI_55, zI_56, zI_57, zI_58, zI_59, zI_60, zI_61, zI_62, zI_63, zI_64, zI_65, zI_66, zI_67, zI_74, zI_84, zI_85, zI_88, zI_91, zI_93, zI_97, zI_99, zI_100, zI_102, zI_105, zI_117, zI_122, zI_193, zI_202, zI_205, zI_251, zI_255, zI_256, zI_257, zI_258, zI_259, zI_260, zI_640, zI_999, zI_1000, zI_1024, zI_1600, zI_1602, zI_1700, zI_2040, zI_3200, zI_4100, zI_9728, zI_11784, zI_61440, zI_65536, zI_470536, zI_999999, zI_1000000, lt_T, lt_F, le_T, le_F, eq_T, eq_F, neg_1, cn_m1p, cn_m11, nI_add, cn_sub, pk_mul, cn_div, cn_irm, cn_lt, cn_eq, cn_ltm1, cn_m1lt, cn_eqm1, cn_m1eq, cn_ix, cn_inb, cn_ninb, cn_irs, cn_ils, cn_and, cn_or, cn_xor, grd_t, grd_bt, grd_bl, Nat.add_zero, Nat.zero_add, Nat.reduceAdd, Nat.reduceSub, Nat.reduceMul, Nat.reduceLT, Nat.reduceEqDiff, eq_self, true_and, and_true, and_false, false_and, if_true, if_false, and_self, Bool.true_eq_false, Bool.false_eq_true, hb, oi, Option.bind_some]
        exact hk _ (by rw [chN_s, cb]; rfl)
    · rintro k x hx
      rw [hx]
      simp (disch := first | omega | decide) only [f_M_changedBy_L4, f_M_porterMany, hP.2.1, zI_0, zI_1, zI_2, zI_3, zI_4, zI_5, zI_6, zI_7, zI_8, zI_9, zI_10, zI_11, zI_12, zI_13, zI_14, zI_15, zI_16, zI_17, zI_18, zI_19, zI_20, zI_21, zI_22, zI_23, zI_24, zI_25, zI_26, zI_27, zI_28, zI_29, zI_30, zI_31, zI_32, zI_33, zI_34, zI_35, zI_36, zI_37, zI_38, zI_39, zI_40, zI_41, zI_42, zI_43, zI_44, zI_45, zI_46, zI_47, zI_48, zI_49, zI_50, zI_51, zI_52, zI_53, zI_54, zI_55, zI_56, zI_57, zI_58, zI_59, zI_60, zI_61, zI_62, zI_63, zI_64, zI_65, zI_66, zI_67, zI_74, zI_84, zI_85, zI_88, zI_91, zI_93, zI_97, zI_99, zI_100, zI_102, zI_105, zI_117, zI_122, zI_193, zI_202, zI_205, zI_251, zI_255, zI_256, zI_257, zI_258, zI_259, zI_260, zI_640, zI_999, zI_1000, zI_1024, zI_1600, zI_1602, zI_1700, zI_2040, zI_3200, zI_4100, zI_9728, zI_11784, zI_61440, zI_65536, zI_470536, zI_999999, zI_1000000, lt_T, lt_F, le_T, le_F, eq_T, eq_F, neg_1, cn_m1p, cn_m11, nI_add, cn_sub, pk_mul, cn_div, cn_irm, cn_lt, cn_eq, cn_ltm1, cn_m1lt, cn_eqm1, cn_m1eq, cn_ix, cn_inb, cn_ninb, cn_irs, cn_ils, cn_and, cn_or, cn_xor, grd_t, grd_bt, grd_bl, Nat.add_zero, Nat.zero_add, Nat.reduceAdd, Nat.reduceSub, Nat.reduceMul, Nat.reduceLT, Nat.reduceEqDiff, eq_self, true_and, and_true, and_false, false_and, if_true, if_false, and_self, Bool.true_eq_false, Bool.false_eq_true, Option.bind_some]
      exact Ok_some rfl
  obtain ⟨x, h1, h2⟩ := hl
  unfold f_M_changedBy
  rw [zI_0, h1, h2]
theorem mPow_n (hA : WA A) (hP : MP A t) : ils (nI 1) (nI (pP A)) = nI (2 ^ pP A) := by
  have := hA.2.1
  rw [cn_ils (by omega), Nat.shiftLeft_eq, Nat.one_mul]
end SETS
