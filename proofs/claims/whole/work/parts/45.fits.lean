/-! WHAT FITS: fits, walked, tells -/
theorem sub_or {x a d : Nat} : (x &&& (a ||| 1 <<< d) = a ||| 1 <<< d) = ((x &&& a = a) ∧ x.testBit d = true) := by
  refine propext ⟨fun h => ⟨Nat.eq_of_testBit_eq fun i => ?_, ?_⟩, fun h => Nat.eq_of_testBit_eq fun i => ?_⟩
  · have h2 := congrArg (fun y => y.testBit i) h
    simp only [Nat.testBit_and, Nat.testBit_or] at h2
    rw [Nat.testBit_and]
    cases h3 : a.testBit i
    · rw [Bool.and_false]
    · rw [h3, Bool.true_or, Bool.and_true] at h2
      rw [h2]; rfl
  · have h2 := congrArg (fun y => y.testBit d) h
    simp only [Nat.testBit_and, Nat.testBit_or, Nat.shiftLeft_eq, Nat.one_mul, Nat.testBit_two_pow_self, Bool.or_true, Bool.and_true] at h2
    exact h2
  · have h2 := congrArg (fun y => y.testBit i) h.1
    simp only [Nat.testBit_and] at h2
    simp only [Nat.testBit_and, Nat.testBit_or, Nat.shiftLeft_eq, Nat.one_mul, Nat.testBit_two_pow]
    by_cases e : d = i
    · subst e
      rw [h.2, decide_eq_true rfl, Bool.or_true]; rfl
    · rw [decide_eq_false e, Bool.or_false]; exact h2
theorem dis_or {x a d : Nat} : (x &&& (a ||| 1 <<< d) = 0) = ((x &&& a = 0) ∧ x.testBit d = false) := by
  refine propext ⟨fun h => ⟨Nat.eq_of_testBit_eq fun i => ?_, ?_⟩, fun h => Nat.eq_of_testBit_eq fun i => ?_⟩
  · have h2 := congrArg (fun y => y.testBit i) h
    simp only [Nat.testBit_and, Nat.testBit_or, Nat.zero_testBit] at h2
    rw [Nat.testBit_and, Nat.zero_testBit]
    cases h3 : x.testBit i
    · rfl
    · cases h4 : a.testBit i
      · rfl
      · rw [h3, h4] at h2; cases h2
  · have h2 := congrArg (fun y => y.testBit d) h
    simp only [Nat.testBit_and, Nat.testBit_or, Nat.shiftLeft_eq, Nat.one_mul, Nat.testBit_two_pow_self, Bool.or_true, Bool.and_true, Nat.zero_testBit] at h2
    exact h2
  · have h2 := congrArg (fun y => y.testBit i) h.1
    simp only [Nat.testBit_and, Nat.zero_testBit] at h2
    simp only [Nat.testBit_and, Nat.testBit_or, Nat.shiftLeft_eq, Nat.one_mul, Nat.testBit_two_pow, Nat.zero_testBit]
    by_cases e : d = i
    · subst e
      rw [h.2]; rfl
    · rw [decide_eq_false e, Bool.or_false]; exact h2
/-- a row of doors fits what is seen -/
def rowF (se : Nat × (Nat → Nat × Bool)) (x n : Nat) : Prop := ∀ k, k < n → x.testBit (se.2 k).1 = (se.2 k).2
theorem fit_iff (se : Nat × (Nat → Nat × Bool)) (x : Nat) : ∀ n, ((x &&& itN (fun k acc => if (se.2 k).2 then acc ||| 1 <<< (se.2 k).1 else acc) n 0 = itN (fun k acc => if (se.2 k).2 then acc ||| 1 <<< (se.2 k).1 else acc) n 0) ∧ (x &&& itN (fun k acc => if (se.2 k).2 then acc else acc ||| 1 <<< (se.2 k).1) n 0 = 0)) ↔ rowF se x n
  | 0 => ⟨fun _ k hk => absurd hk (Nat.not_lt_zero _), fun _ => ⟨Nat.and_zero _, Nat.and_zero _⟩⟩
  | n + 1 => by
    have ih := fit_iff se x n
    rw [itN_s, itN_s]
    generalize itN (fun k acc => if (se.2 k).2 then acc ||| 1 <<< (se.2 k).1 else acc) n 0 = a at *
    generalize itN (fun k acc => if (se.2 k).2 then acc else acc ||| 1 <<< (se.2 k).1) n 0 = b at *
    have split1 : rowF se x (n + 1) ↔ rowF se x n ∧ x.testBit (se.2 n).1 = (se.2 n).2 :=
      ⟨fun h => ⟨fun k hk => h k (by omega), h n (by omega)⟩, fun h k hk => by
        by_cases e : k = n
        · rw [e]; exact h.2
        · exact h.1 k (by omega)⟩
    rw [split1, ← ih]
    cases c : (se.2 n).2
    · simp only [Bool.false_eq_true, if_false]
      rw [dis_or]
      exact ⟨fun h => ⟨⟨h.1, h.2.1⟩, h.2.2⟩, fun h => ⟨h.1.1, h.1.2, h.2⟩⟩
    · simp only [if_true]
      rw [sub_or]
      exact ⟨fun h => ⟨⟨h.1.1, h.2⟩, h.1.2⟩, fun h => ⟨⟨h.1.1, h.2⟩, h.1.2⟩⟩
theorem fitS_iff (A : pL) (H : hL) (se : Nat × (Nat → Nat × Bool)) (c : Nat) : fitS A H se c = true ↔ rowF se (H.1 2 ^^^ chS A H c) se.1 := by
  rw [← fit_iff se _ se.1]
  unfold fitS
  rw [Bool.and_eq_true, decide_eq_true_eq, decide_eq_true_eq]
  rfl
section FITS
variable {N : Nat} {A : pL} {H : hL} {pa : Nat × (Nat → hL)} {se : Nat × (Nat → Nat × Bool)} {s s' t t' : mS}
theorem seen_n {x : Nat} (hS : WS A se) (hA : WA A) (hM : MSe se t) (hx : x < 16777216) (hN : 10000 ≤ N) (b : Bool) (hb : b = true ↔ rowF se x se.1) : f_M_isAsSeen N (nI x) t = some (nI (if b then 1 else 0), t) := by
  have hD := hA.1
  have h24 := hS.1
  have hl : Ok (mfix N (f_M_isAsSeen_L2 N) (nI x, nI 0, t)) (fun r => r = (nI (if b then 1 else 0), t)) := by
    refine mfix_up (fun i y => y = (nI x, nI i, t) ∧ rowF se x i) se.1 ?_ ?_ N 0 _ ⟨rfl, fun _ h => absurd h (Nat.not_lt_zero _)⟩ (Nat.zero_le _) (by omega)
    · rintro i k y hi ⟨rfl, hr⟩ hk
      obtain ⟨d1, d2⟩ := hM.2 i hi
      have hdi := hS.2 i hi
      have hbit := bit01 x (se.2 i).1
      have e2 : zi (b01 (se.2 i).2) = nI (if (se.2 i).2 then 1 else 0) := b01_i _
      by_cases c : x.testBit (se.2 i).1 = (se.2 i).2
      · rw [c] at hbit
        simp (disch := first | omega | decide) only [f_M_isAsSeen_L2, hM.1, d1, d2, e2, zI_0, zI_1, zI_2, zI_3, zI_4, zI_5, zI_6, zI_7, zI_8, zI_9, zI_10, zI_11, zI_12, zI_13, zI_14, zI_15, zI_16, zI_17, zI_18, zI_19, zI_20, zI_21, zI_22, zI_23, zI_24, zI_25, zI_26, zI_27, zI_28, zI_29, zI_30, zI_31, zI_32, zI_33, zI_34, zI_35, zI_36, zI_37, zI_38, zI_39, zI_40, zI_41, zI_42, zI_43, zI_44, zI_45, zI_46, zI_47, zI_48, zI_49, zI_50, zI_51, zI_52, zI_53, zI_54, zI_55, zI_56, zI_57, zI_58, zI_59, zI_60, zI_61, zI_62, zI_63, zI_64, zI_65, zI_66, zI_67, zI_74, zI_84, zI_85, zI_88, zI_91, zI_93, zI_97, zI_99, zI_100, zI_102, zI_105, zI_117, zI_122, zI_193, zI_202, zI_205, zI_251, zI_255, zI_256, zI_257, zI_258, zI_259, zI_260, zI_640, zI_999, zI_1000, zI_1024, zI_1600, zI_1602, zI_1700, zI_2040, zI_3200, zI_4100, zI_9728, zI_11784, zI_61440, zI_65536, zI_470536, zI_999999, zI_1000000, lt_T, lt_F, le_T, le_F, eq_T, eq_F, neg_1, cn_m1p, cn_m11, nI_add, cn_sub, pk_mul, cn_div, cn_irm, cn_lt, cn_eq, cn_ltm1, cn_m1lt, cn_eqm1, cn_m1eq, cn_ix, cn_inb, cn_ninb, cn_irs, cn_ils, cn_and, cn_or, cn_xor, grd_t, grd_bt, grd_bl, Nat.add_zero, Nat.zero_add, Nat.reduceAdd, Nat.reduceSub, Nat.reduceMul, Nat.reduceLT, Nat.reduceEqDiff, eq_self, true_and, and_true, and_false, false_and, if_true, if_false, and_self, Bool.true_eq_false, Bool.false_eq_true, hbit]
        refine hk _ ⟨rfl, fun k hk => ?_⟩
        by_cases e : k = i
        · rw [e]; exact c
        · exact hr k (by omega)
      · have hbf : b = false := by
          cases b with
          | false => rfl
          | true => exact absurd (hb.mp rfl i hi) c
        subst hbf
        have q : (nI (x >>> (se.2 i).1 &&& 1) = nI (if (se.2 i).2 then 1 else 0)) = False := by
          rw [hbit]
          cases h1 : x.testBit (se.2 i).1 <;> cases h2 : (se.2 i).2 <;> rw [h1, h2] at c <;> first | exact absurd rfl c | exact eq_false (by decide)
        simp (disch := first | omega | decide) only [f_M_isAsSeen_L2, hM.1, d1, d2, e2, zI_0, zI_1, zI_2, zI_3, zI_4, zI_5, zI_6, zI_7, zI_8, zI_9, zI_10, zI_11, zI_12, zI_13, zI_14, zI_15, zI_16, zI_17, zI_18, zI_19, zI_20, zI_21, zI_22, zI_23, zI_24, zI_25, zI_26, zI_27, zI_28, zI_29, zI_30, zI_31, zI_32, zI_33, zI_34, zI_35, zI_36, zI_37, zI_38, zI_39, zI_40, zI_41, zI_42, zI_43, zI_44, zI_45, zI_46, zI_47, zI_48, zI_49, zI_50, zI_51, zI_52, zI_53, zI_54, zI_55, zI_56, zI_57, zI_58, zI_59, zI_60, zI_61, zI_62, zI_63, zI_64, zI_65, zI_66, zI_67, zI_74, zI_84, zI_85, zI_88, zI_91, zI_93, zI_97, zI_99, zI_100, zI_102, zI_105, zI_117, zI_122, zI_193, zI_202, zI_205, zI_251, zI_255, zI_256, zI_257, zI_258, zI_259, zI_260, zI_640, zI_999, zI_1000, zI_1024, zI_1600, zI_1602, zI_1700, zI_2040, zI_3200, zI_4100, zI_9728, zI_11784, zI_61440, zI_65536, zI_470536, zI_999999, zI_1000000, nI_add, pk_mul, cn_lt, lt_T, cn_inb, cn_ix, cn_irs, cn_and, grd_t, grd_bt, Nat.reduceAdd, Nat.reduceSub, Nat.reduceMul, Nat.reduceLT, Nat.reduceEqDiff, eq_self, true_and, and_true, and_false, false_and, if_true, if_false, and_self, Bool.true_eq_false, Bool.false_eq_true, q]
        exact Ok_some rfl
    · rintro k y ⟨rfl, hr⟩
      have hbt : b = true := hb.mpr hr
      subst hbt
      simp (disch := first | omega | decide) only [f_M_isAsSeen_L2, hM.1, zI_0, zI_1, zI_2, zI_3, zI_4, zI_5, zI_6, zI_7, zI_8, zI_9, zI_10, zI_11, zI_12, zI_13, zI_14, zI_15, zI_16, zI_17, zI_18, zI_19, zI_20, zI_21, zI_22, zI_23, zI_24, zI_25, zI_26, zI_27, zI_28, zI_29, zI_30, zI_31, zI_32, zI_33, zI_34, zI_35, zI_36, zI_37, zI_38, zI_39, zI_40, zI_41, zI_42, zI_43, zI_44, zI_45, zI_46, zI_47, zI_48, zI_49, zI_50, zI_51, zI_52, zI_53, zI_54, zI_55, zI_56, zI_57, zI_58, zI_59, zI_60, zI_61, zI_62, zI_63, zI_64, zI_65, zI_66, zI_67, zI_74, zI_84, zI_85, zI_88, zI_91, zI_93, zI_97, zI_99, zI_100, zI_102, zI_105, zI_117, zI_122, zI_193, zI_202, zI_205, zI_251, zI_255, zI_256, zI_257, zI_258, zI_259, zI_260, zI_640, zI_999, zI_1000, zI_1024, zI_1600, zI_1602, zI_1700, zI_2040, zI_3200, zI_4100, zI_9728, zI_11784, zI_61440, zI_65536, zI_470536, zI_999999, zI_1000000, lt_T, lt_F, le_T, le_F, eq_T, eq_F, neg_1, cn_m1p, cn_m11, nI_add, cn_sub, pk_mul, cn_div, cn_irm, cn_lt, cn_eq, cn_ltm1, cn_m1lt, cn_eqm1, cn_m1eq, cn_ix, cn_inb, cn_ninb, cn_irs, cn_ils, cn_and, cn_or, cn_xor, grd_t, grd_bt, grd_bl, Nat.add_zero, Nat.zero_add, Nat.reduceAdd, Nat.reduceSub, Nat.reduceMul, Nat.reduceLT, Nat.reduceEqDiff, eq_self, true_and, and_true, and_false, false_and, if_true, if_false, and_self, Bool.true_eq_false, Bool.false_eq_true]
      exact Ok_some rfl
  obtain ⟨y, h1, h2⟩ := hl
  unfold f_M_isAsSeen
  rw [zI_0, h1, h2]
/-- the other side's fits -/
def MFi (A : pL) (H : hL) (se : Nat × (Nat → Nat × Bool)) (t : mS) : Prop := gI t 1059 0 = nI (cntN (fitS A H se) (2 ^ pP A)) ∧ ∀ c, c < 2 ^ pP A → gA t 38 c = nI (if fitS A H se c then 1 else 0) ∧ gA t 39 c = nI (H.1 2 ^^^ chS A H c)
theorem laysF_n (hW : IVW A H pa se) (hM : IVM A H pa se t) (hN : 10000 ≤ N) : ∃ t', f_M_laysFits N t = some t' ∧ MFi A H se t' ∧ Fr kMs t t' ∧ MP A t' := by
  obtain ⟨hA, hB, hw, hpa, hse⟩ := hW
  have hp := pw10 hA.2.1
  have F0 : Fr kMs t (sI t 1059 0 (nI 0)) := Fr_sI _ _ _ (by decide)
  obtain ⟨t1, g1, g2, G1⟩ := mLays_n (N := N) (t := sI t 1059 0 (nI 0)) hA hB (MP_fr F0 (by decide) hM.1) (MRow_fr F0 (by decide) hM.2.2.1.1) hN
  have G01 : Fr kMs t t1 := Fr_t F0 (Fr_w G1 (by decide))
  have hl : Ok (mfix N (f_M_laysFits_L11 N) (nI 0, t1)) (fun r => MFi A H se r ∧ Fr kMs t r) := by
    refine mfix_up (fun i x => ∃ t2, x = (nI i, t2) ∧ gI t2 1059 0 = nI (cntN (fitS A H se) i) ∧ (∀ c, c < i → gA t2 38 c = nI (if fitS A H se c then 1 else 0) ∧ gA t2 39 c = nI (H.1 2 ^^^ chS A H c)) ∧ (∀ p, p < pP A → gA t2 35 p = nI (ordS A H p)) ∧ Fr kMs t t2) (2 ^ pP A) ?_ ?_ N 0 _ ⟨t1, rfl, by rw [G1.I 1059 0 (by decide)]; rfl, fun c h => by omega, g2, G01⟩ (Nat.zero_le _) (by omega)
    · rintro i k x hi ⟨t2, rfl, d1, d2, d3, F⟩ hk
      have P2 := MP_fr F (by decide) hM.1
      have R2 := MRow_fr F (by decide) hM.2.2.1.1
      have qp := mPow_n hA P2
      have g0 := mOpenSet_n (N := N) hA hB P2 R2 (by omega)
      have g3 := mChBy_n (N := N) (c := i) hA P2 d3 (by omega) hN
      have hx := wdP_lt (A := A) hA hB i
      have F4 : Fr kMs t2 (sA t2 39 i (nI (H.1 2 ^^^ chS A H i))) := Fr_sA _ _ _ (by decide)
      have e4 := seen_n (N := N) hse hA (MSe_fr (Fr_t F F4) (by decide) hM.2.2.2.1) hx hN (fitS A H se i) (fitS_iff A H se i)
      have cl := cntN_le (fitS A H se) i
      have e5 : isb (nI (if fitS A H se i = true then 1 else 0)) = true := isb_n _
      cases hf : fitS A H se i
      · rw [hf] at e4 e5
        simp only [Bool.false_eq_true, if_false] at e4 e5
        simp (disch := first | omega | decide) only [f_M_laysFits_L11, f_M_porterMany, P2.2.1, qp, g0, g3, e4, e5, zI_0, zI_1, zI_2, zI_3, zI_4, zI_5, zI_6, zI_7, zI_8, zI_9, zI_10, zI_11, zI_12, zI_13, zI_14, zI_15, zI_16, zI_17, zI_18, zI_19, zI_20, zI_21, zI_22, zI_23, zI_24, zI_25, zI_26, zI_27, zI_28, zI_29, zI_30, zI_31, zI_32, zI_33, zI_34, zI_35, zI_36, zI_37, zI_38, zI_39, zI_40, zI_41, zI_42, zI_43, zI_44, zI_45, zI_46, zI_47, zI_48, zI_49, zI_50, zI_51, zI_52, zI_53, zI_54, zI_55, zI_56, zI_57, zI_58, zI_59, zI_60, zI_61, zI_62, zI_63, zI_64, zI_65, zI_66, zI_67, zI_74, zI_84, zI_85, zI_88, zI_91, zI_93, zI_97, zI_99, zI_100, zI_102, zI_105, zI_117, zI_122, zI_193, zI_202, zI_205, zI_251, zI_255, zI_256, zI_257, zI_258, zI_259, zI_260, zI_640, zI_999, zI_1000, zI_1024, zI_1600, zI_1602, zI_1700, zI_2040, zI_3200, zI_4100, zI_9728, zI_11784, zI_61440, zI_65536, zI_470536, zI_999999, zI_1000000, nI_add, cn_xor, cn_lt, cn_eq, lt_T, cn_inb, cn_ix, grd_t, grd_bt, gI_sI, gI_sA, gI_sL, gI_sQ, gI_sC, gI_sO, gI_sD, gA_sI, gA_sL, gA_sQ, gA_sO, gA_sD, gL_sI, gL_sA, gL_sQ, gL_sC, gL_sO, gL_sD, gQ_sI, gQ_sA, gQ_sL, gQ_sC, gQ_sO, gO_sI, gO_sA, gO_sL, gO_sQ, gO_sC, gO_sO, gO_sD, gA_eq, gA_ne, gQ_eq, gQ_ne, gL_sL, gA_cin, gA_cou, gQ_cin, gQ_cou, Nat.reduceAdd, Nat.reduceSub, Nat.reduceMul, Nat.reduceLT, Nat.reduceEqDiff, eq_self, true_and, and_true, and_false, false_and, if_true, if_false, and_self, Bool.true_eq_false, Bool.false_eq_true, Option.bind_some]
        refine hk _ ⟨_, rfl, by rw [cntN_no hf]; exact d1, fun c hc => ?_, d3, Fr_t F (Fr_t F4 (Fr_sA 38 _ _ (by decide)))⟩
        by_cases e : c = i
        · subst e; rw [hf]; exact ⟨by simp (disch := first | omega | decide) only [gI_sI, gI_sA, gI_sL, gI_sQ, gI_sC, gI_sO, gI_sD, gA_sI, gA_sL, gA_sQ, gA_sO, gA_sD, gL_sI, gL_sA, gL_sQ, gL_sC, gL_sO, gL_sD, gQ_sI, gQ_sA, gQ_sL, gQ_sC, gQ_sO, gO_sI, gO_sA, gO_sL, gO_sQ, gO_sC, gO_sO, gO_sD, gA_eq, gA_ne, gQ_eq, gQ_ne, gL_sL, gA_cin, gA_cou, gQ_cin, gQ_cou, Nat.reduceAdd, Nat.reduceSub, Nat.reduceMul, Nat.reduceLT, Nat.reduceEqDiff, eq_self, true_and, and_true, and_false, false_and, if_true, if_false, and_self, Bool.true_eq_false, Bool.false_eq_true], by simp (disch := first | omega | decide) only [gI_sI, gI_sA, gI_sL, gI_sQ, gI_sC, gI_sO, gI_sD, gA_sI, gA_sL, gA_sQ, gA_sO, gA_sD, gL_sI, gL_sA, gL_sQ, gL_sC, gL_sO, gL_sD, gQ_sI, gQ_sA, gQ_sL, gQ_sC, gQ_sO, gO_sI, gO_sA, gO_sL, gO_sQ, gO_sC, gO_sO, gO_sD, gA_eq, gA_ne, gQ_eq, gQ_ne, gL_sL, gA_cin, gA_cou, gQ_cin, gQ_cou, Nat.reduceAdd, Nat.reduceSub, Nat.reduceMul, Nat.reduceLT, Nat.reduceEqDiff, eq_self, true_and, and_true, and_false, false_and, if_true, if_false, and_self, Bool.true_eq_false, Bool.false_eq_true]⟩
        · have := d2 c (by omega)
          rw [gA_ne (by omega), gA_ne (by omega), gA_ne (by omega), gA_ne (by omega)]; exact this
      · rw [hf] at e4 e5
        simp only [if_true] at e4 e5
        simp (disch := first | omega | decide) only [f_M_laysFits_L11, f_M_porterMany, P2.2.1, qp, g0, g3, e4, e5, zI_0, zI_1, zI_2, zI_3, zI_4, zI_5, zI_6, zI_7, zI_8, zI_9, zI_10, zI_11, zI_12, zI_13, zI_14, zI_15, zI_16, zI_17, zI_18, zI_19, zI_20, zI_21, zI_22, zI_23, zI_24, zI_25, zI_26, zI_27, zI_28, zI_29, zI_30, zI_31, zI_32, zI_33, zI_34, zI_35, zI_36, zI_37, zI_38, zI_39, zI_40, zI_41, zI_42, zI_43, zI_44, zI_45, zI_46, zI_47, zI_48, zI_49, zI_50, zI_51, zI_52, zI_53, zI_54, zI_55, zI_56, zI_57, zI_58, zI_59, zI_60, zI_61, zI_62, zI_63, zI_64, zI_65, zI_66, zI_67, zI_74, zI_84, zI_85, zI_88, zI_91, zI_93, zI_97, zI_99, zI_100, zI_102, zI_105, zI_117, zI_122, zI_193, zI_202, zI_205, zI_251, zI_255, zI_256, zI_257, zI_258, zI_259, zI_260, zI_640, zI_999, zI_1000, zI_1024, zI_1600, zI_1602, zI_1700, zI_2040, zI_3200, zI_4100, zI_9728, zI_11784, zI_61440, zI_65536, zI_470536, zI_999999, zI_1000000, nI_add, cn_xor, cn_lt, cn_eq, lt_T, cn_inb, cn_ix, grd_t, grd_bt, gI_sI, gI_sA, gI_sL, gI_sQ, gI_sC, gI_sO, gI_sD, gA_sI, gA_sL, gA_sQ, gA_sO, gA_sD, gL_sI, gL_sA, gL_sQ, gL_sC, gL_sO, gL_sD, gQ_sI, gQ_sA, gQ_sL, gQ_sC, gQ_sO, gO_sI, gO_sA, gO_sL, gO_sQ, gO_sC, gO_sO, gO_sD, gA_eq, gA_ne, gQ_eq, gQ_ne, gL_sL, gA_cin, gA_cou, gQ_cin, gQ_cou, Nat.reduceAdd, Nat.reduceSub, Nat.reduceMul, Nat.reduceLT, Nat.reduceEqDiff, eq_self, true_and, and_true, and_false, false_and, if_true, if_false, and_self, Bool.true_eq_false, Bool.false_eq_true, d1, Option.bind_some]
        refine hk _ ⟨_, rfl, by rw [cntN_yes hf]; simp (disch := first | omega | decide) only [gI_sI, gI_sA, gI_sL, gI_sQ, gI_sC, gI_sO, gI_sD, gA_sI, gA_sL, gA_sQ, gA_sO, gA_sD, gL_sI, gL_sA, gL_sQ, gL_sC, gL_sO, gL_sD, gQ_sI, gQ_sA, gQ_sL, gQ_sC, gQ_sO, gO_sI, gO_sA, gO_sL, gO_sQ, gO_sC, gO_sO, gO_sD, gA_eq, gA_ne, gQ_eq, gQ_ne, gL_sL, gA_cin, gA_cou, gQ_cin, gQ_cou, Nat.reduceAdd, Nat.reduceSub, Nat.reduceMul, Nat.reduceLT, Nat.reduceEqDiff, eq_self, true_and, and_true, and_false, false_and, if_true, if_false, and_self, Bool.true_eq_false, Bool.false_eq_true], fun c hc => ?_, d3, Fr_t F (Fr_t F4 (Fr_t (Fr_sA 38 _ _ (by decide)) (Fr_sI 1059 _ _ (by decide))))⟩
        rw [gA_sI, gA_sI]
        by_cases e : c = i
        · subst e; rw [hf]; exact ⟨by simp (disch := first | omega | decide) only [gI_sI, gI_sA, gI_sL, gI_sQ, gI_sC, gI_sO, gI_sD, gA_sI, gA_sL, gA_sQ, gA_sO, gA_sD, gL_sI, gL_sA, gL_sQ, gL_sC, gL_sO, gL_sD, gQ_sI, gQ_sA, gQ_sL, gQ_sC, gQ_sO, gO_sI, gO_sA, gO_sL, gO_sQ, gO_sC, gO_sO, gO_sD, gA_eq, gA_ne, gQ_eq, gQ_ne, gL_sL, gA_cin, gA_cou, gQ_cin, gQ_cou, Nat.reduceAdd, Nat.reduceSub, Nat.reduceMul, Nat.reduceLT, Nat.reduceEqDiff, eq_self, true_and, and_true, and_false, false_and, if_true, if_false, and_self, Bool.true_eq_false, Bool.false_eq_true], by simp (disch := first | omega | decide) only [gI_sI, gI_sA, gI_sL, gI_sQ, gI_sC, gI_sO, gI_sD, gA_sI, gA_sL, gA_sQ, gA_sO, gA_sD, gL_sI, gL_sA, gL_sQ, gL_sC, gL_sO, gL_sD, gQ_sI, gQ_sA, gQ_sL, gQ_sC, gQ_sO, gO_sI, gO_sA, gO_sL, gO_sQ, gO_sC, gO_sO, gO_sD, gA_eq, gA_ne, gQ_eq, gQ_ne, gL_sL, gA_cin, gA_cou, gQ_cin, gQ_cou, Nat.reduceAdd, Nat.reduceSub, Nat.reduceMul, Nat.reduceLT, Nat.reduceEqDiff, eq_self, true_and, and_true, and_false, false_and, if_true, if_false, and_self, Bool.true_eq_false, Bool.false_eq_true]⟩
        · have := d2 c (by omega)
          rw [gA_ne (by omega), gA_ne (by omega), gA_ne (by omega), gA_ne (by omega)]; exact this
    · rintro k x ⟨t2, rfl, d1, d2, d3, F⟩
      have P2 := MP_fr F (by decide) hM.1
      have qp := mPow_n hA P2
      simp (disch := first | omega | decide) only [f_M_laysFits_L11, f_M_porterMany, P2.2.1, qp, zI_0, zI_1, zI_2, zI_3, zI_4, zI_5, zI_6, zI_7, zI_8, zI_9, zI_10, zI_11, zI_12, zI_13, zI_14, zI_15, zI_16, zI_17, zI_18, zI_19, zI_20, zI_21, zI_22, zI_23, zI_24, zI_25, zI_26, zI_27, zI_28, zI_29, zI_30, zI_31, zI_32, zI_33, zI_34, zI_35, zI_36, zI_37, zI_38, zI_39, zI_40, zI_41, zI_42, zI_43, zI_44, zI_45, zI_46, zI_47, zI_48, zI_49, zI_50, zI_51, zI_52, zI_53, zI_54, zI_55, zI_56, zI_57, zI_58, zI_59, zI_60, zI_61, zI_62, zI_63, zI_64, zI_65, zI_66, zI_67, zI_74, zI_84, zI_85, zI_88, zI_91, zI_93, zI_97, zI_99, zI_100, zI_102, zI_105, zI_117, zI_122, zI_193, zI_202, zI_205, zI_251, zI_255, zI_256, zI_257, zI_258, zI_259, zI_260, zI_640, zI_999, zI_1000, zI_1024, zI_1600, zI_1602, zI_1700, zI_2040, zI_3200, zI_4100, zI_9728, zI_11784, zI_61440, zI_65536, zI_470536, zI_999999, zI_1000000, cn_lt, lt_F, Nat.reduceAdd, Nat.reduceSub, Nat.reduceMul, Nat.reduceLT, Nat.reduceEqDiff, eq_self, true_and, and_true, and_false, false_and, if_true, if_false, and_self, Bool.true_eq_false, Bool.false_eq_true, Option.bind_some]
      exact Ok_some ⟨⟨d1, d2⟩, F⟩
  obtain ⟨x, x1, x2, x3⟩ := hl
  refine ⟨x, ?_, x2, x3, MP_fr x3 (by decide) hM.1⟩
  simp only [f_M_laysFits, zI_0, g1, Option.bind_some]
  exact x1
theorem P_fits (hN : 10000 ≤ N) : Pure_22 Inv N := by
  rintro a s t ⟨A, H, pa, se, hW, hX, hM, hR⟩
  have hI : Inv s t := ⟨A, H, pa, se, hW, hX, hM, hR⟩
  have hA := hW.1
  have hp := pw10 hA.2.1
  have qT := xTold_n (N := N) hA hX.1
  have mT := hM.2.2.2.2.2
  have cl := cntN_le (fitS A H se) (2 ^ pP A)
  by_cases c : 0 < pD A
  · rw [if_pos c] at qT mT
    obtain ⟨s1, e1, X1, K1, F1⟩ := reckon_n (N := N) hW hX hN
    obtain ⟨t1, g1, g2, G1, P1⟩ := laysF_n (N := N) hW hM hN
    have k3 := K1.2.2.1
    have qp := mPow_n hA P1
    have cl2 : (m1 < m1) = False := eq_false (by decide)
    by_cases ca : a = m1
    · subst ca
      refine ⟨nI (cntN (fitS A H se) (2 ^ pP A)), s1, t1, ?_, ?_, Inv_s hW hM hR X1 F1 G1⟩
      · simp (disch := first | omega | decide) only [f_X_fits, qT, e1, k3, zI_0, zI_1, zI_2, zI_3, zI_4, zI_5, zI_6, zI_7, zI_8, zI_9, zI_10, zI_11, zI_12, zI_13, zI_14, zI_15, zI_16, zI_17, zI_18, zI_19, zI_20, zI_21, zI_22, zI_23, zI_24, zI_25, zI_26, zI_27, zI_28, zI_29, zI_30, zI_31, zI_32, zI_33, zI_34, zI_35, zI_36, zI_37, zI_38, zI_39, zI_40, zI_41, zI_42, zI_43, zI_44, zI_45, zI_46, zI_47, zI_48, zI_49, zI_50, zI_51, zI_52, zI_53, zI_54, zI_55, zI_56, zI_57, zI_58, zI_59, zI_60, zI_61, zI_62, zI_63, zI_64, zI_65, zI_66, zI_67, zI_74, zI_84, zI_85, zI_88, zI_91, zI_93, zI_97, zI_99, zI_100, zI_102, zI_105, zI_117, zI_122, zI_193, zI_202, zI_205, zI_251, zI_255, zI_256, zI_257, zI_258, zI_259, zI_260, zI_640, zI_999, zI_1000, zI_1024, zI_1600, zI_1602, zI_1700, zI_2040, zI_3200, zI_4100, zI_9728, zI_11784, zI_61440, zI_65536, zI_470536, zI_999999, zI_1000000, lt_T, lt_F, le_T, le_F, eq_T, eq_F, neg_1, cn_m1p, cn_m11, nI_add, cn_sub, pk_mul, cn_div, cn_irm, cn_lt, cn_eq, cn_ltm1, cn_m1lt, cn_eqm1, cn_m1eq, cn_ix, cn_inb, cn_ninb, cn_irs, cn_ils, cn_and, cn_or, cn_xor, grd_t, grd_bt, grd_bl, Nat.add_zero, Nat.zero_add, Nat.reduceAdd, Nat.reduceSub, Nat.reduceMul, Nat.reduceLT, Nat.reduceEqDiff, eq_self, true_and, and_true, and_false, false_and, if_true, if_false, and_self, Bool.true_eq_false, Bool.false_eq_true, Option.bind_some]
      · simp (disch := first | omega | decide) only [f_M_fits, mT, g1, g2.1, zI_0, zI_1, zI_2, zI_3, zI_4, zI_5, zI_6, zI_7, zI_8, zI_9, zI_10, zI_11, zI_12, zI_13, zI_14, zI_15, zI_16, zI_17, zI_18, zI_19, zI_20, zI_21, zI_22, zI_23, zI_24, zI_25, zI_26, zI_27, zI_28, zI_29, zI_30, zI_31, zI_32, zI_33, zI_34, zI_35, zI_36, zI_37, zI_38, zI_39, zI_40, zI_41, zI_42, zI_43, zI_44, zI_45, zI_46, zI_47, zI_48, zI_49, zI_50, zI_51, zI_52, zI_53, zI_54, zI_55, zI_56, zI_57, zI_58, zI_59, zI_60, zI_61, zI_62, zI_63, zI_64, zI_65, zI_66, zI_67, zI_74, zI_84, zI_85, zI_88, zI_91, zI_93, zI_97, zI_99, zI_100, zI_102, zI_105, zI_117, zI_122, zI_193, zI_202, zI_205, zI_251, zI_255, zI_256, zI_257, zI_258, zI_259, zI_260, zI_640, zI_999, zI_1000, zI_1024, zI_1600, zI_1602, zI_1700, zI_2040, zI_3200, zI_4100, zI_9728, zI_11784, zI_61440, zI_65536, zI_470536, zI_999999, zI_1000000, lt_T, lt_F, le_T, le_F, eq_T, eq_F, neg_1, cn_m1p, cn_m11, nI_add, cn_sub, pk_mul, cn_div, cn_irm, cn_lt, cn_eq, cn_ltm1, cn_m1lt, cn_eqm1, cn_m1eq, cn_ix, cn_inb, cn_ninb, cn_irs, cn_ils, cn_and, cn_or, cn_xor, grd_t, grd_bt, grd_bl, Nat.add_zero, Nat.zero_add, cl2, Nat.reduceAdd, Nat.reduceSub, Nat.reduceMul, Nat.reduceLT, Nat.reduceEqDiff, eq_self, true_and, and_true, and_false, false_and, if_true, if_false, and_self, Bool.true_eq_false, Bool.false_eq_true, Option.bind_some]
    · obtain ⟨v, hv1, hv2, rfl⟩ := arg_z a
      have qa : (zi v = m1) = False := eq_false ca
      have q1 : (zi v < nI 0) = (v < 0) := zi_n_lt (n := 0) ⟨hv1, hv2⟩ (by omega)
      have q2 : (zi v < nI (cntN (fitS A H se) (2 ^ pP A))) = (v < ((cntN (fitS A H se) (2 ^ pP A) : Nat) : Int)) := zi_n_lt ⟨hv1, hv2⟩ (by omega)
      have q3 : (zi v < m1) = (v < -1) := by rw [show m1 = zi (-1) from rfl, zi_lt (by omega)]
      have hv : v ≠ -1 := fun h => ca (by rw [h]; rfl)
      by_cases c1 : v < 0
      · have q1 := q1.trans (eq_true c1)
        have q3 := q3.trans (eq_true (by omega))
        refine ⟨m1, s1, t, ?_, ?_, Inv_s hW hM hR X1 F1 (Fr_r _ _)⟩
        · simp (disch := first | omega | decide) only [f_X_fits, qT, e1, qa, q1, zI_0, zI_1, zI_2, zI_3, zI_4, zI_5, zI_6, zI_7, zI_8, zI_9, zI_10, zI_11, zI_12, zI_13, zI_14, zI_15, zI_16, zI_17, zI_18, zI_19, zI_20, zI_21, zI_22, zI_23, zI_24, zI_25, zI_26, zI_27, zI_28, zI_29, zI_30, zI_31, zI_32, zI_33, zI_34, zI_35, zI_36, zI_37, zI_38, zI_39, zI_40, zI_41, zI_42, zI_43, zI_44, zI_45, zI_46, zI_47, zI_48, zI_49, zI_50, zI_51, zI_52, zI_53, zI_54, zI_55, zI_56, zI_57, zI_58, zI_59, zI_60, zI_61, zI_62, zI_63, zI_64, zI_65, zI_66, zI_67, zI_74, zI_84, zI_85, zI_88, zI_91, zI_93, zI_97, zI_99, zI_100, zI_102, zI_105, zI_117, zI_122, zI_193, zI_202, zI_205, zI_251, zI_255, zI_256, zI_257, zI_258, zI_259, zI_260, zI_640, zI_999, zI_1000, zI_1024, zI_1600, zI_1602, zI_1700, zI_2040, zI_3200, zI_4100, zI_9728, zI_11784, zI_61440, zI_65536, zI_470536, zI_999999, zI_1000000, lt_T, lt_F, le_T, le_F, eq_T, eq_F, neg_1, cn_m1p, cn_m11, nI_add, cn_sub, pk_mul, cn_div, cn_irm, cn_lt, cn_eq, cn_ltm1, cn_m1lt, cn_eqm1, cn_m1eq, cn_ix, cn_inb, cn_ninb, cn_irs, cn_ils, cn_and, cn_or, cn_xor, grd_t, grd_bt, grd_bl, Nat.add_zero, Nat.zero_add, Nat.reduceAdd, Nat.reduceSub, Nat.reduceMul, Nat.reduceLT, Nat.reduceEqDiff, eq_self, true_and, and_true, and_false, false_and, if_true, if_false, and_self, Bool.true_eq_false, Bool.false_eq_true, Option.bind_some]
        · simp (disch := first | omega | decide) only [f_M_fits, mT, q3, zI_0, zI_1, zI_2, zI_3, zI_4, zI_5, zI_6, zI_7, zI_8, zI_9, zI_10, zI_11, zI_12, zI_13, zI_14, zI_15, zI_16, zI_17, zI_18, zI_19, zI_20, zI_21, zI_22, zI_23, zI_24, zI_25, zI_26, zI_27, zI_28, zI_29, zI_30, zI_31, zI_32, zI_33, zI_34, zI_35, zI_36, zI_37, zI_38, zI_39, zI_40, zI_41, zI_42, zI_43, zI_44, zI_45, zI_46, zI_47, zI_48, zI_49, zI_50, zI_51, zI_52, zI_53, zI_54, zI_55, zI_56, zI_57, zI_58, zI_59, zI_60, zI_61, zI_62, zI_63, zI_64, zI_65, zI_66, zI_67, zI_74, zI_84, zI_85, zI_88, zI_91, zI_93, zI_97, zI_99, zI_100, zI_102, zI_105, zI_117, zI_122, zI_193, zI_202, zI_205, zI_251, zI_255, zI_256, zI_257, zI_258, zI_259, zI_260, zI_640, zI_999, zI_1000, zI_1024, zI_1600, zI_1602, zI_1700, zI_2040, zI_3200, zI_4100, zI_9728, zI_11784, zI_61440, zI_65536, zI_470536, zI_999999, zI_1000000, lt_T, lt_F, le_T, le_F, eq_T, eq_F, neg_1, cn_m1p, cn_m11, nI_add, cn_sub, pk_mul, cn_div, cn_irm, cn_lt, cn_eq, cn_ltm1, cn_m1lt, cn_eqm1, cn_m1eq, cn_ix, cn_inb, cn_ninb, cn_irs, cn_ils, cn_and, cn_or, cn_xor, grd_t, grd_bt, grd_bl, Nat.add_zero, Nat.zero_add, Nat.reduceAdd, Nat.reduceSub, Nat.reduceMul, Nat.reduceLT, Nat.reduceEqDiff, eq_self, true_and, and_true, and_false, false_and, if_true, if_false, and_self, Bool.true_eq_false, Bool.false_eq_true]
      · have q1 := q1.trans (eq_false c1)
        have q3 := q3.trans (eq_false (by omega))
        obtain ⟨n, rfl⟩ := Int.eq_ofNat_of_zero_le (show 0 ≤ v by omega)
        rw [zi_nI] at *
        have hm : Ok (mfix N (f_M_fits_L32 N) (nI n, nI 0, nI 0, t1)) (fun r => r.2 = t1 ∧ ((∃ c, c < 2 ^ pP A ∧ fitS A H se c = true ∧ cntN (fitS A H se) c = n ∧ r.1 = nI c) ∨ (cntN (fitS A H se) (2 ^ pP A) ≤ n ∧ r.1 = m1))) := by
          refine mfix_up (fun i x => x = (nI n, nI (cntN (fitS A H se) i), nI i, t1) ∧ cntN (fitS A H se) i ≤ n) (2 ^ pP A) ?_ ?_ N 0 _ ⟨rfl, Nat.zero_le _⟩ (Nat.zero_le _) (by omega)
          · rintro i k x hi ⟨rfl, hle⟩ hk
            have d1 := (g2.2 i hi).1
            have ci := cntN_le (fitS A H se) i
            cases hf : fitS A H se i
            · rw [hf] at d1
              simp only [Bool.false_eq_true, if_false] at d1
              simp (disch := first | omega | decide) only [f_M_fits_L32, f_M_porterMany, P1.2.1, qp, d1, zI_0, zI_1, zI_2, zI_3, zI_4, zI_5, zI_6, zI_7, zI_8, zI_9, zI_10, zI_11, zI_12, zI_13, zI_14, zI_15, zI_16, zI_17, zI_18, zI_19, zI_20, zI_21, zI_22, zI_23, zI_24, zI_25, zI_26, zI_27, zI_28, zI_29, zI_30, zI_31, zI_32, zI_33, zI_34, zI_35, zI_36, zI_37, zI_38, zI_39, zI_40, zI_41, zI_42, zI_43, zI_44, zI_45, zI_46, zI_47, zI_48, zI_49, zI_50, zI_51, zI_52, zI_53, zI_54, zI_55, zI_56, zI_57, zI_58, zI_59, zI_60, zI_61, zI_62, zI_63, zI_64, zI_65, zI_66, zI_67, zI_74, zI_84, zI_85, zI_88, zI_91, zI_93, zI_97, zI_99, zI_100, zI_102, zI_105, zI_117, zI_122, zI_193, zI_202, zI_205, zI_251, zI_255, zI_256, zI_257, zI_258, zI_259, zI_260, zI_640, zI_999, zI_1000, zI_1024, zI_1600, zI_1602, zI_1700, zI_2040, zI_3200, zI_4100, zI_9728, zI_11784, zI_61440, zI_65536, zI_470536, zI_999999, zI_1000000, nI_add, cn_lt, cn_eq, lt_T, cn_inb, cn_ix, grd_t, grd_bt, Nat.reduceAdd, Nat.reduceSub, Nat.reduceMul, Nat.reduceLT, Nat.reduceEqDiff, eq_self, true_and, and_true, and_false, false_and, if_true, if_false, and_self, Bool.true_eq_false, Bool.false_eq_true, Option.bind_some]
              exact hk _ ⟨by rw [cntN_no hf], by rw [cntN_no hf]; exact hle⟩
            · rw [hf] at d1
              simp only [if_true] at d1
              by_cases cc : cntN (fitS A H se) i = n
              · simp (disch := first | omega | decide) only [f_M_fits_L32, f_M_porterMany, P1.2.1, qp, d1, zI_0, zI_1, zI_2, zI_3, zI_4, zI_5, zI_6, zI_7, zI_8, zI_9, zI_10, zI_11, zI_12, zI_13, zI_14, zI_15, zI_16, zI_17, zI_18, zI_19, zI_20, zI_21, zI_22, zI_23, zI_24, zI_25, zI_26, zI_27, zI_28, zI_29, zI_30, zI_31, zI_32, zI_33, zI_34, zI_35, zI_36, zI_37, zI_38, zI_39, zI_40, zI_41, zI_42, zI_43, zI_44, zI_45, zI_46, zI_47, zI_48, zI_49, zI_50, zI_51, zI_52, zI_53, zI_54, zI_55, zI_56, zI_57, zI_58, zI_59, zI_60, zI_61, zI_62, zI_63, zI_64, zI_65, zI_66, zI_67, zI_74, zI_84, zI_85, zI_88, zI_91, zI_93, zI_97, zI_99, zI_100, zI_102, zI_105, zI_117, zI_122, zI_193, zI_202, zI_205, zI_251, zI_255, zI_256, zI_257, zI_258, zI_259, zI_260, zI_640, zI_999, zI_1000, zI_1024, zI_1600, zI_1602, zI_1700, zI_2040, zI_3200, zI_4100, zI_9728, zI_11784, zI_61440, zI_65536, zI_470536, zI_999999, zI_1000000, nI_add, cn_lt, cn_eq, lt_T, cn_inb, cn_ix, grd_t, grd_bt, Nat.reduceAdd, Nat.reduceSub, Nat.reduceMul, Nat.reduceLT, Nat.reduceEqDiff, eq_self, true_and, and_true, and_false, false_and, if_true, if_false, and_self, Bool.true_eq_false, Bool.false_eq_true, cc, Option.bind_some]
                exact Ok_some ⟨rfl, Or.inl ⟨i, hi, hf, cc, rfl⟩⟩
              · simp (disch := first | omega | decide) only [f_M_fits_L32, f_M_porterMany, P1.2.1, qp, d1, zI_0, zI_1, zI_2, zI_3, zI_4, zI_5, zI_6, zI_7, zI_8, zI_9, zI_10, zI_11, zI_12, zI_13, zI_14, zI_15, zI_16, zI_17, zI_18, zI_19, zI_20, zI_21, zI_22, zI_23, zI_24, zI_25, zI_26, zI_27, zI_28, zI_29, zI_30, zI_31, zI_32, zI_33, zI_34, zI_35, zI_36, zI_37, zI_38, zI_39, zI_40, zI_41, zI_42, zI_43, zI_44, zI_45, zI_46, zI_47, zI_48, zI_49, zI_50, zI_51, zI_52, zI_53, zI_54, zI_55, zI_56, zI_57, zI_58, zI_59, zI_60, zI_61, zI_62, zI_63, zI_64, zI_65, zI_66, zI_67, zI_74, zI_84, zI_85, zI_88, zI_91, zI_93, zI_97, zI_99, zI_100, zI_102, zI_105, zI_117, zI_122, zI_193, zI_202, zI_205, zI_251, zI_255, zI_256, zI_257, zI_258, zI_259, zI_260, zI_640, zI_999, zI_1000, zI_1024, zI_1600, zI_1602, zI_1700, zI_2040, zI_3200, zI_4100, zI_9728, zI_11784, zI_61440, zI_65536, zI_470536, zI_999999, zI_1000000, nI_add, cn_lt, cn_eq, lt_T, cn_inb, cn_ix, grd_t, grd_bt, Nat.reduceAdd, Nat.reduceSub, Nat.reduceMul, Nat.reduceLT, Nat.reduceEqDiff, eq_self, true_and, and_true, and_false, false_and, if_true, if_false, and_self, Bool.true_eq_false, Bool.false_eq_true, cc, Option.bind_some]
                exact hk _ ⟨by rw [cntN_yes hf], by rw [cntN_yes hf]; omega⟩
          · rintro k x ⟨rfl, hle⟩
            simp (disch := first | omega | decide) only [f_M_fits_L32, f_M_porterMany, P1.2.1, qp, zI_0, zI_1, zI_2, zI_3, zI_4, zI_5, zI_6, zI_7, zI_8, zI_9, zI_10, zI_11, zI_12, zI_13, zI_14, zI_15, zI_16, zI_17, zI_18, zI_19, zI_20, zI_21, zI_22, zI_23, zI_24, zI_25, zI_26, zI_27, zI_28, zI_29, zI_30, zI_31, zI_32, zI_33, zI_34, zI_35, zI_36, zI_37, zI_38, zI_39, zI_40, zI_41, zI_42, zI_43, zI_44, zI_45, zI_46, zI_47, zI_48, zI_49, zI_50, zI_51, zI_52, zI_53, zI_54, zI_55, zI_56, zI_57, zI_58, zI_59, zI_60, zI_61, zI_62, zI_63, zI_64, zI_65, zI_66, zI_67, zI_74, zI_84, zI_85, zI_88, zI_91, zI_93, zI_97, zI_99, zI_100, zI_102, zI_105, zI_117, zI_122, zI_193, zI_202, zI_205, zI_251, zI_255, zI_256, zI_257, zI_258, zI_259, zI_260, zI_640, zI_999, zI_1000, zI_1024, zI_1600, zI_1602, zI_1700, zI_2040, zI_3200, zI_4100, zI_9728, zI_11784, zI_61440, zI_65536, zI_470536, zI_999999, zI_1000000, neg_1, cn_lt, lt_F, Nat.reduceAdd, Nat.reduceSub, Nat.reduceMul, Nat.reduceLT, Nat.reduceEqDiff, eq_self, true_and, and_true, and_false, false_and, if_true, if_false, and_self, Bool.true_eq_false, Bool.false_eq_true, Option.bind_some]
            exact Ok_some ⟨rfl, Or.inr ⟨hle, rfl⟩⟩
        obtain ⟨y, y1, y2, y3⟩ := hm
        refine ⟨y.1, s1, t1, ?_, ?_, Inv_s hW hM hR X1 F1 G1⟩
        · rcases y3 with ⟨cc, h1, h2, h3, h4⟩ | ⟨h1, h2⟩
          · have kk := K1.2.2.2 cc h1 h2
            have hlt : cntN (fitS A H se) (cc + 1) ≤ cntN (fitS A H se) (2 ^ pP A) := cntN_mono _ h1
            rw [cntN_yes h2] at hlt
            rw [h3] at kk hlt
            rw [h4]
            simp (disch := first | omega | decide) only [f_X_fits, qT, e1, k3, qa, kk, zI_0, zI_1, zI_2, zI_3, zI_4, zI_5, zI_6, zI_7, zI_8, zI_9, zI_10, zI_11, zI_12, zI_13, zI_14, zI_15, zI_16, zI_17, zI_18, zI_19, zI_20, zI_21, zI_22, zI_23, zI_24, zI_25, zI_26, zI_27, zI_28, zI_29, zI_30, zI_31, zI_32, zI_33, zI_34, zI_35, zI_36, zI_37, zI_38, zI_39, zI_40, zI_41, zI_42, zI_43, zI_44, zI_45, zI_46, zI_47, zI_48, zI_49, zI_50, zI_51, zI_52, zI_53, zI_54, zI_55, zI_56, zI_57, zI_58, zI_59, zI_60, zI_61, zI_62, zI_63, zI_64, zI_65, zI_66, zI_67, zI_74, zI_84, zI_85, zI_88, zI_91, zI_93, zI_97, zI_99, zI_100, zI_102, zI_105, zI_117, zI_122, zI_193, zI_202, zI_205, zI_251, zI_255, zI_256, zI_257, zI_258, zI_259, zI_260, zI_640, zI_999, zI_1000, zI_1024, zI_1600, zI_1602, zI_1700, zI_2040, zI_3200, zI_4100, zI_9728, zI_11784, zI_61440, zI_65536, zI_470536, zI_999999, zI_1000000, lt_T, lt_F, le_T, le_F, eq_T, eq_F, neg_1, cn_m1p, cn_m11, nI_add, cn_sub, pk_mul, cn_div, cn_irm, cn_lt, cn_eq, cn_ltm1, cn_m1lt, cn_eqm1, cn_m1eq, cn_ix, cn_inb, cn_ninb, cn_irs, cn_ils, cn_and, cn_or, cn_xor, grd_t, grd_bt, grd_bl, Nat.add_zero, Nat.zero_add, Nat.reduceAdd, Nat.reduceSub, Nat.reduceMul, Nat.reduceLT, Nat.reduceEqDiff, eq_self, true_and, and_true, and_false, false_and, if_true, if_false, and_self, Bool.true_eq_false, Bool.false_eq_true, Option.bind_some]
          · rw [h2]
            simp (disch := first | omega | decide) only [f_X_fits, qT, e1, k3, qa, zI_0, zI_1, zI_2, zI_3, zI_4, zI_5, zI_6, zI_7, zI_8, zI_9, zI_10, zI_11, zI_12, zI_13, zI_14, zI_15, zI_16, zI_17, zI_18, zI_19, zI_20, zI_21, zI_22, zI_23, zI_24, zI_25, zI_26, zI_27, zI_28, zI_29, zI_30, zI_31, zI_32, zI_33, zI_34, zI_35, zI_36, zI_37, zI_38, zI_39, zI_40, zI_41, zI_42, zI_43, zI_44, zI_45, zI_46, zI_47, zI_48, zI_49, zI_50, zI_51, zI_52, zI_53, zI_54, zI_55, zI_56, zI_57, zI_58, zI_59, zI_60, zI_61, zI_62, zI_63, zI_64, zI_65, zI_66, zI_67, zI_74, zI_84, zI_85, zI_88, zI_91, zI_93, zI_97, zI_99, zI_100, zI_102, zI_105, zI_117, zI_122, zI_193, zI_202, zI_205, zI_251, zI_255, zI_256, zI_257, zI_258, zI_259, zI_260, zI_640, zI_999, zI_1000, zI_1024, zI_1600, zI_1602, zI_1700, zI_2040, zI_3200, zI_4100, zI_9728, zI_11784, zI_61440, zI_65536, zI_470536, zI_999999, zI_1000000, lt_T, lt_F, le_T, le_F, eq_T, eq_F, neg_1, cn_m1p, cn_m11, nI_add, cn_sub, pk_mul, cn_div, cn_irm, cn_lt, cn_eq, cn_ltm1, cn_m1lt, cn_eqm1, cn_m1eq, cn_ix, cn_inb, cn_ninb, cn_irs, cn_ils, cn_and, cn_or, cn_xor, grd_t, grd_bt, grd_bl, Nat.add_zero, Nat.zero_add, Nat.reduceAdd, Nat.reduceSub, Nat.reduceMul, Nat.reduceLT, Nat.reduceEqDiff, eq_self, true_and, and_true, and_false, false_and, if_true, if_false, and_self, Bool.true_eq_false, Bool.false_eq_true, Option.bind_some]
        · simp (disch := first | omega | decide) only [f_M_fits, mT, g1, zI_0, zI_1, zI_2, zI_3, zI_4, zI_5, zI_6, zI_7, zI_8, zI_9, zI_10, zI_11, zI_12, zI_13, zI_14, zI_15, zI_16, zI_17, zI_18, zI_19, zI_20, zI_21, zI_22, zI_23, zI_24, zI_25, zI_26, zI_27, zI_28, zI_29, zI_30, zI_31, zI_32, zI_33, zI_34, zI_35, zI_36, zI_37, zI_38, zI_39, zI_40, zI_41, zI_42, zI_43, zI_44, zI_45, zI_46, zI_47, zI_48, zI_49, zI_50, zI_51, zI_52, zI_53, zI_54, zI_55, zI_56, zI_57, zI_58, zI_59, zI_60, zI_61, zI_62, zI_63, zI_64, zI_65, zI_66, zI_67, zI_74, zI_84, zI_85, zI_88, zI_91, zI_93, zI_97, zI_99, zI_100, zI_102, zI_105, zI_117, zI_122, zI_193, zI_202, zI_205, zI_251, zI_255, zI_256, zI_257, zI_258, zI_259, zI_260, zI_640, zI_999, zI_1000, zI_1024, zI_1600, zI_1602, zI_1700, zI_2040, zI_3200, zI_4100, zI_9728, zI_11784, zI_61440, zI_65536, zI_470536, zI_999999, zI_1000000, neg_1, qa, q3, cn_eq, Nat.reduceAdd, Nat.reduceSub, Nat.reduceMul, Nat.reduceLT, Nat.reduceEqDiff, eq_self, true_and, and_true, and_false, false_and, if_true, if_false, and_self, Bool.true_eq_false, Bool.false_eq_true, Option.bind_some]
          rw [y1, ← y2]
  · rw [if_neg c] at qT mT
    refine ⟨m1, s, t, ?_, ?_, hI⟩
    · simp (disch := first | omega | decide) only [f_X_fits, qT, zI_0, zI_1, zI_2, zI_3, zI_4, zI_5, zI_6, zI_7, zI_8, zI_9, zI_10, zI_11, zI_12, zI_13, zI_14, zI_15, zI_16, zI_17, zI_18, zI_19, zI_20, zI_21, zI_22, zI_23, zI_24, zI_25, zI_26, zI_27, zI_28, zI_29, zI_30, zI_31, zI_32, zI_33, zI_34, zI_35, zI_36, zI_37, zI_38, zI_39, zI_40, zI_41, zI_42, zI_43, zI_44, zI_45, zI_46, zI_47, zI_48, zI_49, zI_50, zI_51, zI_52, zI_53, zI_54, zI_55, zI_56, zI_57, zI_58, zI_59, zI_60, zI_61, zI_62, zI_63, zI_64, zI_65, zI_66, zI_67, zI_74, zI_84, zI_85, zI_88, zI_91, zI_93, zI_97, zI_99, zI_100, zI_102, zI_105, zI_117, zI_122, zI_193, zI_202, zI_205, zI_251, zI_255, zI_256, zI_257, zI_258, zI_259, zI_260, zI_640, zI_999, zI_1000, zI_1024, zI_1600, zI_1602, zI_1700, zI_2040, zI_3200, zI_4100, zI_9728, zI_11784, zI_61440, zI_65536, zI_470536, zI_999999, zI_1000000, lt_T, lt_F, le_T, le_F, eq_T, eq_F, neg_1, cn_m1p, cn_m11, nI_add, cn_sub, pk_mul, cn_div, cn_irm, cn_lt, cn_eq, cn_ltm1, cn_m1lt, cn_eqm1, cn_m1eq, cn_ix, cn_inb, cn_ninb, cn_irs, cn_ils, cn_and, cn_or, cn_xor, grd_t, grd_bt, grd_bl, Nat.add_zero, Nat.zero_add, Nat.reduceAdd, Nat.reduceSub, Nat.reduceMul, Nat.reduceLT, Nat.reduceEqDiff, eq_self, true_and, and_true, and_false, false_and, if_true, if_false, and_self, Bool.true_eq_false, Bool.false_eq_true, Option.bind_some]
    · simp (disch := first | omega | decide) only [f_M_fits, mT, zI_0, zI_1, zI_2, zI_3, zI_4, zI_5, zI_6, zI_7, zI_8, zI_9, zI_10, zI_11, zI_12, zI_13, zI_14, zI_15, zI_16, zI_17, zI_18, zI_19, zI_20, zI_21, zI_22, zI_23, zI_24, zI_25, zI_26, zI_27, zI_28, zI_29, zI_30, zI_31, zI_32, zI_33, zI_34, zI_35, zI_36, zI_37, zI_38, zI_39, zI_40, zI_41, zI_42, zI_43, zI_44, zI_45, zI_46, zI_47, zI_48, zI_49, zI_50, zI_51, zI_52, zI_53, zI_54, zI_55, zI_56, zI_57, zI_58, zI_59, zI_60, zI_61, zI_62, zI_63, zI_64, zI_65, zI_66, zI_67, zI_74, zI_84, zI_85, zI_88, zI_91, zI_93, zI_97, zI_99, zI_100, zI_102, zI_105, zI_117, zI_122, zI_193, zI_202, zI_205, zI_251, zI_255, zI_256, zI_257, zI_258, zI_259, zI_260, zI_640, zI_999, zI_1000, zI_1024, zI_1600, zI_1602, zI_1700, zI_2040, zI_3200, zI_4100, zI_9728, zI_11784, zI_61440, zI_65536, zI_470536, zI_999999, zI_1000000, lt_T, lt_F, le_T, le_F, eq_T, eq_F, neg_1, cn_m1p, cn_m11, nI_add, cn_sub, pk_mul, cn_div, cn_irm, cn_lt, cn_eq, cn_ltm1, cn_m1lt, cn_eqm1, cn_m1eq, cn_ix, cn_inb, cn_ninb, cn_irs, cn_ils, cn_and, cn_or, cn_xor, grd_t, grd_bt, grd_bl, Nat.add_zero, Nat.zero_add, Nat.reduceAdd, Nat.reduceSub, Nat.reduceMul, Nat.reduceLT, Nat.reduceEqDiff, eq_self, true_and, and_true, and_false, false_and, if_true, if_false, and_self, Bool.true_eq_false, Bool.false_eq_true]
/-! sums over what fits -/
def smN (g : Nat → Nat) : Nat → Nat
  | 0 => 0
  | n + 1 => smN g n + g n
theorem smN_cong {g h : Nat → Nat} : ∀ n, (∀ k, k < n → g k = h k) → smN g n = smN h n
  | 0, _ => rfl
  | n + 1, e => by rw [smN, smN, smN_cong n (fun k hk => e k (by omega)), e n (by omega)]
theorem smN_le {g : Nat → Nat} (h : ∀ k, g k ≤ 1) : ∀ n, smN g n ≤ n
  | 0 => Nat.le_refl _
  | n + 1 => by
    have h1 := smN_le h n
    have h2 := h n
    rw [smN]; omega
/-- the sum over the first fits is that over the sets -/
theorem sm_fit {p q : Nat → Bool} {g F : Nat → Nat} (hF : ∀ c, p c = true → F (cntN p c) = c) (hg : ∀ c, g c = if q c then 1 else 0) : ∀ n, smN (fun i => g (F i)) (cntN p n) = cntN (fun c => p c && q c) n
  | 0 => rfl
  | n + 1 => by
    have ih := sm_fit hF hg n
    cases e : p n
    · rw [cntN_no e, cntN_no (show (p n && q n) = false by rw [e]; rfl)]; exact ih
    · rw [cntN_yes e, smN, ih]
      show _ + g (F (cntN p n)) = _
      rw [hF n e, hg]
      cases e2 : q n
      · rw [cntN_no (show (p n && q n) = false by rw [e, e2]; rfl)]; rfl
      · rw [cntN_yes (show (p n && q n) = true by rw [e, e2]; rfl)]; rfl
/-- how many fits have a mark -/
def mkC (A : pL) (H : hL) (se : Nat × (Nat → Nat × Bool)) (q : Nat → Bool) : Nat := cntN (fun c => fitS A H se c && q c) (2 ^ pP A)
theorem mkC_le (q : Nat → Bool) : mkC A H se q ≤ cntN (fitS A H se) (2 ^ pP A) := by
  unfold mkC
  induction 2 ^ pP A with
  | zero => exact Nat.le_refl _
  | succ n ih =>
    cases e : fitS A H se n
    · rw [cntN_no e, cntN_no (show (fitS A H se n && q n) = false by rw [e]; rfl)]; exact ih
    · cases e2 : q n
      · rw [cntN_yes e, cntN_no (show (fitS A H se n && q n) = false by rw [e, e2]; rfl)]; omega
      · rw [cntN_yes e, cntN_yes (show (fitS A H se n && q n) = true by rw [e, e2]; rfl)]; omega
/-- a loop over the fits -/
theorem xSum_n {q : Nat → Bool} (hA : WA A) (K : XRk A H se s) {val : Nat → Nat} (hv : ∀ c, val c = if q c then 1 else 0) : ∃ F : Nat → Nat, (∀ i, i < cntN (fitS A H se) (2 ^ pP A) → gA s 39 i = nI (F i) ∧ F i < 2 ^ pP A) ∧ smN (fun i => val (F i)) (cntN (fitS A H se) (2 ^ pP A)) = mkC A H se q := by
  have hex : ∀ i, ∃ c, i < cntN (fitS A H se) (2 ^ pP A) → c < 2 ^ pP A ∧ fitS A H se c = true ∧ cntN (fitS A H se) c = i := fun i => by
    by_cases h : i < cntN (fitS A H se) (2 ^ pP A)
    · obtain ⟨c, h1, h2, h3⟩ := cntN_kth h
      exact ⟨c, fun _ => ⟨h1, h2, h3⟩⟩
    · exact ⟨0, fun h2 => absurd h2 h⟩
  refine ⟨fun i => Classical.choose (hex i), fun i hi => ?_, ?_⟩
  · obtain ⟨h1, h2, h3⟩ := Classical.choose_spec (hex i) hi
    refine ⟨?_, h1⟩
    have := K.2.2.2 _ h1 h2
    rw [h3] at this
    exact this
  · have key : ∀ n, n ≤ 2 ^ pP A → smN (fun i => val (Classical.choose (hex i))) (cntN (fitS A H se) n) = cntN (fun c => fitS A H se c && q c) n := by
      intro n
      induction n with
      | zero => intro _; rfl
      | succ n ih =>
        intro hn
        have ih := ih (by omega)
        cases e : fitS A H se n
        · rw [cntN_no e, cntN_no (show (fitS A H se n && q n) = false by rw [e]; rfl)]; exact ih
        · rw [cntN_yes e, smN, ih]
          have hlt : cntN (fitS A H se) (n + 1) ≤ cntN (fitS A H se) (2 ^ pP A) := cntN_mono _ hn
          rw [cntN_yes e] at hlt
          obtain ⟨h1, h2, h3⟩ := Classical.choose_spec (hex (cntN (fitS A H se) n)) (by omega)
          have hsame : Classical.choose (hex (cntN (fitS A H se) n)) = n := by
            generalize Classical.choose (hex (cntN (fitS A H se) n)) = c at *
            by_cases c1 : c < n
            · have := cntN_mono (fitS A H se) (show c + 1 ≤ n by omega)
              rw [cntN_yes h2] at this; omega
            · by_cases c2 : n < c
              · have := cntN_mono (fitS A H se) (show n + 1 ≤ c by omega)
                rw [cntN_yes e] at this; omega
              · omega
          show _ + val (Classical.choose (hex (cntN (fitS A H se) n))) = _
          rw [hsame, hv]
          cases e2 : q n
          · rw [cntN_no (show (fitS A H se n && q n) = false by rw [e, e2]; rfl)]; rfl
          · rw [cntN_yes (show (fitS A H se n && q n) = true by rw [e, e2]; rfl)]; rfl
    exact key _ (Nat.le_refl _)
theorem P_walked (hN : 10000 ≤ N) : Pure_23 Inv N := by
  rintro a s t ⟨A, H, pa, se, hW, hX, hM, hR⟩
  have hI : Inv s t := ⟨A, H, pa, se, hW, hX, hM, hR⟩
  have hA := hW.1
  have hp10 := hA.2.1
  have hp := pw10 hA.2.1
  have cl := cntN_le (fitS A H se) (2 ^ pP A)
  obtain ⟨v, hv1, hv2, rfl⟩ := arg_z a
  have q1 := xIsPorter_n (N := N) hA hX.1 ⟨hv1, hv2⟩
  have q2 := mIsPorter_n (N := N) hA hM.1 ⟨hv1, hv2⟩
  by_cases c : 0 ≤ v ∧ v < pP A
  · rw [if_pos c] at q1 q2
    obtain ⟨p, rfl⟩ := Int.eq_ofNat_of_zero_le c.1
    have hp2 : p < pP A := by omega
    rw [zi_nI] at q1 q2 ⊢
    obtain ⟨s1, e1, X1, K1, F1⟩ := reckon_n (N := N) hW hX hN
    obtain ⟨t1, g1, g2, G1, P1⟩ := laysF_n (N := N) hW hM hN
    have k3 := K1.2.2.1
    have qp := mPow_n hA P1
    have ml := mkC_le (A := A) (H := H) (se := se) (fun c => c.testBit p)
    obtain ⟨F, f1, f2⟩ := xSum_n (q := fun c => c.testBit p) (val := fun c => c >>> p &&& 1) hA K1 (fun c => bit01 c p)
    have sl : ∀ n, smN (fun i => F i >>> p &&& 1) n ≤ n := smN_le (fun k => bit_le _ _)
    have hx : Ok (mfix N (f_Se_fitsWith_L4 N) (nI p, nI 0, nI 0, s1)) (fun r => r = (nI (mkC A H se (fun c => c.testBit p)), s1)) := by
      refine mfix_up (fun i x => x = (nI p, nI (smN (fun i => F i >>> p &&& 1) i), nI i, s1)) (cntN (fitS A H se) (2 ^ pP A)) ?_ ?_ N 0 _ rfl (Nat.zero_le _) (by omega)
      · rintro i k x hi hx hk
        rw [hx]
        obtain ⟨d1, d2⟩ := f1 i hi
        have s1' := sl i
        have b1 := bit_le (F i) p
        simp (disch := first | omega | decide) only [f_Se_fitsWith_L4, k3, d1, zI_0, zI_1, zI_2, zI_3, zI_4, zI_5, zI_6, zI_7, zI_8, zI_9, zI_10, zI_11, zI_12, zI_13, zI_14, zI_15, zI_16, zI_17, zI_18, zI_19, zI_20, zI_21, zI_22, zI_23, zI_24, zI_25, zI_26, zI_27, zI_28, zI_29, zI_30, zI_31, zI_32, zI_33, zI_34, zI_35, zI_36, zI_37, zI_38, zI_39, zI_40, zI_41, zI_42, zI_43, zI_44, zI_45, zI_46, zI_47, zI_48, zI_49, zI_50, zI_51, zI_52, zI_53, zI_54, zI_55, zI_56, zI_57, zI_58, zI_59, zI_60, zI_61, zI_62, zI_63, zI_64, zI_65, zI_66, zI_67, zI_74, zI_84, zI_85, zI_88, zI_91, zI_93, zI_97, zI_99, zI_100, zI_102, zI_105, zI_117, zI_122, zI_193, zI_202, zI_205, zI_251, zI_255, zI_256, zI_257, zI_258, zI_259, zI_260, zI_640, zI_999, zI_1000, zI_1024, zI_1600, zI_1602, zI_1700, zI_2040, zI_3200, zI_4100, zI_9728, zI_11784, zI_61440, zI_65536, zI_470536, zI_999999, zI_1000000, lt_T, lt_F, le_T, le_F, eq_T, eq_F, neg_1, cn_m1p, cn_m11, nI_add, cn_sub, pk_mul, cn_div, cn_irm, cn_lt, cn_eq, cn_ltm1, cn_m1lt, cn_eqm1, cn_m1eq, cn_ix, cn_inb, cn_ninb, cn_irs, cn_ils, cn_and, cn_or, cn_xor, grd_t, grd_bt, grd_bl, Nat.add_zero, Nat.zero_add, Nat.reduceAdd, Nat.reduceSub, Nat.reduceMul, Nat.reduceLT, Nat.reduceEqDiff, eq_self, true_and, and_true, and_false, false_and, if_true, if_false, and_self, Bool.true_eq_false, Bool.false_eq_true]
        exact hk _ rfl
      · rintro k x hx
        rw [hx]
        simp (disch := first | omega | decide) only [f_Se_fitsWith_L4, k3, zI_0, zI_1, zI_2, zI_3, zI_4, zI_5, zI_6, zI_7, zI_8, zI_9, zI_10, zI_11, zI_12, zI_13, zI_14, zI_15, zI_16, zI_17, zI_18, zI_19, zI_20, zI_21, zI_22, zI_23, zI_24, zI_25, zI_26, zI_27, zI_28, zI_29, zI_30, zI_31, zI_32, zI_33, zI_34, zI_35, zI_36, zI_37, zI_38, zI_39, zI_40, zI_41, zI_42, zI_43, zI_44, zI_45, zI_46, zI_47, zI_48, zI_49, zI_50, zI_51, zI_52, zI_53, zI_54, zI_55, zI_56, zI_57, zI_58, zI_59, zI_60, zI_61, zI_62, zI_63, zI_64, zI_65, zI_66, zI_67, zI_74, zI_84, zI_85, zI_88, zI_91, zI_93, zI_97, zI_99, zI_100, zI_102, zI_105, zI_117, zI_122, zI_193, zI_202, zI_205, zI_251, zI_255, zI_256, zI_257, zI_258, zI_259, zI_260, zI_640, zI_999, zI_1000, zI_1024, zI_1600, zI_1602, zI_1700, zI_2040, zI_3200, zI_4100, zI_9728, zI_11784, zI_61440, zI_65536, zI_470536, zI_999999, zI_1000000, lt_T, lt_F, le_T, le_F, eq_T, eq_F, neg_1, cn_m1p, cn_m11, nI_add, cn_sub, pk_mul, cn_div, cn_irm, cn_lt, cn_eq, cn_ltm1, cn_m1lt, cn_eqm1, cn_m1eq, cn_ix, cn_inb, cn_ninb, cn_irs, cn_ils, cn_and, cn_or, cn_xor, grd_t, grd_bt, grd_bl, Nat.add_zero, Nat.zero_add, Nat.reduceAdd, Nat.reduceSub, Nat.reduceMul, Nat.reduceLT, Nat.reduceEqDiff, eq_self, true_and, and_true, and_false, false_and, if_true, if_false, and_self, Bool.true_eq_false, Bool.false_eq_true]
        exact Ok_some (by rw [f2])
    have hm : Ok (mfix N (f_M_walked_L19 N) (nI p, nI 0, nI 0, t1)) (fun r => r.2 = t1 ∧ r.1 = (if cntN (fitS A H se) (2 ^ pP A) = 0 then m1 else if mkC A H se (fun c => c.testBit p) = cntN (fitS A H se) (2 ^ pP A) then nI 1 else if mkC A H se (fun c => c.testBit p) = 0 then nI 2 else nI 0)) := by
      have cn : ∀ n, cntN (fun c => fitS A H se c && c.testBit p) n ≤ n := cntN_le _
      refine mfix_up (fun i x => x = (nI p, nI (cntN (fun c => fitS A H se c && c.testBit p) i), nI i, t1)) (2 ^ pP A) ?_ ?_ N 0 _ rfl (Nat.zero_le _) (by omega)
      · rintro i k x hi hx hk
        rw [hx]
        have d1 := (g2.2 i hi).1
        have ci := cn i
        have hb := bit01 i p
        cases hf : fitS A H se i
        · rw [hf] at d1
          simp only [Bool.false_eq_true, if_false] at d1
          simp (disch := first | omega | decide) only [f_M_walked_L19, f_M_porterMany, P1.2.1, qp, d1, zI_0, zI_1, zI_2, zI_3, zI_4, zI_5, zI_6, zI_7, zI_8, zI_9, zI_10, zI_11, zI_12, zI_13, zI_14, zI_15, zI_16, zI_17, zI_18, zI_19, zI_20, zI_21, zI_22, zI_23, zI_24, zI_25, zI_26, zI_27, zI_28, zI_29, zI_30, zI_31, zI_32, zI_33, zI_34, zI_35, zI_36, zI_37, zI_38, zI_39, zI_40, zI_41, zI_42, zI_43, zI_44, zI_45, zI_46, zI_47, zI_48, zI_49, zI_50, zI_51, zI_52, zI_53, zI_54, zI_55, zI_56, zI_57, zI_58, zI_59, zI_60, zI_61, zI_62, zI_63, zI_64, zI_65, zI_66, zI_67, zI_74, zI_84, zI_85, zI_88, zI_91, zI_93, zI_97, zI_99, zI_100, zI_102, zI_105, zI_117, zI_122, zI_193, zI_202, zI_205, zI_251, zI_255, zI_256, zI_257, zI_258, zI_259, zI_260, zI_640, zI_999, zI_1000, zI_1024, zI_1600, zI_1602, zI_1700, zI_2040, zI_3200, zI_4100, zI_9728, zI_11784, zI_61440, zI_65536, zI_470536, zI_999999, zI_1000000, nI_add, cn_lt, cn_eq, lt_T, cn_inb, cn_ix, grd_t, grd_bt, Nat.reduceAdd, Nat.reduceSub, Nat.reduceMul, Nat.reduceLT, Nat.reduceEqDiff, eq_self, true_and, and_true, and_false, false_and, if_true, if_false, and_self, Bool.true_eq_false, Bool.false_eq_true, Option.bind_some]
          exact hk _ (by rw [cntN_no (show (fitS A H se i && i.testBit p) = false by rw [hf]; rfl)])
        · rw [hf] at d1
          simp only [if_true] at d1
          cases hb2 : i.testBit p
          · rw [hb2] at hb
            simp (disch := first | omega | decide) only [f_M_walked_L19, f_M_porterMany, P1.2.1, qp, d1, zI_0, zI_1, zI_2, zI_3, zI_4, zI_5, zI_6, zI_7, zI_8, zI_9, zI_10, zI_11, zI_12, zI_13, zI_14, zI_15, zI_16, zI_17, zI_18, zI_19, zI_20, zI_21, zI_22, zI_23, zI_24, zI_25, zI_26, zI_27, zI_28, zI_29, zI_30, zI_31, zI_32, zI_33, zI_34, zI_35, zI_36, zI_37, zI_38, zI_39, zI_40, zI_41, zI_42, zI_43, zI_44, zI_45, zI_46, zI_47, zI_48, zI_49, zI_50, zI_51, zI_52, zI_53, zI_54, zI_55, zI_56, zI_57, zI_58, zI_59, zI_60, zI_61, zI_62, zI_63, zI_64, zI_65, zI_66, zI_67, zI_74, zI_84, zI_85, zI_88, zI_91, zI_93, zI_97, zI_99, zI_100, zI_102, zI_105, zI_117, zI_122, zI_193, zI_202, zI_205, zI_251, zI_255, zI_256, zI_257, zI_258, zI_259, zI_260, zI_640, zI_999, zI_1000, zI_1024, zI_1600, zI_1602, zI_1700, zI_2040, zI_3200, zI_4100, zI_9728, zI_11784, zI_61440, zI_65536, zI_470536, zI_999999, zI_1000000, nI_add, cn_lt, cn_eq, lt_T, cn_inb, cn_ix, cn_irs, cn_and, hb, grd_t, grd_bt, Nat.reduceAdd, Nat.reduceSub, Nat.reduceMul, Nat.reduceLT, Nat.reduceEqDiff, eq_self, true_and, and_true, and_false, false_and, if_true, if_false, and_self, Bool.true_eq_false, Bool.false_eq_true, Option.bind_some]
            exact hk _ (by rw [cntN_no (show (fitS A H se i && i.testBit p) = false by rw [hf, hb2]; rfl)])
          · rw [hb2] at hb
            simp (disch := first | omega | decide) only [f_M_walked_L19, f_M_porterMany, P1.2.1, qp, d1, zI_0, zI_1, zI_2, zI_3, zI_4, zI_5, zI_6, zI_7, zI_8, zI_9, zI_10, zI_11, zI_12, zI_13, zI_14, zI_15, zI_16, zI_17, zI_18, zI_19, zI_20, zI_21, zI_22, zI_23, zI_24, zI_25, zI_26, zI_27, zI_28, zI_29, zI_30, zI_31, zI_32, zI_33, zI_34, zI_35, zI_36, zI_37, zI_38, zI_39, zI_40, zI_41, zI_42, zI_43, zI_44, zI_45, zI_46, zI_47, zI_48, zI_49, zI_50, zI_51, zI_52, zI_53, zI_54, zI_55, zI_56, zI_57, zI_58, zI_59, zI_60, zI_61, zI_62, zI_63, zI_64, zI_65, zI_66, zI_67, zI_74, zI_84, zI_85, zI_88, zI_91, zI_93, zI_97, zI_99, zI_100, zI_102, zI_105, zI_117, zI_122, zI_193, zI_202, zI_205, zI_251, zI_255, zI_256, zI_257, zI_258, zI_259, zI_260, zI_640, zI_999, zI_1000, zI_1024, zI_1600, zI_1602, zI_1700, zI_2040, zI_3200, zI_4100, zI_9728, zI_11784, zI_61440, zI_65536, zI_470536, zI_999999, zI_1000000, nI_add, cn_lt, cn_eq, lt_T, cn_inb, cn_ix, cn_irs, cn_and, hb, grd_t, grd_bt, Nat.reduceAdd, Nat.reduceSub, Nat.reduceMul, Nat.reduceLT, Nat.reduceEqDiff, eq_self, true_and, and_true, and_false, false_and, if_true, if_false, and_self, Bool.true_eq_false, Bool.false_eq_true, Option.bind_some]
            exact hk _ (by rw [cntN_yes (show (fitS A H se i && i.testBit p) = true by rw [hf, hb2]; rfl)])
      · rintro k x hx
        rw [hx]
        have em : cntN (fun c => fitS A H se c && c.testBit p) (2 ^ pP A) = mkC A H se (fun c => c.testBit p) := rfl
        rw [em]
        have e9 : f_M_walked_L19 N k (nI p, nI (mkC A H se (fun c => c.testBit p)), nI (2 ^ pP A), t1) = some ((if cntN (fitS A H se) (2 ^ pP A) = 0 then m1 else if mkC A H se (fun c => c.testBit p) = cntN (fitS A H se) (2 ^ pP A) then nI 1 else if mkC A H se (fun c => c.testBit p) = 0 then nI 2 else nI 0), t1) := by
          simp (disch := first | omega | decide) only [f_M_walked_L19, f_M_porterMany, P1.2.1, qp, g2.1, zI_0, zI_1, zI_2, zI_3, zI_4, zI_5, zI_6, zI_7, zI_8, zI_9, zI_10, zI_11, zI_12, zI_13, zI_14, zI_15, zI_16, zI_17, zI_18, zI_19, zI_20, zI_21, zI_22, zI_23, zI_24, zI_25, zI_26, zI_27, zI_28, zI_29, zI_30, zI_31, zI_32, zI_33, zI_34, zI_35, zI_36, zI_37, zI_38, zI_39, zI_40, zI_41, zI_42, zI_43, zI_44, zI_45, zI_46, zI_47, zI_48, zI_49, zI_50, zI_51, zI_52, zI_53, zI_54, zI_55, zI_56, zI_57, zI_58, zI_59, zI_60, zI_61, zI_62, zI_63, zI_64, zI_65, zI_66, zI_67, zI_74, zI_84, zI_85, zI_88, zI_91, zI_93, zI_97, zI_99, zI_100, zI_102, zI_105, zI_117, zI_122, zI_193, zI_202, zI_205, zI_251, zI_255, zI_256, zI_257, zI_258, zI_259, zI_260, zI_640, zI_999, zI_1000, zI_1024, zI_1600, zI_1602, zI_1700, zI_2040, zI_3200, zI_4100, zI_9728, zI_11784, zI_61440, zI_65536, zI_470536, zI_999999, zI_1000000, neg_1, cn_lt, cn_eq, lt_F, Nat.reduceAdd, Nat.reduceSub, Nat.reduceMul, Nat.reduceLT, Nat.reduceEqDiff, eq_self, true_and, and_true, and_false, false_and, if_true, if_false, and_self, Bool.true_eq_false, Bool.false_eq_true, Option.bind_some]
          split
          · rfl
          · split
            · rfl
            · split <;> rfl
        rw [e9]
        exact Ok_some ⟨rfl, rfl⟩
    obtain ⟨x, x1, x2⟩ := hx
    obtain ⟨y, y1, y2, y3⟩ := hm
    refine ⟨y.1, s1, t1, ?_, ?_, Inv_s hW hM hR X1 F1 G1⟩
    · have xw : f_Se_fitsWith N (nI p) s1 = some (nI (mkC A H se (fun c => c.testBit p)), s1) := by
        unfold f_Se_fitsWith
        rw [zI_0, x1, x2]
      rw [y3]
      simp (disch := first | omega | decide) only [f_X_walked, q1, e1, xw, k3, zI_0, zI_1, zI_2, zI_3, zI_4, zI_5, zI_6, zI_7, zI_8, zI_9, zI_10, zI_11, zI_12, zI_13, zI_14, zI_15, zI_16, zI_17, zI_18, zI_19, zI_20, zI_21, zI_22, zI_23, zI_24, zI_25, zI_26, zI_27, zI_28, zI_29, zI_30, zI_31, zI_32, zI_33, zI_34, zI_35, zI_36, zI_37, zI_38, zI_39, zI_40, zI_41, zI_42, zI_43, zI_44, zI_45, zI_46, zI_47, zI_48, zI_49, zI_50, zI_51, zI_52, zI_53, zI_54, zI_55, zI_56, zI_57, zI_58, zI_59, zI_60, zI_61, zI_62, zI_63, zI_64, zI_65, zI_66, zI_67, zI_74, zI_84, zI_85, zI_88, zI_91, zI_93, zI_97, zI_99, zI_100, zI_102, zI_105, zI_117, zI_122, zI_193, zI_202, zI_205, zI_251, zI_255, zI_256, zI_257, zI_258, zI_259, zI_260, zI_640, zI_999, zI_1000, zI_1024, zI_1600, zI_1602, zI_1700, zI_2040, zI_3200, zI_4100, zI_9728, zI_11784, zI_61440, zI_65536, zI_470536, zI_999999, zI_1000000, neg_1, cn_eq, Nat.reduceAdd, Nat.reduceSub, Nat.reduceMul, Nat.reduceLT, Nat.reduceEqDiff, eq_self, true_and, and_true, and_false, false_and, if_true, if_false, and_self, Bool.true_eq_false, Bool.false_eq_true, Option.bind_some]
      split
      · rfl
      · split
        · rfl
        · split <;> rfl
    · simp (disch := first | omega | decide) only [f_M_walked, q2, g1, zI_0, zI_1, zI_2, zI_3, zI_4, zI_5, zI_6, zI_7, zI_8, zI_9, zI_10, zI_11, zI_12, zI_13, zI_14, zI_15, zI_16, zI_17, zI_18, zI_19, zI_20, zI_21, zI_22, zI_23, zI_24, zI_25, zI_26, zI_27, zI_28, zI_29, zI_30, zI_31, zI_32, zI_33, zI_34, zI_35, zI_36, zI_37, zI_38, zI_39, zI_40, zI_41, zI_42, zI_43, zI_44, zI_45, zI_46, zI_47, zI_48, zI_49, zI_50, zI_51, zI_52, zI_53, zI_54, zI_55, zI_56, zI_57, zI_58, zI_59, zI_60, zI_61, zI_62, zI_63, zI_64, zI_65, zI_66, zI_67, zI_74, zI_84, zI_85, zI_88, zI_91, zI_93, zI_97, zI_99, zI_100, zI_102, zI_105, zI_117, zI_122, zI_193, zI_202, zI_205, zI_251, zI_255, zI_256, zI_257, zI_258, zI_259, zI_260, zI_640, zI_999, zI_1000, zI_1024, zI_1600, zI_1602, zI_1700, zI_2040, zI_3200, zI_4100, zI_9728, zI_11784, zI_61440, zI_65536, zI_470536, zI_999999, zI_1000000, cn_eq, Nat.reduceAdd, Nat.reduceSub, Nat.reduceMul, Nat.reduceLT, Nat.reduceEqDiff, eq_self, true_and, and_true, and_false, false_and, if_true, if_false, and_self, Bool.true_eq_false, Bool.false_eq_true, Option.bind_some]
      rw [y1, ← y2]
  · rw [if_neg c] at q1 q2
    refine ⟨m1, s, t, ?_, ?_, hI⟩
    · simp (disch := first | omega | decide) only [f_X_walked, q1, zI_0, zI_1, zI_2, zI_3, zI_4, zI_5, zI_6, zI_7, zI_8, zI_9, zI_10, zI_11, zI_12, zI_13, zI_14, zI_15, zI_16, zI_17, zI_18, zI_19, zI_20, zI_21, zI_22, zI_23, zI_24, zI_25, zI_26, zI_27, zI_28, zI_29, zI_30, zI_31, zI_32, zI_33, zI_34, zI_35, zI_36, zI_37, zI_38, zI_39, zI_40, zI_41, zI_42, zI_43, zI_44, zI_45, zI_46, zI_47, zI_48, zI_49, zI_50, zI_51, zI_52, zI_53, zI_54, zI_55, zI_56, zI_57, zI_58, zI_59, zI_60, zI_61, zI_62, zI_63, zI_64, zI_65, zI_66, zI_67, zI_74, zI_84, zI_85, zI_88, zI_91, zI_93, zI_97, zI_99, zI_100, zI_102, zI_105, zI_117, zI_122, zI_193, zI_202, zI_205, zI_251, zI_255, zI_256, zI_257, zI_258, zI_259, zI_260, zI_640, zI_999, zI_1000, zI_1024, zI_1600, zI_1602, zI_1700, zI_2040, zI_3200, zI_4100, zI_9728, zI_11784, zI_61440, zI_65536, zI_470536, zI_999999, zI_1000000, lt_T, lt_F, le_T, le_F, eq_T, eq_F, neg_1, cn_m1p, cn_m11, nI_add, cn_sub, pk_mul, cn_div, cn_irm, cn_lt, cn_eq, cn_ltm1, cn_m1lt, cn_eqm1, cn_m1eq, cn_ix, cn_inb, cn_ninb, cn_irs, cn_ils, cn_and, cn_or, cn_xor, grd_t, grd_bt, grd_bl, Nat.add_zero, Nat.zero_add, Nat.reduceAdd, Nat.reduceSub, Nat.reduceMul, Nat.reduceLT, Nat.reduceEqDiff, eq_self, true_and, and_true, and_false, false_and, if_true, if_false, and_self, Bool.true_eq_false, Bool.false_eq_true, Option.bind_some]
    · simp (disch := first | omega | decide) only [f_M_walked, q2, zI_0, zI_1, zI_2, zI_3, zI_4, zI_5, zI_6, zI_7, zI_8, zI_9, zI_10, zI_11, zI_12, zI_13, zI_14, zI_15, zI_16, zI_17, zI_18, zI_19, zI_20, zI_21, zI_22, zI_23, zI_24, zI_25, zI_26, zI_27, zI_28, zI_29, zI_30, zI_31, zI_32, zI_33, zI_34, zI_35, zI_36, zI_37, zI_38, zI_39, zI_40, zI_41, zI_42, zI_43, zI_44, zI_45, zI_46, zI_47, zI_48, zI_49, zI_50, zI_51, zI_52, zI_53, zI_54, zI_55, zI_56, zI_57, zI_58, zI_59, zI_60, zI_61, zI_62, zI_63, zI_64, zI_65, zI_66, zI_67, zI_74, zI_84, zI_85, zI_88, zI_91, zI_93, zI_97, zI_99, zI_100, zI_102, zI_105, zI_117, zI_122, zI_193, zI_202, zI_205, zI_251, zI_255, zI_256, zI_257, zI_258, zI_259, zI_260, zI_640, zI_999, zI_1000, zI_1024, zI_1600, zI_1602, zI_1700, zI_2040, zI_3200, zI_4100, zI_9728, zI_11784, zI_61440, zI_65536, zI_470536, zI_999999, zI_1000000, lt_T, lt_F, le_T, le_F, eq_T, eq_F, neg_1, cn_m1p, cn_m11, nI_add, cn_sub, pk_mul, cn_div, cn_irm, cn_lt, cn_eq, cn_ltm1, cn_m1lt, cn_eqm1, cn_m1eq, cn_ix, cn_inb, cn_ninb, cn_irs, cn_ils, cn_and, cn_or, cn_xor, grd_t, grd_bt, grd_bl, Nat.add_zero, Nat.zero_add, Nat.reduceAdd, Nat.reduceSub, Nat.reduceMul, Nat.reduceLT, Nat.reduceEqDiff, eq_self, true_and, and_true, and_false, false_and, if_true, if_false, and_self, Bool.true_eq_false, Bool.false_eq_true, Option.bind_some]
end FITS
