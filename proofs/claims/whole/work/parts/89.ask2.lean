/-! THE CALL ask, whole -/
def kFx : List Nat := [10100, 60116, 70318, 9999, 71118, 71218, 71318, 70418, 70518, 70618, 70718, 70818, 260918, 71018, 17, 26, 27, 28, 30, 31, 100225]
def kGx : List Nat := [110300, 110100, 110200, 110400, 110500, 110600, 111000, 118800, 119000, 119100, 119200, 64, 65, 110700, 110800, 114700, 309500, 119600, 119400, 5066, 114900, 35]
section ASKW
variable {N n p i k w mk j : Nat} {tp : Nat → Nat} {b q : Bool} {A : pL} {H : hL} {pa : Nat × (Nat → hL)} {se : Nat × (Nat → Nat × Bool)} {s s' t t' : mS} {e : List Nat} {v : Int32}
noncomputable def as0 (n : Nat) (t : mS) : mS := sI (sI (sI (sI (sI (sI (sI (sI (sI (sI (sI t 1003 0 (nI n)) 1001 0 (nI 0)) 1002 0 (nI 0)) 1004 0 m1) 1005 0 (nI 0)) 1006 0 m1) 1047 0 (nI 3)) 1088 0 (nI 0)) 1090 0 (nI 0)) 1091 0 (nI 0)) 1092 0 (nI 0)
theorem Fr_as0 : Fr kGx t (as0 n t) := Fr_t (Fr_sI _ _ _ (by decide)) (Fr_t (Fr_sI _ _ _ (by decide)) (Fr_t (Fr_sI _ _ _ (by decide)) (Fr_t (Fr_sI _ _ _ (by decide)) (Fr_t (Fr_sI _ _ _ (by decide)) (Fr_t (Fr_sI _ _ _ (by decide)) (Fr_t (Fr_sI _ _ _ (by decide)) (Fr_t (Fr_sI _ _ _ (by decide)) (Fr_t (Fr_sI _ _ _ (by decide)) (Fr_t (Fr_sI _ _ _ (by decide)) (Fr_sI _ _ _ (by decide)))))))))))
theorem as0_R (hn : n ≤ 1600) (hT : ∀ i, i < n → tp i < 256 ∧ gA t 1 i = nI (tp i)) (hW : MWd t) : RT tp n 3 (as0 n t) 0 false 0 [] [] 0 (as0 n t) ∧ gI (as0 n t) 1001 0 = nI 0 ∧ gI (as0 n t) 1006 0 = m1 := by
  have F := Fr_as0 (n := n) (t := t)
  refine ⟨⟨Fr_r _ _, ⟨⟨hn, by unfold as0; simp (disch := first | omega | decide) only [gI_sI, gI_sA, gI_sL, gI_sQ, gI_sC, gI_sO, gI_sD, gA_sI, gA_sL, gA_sQ, gA_sO, gA_sD, gL_sI, gL_sA, gL_sQ, gL_sC, gL_sO, gL_sD, gQ_sI, gQ_sA, gQ_sL, gQ_sC, gQ_sO, gO_sI, gO_sA, gO_sL, gO_sQ, gO_sC, gO_sO, gO_sD, gA_eq, gA_ne, gQ_eq, gQ_ne, gL_sL, gA_cin, gA_cou, gQ_cin, gQ_cou, Nat.reduceAdd, Nat.reduceSub, Nat.reduceMul, Nat.reduceLT, Nat.reduceEqDiff, eq_self, true_and, and_true, and_false, false_and, if_true, if_false, and_self, Bool.true_eq_false, Bool.false_eq_true], fun i hi => ⟨(hT i hi).1, (hT i hi).2⟩⟩, MWd_fr F (by decide) hW, by unfold as0; simp (disch := first | omega | decide) only [gI_sI, gI_sA, gI_sL, gI_sQ, gI_sC, gI_sO, gI_sD, gA_sI, gA_sL, gA_sQ, gA_sO, gA_sD, gL_sI, gL_sA, gL_sQ, gL_sC, gL_sO, gL_sD, gQ_sI, gQ_sA, gQ_sL, gQ_sC, gQ_sO, gO_sI, gO_sA, gO_sL, gO_sQ, gO_sC, gO_sO, gO_sD, gA_eq, gA_ne, gQ_eq, gQ_ne, gL_sL, gA_cin, gA_cou, gQ_cin, gQ_cou, Nat.reduceAdd, Nat.reduceSub, Nat.reduceMul, Nat.reduceLT, Nat.reduceEqDiff, eq_self, true_and, and_true, and_false, false_and, if_true, if_false, and_self, Bool.true_eq_false, Bool.false_eq_true], Nat.zero_le _, ⟨0, by unfold as0; simp (disch := first | omega | decide) only [gI_sI, gI_sA, gI_sL, gI_sQ, gI_sC, gI_sO, gI_sD, gA_sI, gA_sL, gA_sQ, gA_sO, gA_sD, gL_sI, gL_sA, gL_sQ, gL_sC, gL_sO, gL_sD, gQ_sI, gQ_sA, gQ_sL, gQ_sC, gQ_sO, gO_sI, gO_sA, gO_sL, gO_sQ, gO_sC, gO_sO, gO_sD, gA_eq, gA_ne, gQ_eq, gQ_ne, gL_sL, gA_cin, gA_cou, gQ_cin, gQ_cou, Nat.reduceAdd, Nat.reduceSub, Nat.reduceMul, Nat.reduceLT, Nat.reduceEqDiff, eq_self, true_and, and_true, and_false, false_and, if_true, if_false, and_self, Bool.true_eq_false, Bool.false_eq_true]; rfl, fun h => (by cases h), fun _ => Nat.le_refl _⟩, 0, by unfold as0; simp (disch := first | omega | decide) only [gI_sI, gI_sA, gI_sL, gI_sQ, gI_sC, gI_sO, gI_sD, gA_sI, gA_sL, gA_sQ, gA_sO, gA_sD, gL_sI, gL_sA, gL_sQ, gL_sC, gL_sO, gL_sD, gQ_sI, gQ_sA, gQ_sL, gQ_sC, gQ_sO, gO_sI, gO_sA, gO_sL, gO_sQ, gO_sC, gO_sO, gO_sD, gA_eq, gA_ne, gQ_eq, gQ_ne, gL_sL, gA_cin, gA_cou, gQ_cin, gQ_cou, Nat.reduceAdd, Nat.reduceSub, Nat.reduceMul, Nat.reduceLT, Nat.reduceEqDiff, eq_self, true_and, and_true, and_false, false_and, if_true, if_false, and_self, Bool.true_eq_false, Bool.false_eq_true], Nat.le_refl _, (skp_b (Nat.zero_le _)).1⟩, ⟨by unfold as0; simp (disch := first | omega | decide) only [gI_sI, gI_sA, gI_sL, gI_sQ, gI_sC, gI_sO, gI_sD, gA_sI, gA_sL, gA_sQ, gA_sO, gA_sD, gL_sI, gL_sA, gL_sQ, gL_sC, gL_sO, gL_sD, gQ_sI, gQ_sA, gQ_sL, gQ_sC, gQ_sO, gO_sI, gO_sA, gO_sL, gO_sQ, gO_sC, gO_sO, gO_sD, gA_eq, gA_ne, gQ_eq, gQ_ne, gL_sL, gA_cin, gA_cou, gQ_cin, gQ_cou, Nat.reduceAdd, Nat.reduceSub, Nat.reduceMul, Nat.reduceLT, Nat.reduceEqDiff, eq_self, true_and, and_true, and_false, false_and, if_true, if_false, and_self, Bool.true_eq_false, Bool.false_eq_true, List.length_nil], fun i hi => absurd hi (Nat.not_lt_zero _)⟩, ⟨by unfold as0; simp (disch := first | omega | decide) only [gI_sI, gI_sA, gI_sL, gI_sQ, gI_sC, gI_sO, gI_sD, gA_sI, gA_sL, gA_sQ, gA_sO, gA_sD, gL_sI, gL_sA, gL_sQ, gL_sC, gL_sO, gL_sD, gQ_sI, gQ_sA, gQ_sL, gQ_sC, gQ_sO, gO_sI, gO_sA, gO_sL, gO_sQ, gO_sC, gO_sO, gO_sD, gA_eq, gA_ne, gQ_eq, gQ_ne, gL_sL, gA_cin, gA_cou, gQ_cin, gQ_cou, Nat.reduceAdd, Nat.reduceSub, Nat.reduceMul, Nat.reduceLT, Nat.reduceEqDiff, eq_self, true_and, and_true, and_false, false_and, if_true, if_false, and_self, Bool.true_eq_false, Bool.false_eq_true, List.length_nil], trivial⟩, by unfold as0; simp (disch := first | omega | decide) only [gI_sI, gI_sA, gI_sL, gI_sQ, gI_sC, gI_sO, gI_sD, gA_sI, gA_sL, gA_sQ, gA_sO, gA_sD, gL_sI, gL_sA, gL_sQ, gL_sC, gL_sO, gL_sD, gQ_sI, gQ_sA, gQ_sL, gQ_sC, gQ_sO, gO_sI, gO_sA, gO_sL, gO_sQ, gO_sC, gO_sO, gO_sD, gA_eq, gA_ne, gQ_eq, gQ_ne, gL_sL, gA_cin, gA_cou, gQ_cin, gQ_cou, Nat.reduceAdd, Nat.reduceSub, Nat.reduceMul, Nat.reduceLT, Nat.reduceEqDiff, eq_self, true_and, and_true, and_false, false_and, if_true, if_false, and_self, Bool.true_eq_false, Bool.false_eq_true], by unfold as0; simp (disch := first | omega | decide) only [gI_sI, gI_sA, gI_sL, gI_sQ, gI_sC, gI_sO, gI_sD, gA_sI, gA_sL, gA_sQ, gA_sO, gA_sD, gL_sI, gL_sA, gL_sQ, gL_sC, gL_sO, gL_sD, gQ_sI, gQ_sA, gQ_sL, gQ_sC, gQ_sO, gO_sI, gO_sA, gO_sL, gO_sQ, gO_sC, gO_sO, gO_sD, gA_eq, gA_ne, gQ_eq, gQ_ne, gL_sL, gA_cin, gA_cou, gQ_cin, gQ_cou, Nat.reduceAdd, Nat.reduceSub, Nat.reduceMul, Nat.reduceLT, Nat.reduceEqDiff, eq_self, true_and, and_true, and_false, false_and, if_true, if_false, and_self, Bool.true_eq_false, Bool.false_eq_true], by unfold as0; simp (disch := first | omega | decide) only [gI_sI, gI_sA, gI_sL, gI_sQ, gI_sC, gI_sO, gI_sD, gA_sI, gA_sL, gA_sQ, gA_sO, gA_sD, gL_sI, gL_sA, gL_sQ, gL_sC, gL_sO, gL_sD, gQ_sI, gQ_sA, gQ_sL, gQ_sC, gQ_sO, gO_sI, gO_sA, gO_sL, gO_sQ, gO_sC, gO_sO, gO_sD, gA_eq, gA_ne, gQ_eq, gQ_ne, gL_sL, gA_cin, gA_cou, gQ_cin, gQ_cou, Nat.reduceAdd, Nat.reduceSub, Nat.reduceMul, Nat.reduceLT, Nat.reduceEqDiff, eq_self, true_and, and_true, and_false, false_and, if_true, if_false, and_self, Bool.true_eq_false, Bool.false_eq_true]⟩, by unfold as0; simp (disch := first | omega | decide) only [gI_sI, gI_sA, gI_sL, gI_sQ, gI_sC, gI_sO, gI_sD, gA_sI, gA_sL, gA_sQ, gA_sO, gA_sD, gL_sI, gL_sA, gL_sQ, gL_sC, gL_sO, gL_sD, gQ_sI, gQ_sA, gQ_sL, gQ_sC, gQ_sO, gO_sI, gO_sA, gO_sL, gO_sQ, gO_sC, gO_sO, gO_sD, gA_eq, gA_ne, gQ_eq, gQ_ne, gL_sL, gA_cin, gA_cou, gQ_cin, gQ_cou, Nat.reduceAdd, Nat.reduceSub, Nat.reduceMul, Nat.reduceLT, Nat.reduceEqDiff, eq_self, true_and, and_true, and_false, false_and, if_true, if_false, and_self, Bool.true_eq_false, Bool.false_eq_true], by unfold as0; simp (disch := first | omega | decide) only [gI_sI, gI_sA, gI_sL, gI_sQ, gI_sC, gI_sO, gI_sD, gA_sI, gA_sL, gA_sQ, gA_sO, gA_sD, gL_sI, gL_sA, gL_sQ, gL_sC, gL_sO, gL_sD, gQ_sI, gQ_sA, gQ_sL, gQ_sC, gQ_sO, gO_sI, gO_sA, gO_sL, gO_sQ, gO_sC, gO_sO, gO_sD, gA_eq, gA_ne, gQ_eq, gQ_ne, gL_sL, gA_cin, gA_cou, gQ_cin, gQ_cou, Nat.reduceAdd, Nat.reduceSub, Nat.reduceMul, Nat.reduceLT, Nat.reduceEqDiff, eq_self, true_and, and_true, and_false, false_and, if_true, if_false, and_self, Bool.true_eq_false, Bool.false_eq_true]⟩
theorem ask_m (h : gI t 1001 0 = nI n) (h46 : gI t 1046 0 = nI 1) : f_M_ask N t = askR N (as0 n t) := by
  have q : (nI 1 = nI 0) = False := eq_false (by decide)
  unfold askR as0
  simp only [f_M_ask, h, h46, zI_0, zI_1, zI_2, zI_3, zI_4, zI_5, zI_6, zI_7, zI_8, zI_9, zI_10, zI_11, zI_12, zI_13, zI_14, zI_15, zI_16, zI_17, zI_18, zI_19, zI_20, zI_21, zI_22, zI_23, zI_24, zI_25, zI_26, zI_27, zI_28, zI_29, zI_30, zI_31, zI_32, zI_33, zI_34, zI_35, zI_36, zI_37, zI_38, zI_39, zI_40, zI_41, zI_42, zI_43, zI_44, zI_45, zI_46, zI_47, zI_48, zI_49, zI_50, zI_51, zI_52, zI_53, zI_54, zI_55, zI_56, zI_57, zI_58, zI_59, zI_60, zI_61, zI_62, zI_63, zI_64, zI_65, zI_66, zI_67, zI_74, zI_84, zI_85, zI_88, zI_91, zI_93, zI_97, zI_99, zI_100, zI_102, zI_105, zI_117, zI_122, zI_193, zI_202, zI_205, zI_251, zI_255, zI_256, zI_257, zI_258, zI_259, zI_260, zI_640, zI_999, zI_1000, zI_1024, zI_1600, zI_1602, zI_1700, zI_2040, zI_3200, zI_4100, zI_9728, zI_11784, zI_61440, zI_65536, zI_470536, zI_999999, zI_1000000, q, if_false]
  rfl
theorem aQ_0 {E : Nat → Int} (hk : k < 6) : aQ E k 0 = if k < 2 then -1 else 0 := by
  rcases (show k = 0 ∨ k = 1 ∨ k = 2 ∨ k = 3 ∨ k = 4 ∨ k = 5 by omega) with rfl | rfl | rfl | rfl | rfl | rfl <;> rfl
theorem j133_g {E : Nat → Int} (hk : k < 6) (h5 : gI t 1005 0 = nI 0) (h6 : gI t 1006 0 = m1) : f_M_ask_j133 N (nI k, t) = (f_M_laysOrders N (sI (sL (sI (sI t 1007 0 (nI 0)) 1008 0 m1) 1095 0 (zl (aQ E k 0))) 1096 0 (nI 1))).bind fun p3 => mfix N (f_M_ask_L187 N) (nI k, nI 0, p3) := by
  have e1 : gI (sI t 1007 0 (nI 0)) 1006 0 = m1 := by simp (disch := first | omega | decide) only [gI_sI, gI_sA, gI_sL, gI_sQ, gI_sC, gI_sO, gI_sD, gA_sI, gA_sL, gA_sQ, gA_sO, gA_sD, gL_sI, gL_sA, gL_sQ, gL_sC, gL_sO, gL_sD, gQ_sI, gQ_sA, gQ_sL, gQ_sC, gQ_sO, gO_sI, gO_sA, gO_sL, gO_sQ, gO_sC, gO_sO, gO_sD, gA_eq, gA_ne, gQ_eq, gQ_ne, gL_sL, gA_cin, gA_cou, gQ_cin, gQ_cou, Nat.reduceAdd, Nat.reduceSub, Nat.reduceMul, Nat.reduceLT, Nat.reduceEqDiff, eq_self, true_and, and_true, and_false, false_and, if_true, if_false, and_self, Bool.true_eq_false, Bool.false_eq_true]; exact h6
  have e2 : gI (sI (sI t 1007 0 (nI 0)) 1008 0 m1) 1005 0 = nI 0 := by simp (disch := first | omega | decide) only [gI_sI, gI_sA, gI_sL, gI_sQ, gI_sC, gI_sO, gI_sD, gA_sI, gA_sL, gA_sQ, gA_sO, gA_sD, gL_sI, gL_sA, gL_sQ, gL_sC, gL_sO, gL_sD, gQ_sI, gQ_sA, gQ_sL, gQ_sC, gQ_sO, gO_sI, gO_sA, gO_sL, gO_sQ, gO_sC, gO_sO, gO_sD, gA_eq, gA_ne, gQ_eq, gQ_ne, gL_sL, gA_cin, gA_cou, gQ_cin, gQ_cou, Nat.reduceAdd, Nat.reduceSub, Nat.reduceMul, Nat.reduceLT, Nat.reduceEqDiff, eq_self, true_and, and_true, and_false, false_and, if_true, if_false, and_self, Bool.true_eq_false, Bool.false_eq_true]; exact h5
  have r7 : (nI 0 = nI 0) = True := eq_true rfl
  have q : (nI k < nI 2) = (k < 2) := cn_lt (by omega)
  have zm : (-1 : Int64) = zl (-1) := rfl
  have z0 : (0 : Int64) = zl 0 := rfl
  rw [aQ_0 hk]
  by_cases c : k < 2
  · have q := q.trans (eq_true c)
    rw [if_pos c, ← zm]
    simp only [f_M_ask_j133, f_M_ask_j173, h5, e1, e2, zI_0, zI_1, zI_2, r7, if_true, q]
  · have q := q.trans (eq_false c)
    rw [if_neg c, ← z0]
    simp only [f_M_ask_j133, f_M_ask_j173, h5, e1, e2, zI_0, zI_1, zI_2, r7, if_true, q, if_false]
theorem P_ask (hN : 10000 ≤ N) : Pure_33 Inv N := by
  rintro s t ⟨A, H, pa, se, hW, hX, hM, hR⟩
  have hRR := hR
  obtain ⟨⟨n, tp, hn, h1, h2, hT⟩, hR2, hR3, hR4, hR5⟩ := hR
  have hA := hW.1
  have hB := hW.2.1
  have F1 : Fr [10100] s (sI s 1 0 (nI 0)) := Fr_sI _ _ _ (by decide)
  have tk : f_X_takeTape N s = some (nI n, sI s 1 0 (nI 0)) := by simp only [f_X_takeTape, h1, zI_0]
  have tl := xTold_n (N := N) hA (XP_fr F1 (by decide) hX.1)
  have h46 := hM.2.2.2.2.2
  by_cases c : 0 < pD A
  · rw [if_pos c] at tl h46
    have F3 : Fr [60116] (sI s 1 0 (nI 0)) (sI (sI s 1 0 (nI 0)) 501 16 (nI 0)) := Fr_sI _ _ _ (by decide)
    obtain ⟨s4, f4, ⟨mk, E⟩, T, q1, q2, q3, F4⟩ := begin_n (N := N) (tp := tp) (n := n) (pg := 16) (s := sI (sI s 1 0 (nI 0)) 501 16 (nI 0)) (Or.inr rfl) hn (fun i hi => ⟨(hT i hi).1, (hT i hi).2.1⟩) hN
    have c16 : gI s4 501 16 = nI 0 := by rw [F4.I 501 16 (by decide)]; simp (disch := first | omega | decide) only [gI_sI, gI_sA, gI_sL, gI_sQ, gI_sC, gI_sO, gI_sD, gA_sI, gA_sL, gA_sQ, gA_sO, gA_sD, gL_sI, gL_sA, gL_sQ, gL_sC, gL_sO, gL_sD, gQ_sI, gQ_sA, gQ_sL, gQ_sC, gQ_sO, gO_sI, gO_sA, gO_sL, gO_sQ, gO_sC, gO_sO, gO_sD, gA_eq, gA_ne, gQ_eq, gQ_ne, gL_sL, gA_cin, gA_cou, gQ_cin, gQ_cou, Nat.reduceAdd, Nat.reduceSub, Nat.reduceMul, Nat.reduceLT, Nat.reduceEqDiff, eq_self, true_and, and_true, and_false, false_and, if_true, if_false, and_self, Bool.true_eq_false, Bool.false_eq_true]
    have c10 : gI s4 1 0 = nI 0 := by rw [F4.I 1 0 (by decide)]; simp (disch := first | omega | decide) only [gI_sI, gI_sA, gI_sL, gI_sQ, gI_sC, gI_sO, gI_sD, gA_sI, gA_sL, gA_sQ, gA_sO, gA_sD, gL_sI, gL_sA, gL_sQ, gL_sC, gL_sO, gL_sD, gQ_sI, gQ_sA, gQ_sL, gQ_sC, gQ_sO, gO_sI, gO_sA, gO_sL, gO_sQ, gO_sC, gO_sO, gO_sD, gA_eq, gA_ne, gQ_eq, gQ_ne, gL_sL, gA_cin, gA_cou, gQ_cin, gQ_cou, Nat.reduceAdd, Nat.reduceSub, Nat.reduceMul, Nat.reduceLT, Nat.reduceEqDiff, eq_self, true_and, and_true, and_false, false_and, if_true, if_false, and_self, Bool.true_eq_false, Bool.false_eq_true]
    have F04 : Fr kFx s s4 := Fr_t (Fr_w F1 (by decide)) (Fr_t (Fr_w F3 (by decide)) (Fr_w F4 (by decide)))
    have X : CX tp n 16 s4 0 false 0 [] s4 := ⟨Nat.zero_le _, T, q1, q3, ⟨c16, fun i hi => absurd hi (Nat.not_lt_zero _)⟩, Fr_r _ _⟩
    obtain ⟨R, r1, r2⟩ := as0_R (t := t) hn (fun i hi => ⟨(hT i hi).1, (hT i hi).2.2⟩) hM.2.1.2
    have G0 := Fr_as0 (n := n) (t := t)
    have qi : (nI 1 = nI 0) = False := eq_false (by decide)
    rcases quest_j E X R hN with ⟨v, k, w, s5, t5, f5, D, F5, g5, g7, g8, G5⟩ | ⟨k, e, q, p', b', s5, t5, hk, hq, he, hck, f5, u1, u2, F5, g5, R5⟩
    · have FF : Fr kFx s s5 := Fr_t F04 (Fr_w F5 (by decide))
      have GG : Fr kGx t t5 := Fr_t G0 (Fr_w G5 (by decide))
      have D3 := D.2.2.1
      have D1 := D.1
      have D2 := D.2.1
      have qk : (nI k = nI 0) = False := by rw [cn_eq (by omega)]; exact eq_false (by omega)
      refine ⟨NTH, s5, t5, ?_, by rw [ask_m h2 h46]; exact g5, A, H, pa, se, hW, IVX_fr FF (by decide) (fun i hi => by rw [F5.A 31 i (by decide), F4.A 31 i (by decide), F5.A 30 i (by decide), F4.A 30 i (by decide)]; exact hX.2.2.2.1 i hi) hX, IVM_fr hA GG (by decide) hM, RTp_set (n := 0) (tp := fun _ => 0) (Nat.zero_le _) (by rw [F5.I 1 0 (by decide)]; exact c10) (by rw [G5.I 1001 0 (by decide)]; exact r1) (fun i hi => absurd hi (Nat.not_lt_zero _)), RRf_fr FF GG (by decide) (by decide) hR2, RIm_fr FF GG (by decide) (by decide) hR3, RSd_fr FF GG (by decide) (by decide) hR4, D3.trans g7.symm, D.2.2.2.1.trans g8.symm⟩
      simp only [f_X_ask, tk, tl, f4, f5, D3, zI_0, qi, qk, if_false, Option.bind_some]
      rfl
    · have F05 : Fr kFx s s5 := Fr_t F04 (Fr_w F5 (by decide))
      have xo5 : XO A (ptH H) s5 := fun i hi => by rw [F5.A 31 i (by decide), F4.A 31 i (by decide), F5.A 30 i (by decide), F4.A 30 i (by decide)]; exact hX.2.2.2.1 i hi
      have hP5 := XP_fr F05 (by decide) hX.1
      have hR5' := HR_fr F05 (by decide) hX.2.2.1
      obtain ⟨s6, f6, v27, v9, xo6, F6⟩ := tellO_n (N := N) hA hB hP5 hR5' xo5 hN
      have F06 : Fr kFx s s6 := Fr_t F05 (Fr_w F6 (by decide))
      obtain ⟨⟨rv, s7⟩, f7, w1, F7⟩ := xans_n (N := N) (s := s6) (e := e) (q := q) (k := k) hA hB (XP_fr F06 (by decide) hX.1) (HR_fr F06 (by decide) hX.2.2.1) (by omega) (PgC_fr F6 (by decide) (by decide) u2) hck v27 v9 hk hN
      have w1 : rv = zl (aK (qE A H e) k (pD A)) := w1
      have F7 : Fr [26, 28] s6 s7 := F7
      have F07 : Fr kFx s s7 := Fr_t F06 (Fr_w F7 (by decide))
      have G05 : Fr kGx t t5 := Fr_t G0 (Fr_w R5.1 (by decide))
      have i6 : gI t5 1006 0 = m1 := by rw [R5.1.I 1006 0 (by decide)]; exact r2
      have i1 : gI t5 1001 0 = nI 0 := by rw [R5.1.I 1001 0 (by decide)]; exact r1
      have jg := j133_g (N := N) (E := qE A H e) hk (r_eq R5).2.1 i6
      have G6 : Fr kGx t5 (sI (sL (sI (sI t5 1007 0 (nI 0)) 1008 0 m1) 1095 0 (zl (aQ (qE A H e) k 0))) 1096 0 (nI 1)) := Fr_t (Fr_sI _ _ _ (by decide)) (Fr_t (Fr_sI _ _ _ (by decide)) (Fr_t (Fr_sL _ _ _ (by decide)) (Fr_sI _ _ _ (by decide))))
      have G6' : Fr [110700, 110800, 309500, 119600] t5 (sI (sL (sI (sI t5 1007 0 (nI 0)) 1008 0 m1) 1095 0 (zl (aQ (qE A H e) k 0))) 1096 0 (nI 1)) := Fr_t (Fr_sI _ _ _ (by decide)) (Fr_t (Fr_sI _ _ _ (by decide)) (Fr_t (Fr_sL _ _ _ (by decide)) (Fr_sI _ _ _ (by decide))))
      have y1 : gI (sI (sL (sI (sI t5 1007 0 (nI 0)) 1008 0 m1) 1095 0 (zl (aQ (qE A H e) k 0))) 1096 0 (nI 1)) 1007 0 = nI 0 := by simp (disch := first | omega | decide) only [gI_sI, gI_sA, gI_sL, gI_sQ, gI_sC, gI_sO, gI_sD, gA_sI, gA_sL, gA_sQ, gA_sO, gA_sD, gL_sI, gL_sA, gL_sQ, gL_sC, gL_sO, gL_sD, gQ_sI, gQ_sA, gQ_sL, gQ_sC, gQ_sO, gO_sI, gO_sA, gO_sL, gO_sQ, gO_sC, gO_sO, gO_sD, gA_eq, gA_ne, gQ_eq, gQ_ne, gL_sL, gA_cin, gA_cou, gQ_cin, gQ_cou, Nat.reduceAdd, Nat.reduceSub, Nat.reduceMul, Nat.reduceLT, Nat.reduceEqDiff, eq_self, true_and, and_true, and_false, false_and, if_true, if_false, and_self, Bool.true_eq_false, Bool.false_eq_true]
      have y2 : gI (sI (sL (sI (sI t5 1007 0 (nI 0)) 1008 0 m1) 1095 0 (zl (aQ (qE A H e) k 0))) 1096 0 (nI 1)) 1008 0 = m1 := by simp (disch := first | omega | decide) only [gI_sI, gI_sA, gI_sL, gI_sQ, gI_sC, gI_sO, gI_sD, gA_sI, gA_sL, gA_sQ, gA_sO, gA_sD, gL_sI, gL_sA, gL_sQ, gL_sC, gL_sO, gL_sD, gQ_sI, gQ_sA, gQ_sL, gQ_sC, gQ_sO, gO_sI, gO_sA, gO_sL, gO_sQ, gO_sC, gO_sO, gO_sD, gA_eq, gA_ne, gQ_eq, gQ_ne, gL_sL, gA_cin, gA_cou, gQ_cin, gQ_cou, Nat.reduceAdd, Nat.reduceSub, Nat.reduceMul, Nat.reduceLT, Nat.reduceEqDiff, eq_self, true_and, and_true, and_false, false_and, if_true, if_false, and_self, Bool.true_eq_false, Bool.false_eq_true]
      have y3 : gL (sI (sL (sI (sI t5 1007 0 (nI 0)) 1008 0 m1) 1095 0 (zl (aQ (qE A H e) k 0))) 1096 0 (nI 1)) 1095 0 = zl (aQ (qE A H e) k 0) := by simp (disch := first | omega | decide) only [gI_sI, gI_sA, gI_sL, gI_sQ, gI_sC, gI_sO, gI_sD, gA_sI, gA_sL, gA_sQ, gA_sO, gA_sD, gL_sI, gL_sA, gL_sQ, gL_sC, gL_sO, gL_sD, gQ_sI, gQ_sA, gQ_sL, gQ_sC, gQ_sO, gO_sI, gO_sA, gO_sL, gO_sQ, gO_sC, gO_sO, gO_sD, gA_eq, gA_ne, gQ_eq, gQ_ne, gL_sL, gA_cin, gA_cou, gQ_cin, gQ_cou, Nat.reduceAdd, Nat.reduceSub, Nat.reduceMul, Nat.reduceLT, Nat.reduceEqDiff, eq_self, true_and, and_true, and_false, false_and, if_true, if_false, and_self, Bool.true_eq_false, Bool.false_eq_true]
      have y4 : gI (sI (sL (sI (sI t5 1007 0 (nI 0)) 1008 0 m1) 1095 0 (zl (aQ (qE A H e) k 0))) 1096 0 (nI 1)) 1096 0 = nI 1 := by simp (disch := first | omega | decide) only [gI_sI, gI_sA, gI_sL, gI_sQ, gI_sC, gI_sO, gI_sD, gA_sI, gA_sL, gA_sQ, gA_sO, gA_sD, gL_sI, gL_sA, gL_sQ, gL_sC, gL_sO, gL_sD, gQ_sI, gQ_sA, gQ_sL, gQ_sC, gQ_sO, gO_sI, gO_sA, gO_sL, gO_sQ, gO_sC, gO_sO, gO_sD, gA_eq, gA_ne, gQ_eq, gQ_ne, gL_sL, gA_cin, gA_cou, gQ_cin, gQ_cou, Nat.reduceAdd, Nat.reduceSub, Nat.reduceMul, Nat.reduceLT, Nat.reduceEqDiff, eq_self, true_and, and_true, and_false, false_and, if_true, if_false, and_self, Bool.true_eq_false, Bool.false_eq_true]
      generalize sI (sL (sI (sI t5 1007 0 (nI 0)) 1008 0 m1) 1095 0 (zl (aQ (qE A H e) k 0))) 1096 0 (nI 1) = t6 at *
      have G06 : Fr kGx t t6 := Fr_t G05 G6
      obtain ⟨t7, g7, z35, G7⟩ := mLays_n (N := N) (t := t6) hA hB (MP_fr G06 (by decide) hM.1) (MRow_fr G06 (by decide) hM.2.2.1.1) hN
      have G07 : Fr kGx t t7 := Fr_t G06 (Fr_w G7 (by decide))
      obtain ⟨⟨rm, t8⟩, g8, w2, G8⟩ := mans_n (N := N) (t := t7) (e := e) (q := q) (k := k) hA hB (MP_fr G07 (by decide) hM.1) (MRow_fr G07 (by decide) hM.2.2.1.1) c he (RCd_fr G7 (by decide) (RCd_fr G6' (by decide) R5.2.2.1)) hck hk hq z35 (by rw [G7.L 1095 0 (by decide)]; exact y3) (by rw [G7.I 1096 0 (by decide)]; exact y4) hN
      have w2 : rm = zl (aK (qE A H e) k (pD A)) := w2
      have G8 : Fr kLq t7 t8 := G8
      have G08 : Fr kGx t t8 := Fr_t G07 (Fr_w G8 (by decide))
      have q0 : (nI 0 = nI 0) = True := eq_true rfl
      refine ⟨zl (aK (qE A H e) k (pD A)), s7, t8, ?_, ?_, A, H, pa, se, hW, IVX_fr F07 (by decide) (XO_fr F7 (by decide) (by decide) xo6) hX, IVM_fr hA G08 (by decide) hM, RTp_set (n := 0) (tp := fun _ => 0) (Nat.zero_le _) ?_ ?_ (fun i hi => absurd hi (Nat.not_lt_zero _)), RRf_fr F07 G08 (by decide) (by decide) hR2, RIm_fr F07 G08 (by decide) (by decide) hR3, RSd_fr F07 G08 (by decide) (by decide) hR4, ?_, ?_⟩
      · have ans : f_X_answerTo N (nI (25 + k)) s5 = some (rv, s7) := by
          unfold f_X_answerTo
          rw [f6, Option.bind_some]
          exact f7
        rw [← w1]
        simp only [f_X_ask, tk, tl, f4, f5, u1, ans, zI_0, qi, q0, if_false, if_true, Option.bind_some]
      · rw [ask_m h2 h46, g5, jg, g7, Option.bind_some, g8, w2]
      · rw [F7.I 1 0 (by decide), F6.I 1 0 (by decide), F5.I 1 0 (by decide)]; exact c10
      · rw [G8.I 1001 0 (by decide), G7.I 1001 0 (by decide), G6'.I 1001 0 (by decide)]; exact i1
      · rw [F7.I 612 18 (by decide), F6.I 612 18 (by decide), u1, G8.I 1007 0 (by decide), G7.I 1007 0 (by decide), y1]
      · rw [F7.I 613 18 (by decide), F6.I 613 18 (by decide), F5.I 613 18 (by decide), q2, G8.I 1008 0 (by decide), G7.I 1008 0 (by decide), y2]
  · rw [if_neg c] at tl h46
    have q0 : (nI 0 = nI 0) = True := eq_true rfl
    refine ⟨NTH, sI s 1 0 (nI 0), sI t 1001 0 (nI 0), ?_, ?_, Inv_tp hW hX hM hRR (Fr_w F1 (by decide)) (Fr_sI 1001 0 (nI 0) (by decide)) (n := 0) (tp := fun _ => 0) (Nat.zero_le _) (by simp (disch := first | omega | decide) only [gI_sI, gI_sA, gI_sL, gI_sQ, gI_sC, gI_sO, gI_sD, gA_sI, gA_sL, gA_sQ, gA_sO, gA_sD, gL_sI, gL_sA, gL_sQ, gL_sC, gL_sO, gL_sD, gQ_sI, gQ_sA, gQ_sL, gQ_sC, gQ_sO, gO_sI, gO_sA, gO_sL, gO_sQ, gO_sC, gO_sO, gO_sD, gA_eq, gA_ne, gQ_eq, gQ_ne, gL_sL, gA_cin, gA_cou, gQ_cin, gQ_cou, Nat.reduceAdd, Nat.reduceSub, Nat.reduceMul, Nat.reduceLT, Nat.reduceEqDiff, eq_self, true_and, and_true, and_false, false_and, if_true, if_false, and_self, Bool.true_eq_false, Bool.false_eq_true]) (by simp (disch := first | omega | decide) only [gI_sI, gI_sA, gI_sL, gI_sQ, gI_sC, gI_sO, gI_sD, gA_sI, gA_sL, gA_sQ, gA_sO, gA_sD, gL_sI, gL_sA, gL_sQ, gL_sC, gL_sO, gL_sD, gQ_sI, gQ_sA, gQ_sL, gQ_sC, gQ_sO, gO_sI, gO_sA, gO_sL, gO_sQ, gO_sC, gO_sO, gO_sD, gA_eq, gA_ne, gQ_eq, gQ_ne, gL_sL, gA_cin, gA_cou, gQ_cin, gQ_cou, Nat.reduceAdd, Nat.reduceSub, Nat.reduceMul, Nat.reduceLT, Nat.reduceEqDiff, eq_self, true_and, and_true, and_false, false_and, if_true, if_false, and_self, Bool.true_eq_false, Bool.false_eq_true]) (fun i hi => absurd hi (Nat.not_lt_zero _))⟩
    · simp only [f_X_ask, tk, tl, zI_0, q0, if_true, Option.bind_some]
      rfl
    · simp only [f_M_ask, h46, zI_0, q0, if_true]
      rfl
end ASKW
