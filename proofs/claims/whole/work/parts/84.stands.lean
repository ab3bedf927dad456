/-! A CORRIDOR that stands; one with a fault -/
def kMy : List Nat := [110300, 110100, 110200, 110400, 110500, 110600, 111000, 118800, 119000, 119100, 119200, 64, 65, 28, 5029, 30, 31, 32, 33, 113600, 114000, 114400, 114500, 114700, 110700, 110800]
def kGd : List Nat := [50002, 50102, 50202, 50302, 50402, 51002, 3, 5004, 7, 8, 60105, 6, 20, 40223, 90837, 90937, 91037, 90337, 31, 20532]
def kGm : List Nat := [110700, 110800, 114600, 28, 31, 32, 5029, 33, 34, 116100, 115500]
theorem hBeg_2 {op : Nat} {pt : Nat → Nat} : (hBeg op pt).1 2 = op := rfl
theorem hBeg_p {op d : Nat} {pt : Nat → Nat} (hd : d < 24) : (hBeg op pt).1 (28 + d) = pt d := by
  show (if 28 + d = 2 then op else if 28 ≤ 28 + d ∧ 28 + d < 52 then pt (28 + d - 28) else 0) = pt d
  rw [if_neg (by omega), if_pos (by omega), Nat.add_sub_cancel_left]
theorem hBeg_0 {op i : Nat} {pt : Nat → Nat} (h : i ≠ 2) (h2 : ¬ (28 ≤ i ∧ i < 52)) : (hBeg op pt).1 i = 0 := by
  show (if i = 2 then op else if 28 ≤ i ∧ i < 52 then pt (i - 28) else 0) = 0
  rw [if_neg h, if_neg h2]
section STANDS
variable {N n p op k w M mk j : Nat} {tp pt : Nat → Nat} {b : Bool} {s s' s0 t t' t0 : mS} {L : List Nat} {A : pL} {H : hL} {pa : Nat × (Nat → hL)} {se : Nat × (Nat → Nat × Bool)} {v : Int32}
theorem IVM_ix (hA : WA A) (hM : IVM A H pa se t) (F : Fr kMy t t') (i28 : ∀ i, 4 ≤ i → gA t' 28 i = gA t 28 i) (i31 : ∀ i, 12 ≤ i → gA t' 31 i = gA t 31 i) (i32 : ∀ i, 12 ≤ i → gA t' 32 i = gA t 32 i) (i33 : ∀ i, 1600 ≤ i → gA t' 33 i = gA t 33 i) (i29 : ∀ i, 10 ≤ i → gQ t' 29 i = gQ t 29 i) : IVM A H pa se t' := by
  obtain ⟨⟨a1, a2, a3, a4, a5, a6⟩, h2, h3, h4, h5, h6⟩ := hM
  have mc : ∀ w, MC A w t → MC A w t' := fun w h => by
    obtain ⟨fr, b1, b2, b3, b4⟩ := h
    exact ⟨fr, b1, by rw [i31 _ (by omega)]; exact b2, by rw [i32 _ (by omega)]; exact b3, fun i hi => by rw [i33 _ (by omega)]; exact b4 i hi⟩
  refine ⟨⟨by rw [i28 _ (by omega)]; exact a1, by rw [i28 _ (by omega)]; exact a2, by rw [i28 _ (by omega)]; exact a3, by rw [i28 _ (by omega)]; exact a4, fun p hp => mc p (a5 p hp), fun h0 => ⟨fun c => mc 10 ((a6 h0).1 c), fun c => by rw [i31 _ (by omega)]; exact (a6 h0).2.1 c, fun c => mc 11 ((a6 h0).2.2.1 c), fun c => by rw [i31 _ (by omega)]; exact (a6 h0).2.2.2 c⟩⟩, ⟨fun p hp => by rw [i29 _ (by omega)]; exact h2.1 p hp, MWd_fr F (by decide) h2.2⟩, MX_fr F (by decide) (by decide) h3, MSe_fr F (by decide) h4, MPa_fr hA F (by decide) h5, by rw [F.I 1046 0 (by decide)]; exact h6⟩
theorem j61_bad (D : DdX k w s) : f_X_corridor_j61 N (v, s) = some (m1, sA s 41 1 (gA s 41 1 + 1)) := by
  have r := xRef_n (N := N) (s := s) (k := 1) (by omega)
  obtain ⟨h1, h2, h3, h4, h5⟩ := D
  simp (disch := first | omega | decide) only [f_X_corridor_j61, h3, r, zI_0, zI_1, zI_2, zI_3, zI_4, zI_5, zI_6, zI_7, zI_8, zI_9, zI_10, zI_11, zI_12, zI_13, zI_14, zI_15, zI_16, zI_17, zI_18, zI_19, zI_20, zI_21, zI_22, zI_23, zI_24, zI_25, zI_26, zI_27, zI_28, zI_29, zI_30, zI_31, zI_32, zI_33, zI_34, zI_35, zI_36, zI_37, zI_38, zI_39, zI_40, zI_41, zI_42, zI_43, zI_44, zI_45, zI_46, zI_47, zI_48, zI_49, zI_50, zI_51, zI_52, zI_53, zI_54, zI_55, zI_56, zI_57, zI_58, zI_59, zI_60, zI_61, zI_62, zI_63, zI_64, zI_65, zI_66, zI_67, zI_74, zI_84, zI_85, zI_88, zI_91, zI_93, zI_97, zI_99, zI_100, zI_102, zI_105, zI_117, zI_122, zI_193, zI_202, zI_205, zI_251, zI_255, zI_256, zI_257, zI_258, zI_259, zI_260, zI_640, zI_999, zI_1000, zI_1024, zI_1600, zI_1602, zI_1700, zI_2040, zI_3200, zI_4100, zI_9728, zI_11784, zI_61440, zI_65536, zI_470536, zI_999999, zI_1000000, lt_T, lt_F, le_T, le_F, eq_T, eq_F, neg_1, cn_m1p, cn_m11, nI_add, cn_sub, pk_mul, cn_div, cn_irm, cn_lt, cn_eq, cn_ltm1, cn_m1lt, cn_eqm1, cn_m1eq, cn_ix, cn_inb, cn_ninb, cn_irs, cn_ils, cn_and, cn_or, cn_xor, grd_t, grd_bt, grd_bl, Nat.add_zero, Nat.zero_add, Nat.reduceAdd, Nat.reduceSub, Nat.reduceMul, Nat.reduceLT, Nat.reduceEqDiff, eq_self, true_and, and_true, and_false, false_and, if_true, if_false, and_self, Bool.true_eq_false, Bool.false_eq_true, Option.bind_some]
theorem j136_bad (B : BdM k w t) : f_M_corridor_j136 N t = some (m1, sA (sI (sI t 1007 0 (nI k)) 1008 0 (nI w)) 2 1 (gA (sI (sI t 1007 0 (nI k)) 1008 0 (nI w)) 2 1 + 1)) := by
  have r := mRef_n (N := N) (t := sI (sI t 1007 0 (nI k)) 1008 0 (nI w)) (k := 1) (by omega)
  obtain ⟨h1, h2, h3, h4⟩ := B
  have e1 : gI (sI t 1007 0 (nI k)) 1006 0 = nI w := by simp (disch := first | omega | decide) only [gI_sI, gI_sA, gI_sL, gI_sQ, gI_sC, gI_sO, gI_sD, gA_sI, gA_sL, gA_sQ, gA_sO, gA_sD, gL_sI, gL_sA, gL_sQ, gL_sC, gL_sO, gL_sD, gQ_sI, gQ_sA, gQ_sL, gQ_sC, gQ_sO, gO_sI, gO_sA, gO_sL, gO_sQ, gO_sC, gO_sO, gO_sD, gA_eq, gA_ne, gQ_eq, gQ_ne, gL_sL, gA_cin, gA_cou, gQ_cin, gQ_cou, Nat.reduceAdd, Nat.reduceSub, Nat.reduceMul, Nat.reduceLT, Nat.reduceEqDiff, eq_self, true_and, and_true, and_false, false_and, if_true, if_false, and_self, Bool.true_eq_false, Bool.false_eq_true]; exact h4
  have e2 : gI (sI (sI t 1007 0 (nI k)) 1008 0 (nI w)) 1005 0 = nI k := by simp (disch := first | omega | decide) only [gI_sI, gI_sA, gI_sL, gI_sQ, gI_sC, gI_sO, gI_sD, gA_sI, gA_sL, gA_sQ, gA_sO, gA_sD, gL_sI, gL_sA, gL_sQ, gL_sC, gL_sO, gL_sD, gQ_sI, gQ_sA, gQ_sL, gQ_sC, gQ_sO, gO_sI, gO_sA, gO_sL, gO_sQ, gO_sC, gO_sO, gO_sD, gA_eq, gA_ne, gQ_eq, gQ_ne, gL_sL, gA_cin, gA_cou, gQ_cin, gQ_cou, Nat.reduceAdd, Nat.reduceSub, Nat.reduceMul, Nat.reduceLT, Nat.reduceEqDiff, eq_self, true_and, and_true, and_false, false_and, if_true, if_false, and_self, Bool.true_eq_false, Bool.false_eq_true]; exact h3
  have q : (nI k = nI 0) = False := by rw [cn_eq (by omega)]; exact eq_false (by omega)
  simp only [f_M_corridor_j136, h3, e1, e2, zI_0, q, if_false, zI_1, r, Option.bind_some]
theorem j61_good (hJ : JX tp n s0 A op pt L p b s) (hW : WD A op pt) (hL : L.length ≤ p) (h0 : 0 < pD A) {nx : Nat} (hnx : nx < 20) (hn2 : gI s 301 23 = nI nx) (hN : 10000 ≤ N) :
    ∃ s', f_X_corridor_j61 N (v, s) = some (v, s') ∧ IVX A (hBeg op pt) (0, fun _ => hBeg op pt) (0, fun _ => (0, false)) s' ∧ Fr kGd s s' := by
  obtain ⟨⟨mk, E⟩, X, D, F0⟩ := hJ
  have hn := E.1.1
  have hpn := X.1
  obtain ⟨h1, h2, h3, h4, h5, h6, h7, h8, h9, h10, bn, h11, h12, h13⟩ := D
  obtain ⟨⟨a1, a2, a3, a4, a5, a6, a7, a8, a9, a10⟩, w2, w3⟩ := hW
  have P := X.2.2.2.2.1
  obtain ⟨s1, f1, b1, b2, b3, b4, b5, b6, b7, b8, b9, b10, b11, F1⟩ := planc_n (N := N) P.1 (by omega)
  obtain ⟨s2, f2, c1, c2, c3, F2⟩ := hbeg_n (N := N) (s := s1) hN
  have F3 : Fr [40223, 90837, 90937, 91037, 90337] s2 (sI (sI (sI (sI (sI s2 302 23 (nI 0)) 808 37 (nI 0)) 809 37 (nI 0)) 810 37 (nI 0)) 803 37 (nI 0)) := Fr_t (Fr_sI _ _ _ (by decide)) (Fr_t (Fr_sI _ _ _ (by decide)) (Fr_t (Fr_sI _ _ _ (by decide)) (Fr_t (Fr_sI _ _ _ (by decide)) (Fr_sI _ _ _ (by decide)))))
  have d1 : gI (sI (sI (sI (sI (sI s2 302 23 (nI 0)) 808 37 (nI 0)) 809 37 (nI 0)) 810 37 (nI 0)) 803 37 (nI 0)) 302 23 = nI 0 := by simp (disch := first | omega | decide) only [gI_sI, gI_sA, gI_sL, gI_sQ, gI_sC, gI_sO, gI_sD, gA_sI, gA_sL, gA_sQ, gA_sO, gA_sD, gL_sI, gL_sA, gL_sQ, gL_sC, gL_sO, gL_sD, gQ_sI, gQ_sA, gQ_sL, gQ_sC, gQ_sO, gO_sI, gO_sA, gO_sL, gO_sQ, gO_sC, gO_sO, gO_sD, gA_eq, gA_ne, gQ_eq, gQ_ne, gL_sL, gA_cin, gA_cou, gQ_cin, gQ_cou, Nat.reduceAdd, Nat.reduceSub, Nat.reduceMul, Nat.reduceLT, Nat.reduceEqDiff, eq_self, true_and, and_true, and_false, false_and, if_true, if_false, and_self, Bool.true_eq_false, Bool.false_eq_true]
  have d2 : gI (sI (sI (sI (sI (sI s2 302 23 (nI 0)) 808 37 (nI 0)) 809 37 (nI 0)) 810 37 (nI 0)) 803 37 (nI 0)) 808 37 = nI 0 := by simp (disch := first | omega | decide) only [gI_sI, gI_sA, gI_sL, gI_sQ, gI_sC, gI_sO, gI_sD, gA_sI, gA_sL, gA_sQ, gA_sO, gA_sD, gL_sI, gL_sA, gL_sQ, gL_sC, gL_sO, gL_sD, gQ_sI, gQ_sA, gQ_sL, gQ_sC, gQ_sO, gO_sI, gO_sA, gO_sL, gO_sQ, gO_sC, gO_sO, gO_sD, gA_eq, gA_ne, gQ_eq, gQ_ne, gL_sL, gA_cin, gA_cou, gQ_cin, gQ_cou, Nat.reduceAdd, Nat.reduceSub, Nat.reduceMul, Nat.reduceLT, Nat.reduceEqDiff, eq_self, true_and, and_true, and_false, false_and, if_true, if_false, and_self, Bool.true_eq_false, Bool.false_eq_true]
  have d3 : gI (sI (sI (sI (sI (sI s2 302 23 (nI 0)) 808 37 (nI 0)) 809 37 (nI 0)) 810 37 (nI 0)) 803 37 (nI 0)) 809 37 = nI 0 := by simp (disch := first | omega | decide) only [gI_sI, gI_sA, gI_sL, gI_sQ, gI_sC, gI_sO, gI_sD, gA_sI, gA_sL, gA_sQ, gA_sO, gA_sD, gL_sI, gL_sA, gL_sQ, gL_sC, gL_sO, gL_sD, gQ_sI, gQ_sA, gQ_sL, gQ_sC, gQ_sO, gO_sI, gO_sA, gO_sL, gO_sQ, gO_sC, gO_sO, gO_sD, gA_eq, gA_ne, gQ_eq, gQ_ne, gL_sL, gA_cin, gA_cou, gQ_cin, gQ_cou, Nat.reduceAdd, Nat.reduceSub, Nat.reduceMul, Nat.reduceLT, Nat.reduceEqDiff, eq_self, true_and, and_true, and_false, false_and, if_true, if_false, and_self, Bool.true_eq_false, Bool.false_eq_true]
  have d4 : gI (sI (sI (sI (sI (sI s2 302 23 (nI 0)) 808 37 (nI 0)) 809 37 (nI 0)) 810 37 (nI 0)) 803 37 (nI 0)) 810 37 = nI 0 := by simp (disch := first | omega | decide) only [gI_sI, gI_sA, gI_sL, gI_sQ, gI_sC, gI_sO, gI_sD, gA_sI, gA_sL, gA_sQ, gA_sO, gA_sD, gL_sI, gL_sA, gL_sQ, gL_sC, gL_sO, gL_sD, gQ_sI, gQ_sA, gQ_sL, gQ_sC, gQ_sO, gO_sI, gO_sA, gO_sL, gO_sQ, gO_sC, gO_sO, gO_sD, gA_eq, gA_ne, gQ_eq, gQ_ne, gL_sL, gA_cin, gA_cou, gQ_cin, gQ_cou, Nat.reduceAdd, Nat.reduceSub, Nat.reduceMul, Nat.reduceLT, Nat.reduceEqDiff, eq_self, true_and, and_true, and_false, false_and, if_true, if_false, and_self, Bool.true_eq_false, Bool.false_eq_true]
  have h612 : gI s 612 18 = nI 0 := X.2.2.1
  have head : ∀ s5, f_X_forgetReckoned N (sI (sI (sI (sI (sI s2 302 23 (nI 0)) 808 37 (nI 0)) 809 37 (nI 0)) 810 37 (nI 0)) 803 37 (nI 0)) = some s5 → f_X_corridor_j61 N (v, s) = some (v, s5) := fun s5 f5 => by
    simp (disch := first | omega | decide) only [f_X_corridor_j61, h612, f1, f2, f_Pa_forget, f_Se_forgetSeen, f5, zI_0, zI_1, zI_2, zI_3, zI_4, zI_5, zI_6, zI_7, zI_8, zI_9, zI_10, zI_11, zI_12, zI_13, zI_14, zI_15, zI_16, zI_17, zI_18, zI_19, zI_20, zI_21, zI_22, zI_23, zI_24, zI_25, zI_26, zI_27, zI_28, zI_29, zI_30, zI_31, zI_32, zI_33, zI_34, zI_35, zI_36, zI_37, zI_38, zI_39, zI_40, zI_41, zI_42, zI_43, zI_44, zI_45, zI_46, zI_47, zI_48, zI_49, zI_50, zI_51, zI_52, zI_53, zI_54, zI_55, zI_56, zI_57, zI_58, zI_59, zI_60, zI_61, zI_62, zI_63, zI_64, zI_65, zI_66, zI_67, zI_74, zI_84, zI_85, zI_88, zI_91, zI_93, zI_97, zI_99, zI_100, zI_102, zI_105, zI_117, zI_122, zI_193, zI_202, zI_205, zI_251, zI_255, zI_256, zI_257, zI_258, zI_259, zI_260, zI_640, zI_999, zI_1000, zI_1024, zI_1600, zI_1602, zI_1700, zI_2040, zI_3200, zI_4100, zI_9728, zI_11784, zI_61440, zI_65536, zI_470536, zI_999999, zI_1000000, Nat.reduceAdd, Nat.reduceSub, Nat.reduceMul, Nat.reduceLT, Nat.reduceEqDiff, eq_self, true_and, and_true, and_false, false_and, if_true, if_false, and_self, Bool.true_eq_false, Bool.false_eq_true, Option.bind_some]
  generalize sI (sI (sI (sI (sI s2 302 23 (nI 0)) 808 37 (nI 0)) 809 37 (nI 0)) 810 37 (nI 0)) 803 37 (nI 0) = s4 at *
  obtain ⟨s5, f5, e1, e2, e3, F5⟩ := forget_n (N := N) hN s4
  have FF : Fr [20, 40223, 90837, 90937, 91037, 90337, 31, 20532] s1 s5 := Fr_t (Fr_w F2 (by decide)) (Fr_t (Fr_w F3 (by decide)) (Fr_w F5 (by decide)))
  have F45 : Fr [40223, 90837, 90937, 91037, 90337, 31, 20532] s2 s5 := Fr_t (Fr_w F3 (by decide)) (Fr_w F5 (by decide))
  have FA : Fr kGd s s5 := Fr_t (Fr_w F1 (by decide)) (Fr_w FF (by decide))
  have xc : ∀ w, w < pP A ∨ w = 10 ∨ w = 11 → XC A w s5 := fun w hw => by
    obtain ⟨fr, g1, g2, g3, g4⟩ := h10 w hw
    refine ⟨fr, L.length, by rw [FF.I 501 5 (by decide)]; exact b10, by omega, g1, ?_, ?_, fun i hi => ?_⟩
    · rw [FF.A 7 w (by decide), (b9 w (by omega)).1]; exact g2
    · rw [FF.A 8 w (by decide), (b9 w (by omega)).2]; exact g3
    · rw [FF.A 6 _ (by decide), b11 _ (by omega), P.2 _ (by omega), g4 i hi]
  refine ⟨s5, head s5 f5, ⟨⟨(FF.I 400 2 (by decide)).trans (b1.trans h1), (FF.I 401 2 (by decide)).trans (b2.trans h2), (FF.I 402 2 (by decide)).trans (b3.trans h3), (FF.I 403 2 (by decide)).trans (b4.trans h4), fun p hp => xc p (Or.inl hp), fun _ => ⟨xc 10 (Or.inr (Or.inl rfl)), xc 11 (Or.inr (Or.inr rfl))⟩, bn, (FF.I 410 2 (by decide)).trans (b6.trans h11), h12, fun p hp => ?_⟩, fun p hp => ?_, ⟨fun i hi => ?_, fun i hi => absurd hi (Nat.not_lt_zero _)⟩, fun k hk => Or.inl (e1 k hk), Or.inl e2, ⟨?_, ?_, ?_, Or.inl e3⟩, ?_, nx, hnx, ?_, fun k hk => absurd hk (Nat.not_lt_zero _)⟩, FA⟩
  · rw [h13 p (by omega), decide_eq_true hp, Bool.true_and]
  · rw [FF.Q 4 p (by decide), b8 p (by omega)]; exact h7 p hp
  · show gA s5 20 i = nI ((hBeg op pt).1 i)
    rw [F45.A 20 i (by decide)]
    by_cases q2 : i = 2
    · rw [q2, hBeg_2, c1, b5]; exact h5
    · by_cases q3 : 28 ≤ i ∧ i < 52
      · obtain ⟨d, rfl⟩ : ∃ d, i = 28 + d := ⟨i - 28, by omega⟩
        rw [hBeg_p (by omega), c2 d (by omega), b7 d (by omega)]; exact h6 d (by omega)
      · rw [hBeg_0 q2 q3]; exact c3 i hi q2 q3
  · rw [F5.I 808 37 (by decide)]; exact d2
  · rw [F5.I 809 37 (by decide)]; exact d3
  · rw [F5.I 810 37 (by decide)]; exact d4
  · rw [F5.I 302 23 (by decide)]; exact d1
  · rw [FA.I 301 23 (by decide)]; exact hn2
theorem HB_beg (hW : WD A op pt) : HB A (hBeg op pt) := by
  obtain ⟨a, w2, w3⟩ := hW
  refine ⟨Nat.zero_le _, Nat.zero_le _, by rw [hBeg_2]; exact w2, Nat.zero_le _, fun d hd => ?_, fun d hd => ?_, fun p hp => ?_, fun i hi => absurd hi (Nat.not_lt_zero _)⟩
  · rw [hBeg_0 (by omega) (by omega)]; exact Nat.zero_le _
  · rw [hBeg_p hd]; exact w3 d
  · rw [hBeg_0 (by omega) (by omega)]; exact Nat.zero_le _
theorem j136_good (hM : JM tp n t0 A op pt M p b t) (hW : WD A op pt) (hMp : M ≤ 1600) (h0 : 0 < pD A) (hx : gI t 1045 0 = v) {ne : Nat} (hne : ne < 20) (hn2 : gI t 1062 0 = nI ne) (h53 : gI t 1053 0 = nI 0) (hN : 10000 ≤ N) :
    ∃ t', f_M_corridor_j136 N t = some (v, t') ∧ IVM A (hBeg op pt) (0, fun _ => hBeg op pt) (0, fun _ => (0, false)) t' ∧ gI t' 1007 0 = nI 0 ∧ gI t' 1008 0 = gI t 1006 0 ∧ Fr kGm t t' := by
  obtain ⟨R, ⟨m1', m2, m3, m4, m5, m6, m7, m8, m9, m10, m11, m12, m13⟩, _⟩ := hM
  have h5 := R.2.2.1
  obtain ⟨⟨a1, a2, a3, a4, a5, a6, a7, a8, a9, a10⟩, w2, w3⟩ := hW
  have hop : op < 16777216 := Nat.lt_of_lt_of_le w2 (pw_le a1)
  have F1 : Fr [110700, 110800, 114600] t (sI (sI (sI t 1007 0 (nI 0)) 1008 0 (gI t 1006 0)) 1046 0 (nI 1)) := Fr_t (Fr_sI _ _ _ (by decide)) (Fr_t (Fr_sI _ _ _ (by decide)) (Fr_sI _ _ _ (by decide)))
  have d1 : gI (sI (sI (sI t 1007 0 (nI 0)) 1008 0 (gI t 1006 0)) 1046 0 (nI 1)) 1007 0 = nI 0 := by simp (disch := first | omega | decide) only [gI_sI, gI_sA, gI_sL, gI_sQ, gI_sC, gI_sO, gI_sD, gA_sI, gA_sL, gA_sQ, gA_sO, gA_sD, gL_sI, gL_sA, gL_sQ, gL_sC, gL_sO, gL_sD, gQ_sI, gQ_sA, gQ_sL, gQ_sC, gQ_sO, gO_sI, gO_sA, gO_sL, gO_sQ, gO_sC, gO_sO, gO_sD, gA_eq, gA_ne, gQ_eq, gQ_ne, gL_sL, gA_cin, gA_cou, gQ_cin, gQ_cou, Nat.reduceAdd, Nat.reduceSub, Nat.reduceMul, Nat.reduceLT, Nat.reduceEqDiff, eq_self, true_and, and_true, and_false, false_and, if_true, if_false, and_self, Bool.true_eq_false, Bool.false_eq_true]
  have d2 : gI (sI (sI (sI t 1007 0 (nI 0)) 1008 0 (gI t 1006 0)) 1046 0 (nI 1)) 1008 0 = gI t 1006 0 := by simp (disch := first | omega | decide) only [gI_sI, gI_sA, gI_sL, gI_sQ, gI_sC, gI_sO, gI_sD, gA_sI, gA_sL, gA_sQ, gA_sO, gA_sD, gL_sI, gL_sA, gL_sQ, gL_sC, gL_sO, gL_sD, gQ_sI, gQ_sA, gQ_sL, gQ_sC, gQ_sO, gO_sI, gO_sA, gO_sL, gO_sQ, gO_sC, gO_sO, gO_sD, gA_eq, gA_ne, gQ_eq, gQ_ne, gL_sL, gA_cin, gA_cou, gQ_cin, gQ_cou, Nat.reduceAdd, Nat.reduceSub, Nat.reduceMul, Nat.reduceLT, Nat.reduceEqDiff, eq_self, true_and, and_true, and_false, false_and, if_true, if_false, and_self, Bool.true_eq_false, Bool.false_eq_true]
  have d3 : gI (sI (sI (sI t 1007 0 (nI 0)) 1008 0 (gI t 1006 0)) 1046 0 (nI 1)) 1046 0 = nI 1 := by simp (disch := first | omega | decide) only [gI_sI, gI_sA, gI_sL, gI_sQ, gI_sC, gI_sO, gI_sD, gA_sI, gA_sL, gA_sQ, gA_sO, gA_sD, gL_sI, gL_sA, gL_sQ, gL_sC, gL_sO, gL_sD, gQ_sI, gQ_sA, gQ_sL, gQ_sC, gQ_sO, gO_sI, gO_sA, gO_sL, gO_sQ, gO_sC, gO_sO, gO_sD, gA_eq, gA_ne, gQ_eq, gQ_ne, gL_sL, gA_cin, gA_cou, gQ_cin, gQ_cou, Nat.reduceAdd, Nat.reduceSub, Nat.reduceMul, Nat.reduceLT, Nat.reduceEqDiff, eq_self, true_and, and_true, and_false, false_and, if_true, if_false, and_self, Bool.true_eq_false, Bool.false_eq_true]
  have head : f_M_corridor_j136 N t = (mfix N (f_M_stands_L7 N) (nI 0, sI (sI (sI t 1007 0 (nI 0)) 1008 0 (gI t 1006 0)) 1046 0 (nI 1))).bind fun p3 => some (gI p3 1045 0, p3) := by
    have e1 : gI (sI t 1007 0 (nI 0)) 1006 0 = gI t 1006 0 := by simp (disch := first | omega | decide) only [gI_sI, gI_sA, gI_sL, gI_sQ, gI_sC, gI_sO, gI_sD, gA_sI, gA_sL, gA_sQ, gA_sO, gA_sD, gL_sI, gL_sA, gL_sQ, gL_sC, gL_sO, gL_sD, gQ_sI, gQ_sA, gQ_sL, gQ_sC, gQ_sO, gO_sI, gO_sA, gO_sL, gO_sQ, gO_sC, gO_sO, gO_sD, gA_eq, gA_ne, gQ_eq, gQ_ne, gL_sL, gA_cin, gA_cou, gQ_cin, gQ_cou, Nat.reduceAdd, Nat.reduceSub, Nat.reduceMul, Nat.reduceLT, Nat.reduceEqDiff, eq_self, true_and, and_true, and_false, false_and, if_true, if_false, and_self, Bool.true_eq_false, Bool.false_eq_true]
    have e2 : gI (sI (sI t 1007 0 (nI 0)) 1008 0 (gI t 1006 0)) 1005 0 = nI 0 := by simp (disch := first | omega | decide) only [gI_sI, gI_sA, gI_sL, gI_sQ, gI_sC, gI_sO, gI_sD, gA_sI, gA_sL, gA_sQ, gA_sO, gA_sD, gL_sI, gL_sA, gL_sQ, gL_sC, gL_sO, gL_sD, gQ_sI, gQ_sA, gQ_sL, gQ_sC, gQ_sO, gO_sI, gO_sA, gO_sL, gO_sQ, gO_sC, gO_sO, gO_sD, gA_eq, gA_ne, gQ_eq, gQ_ne, gL_sL, gA_cin, gA_cou, gQ_cin, gQ_cou, Nat.reduceAdd, Nat.reduceSub, Nat.reduceMul, Nat.reduceLT, Nat.reduceEqDiff, eq_self, true_and, and_true, and_false, false_and, if_true, if_false, and_self, Bool.true_eq_false, Bool.false_eq_true]; exact h5
    have q : (nI 0 = nI 0) = True := eq_true rfl
    simp only [f_M_corridor_j136, h5, e1, e2, zI_0, q, if_true, f_M_stands, zI_1]
  generalize sI (sI (sI t 1007 0 (nI 0)) 1008 0 (gI t 1006 0)) 1046 0 (nI 1) = t1 at *
  obtain ⟨t2, e2, b1, F2⟩ := sn7 (N := N) (v := fun j => gA t1 28 j) hN 4 0 N t1 (by omega) (by omega) (fun j _ => rfl) (fun j hj => absurd hj (Nat.not_lt_zero _))
  obtain ⟨t3, e3, c1, F3⟩ := sn34 (N := N) (v := fun j => gA t2 31 j) (u := fun j => gA t2 32 j) hN 12 0 N t2 (by omega) (by omega) (fun j _ => ⟨rfl, rfl⟩) (fun j hj => absurd hj (Nat.not_lt_zero _))
  obtain ⟨t4, e4, c2, F4⟩ := sn78 (N := N) (z := fun j => gQ t3 29 j) hN 10 0 N t3 (by omega) (by omega) (fun j _ => rfl) (fun j hj => absurd hj (Nat.not_lt_zero _))
  have F14 : Fr [28, 31, 32, 5029] t1 t4 := Fr_t (Fr_w F2 (by decide)) (Fr_t (Fr_w F3 (by decide)) (Fr_w F4 (by decide)))
  obtain ⟨t5, e5, c3, F5⟩ := sn107 (N := N) (M := M) (v := fun j => gA t4 33 j) hMp hN M 0 N t4 (by omega) (by omega) (by rw [F14.I 1044 0 (by decide), F1.I 1044 0 (by decide)]; exact m8) (fun j _ => rfl) (fun j hj => absurd hj (Nat.not_lt_zero _))
  obtain ⟨t6, e6, c4, F6⟩ := sn139 (N := N) hN 205 0 N t5 (by omega) (by omega) (fun j hj => absurd hj (Nat.not_lt_zero _))
  have F16 : Fr [28, 31, 32, 5029, 33, 34] t1 t6 := Fr_t (Fr_w F14 (by decide)) (Fr_t (Fr_w F5 (by decide)) (Fr_w F6 (by decide)))
  have F26 : Fr [31, 32, 5029, 33, 34] t2 t6 := Fr_t (Fr_w F3 (by decide)) (Fr_t (Fr_w F4 (by decide)) (Fr_t (Fr_w F5 (by decide)) (Fr_w F6 (by decide))))
  have g28 : ∀ j, j < 4 → gA t6 28 j = gA t 28 j ∧ gA t6 28 (4 + j) = gA t 28 j := fun j hj => ⟨by rw [F26.A 28 j (by decide), (b1 j hj).1, F1.A 28 j (by decide)], by rw [F26.A 28 _ (by decide), (b1 j hj).2, F1.A 28 j (by decide)]⟩
  obtain ⟨t7, e7, c5, c6, c7, c8, F7⟩ := sn161 (N := N) (D := pD A) (op := op) (pt := pt) a1 hop hN (pD A) 0 N t6 (by omega) (by omega) ((g28 0 (by omega)).1.trans m1') (by rw [F16.I 1040 0 (by decide), F1.I 1040 0 (by decide)]; exact m5) (fun d hd => by rw [F16.A 30 d (by decide), F1.A 30 d (by decide)]; exact m6 d hd) (fun d hd => absurd hd (Nat.not_lt_zero _)) (fun j hj _ => c4 j hj)
  have FA : Fr kGm t t7 := Fr_t (Fr_w F1 (by decide)) (Fr_t (Fr_w F16 (by decide)) (Fr_w F7 (by decide)))
  have F17 : Fr [28, 31, 32, 5029, 33, 34, 116100, 115500] t1 t7 := Fr_t (Fr_w F16 (by decide)) (Fr_w F7 (by decide))
  have F37 : Fr [5029, 33, 34, 116100, 115500] t3 t7 := Fr_t (Fr_w F4 (by decide)) (Fr_t (Fr_w F5 (by decide)) (Fr_t (Fr_w F6 (by decide)) (Fr_w F7 (by decide))))
  have k28 : ∀ j, j < 4 → gA t7 28 (4 + j) = gA t 28 j := fun j hj => by rw [F7.A 28 _ (by decide)]; exact (g28 j hj).2
  have k31 : ∀ j, j < 12 → gA t7 31 (12 + j) = gA t 31 j ∧ gA t7 32 (12 + j) = gA t 32 j := fun j hj => ⟨by rw [F37.A 31 _ (by decide), (c1 j hj).1, F2.A 31 j (by decide), F1.A 31 j (by decide)], by rw [F37.A 32 _ (by decide), (c1 j hj).2, F2.A 32 j (by decide), F1.A 32 j (by decide)]⟩
  have k29 : ∀ j, j < 10 → gQ t7 29 (10 + j) = gQ t 29 j := fun j hj => by
    rw [F7.Q 29 _ (by decide), F6.Q 29 _ (by decide), F5.Q 29 _ (by decide), c2 j hj, F3.Q 29 j (by decide), F2.Q 29 j (by decide), F1.Q 29 j (by decide)]
  have k33 : ∀ j, j < M → gA t7 33 (1600 + j) = gA t 33 j := fun j hj => by
    rw [F7.A 33 _ (by decide), F6.A 33 _ (by decide), c3 j hj, F14.A 33 j (by decide), F1.A 33 j (by decide)]
  have mc : ∀ w, w < 12 → MCd A w M t → MC A w t7 := fun w hw h => by
    obtain ⟨fr, g1, g2, g3, g4⟩ := h
    refine ⟨fr, by omega, by rw [(k31 w hw).1]; exact g2, by rw [(k31 w hw).2]; exact g3, fun i hi => by rw [k33 _ (by omega)]; exact g4 i hi⟩
  refine ⟨t7, ?_, ⟨⟨(k28 0 (by omega)).trans m1', (k28 1 (by omega)).trans m2, (k28 2 (by omega)).trans m3, (k28 3 (by omega)).trans m4, fun p hp => mc p (by omega) (m9 p hp), fun _ => ⟨fun c => mc 10 (by omega) (m10 c), fun c => ((k31 10 (by omega)).1).trans (m11 c), fun c => mc 11 (by omega) (m12 c), fun c => ((k31 11 (by omega)).1).trans (m13 c)⟩⟩, ⟨fun p hp => by rw [k29 p (by omega)]; exact m7 p hp, MWd_fr FA (by decide) R.2.1⟩, ⟨⟨?_, ?_, fun d hd => ⟨?_, ?_, ?_⟩, fun p hp => ?_⟩, ?_, ?_, fun k hk => absurd hk (Nat.not_lt_zero _)⟩, ⟨c8, fun k hk => absurd hk (Nat.not_lt_zero _)⟩, ⟨c7, ne, hne, by rw [FA.I 1062 0 (by decide)]; exact hn2, fun k hk => absurd hk (Nat.not_lt_zero _)⟩, ?_⟩, ?_, ?_, FA⟩
  · rw [head, e2, e3, e4, e5, e6, e7, Option.bind_some, FA.I 1045 0 (by decide), hx]
  · rw [hBeg_0 (by omega) (by omega)]; exact c6 0 (by omega) (by omega)
  · rw [hBeg_0 (by omega) (by omega)]; exact c6 1 (by omega) (by omega)
  · rw [hBeg_2, (c5 d hd).1, bit_b01]
  · rw [hBeg_0 (by omega) (by omega)]; exact c6 _ (by omega) (by omega)
  · rw [hBeg_p (by omega)]; exact (c5 d hd).2
  · rw [hBeg_0 (by omega) (by omega)]; exact c6 _ (by omega) (by omega)
  · rw [FA.I 1053 0 (by decide)]; exact h53
  · exact c6 84 (by omega) (by omega)
  · rw [if_pos h0, F17.I 1046 0 (by decide)]; exact d3
  · rw [F17.I 1007 0 (by decide)]; exact d1
  · rw [F17.I 1008 0 (by decide)]; exact d2
end STANDS
