/-! WHERE A TEST GOES ON -/
noncomputable def kTm (N k2 : Nat) (p5 : Int32 × mS) : Option mS := if p5.1 = 0 then mfix k2 (f_M_qTest_L2 N) (0, p5.2) else mfix k2 (f_M_qTest_L2 N) (1, p5.2)
def rTS (N : Nat) (Q : mS → Prop) (m : Nat) (t : mS) : Prop := ∀ k2, m ≤ k2 → Ok (mfix k2 (f_M_qTest_L2 N) (nI 1, t)) Q
def rTG (N : Nat) (Q : mS → Prop) (m : Nat) (t : mS) : Prop := ∀ kg k2, m ≤ kg → m ≤ k2 → Ok ((mfix kg (f_M_qGoesOnTest_L0 N) t).bind (kTm N k2)) Q
def rDN (N : Nat) (Q : mS → Prop) (m w : Nat) (t : mS) : Prop := ∀ kd, w ≤ kd → Ok (mfix kd (f_M_qDropsNots_L0 N) t) (fun t' => gI t' 1005 0 = nI 0 ∧ rTG N Q m t')
/-- a fault, no matter how many codes -/
def BU (t0 : mS) (k w : Nat) (t : mS) : Prop := BdM k w t ∧ Fr kMq t0 t
def AllT (W : List Nat) : Prop := ∀ x ∈ W, 10 ≤ x ∧ x < 10000
section FACT
variable {N n p o : Nat} {tp : Nat → Nat} {b : Bool} {s s0 t t0 : mS} {kd mk pg r k w m c x : Nat} {al : Nat → Bool} {L C W V pend : List Nat} {Q : mS → Prop}
theorem AllT_c {x : Nat} (hx : 10 ≤ x ∧ x < 10000) (h : AllT W) : AllT (x :: W) := fun y hy => by
  rcases List.mem_cons.mp hy with rfl | hy
  · exact hx
  · exact h y hy
theorem AllT_t (h : AllT W) : TopT W := fun x W' e => h x (by rw [e]; exact List.mem_cons_self ..)
theorem BT_U (h : BT t0 k w t) : BU t0 k w t := ⟨h.1, h.2.1⟩
theorem TL110_b (h : BU t0 k w t) {k2 : Nat} (h2 : 1 ≤ k2) (hQ : ∀ t', BU t0 k w t' → Q t') : Ok (mfix k2 (f_M_qTest_L110 N) t) Q := by
  have e5 := h.1.2.2.1
  have h1 := h.1.1
  have h3 := h.1.2.1
  rw [mfix_1 (by omega)]
  simp (disch := first | omega | decide) only [f_M_qTest_L110, e5, zI_0, zI_1, zI_2, zI_3, zI_4, zI_5, zI_6, zI_7, zI_8, zI_9, zI_10, zI_11, zI_12, zI_13, zI_14, zI_15, zI_16, zI_17, zI_18, zI_19, zI_20, zI_21, zI_22, zI_23, zI_24, zI_25, zI_26, zI_27, zI_28, zI_29, zI_30, zI_31, zI_32, zI_33, zI_34, zI_35, zI_36, zI_37, zI_38, zI_39, zI_40, zI_41, zI_42, zI_43, zI_44, zI_45, zI_46, zI_47, zI_48, zI_49, zI_50, zI_51, zI_52, zI_53, zI_54, zI_55, zI_56, zI_57, zI_58, zI_59, zI_60, zI_61, zI_62, zI_63, zI_64, zI_65, zI_66, zI_67, zI_74, zI_84, zI_85, zI_88, zI_91, zI_93, zI_97, zI_99, zI_100, zI_102, zI_105, zI_117, zI_122, zI_193, zI_202, zI_205, zI_251, zI_255, zI_256, zI_257, zI_258, zI_259, zI_260, zI_640, zI_999, zI_1000, zI_1024, zI_1600, zI_1602, zI_1700, zI_2040, zI_3200, zI_4100, zI_9728, zI_11784, zI_61440, zI_65536, zI_470536, zI_999999, zI_1000000, lt_T, lt_F, le_T, le_F, eq_T, eq_F, neg_1, cn_m1p, cn_m11, nI_add, cn_sub, pk_mul, cn_div, cn_irm, cn_lt, cn_eq, cn_ltm1, cn_m1lt, cn_eqm1, cn_m1eq, cn_ix, cn_inb, cn_ninb, cn_irs, cn_ils, cn_and, cn_or, cn_xor, grd_t, grd_bt, grd_bl, Nat.add_zero, Nat.zero_add, Nat.reduceAdd, Nat.reduceSub, Nat.reduceMul, Nat.reduceLT, Nat.reduceEqDiff, eq_self, true_and, and_true, and_false, false_and, if_true, if_false, and_self, Bool.true_eq_false, Bool.false_eq_true]
  exact Ok_some (hQ t h)
theorem TS_bad (hN : 10000 ≤ N) (h : BU t0 k w t) {x : Int32} {k2 : Nat} (h2 : 1 ≤ k2) (hQ : ∀ t', BU t0 k w t' → Q t') : Ok (mfix k2 (f_M_qTest_L2 N) (x, t)) Q := by
  have e5 := h.1.2.2.1
  have h1 := h.1.1
  have h3 := h.1.2.1
  rw [mfix_1 (by omega)]
  have e : f_M_qTest_L2 N (mfix (k2 - 1) (f_M_qTest_L2 N)) (x, t) = mfix N (f_M_qTest_L110 N) t := by
    by_cases c : x = 0
    · simp only [f_M_qTest_L2, c, if_true]
    · simp (disch := first | omega | decide) only [f_M_qTest_L2, c, if_false, e5, zI_0, zI_1, zI_2, zI_3, zI_4, zI_5, zI_6, zI_7, zI_8, zI_9, zI_10, zI_11, zI_12, zI_13, zI_14, zI_15, zI_16, zI_17, zI_18, zI_19, zI_20, zI_21, zI_22, zI_23, zI_24, zI_25, zI_26, zI_27, zI_28, zI_29, zI_30, zI_31, zI_32, zI_33, zI_34, zI_35, zI_36, zI_37, zI_38, zI_39, zI_40, zI_41, zI_42, zI_43, zI_44, zI_45, zI_46, zI_47, zI_48, zI_49, zI_50, zI_51, zI_52, zI_53, zI_54, zI_55, zI_56, zI_57, zI_58, zI_59, zI_60, zI_61, zI_62, zI_63, zI_64, zI_65, zI_66, zI_67, zI_74, zI_84, zI_85, zI_88, zI_91, zI_93, zI_97, zI_99, zI_100, zI_102, zI_105, zI_117, zI_122, zI_193, zI_202, zI_205, zI_251, zI_255, zI_256, zI_257, zI_258, zI_259, zI_260, zI_640, zI_999, zI_1000, zI_1024, zI_1600, zI_1602, zI_1700, zI_2040, zI_3200, zI_4100, zI_9728, zI_11784, zI_61440, zI_65536, zI_470536, zI_999999, zI_1000000, lt_T, lt_F, le_T, le_F, eq_T, eq_F, neg_1, cn_m1p, cn_m11, nI_add, cn_sub, pk_mul, cn_div, cn_irm, cn_lt, cn_eq, cn_ltm1, cn_m1lt, cn_eqm1, cn_m1eq, cn_ix, cn_inb, cn_ninb, cn_irs, cn_ils, cn_and, cn_or, cn_xor, grd_t, grd_bt, grd_bl, Nat.add_zero, Nat.zero_add, Nat.reduceAdd, Nat.reduceSub, Nat.reduceMul, Nat.reduceLT, Nat.reduceEqDiff, eq_self, true_and, and_true, and_false, false_and, if_true, if_false, and_self, Bool.true_eq_false, Bool.false_eq_true, ite_self]
  rw [e]
  exact TL110_b h (by omega) hQ
theorem kT_bad (hN : 10000 ≤ N) (h : BU t0 k w t) {x : Int32} {k2 : Nat} (h2 : 1 ≤ k2) (hQ : ∀ t', BU t0 k w t' → Q t') : Ok (kTm N k2 (x, t)) Q := by
  unfold kTm
  split
  · exact TS_bad hN h h2 hQ
  · exact TS_bad hN h h2 hQ
/-- what a single test's loop sees -/
theorem TS_look (hh : RT tp n kd t0 p b o C W 0 t) (hN : 10000 ≤ N) :
    gI t 1005 0 = nI 0 ∧ f_M_look N t = some (chM tp n p, lk tp n p t) ∧ gI (lk tp n p t) 1002 0 = nI (skp tp n p) ∧ ((chM tp n p = nI 91) = (kK tp n p b = 91)) ∧
    f_M_isHere N 47 (lk tp n p t) = some (nI (if wdA tp n p b = 22 then 1 else 0), lk tp n p t) := by
  obtain ⟨e1, e2, e3, e4⟩ := r_eq hh
  obtain ⟨h, hL, g2⟩ := RT_lk hh
  have ll := lk_RL hL
  refine ⟨e2, look_b hh.2.1 hN, g2, chM_sg (b := b) (p := p) (c := 91) ⟨by decide, by decide⟩ (RB_ht hh.2.1), ?_⟩
  have i := isHere_b (N := N) (o := 47) (RL_RB hL) (by decide) hN
  rwa [ll, show woJ 47 + 1 = 22 from by decide] at i
/-- nots are put down -/
theorem DN_drop (hn : C.length + W.length < 1600) (h : RT tp n kd t0 p b (o + 1) C (12 :: W) 0 t) (ho : o < 100) (hk : ∀ t', RT tp n kd t0 p b o (C ++ [12]) W 0 t' → rDN N Q m w t') : rDN N Q m (w + 1) t := by
  intro kd' hke
  rw [mfix_1 (by omega)]
  obtain ⟨e1, e2, e3, e4⟩ := r_eq h
  have i := isOn_c (N := N) (a := 12) (W := W) h.2.2.2.1 (by omega) (by omega) (by omega)
  have F2 : Fr [119100] t (sI t 1091 0 (nI o)) := Fr_sI _ _ _ (by decide)
  obtain ⟨h1, h2, h3, h4, h5, h6, h7⟩ := h
  obtain ⟨t', f, R⟩ := r_drop (N := N) (c := 12) (tp := tp) (n := n) (kd := kd) (t0 := t0) (p := p) (b := b) (o := o) (C := C) (W := W) (B := 0) (t := sI t 1091 0 (nI o)) (by omega) ⟨Fr_t h1 (Fr_w F2 (by decide)), RB_fr F2 (by decide) h2, RCd_fr F2 (by decide) h3, RWt_fr F2 (by decide) h4, by simp (disch := first | omega | decide) only [gI_sI, gI_sA, gI_sL, gI_sQ, gI_sC, gI_sO, gI_sD, gA_sI, gA_sL, gA_sQ, gA_sO, gA_sD, gL_sI, gL_sA, gL_sQ, gL_sC, gL_sO, gL_sD, gQ_sI, gQ_sA, gQ_sL, gQ_sC, gQ_sO, gO_sI, gO_sA, gO_sL, gO_sQ, gO_sC, gO_sO, gO_sD, gA_eq, gA_ne, gQ_eq, gQ_ne, gL_sL, gA_cin, gA_cou, gQ_cin, gQ_cou, Nat.reduceAdd, Nat.reduceSub, Nat.reduceMul, Nat.reduceLT, Nat.reduceEqDiff, eq_self, true_and, and_true, and_false, false_and, if_true, if_false, and_self, Bool.true_eq_false, Bool.false_eq_true], by rw [F2.I 1092 0 (by decide)]; exact h6, by rw [F2.I 1047 0 (by decide)]; exact h7⟩
  simp (disch := first | omega | decide) only [f_M_qDropsNots_L0, e2, e4, i, f, zI_0, zI_1, zI_2, zI_3, zI_4, zI_5, zI_6, zI_7, zI_8, zI_9, zI_10, zI_11, zI_12, zI_13, zI_14, zI_15, zI_16, zI_17, zI_18, zI_19, zI_20, zI_21, zI_22, zI_23, zI_24, zI_25, zI_26, zI_27, zI_28, zI_29, zI_30, zI_31, zI_32, zI_33, zI_34, zI_35, zI_36, zI_37, zI_38, zI_39, zI_40, zI_41, zI_42, zI_43, zI_44, zI_45, zI_46, zI_47, zI_48, zI_49, zI_50, zI_51, zI_52, zI_53, zI_54, zI_55, zI_56, zI_57, zI_58, zI_59, zI_60, zI_61, zI_62, zI_63, zI_64, zI_65, zI_66, zI_67, zI_74, zI_84, zI_85, zI_88, zI_91, zI_93, zI_97, zI_99, zI_100, zI_102, zI_105, zI_117, zI_122, zI_193, zI_202, zI_205, zI_251, zI_255, zI_256, zI_257, zI_258, zI_259, zI_260, zI_640, zI_999, zI_1000, zI_1024, zI_1600, zI_1602, zI_1700, zI_2040, zI_3200, zI_4100, zI_9728, zI_11784, zI_61440, zI_65536, zI_470536, zI_999999, zI_1000000, lt_T, lt_F, le_T, le_F, eq_T, eq_F, neg_1, cn_m1p, cn_m11, nI_add, cn_sub, pk_mul, cn_div, cn_irm, cn_lt, cn_eq, cn_ltm1, cn_m1lt, cn_eqm1, cn_m1eq, cn_ix, cn_inb, cn_ninb, cn_irs, cn_ils, cn_and, cn_or, cn_xor, grd_t, grd_bt, grd_bl, Nat.add_zero, Nat.zero_add, Nat.reduceAdd, Nat.reduceSub, Nat.reduceMul, Nat.reduceLT, Nat.reduceEqDiff, eq_self, true_and, and_true, and_false, false_and, if_true, if_false, and_self, Bool.true_eq_false, Bool.false_eq_true, Nat.add_sub_cancel, Option.bind_some]
  exact hk t' R (kd' - 1) (by omega)
theorem DN_stop (h : RT tp n kd t0 p b o C W 0 t) (hn : W.length < 1650) (hW : ∀ x W', W = x :: W' → x ≠ 12 ∧ x < 10000) (hk : rTG N Q m t) : rDN N Q m (w + 1) t := by
  intro kd' hke
  rw [mfix_1 (by omega)]
  obtain ⟨e1, e2, e3, e4⟩ := r_eq h
  have fin : Ok (some t) (fun t' => gI t' 1005 0 = nI 0 ∧ rTG N Q m t') := Ok_some ⟨e2, hk⟩
  have i : f_M_qIsOn N (nI 12) t = some (nI 0, t) := by
    cases hw : W with
    | nil => rw [hw] at h; exact isOn_0 h.2.2.2.1
    | cons x W' =>
      have hx := hW x W' hw
      rw [hw] at h hn
      rw [List.length_cons] at hn
      have i := isOn_c (N := N) (a := 12) h.2.2.2.1 hx.2 (by omega) (by omega)
      rwa [if_neg hx.1] at i
  simp (disch := first | omega | decide) only [f_M_qDropsNots_L0, e2, i, zI_0, zI_1, zI_2, zI_3, zI_4, zI_5, zI_6, zI_7, zI_8, zI_9, zI_10, zI_11, zI_12, zI_13, zI_14, zI_15, zI_16, zI_17, zI_18, zI_19, zI_20, zI_21, zI_22, zI_23, zI_24, zI_25, zI_26, zI_27, zI_28, zI_29, zI_30, zI_31, zI_32, zI_33, zI_34, zI_35, zI_36, zI_37, zI_38, zI_39, zI_40, zI_41, zI_42, zI_43, zI_44, zI_45, zI_46, zI_47, zI_48, zI_49, zI_50, zI_51, zI_52, zI_53, zI_54, zI_55, zI_56, zI_57, zI_58, zI_59, zI_60, zI_61, zI_62, zI_63, zI_64, zI_65, zI_66, zI_67, zI_74, zI_84, zI_85, zI_88, zI_91, zI_93, zI_97, zI_99, zI_100, zI_102, zI_105, zI_117, zI_122, zI_193, zI_202, zI_205, zI_251, zI_255, zI_256, zI_257, zI_258, zI_259, zI_260, zI_640, zI_999, zI_1000, zI_1024, zI_1600, zI_1602, zI_1700, zI_2040, zI_3200, zI_4100, zI_9728, zI_11784, zI_61440, zI_65536, zI_470536, zI_999999, zI_1000000, lt_T, lt_F, le_T, le_F, eq_T, eq_F, neg_1, cn_m1p, cn_m11, nI_add, cn_sub, pk_mul, cn_div, cn_irm, cn_lt, cn_eq, cn_ltm1, cn_m1lt, cn_eqm1, cn_m1eq, cn_ix, cn_inb, cn_ninb, cn_irs, cn_ils, cn_and, cn_or, cn_xor, grd_t, grd_bt, grd_bl, Nat.add_zero, Nat.zero_add, Nat.reduceAdd, Nat.reduceSub, Nat.reduceMul, Nat.reduceLT, Nat.reduceEqDiff, eq_self, true_and, and_true, and_false, false_and, if_true, if_false, and_self, Bool.true_eq_false, Bool.false_eq_true, Option.bind_some]
  exact fin
/-- the test's loop, a comparison told or a fault -/
theorem TS_fact (hh : RT tp n kd t0 p b o C W 0 t) (hN : 10000 ≤ N) (hm : 1 ≤ m) (hmN : m + 1 ≤ N) (k91 : kK tp n p b ≠ 91) (w22 : wdA tp n p b ≠ 22)
    (hf : (∃ t', f_M_qFact N (lk tp n p t) = some t' ∧ gI t' 1005 0 = nI 0 ∧ ∃ w, w ≤ N ∧ rDN N Q m w t') ∨ (∃ k w t', f_M_qFact N (lk tp n p t) = some t' ∧ BU t0 k w t' ∧ ∀ t', BU t0 k w t' → Q t')) : rTS N Q (m + 1) t := by
  intro k2 h2
  rw [mfix_1 (by omega)]
  obtain ⟨e2, l, g2, sg, i47⟩ := TS_look hh hN
  have sg := sg.trans (eq_false k91)
  rw [if_neg w22] at i47
  have head : f_M_qTest_L2 N (mfix (k2 - 1) (f_M_qTest_L2 N)) (nI 1, t) = (f_M_qFact N (lk tp n p t)).bind fun p3 => (f_M_qDropsNots N p3).bind fun p4 => if (gI p4 1005 0) = nI 0 then (f_M_qGoesOnTest N p4).bind (kTm N (k2 - 1)) else mfix (k2 - 1) (f_M_qTest_L2 N) (nI 0, p4) := by
    unfold kTm
    simp (disch := first | omega | decide) only [f_M_qTest_L2, e2, l, sg, i47, zI_0, zI_1, zI_2, zI_3, zI_4, zI_5, zI_6, zI_7, zI_8, zI_9, zI_10, zI_11, zI_12, zI_13, zI_14, zI_15, zI_16, zI_17, zI_18, zI_19, zI_20, zI_21, zI_22, zI_23, zI_24, zI_25, zI_26, zI_27, zI_28, zI_29, zI_30, zI_31, zI_32, zI_33, zI_34, zI_35, zI_36, zI_37, zI_38, zI_39, zI_40, zI_41, zI_42, zI_43, zI_44, zI_45, zI_46, zI_47, zI_48, zI_49, zI_50, zI_51, zI_52, zI_53, zI_54, zI_55, zI_56, zI_57, zI_58, zI_59, zI_60, zI_61, zI_62, zI_63, zI_64, zI_65, zI_66, zI_67, zI_74, zI_84, zI_85, zI_88, zI_91, zI_93, zI_97, zI_99, zI_100, zI_102, zI_105, zI_117, zI_122, zI_193, zI_202, zI_205, zI_251, zI_255, zI_256, zI_257, zI_258, zI_259, zI_260, zI_640, zI_999, zI_1000, zI_1024, zI_1600, zI_1602, zI_1700, zI_2040, zI_3200, zI_4100, zI_9728, zI_11784, zI_61440, zI_65536, zI_470536, zI_999999, zI_1000000, lt_T, lt_F, le_T, le_F, eq_T, eq_F, neg_1, cn_m1p, cn_m11, nI_add, cn_sub, pk_mul, cn_div, cn_irm, cn_lt, cn_eq, cn_ltm1, cn_m1lt, cn_eqm1, cn_m1eq, cn_ix, cn_inb, cn_ninb, cn_irs, cn_ils, cn_and, cn_or, cn_xor, grd_t, grd_bt, grd_bl, Nat.add_zero, Nat.zero_add, Nat.reduceAdd, Nat.reduceSub, Nat.reduceMul, Nat.reduceLT, Nat.reduceEqDiff, eq_self, true_and, and_true, and_false, false_and, if_true, if_false, and_self, Bool.true_eq_false, Bool.false_eq_true, Option.bind_some]
    rfl
  rw [head]
  rcases hf with ⟨t', f, r5, w, hw, hd⟩ | ⟨k, w, t', f, D, hQ⟩
  · obtain ⟨t4, f4, r1, r2⟩ := hd N hw
    have f4 : f_M_qDropsNots N t' = some t4 := f4
    simp (disch := first | omega | decide) only [f, f4, r1, zI_0, zI_1, zI_2, zI_3, zI_4, zI_5, zI_6, zI_7, zI_8, zI_9, zI_10, zI_11, zI_12, zI_13, zI_14, zI_15, zI_16, zI_17, zI_18, zI_19, zI_20, zI_21, zI_22, zI_23, zI_24, zI_25, zI_26, zI_27, zI_28, zI_29, zI_30, zI_31, zI_32, zI_33, zI_34, zI_35, zI_36, zI_37, zI_38, zI_39, zI_40, zI_41, zI_42, zI_43, zI_44, zI_45, zI_46, zI_47, zI_48, zI_49, zI_50, zI_51, zI_52, zI_53, zI_54, zI_55, zI_56, zI_57, zI_58, zI_59, zI_60, zI_61, zI_62, zI_63, zI_64, zI_65, zI_66, zI_67, zI_74, zI_84, zI_85, zI_88, zI_91, zI_93, zI_97, zI_99, zI_100, zI_102, zI_105, zI_117, zI_122, zI_193, zI_202, zI_205, zI_251, zI_255, zI_256, zI_257, zI_258, zI_259, zI_260, zI_640, zI_999, zI_1000, zI_1024, zI_1600, zI_1602, zI_1700, zI_2040, zI_3200, zI_4100, zI_9728, zI_11784, zI_61440, zI_65536, zI_470536, zI_999999, zI_1000000, lt_T, lt_F, le_T, le_F, eq_T, eq_F, neg_1, cn_m1p, cn_m11, nI_add, cn_sub, pk_mul, cn_div, cn_irm, cn_lt, cn_eq, cn_ltm1, cn_m1lt, cn_eqm1, cn_m1eq, cn_ix, cn_inb, cn_ninb, cn_irs, cn_ils, cn_and, cn_or, cn_xor, grd_t, grd_bt, grd_bl, Nat.add_zero, Nat.zero_add, Nat.reduceAdd, Nat.reduceSub, Nat.reduceMul, Nat.reduceLT, Nat.reduceEqDiff, eq_self, true_and, and_true, and_false, false_and, if_true, if_false, and_self, Bool.true_eq_false, Bool.false_eq_true, Option.bind_some]
    exact r2 N (k2 - 1) (by omega) (by omega)
  · have e5 := D.1.2.2.1
    have h1 := D.1.1
    have h3 := D.1.2.1
    have f4 : f_M_qDropsNots N t' = some t' := by
      unfold f_M_qDropsNots
      rw [mfix_1 (by omega)]
      simp (disch := first | omega | decide) only [f_M_qDropsNots_L0, e5, zI_0, zI_1, zI_2, zI_3, zI_4, zI_5, zI_6, zI_7, zI_8, zI_9, zI_10, zI_11, zI_12, zI_13, zI_14, zI_15, zI_16, zI_17, zI_18, zI_19, zI_20, zI_21, zI_22, zI_23, zI_24, zI_25, zI_26, zI_27, zI_28, zI_29, zI_30, zI_31, zI_32, zI_33, zI_34, zI_35, zI_36, zI_37, zI_38, zI_39, zI_40, zI_41, zI_42, zI_43, zI_44, zI_45, zI_46, zI_47, zI_48, zI_49, zI_50, zI_51, zI_52, zI_53, zI_54, zI_55, zI_56, zI_57, zI_58, zI_59, zI_60, zI_61, zI_62, zI_63, zI_64, zI_65, zI_66, zI_67, zI_74, zI_84, zI_85, zI_88, zI_91, zI_93, zI_97, zI_99, zI_100, zI_102, zI_105, zI_117, zI_122, zI_193, zI_202, zI_205, zI_251, zI_255, zI_256, zI_257, zI_258, zI_259, zI_260, zI_640, zI_999, zI_1000, zI_1024, zI_1600, zI_1602, zI_1700, zI_2040, zI_3200, zI_4100, zI_9728, zI_11784, zI_61440, zI_65536, zI_470536, zI_999999, zI_1000000, lt_T, lt_F, le_T, le_F, eq_T, eq_F, neg_1, cn_m1p, cn_m11, nI_add, cn_sub, pk_mul, cn_div, cn_irm, cn_lt, cn_eq, cn_ltm1, cn_m1lt, cn_eqm1, cn_m1eq, cn_ix, cn_inb, cn_ninb, cn_irs, cn_ils, cn_and, cn_or, cn_xor, grd_t, grd_bt, grd_bl, Nat.add_zero, Nat.zero_add, Nat.reduceAdd, Nat.reduceSub, Nat.reduceMul, Nat.reduceLT, Nat.reduceEqDiff, eq_self, true_and, and_true, and_false, false_and, if_true, if_false, and_self, Bool.true_eq_false, Bool.false_eq_true]
    have q : (nI k = nI 0) = False := by rw [cn_eq (by omega)]; exact eq_false (by omega)
    simp (disch := first | omega | decide) only [f, f4, e5, q, Nat.reduceAdd, Nat.reduceSub, Nat.reduceMul, Nat.reduceLT, Nat.reduceEqDiff, eq_self, true_and, and_true, and_false, false_and, if_true, if_false, and_self, Bool.true_eq_false, Bool.false_eq_true, Option.bind_some]
    exact TS_bad hN D (by omega) hQ
/-- squares -/
theorem SkA_ex : ∀ {W : List Nat}, SkA W t → ∀ x ∈ W, ∃ j, j < W.length ∧ gA t 65 j = nI x
  | [], _, x, hx => by cases hx
  | y :: W, h, x, hx => by
    rcases List.mem_cons.mp hx with rfl | hx
    · exact ⟨W.length, by rw [List.length_cons]; omega, h.1⟩
    · obtain ⟨j, h1, h2⟩ := SkA_ex h.2 x hx
      exact ⟨j, by rw [List.length_cons]; omega, h2⟩
theorem SkA_al : ∀ {W : List Nat}, SkA W t → ∀ j, j < W.length → ∃ x, x ∈ W ∧ gA t 65 j = nI x
  | [], _, j, hj => absurd hj (Nat.not_lt_zero _)
  | y :: W, h, j, hj => by
    rw [List.length_cons] at hj
    by_cases c : j = W.length
    · subst c
      exact ⟨y, List.mem_cons_self .., h.1⟩
    · obtain ⟨x, h1, h2⟩ := SkA_al h.2 j (by omega)
      exact ⟨x, List.mem_cons_of_mem _ h1, h2⟩
theorem hs_1 (h : RWt W t) (hA : ∀ x ∈ W, x < 10000) (hW : 25 ∈ W) (hl : W.length < 1650) (hN : 10000 ≤ N) : f_M_qHasSquare N t = some (nI 1, t) := by
  obtain ⟨j, j1, j2⟩ := SkA_ex h.2 25 hW
  have e1 := h.1
  have key : ∀ d i k, i + d = j → d < k → mfix k (f_M_qHasSquare_L2 N) (nI i, t) = some (nI 1, t) := by
    intro d
    induction d with
    | zero =>
      intro i k hi hk
      have : i = j := by omega
      subst this
      rw [mfix_1 (by omega)]
      simp (disch := first | omega | decide) only [f_M_qHasSquare_L2, e1, j2, zI_0, zI_1, zI_2, zI_3, zI_4, zI_5, zI_6, zI_7, zI_8, zI_9, zI_10, zI_11, zI_12, zI_13, zI_14, zI_15, zI_16, zI_17, zI_18, zI_19, zI_20, zI_21, zI_22, zI_23, zI_24, zI_25, zI_26, zI_27, zI_28, zI_29, zI_30, zI_31, zI_32, zI_33, zI_34, zI_35, zI_36, zI_37, zI_38, zI_39, zI_40, zI_41, zI_42, zI_43, zI_44, zI_45, zI_46, zI_47, zI_48, zI_49, zI_50, zI_51, zI_52, zI_53, zI_54, zI_55, zI_56, zI_57, zI_58, zI_59, zI_60, zI_61, zI_62, zI_63, zI_64, zI_65, zI_66, zI_67, zI_74, zI_84, zI_85, zI_88, zI_91, zI_93, zI_97, zI_99, zI_100, zI_102, zI_105, zI_117, zI_122, zI_193, zI_202, zI_205, zI_251, zI_255, zI_256, zI_257, zI_258, zI_259, zI_260, zI_640, zI_999, zI_1000, zI_1024, zI_1600, zI_1602, zI_1700, zI_2040, zI_3200, zI_4100, zI_9728, zI_11784, zI_61440, zI_65536, zI_470536, zI_999999, zI_1000000, lt_T, lt_F, le_T, le_F, eq_T, eq_F, neg_1, cn_m1p, cn_m11, nI_add, cn_sub, pk_mul, cn_div, cn_irm, cn_lt, cn_eq, cn_ltm1, cn_m1lt, cn_eqm1, cn_m1eq, cn_ix, cn_inb, cn_ninb, cn_irs, cn_ils, cn_and, cn_or, cn_xor, grd_t, grd_bt, grd_bl, Nat.add_zero, Nat.zero_add, Nat.reduceAdd, Nat.reduceSub, Nat.reduceMul, Nat.reduceLT, Nat.reduceEqDiff, eq_self, true_and, and_true, and_false, false_and, if_true, if_false, and_self, Bool.true_eq_false, Bool.false_eq_true]
    | succ d ih =>
      intro i k hi hk
      obtain ⟨x, x1, x2⟩ := SkA_al h.2 i (by omega)
      have hx := hA x x1
      rw [mfix_1 (by omega)]
      by_cases c : x = 25
      · simp (disch := first | omega | decide) only [f_M_qHasSquare_L2, e1, x2, c, zI_0, zI_1, zI_2, zI_3, zI_4, zI_5, zI_6, zI_7, zI_8, zI_9, zI_10, zI_11, zI_12, zI_13, zI_14, zI_15, zI_16, zI_17, zI_18, zI_19, zI_20, zI_21, zI_22, zI_23, zI_24, zI_25, zI_26, zI_27, zI_28, zI_29, zI_30, zI_31, zI_32, zI_33, zI_34, zI_35, zI_36, zI_37, zI_38, zI_39, zI_40, zI_41, zI_42, zI_43, zI_44, zI_45, zI_46, zI_47, zI_48, zI_49, zI_50, zI_51, zI_52, zI_53, zI_54, zI_55, zI_56, zI_57, zI_58, zI_59, zI_60, zI_61, zI_62, zI_63, zI_64, zI_65, zI_66, zI_67, zI_74, zI_84, zI_85, zI_88, zI_91, zI_93, zI_97, zI_99, zI_100, zI_102, zI_105, zI_117, zI_122, zI_193, zI_202, zI_205, zI_251, zI_255, zI_256, zI_257, zI_258, zI_259, zI_260, zI_640, zI_999, zI_1000, zI_1024, zI_1600, zI_1602, zI_1700, zI_2040, zI_3200, zI_4100, zI_9728, zI_11784, zI_61440, zI_65536, zI_470536, zI_999999, zI_1000000, lt_T, lt_F, le_T, le_F, eq_T, eq_F, neg_1, cn_m1p, cn_m11, nI_add, cn_sub, pk_mul, cn_div, cn_irm, cn_lt, cn_eq, cn_ltm1, cn_m1lt, cn_eqm1, cn_m1eq, cn_ix, cn_inb, cn_ninb, cn_irs, cn_ils, cn_and, cn_or, cn_xor, grd_t, grd_bt, grd_bl, Nat.add_zero, Nat.zero_add, Nat.reduceAdd, Nat.reduceSub, Nat.reduceMul, Nat.reduceLT, Nat.reduceEqDiff, eq_self, true_and, and_true, and_false, false_and, if_true, if_false, and_self, Bool.true_eq_false, Bool.false_eq_true]
      · simp (disch := first | omega | decide) only [f_M_qHasSquare_L2, e1, x2, c, zI_0, zI_1, zI_2, zI_3, zI_4, zI_5, zI_6, zI_7, zI_8, zI_9, zI_10, zI_11, zI_12, zI_13, zI_14, zI_15, zI_16, zI_17, zI_18, zI_19, zI_20, zI_21, zI_22, zI_23, zI_24, zI_25, zI_26, zI_27, zI_28, zI_29, zI_30, zI_31, zI_32, zI_33, zI_34, zI_35, zI_36, zI_37, zI_38, zI_39, zI_40, zI_41, zI_42, zI_43, zI_44, zI_45, zI_46, zI_47, zI_48, zI_49, zI_50, zI_51, zI_52, zI_53, zI_54, zI_55, zI_56, zI_57, zI_58, zI_59, zI_60, zI_61, zI_62, zI_63, zI_64, zI_65, zI_66, zI_67, zI_74, zI_84, zI_85, zI_88, zI_91, zI_93, zI_97, zI_99, zI_100, zI_102, zI_105, zI_117, zI_122, zI_193, zI_202, zI_205, zI_251, zI_255, zI_256, zI_257, zI_258, zI_259, zI_260, zI_640, zI_999, zI_1000, zI_1024, zI_1600, zI_1602, zI_1700, zI_2040, zI_3200, zI_4100, zI_9728, zI_11784, zI_61440, zI_65536, zI_470536, zI_999999, zI_1000000, lt_T, lt_F, le_T, le_F, eq_T, eq_F, neg_1, cn_m1p, cn_m11, nI_add, cn_sub, pk_mul, cn_div, cn_irm, cn_lt, cn_eq, cn_ltm1, cn_m1lt, cn_eqm1, cn_m1eq, cn_ix, cn_inb, cn_ninb, cn_irs, cn_ils, cn_and, cn_or, cn_xor, grd_t, grd_bt, grd_bl, Nat.add_zero, Nat.zero_add, Nat.reduceAdd, Nat.reduceSub, Nat.reduceMul, Nat.reduceLT, Nat.reduceEqDiff, eq_self, true_and, and_true, and_false, false_and, if_true, if_false, and_self, Bool.true_eq_false, Bool.false_eq_true]
        exact ih (i + 1) (k - 1) (by omega) (by omega)
  exact key j 0 N (by omega) (by omega)
theorem hs_0 (h : RWt W t) (hA : ∀ x ∈ W, x < 10000) (hW : 25 ∉ W) (hl : W.length < 1650) (hN : 10000 ≤ N) : f_M_qHasSquare N t = some (nI 0, t) := by
  have e1 := h.1
  have key : ∀ d i k, i + d = W.length → d < k → mfix k (f_M_qHasSquare_L2 N) (nI i, t) = some (nI 0, t) := by
    intro d
    induction d with
    | zero =>
      intro i k hi hk
      rw [mfix_1 (by omega)]
      simp (disch := first | omega | decide) only [f_M_qHasSquare_L2, e1, zI_0, zI_1, zI_2, zI_3, zI_4, zI_5, zI_6, zI_7, zI_8, zI_9, zI_10, zI_11, zI_12, zI_13, zI_14, zI_15, zI_16, zI_17, zI_18, zI_19, zI_20, zI_21, zI_22, zI_23, zI_24, zI_25, zI_26, zI_27, zI_28, zI_29, zI_30, zI_31, zI_32, zI_33, zI_34, zI_35, zI_36, zI_37, zI_38, zI_39, zI_40, zI_41, zI_42, zI_43, zI_44, zI_45, zI_46, zI_47, zI_48, zI_49, zI_50, zI_51, zI_52, zI_53, zI_54, zI_55, zI_56, zI_57, zI_58, zI_59, zI_60, zI_61, zI_62, zI_63, zI_64, zI_65, zI_66, zI_67, zI_74, zI_84, zI_85, zI_88, zI_91, zI_93, zI_97, zI_99, zI_100, zI_102, zI_105, zI_117, zI_122, zI_193, zI_202, zI_205, zI_251, zI_255, zI_256, zI_257, zI_258, zI_259, zI_260, zI_640, zI_999, zI_1000, zI_1024, zI_1600, zI_1602, zI_1700, zI_2040, zI_3200, zI_4100, zI_9728, zI_11784, zI_61440, zI_65536, zI_470536, zI_999999, zI_1000000, lt_T, lt_F, le_T, le_F, eq_T, eq_F, neg_1, cn_m1p, cn_m11, nI_add, cn_sub, pk_mul, cn_div, cn_irm, cn_lt, cn_eq, cn_ltm1, cn_m1lt, cn_eqm1, cn_m1eq, cn_ix, cn_inb, cn_ninb, cn_irs, cn_ils, cn_and, cn_or, cn_xor, grd_t, grd_bt, grd_bl, Nat.add_zero, Nat.zero_add, Nat.reduceAdd, Nat.reduceSub, Nat.reduceMul, Nat.reduceLT, Nat.reduceEqDiff, eq_self, true_and, and_true, and_false, false_and, if_true, if_false, and_self, Bool.true_eq_false, Bool.false_eq_true]
    | succ d ih =>
      intro i k hi hk
      obtain ⟨x, x1, x2⟩ := SkA_al h.2 i (by omega)
      have hx := hA x x1
      have c : x ≠ 25 := fun e => hW (e ▸ x1)
      rw [mfix_1 (by omega)]
      simp (disch := first | omega | decide) only [f_M_qHasSquare_L2, e1, x2, c, zI_0, zI_1, zI_2, zI_3, zI_4, zI_5, zI_6, zI_7, zI_8, zI_9, zI_10, zI_11, zI_12, zI_13, zI_14, zI_15, zI_16, zI_17, zI_18, zI_19, zI_20, zI_21, zI_22, zI_23, zI_24, zI_25, zI_26, zI_27, zI_28, zI_29, zI_30, zI_31, zI_32, zI_33, zI_34, zI_35, zI_36, zI_37, zI_38, zI_39, zI_40, zI_41, zI_42, zI_43, zI_44, zI_45, zI_46, zI_47, zI_48, zI_49, zI_50, zI_51, zI_52, zI_53, zI_54, zI_55, zI_56, zI_57, zI_58, zI_59, zI_60, zI_61, zI_62, zI_63, zI_64, zI_65, zI_66, zI_67, zI_74, zI_84, zI_85, zI_88, zI_91, zI_93, zI_97, zI_99, zI_100, zI_102, zI_105, zI_117, zI_122, zI_193, zI_202, zI_205, zI_251, zI_255, zI_256, zI_257, zI_258, zI_259, zI_260, zI_640, zI_999, zI_1000, zI_1024, zI_1600, zI_1602, zI_1700, zI_2040, zI_3200, zI_4100, zI_9728, zI_11784, zI_61440, zI_65536, zI_470536, zI_999999, zI_1000000, lt_T, lt_F, le_T, le_F, eq_T, eq_F, neg_1, cn_m1p, cn_m11, nI_add, cn_sub, pk_mul, cn_div, cn_irm, cn_lt, cn_eq, cn_ltm1, cn_m1lt, cn_eqm1, cn_m1eq, cn_ix, cn_inb, cn_ninb, cn_irs, cn_ils, cn_and, cn_or, cn_xor, grd_t, grd_bt, grd_bl, Nat.add_zero, Nat.zero_add, Nat.reduceAdd, Nat.reduceSub, Nat.reduceMul, Nat.reduceLT, Nat.reduceEqDiff, eq_self, true_and, and_true, and_false, false_and, if_true, if_false, and_self, Bool.true_eq_false, Bool.false_eq_true]
      exact ih (i + 1) (k - 1) (by omega) (by omega)
  exact key W.length 0 N (by omega) (by omega)
def OpT (l : List Nat) : Prop := ∀ x ∈ l, x = 10 ∨ x = 11
theorem L33_n (hN : 10000 ≤ N) {k0 : mS → Option (Int32 × mS)} : ∀ {pend C : List Nat} {t : mS} (k : Nat), OpT pend → RT tp n kd t0 p b (o + 1) C (pend ++ 25 :: W) 0 t → o < 100 → C.length + (pend ++ 25 :: W).length < 1650 → pend.length < k → ∃ t', mfix k (f_M_qGoesOnTest_L33 N k0) t = (f_M_qDropsNots N t').bind k0 ∧ RT tp n kd t0 p b o (C ++ pend) W 0 t'
  | [], C, t, k, hp, h, ho, hn, hk => by
    rw [mfix_1 (by omega)]
    rw [List.nil_append] at h hn
    rw [List.length_cons] at hn
    have i := isOn_c (N := N) (a := 25) (W := W) h.2.2.2.1 (by omega) (by omega) (by omega)
    obtain ⟨h1, h2, h3, h4, h5, h6, h7⟩ := h
    have F3 : Fr [119000, 119100] t (sI (sI t 1090 0 (nI W.length)) 1091 0 (nI o)) := Fr_t (Fr_sI _ _ _ (by decide)) (Fr_sI _ _ _ (by decide))
    have i1 : gI t 1090 0 = nI (W.length + 1) := h4.1
    refine ⟨sI (sI t 1090 0 (nI W.length)) 1091 0 (nI o), ?_, by rw [List.append_nil]; exact ⟨Fr_t h1 (Fr_w F3 (by decide)), RB_fr F3 (by decide) h2, RCd_fr F3 (by decide) h3, ⟨by simp (disch := first | omega | decide) only [gI_sI, gI_sA, gI_sL, gI_sQ, gI_sC, gI_sO, gI_sD, gA_sI, gA_sL, gA_sQ, gA_sO, gA_sD, gL_sI, gL_sA, gL_sQ, gL_sC, gL_sO, gL_sD, gQ_sI, gQ_sA, gQ_sL, gQ_sC, gQ_sO, gO_sI, gO_sA, gO_sL, gO_sQ, gO_sC, gO_sO, gO_sD, gA_eq, gA_ne, gQ_eq, gQ_ne, gL_sL, gA_cin, gA_cou, gQ_cin, gQ_cou, Nat.reduceAdd, Nat.reduceSub, Nat.reduceMul, Nat.reduceLT, Nat.reduceEqDiff, eq_self, true_and, and_true, and_false, false_and, if_true, if_false, and_self, Bool.true_eq_false, Bool.false_eq_true], SkA_cong (t := t) (fun _ _ => rfl) h4.2.2⟩, by simp (disch := first | omega | decide) only [gI_sI, gI_sA, gI_sL, gI_sQ, gI_sC, gI_sO, gI_sD, gA_sI, gA_sL, gA_sQ, gA_sO, gA_sD, gL_sI, gL_sA, gL_sQ, gL_sC, gL_sO, gL_sD, gQ_sI, gQ_sA, gQ_sL, gQ_sC, gQ_sO, gO_sI, gO_sA, gO_sL, gO_sQ, gO_sC, gO_sO, gO_sD, gA_eq, gA_ne, gQ_eq, gQ_ne, gL_sL, gA_cin, gA_cou, gQ_cin, gQ_cou, Nat.reduceAdd, Nat.reduceSub, Nat.reduceMul, Nat.reduceLT, Nat.reduceEqDiff, eq_self, true_and, and_true, and_false, false_and, if_true, if_false, and_self, Bool.true_eq_false, Bool.false_eq_true], by rw [F3.I 1092 0 (by decide)]; exact h6, by rw [F3.I 1047 0 (by decide)]; exact h7⟩⟩
    simp (disch := first | omega | decide) only [f_M_qGoesOnTest_L33, i, i1, h5, zI_0, zI_1, zI_2, zI_3, zI_4, zI_5, zI_6, zI_7, zI_8, zI_9, zI_10, zI_11, zI_12, zI_13, zI_14, zI_15, zI_16, zI_17, zI_18, zI_19, zI_20, zI_21, zI_22, zI_23, zI_24, zI_25, zI_26, zI_27, zI_28, zI_29, zI_30, zI_31, zI_32, zI_33, zI_34, zI_35, zI_36, zI_37, zI_38, zI_39, zI_40, zI_41, zI_42, zI_43, zI_44, zI_45, zI_46, zI_47, zI_48, zI_49, zI_50, zI_51, zI_52, zI_53, zI_54, zI_55, zI_56, zI_57, zI_58, zI_59, zI_60, zI_61, zI_62, zI_63, zI_64, zI_65, zI_66, zI_67, zI_74, zI_84, zI_85, zI_88, zI_91, zI_93, zI_97, zI_99, zI_100, zI_102, zI_105, zI_117, zI_122, zI_193, zI_202, zI_205, zI_251, zI_255, zI_256, zI_257, zI_258, zI_259, zI_260, zI_640, zI_999, zI_1000, zI_1024, zI_1600, zI_1602, zI_1700, zI_2040, zI_3200, zI_4100, zI_9728, zI_11784, zI_61440, zI_65536, zI_470536, zI_999999, zI_1000000, lt_T, lt_F, le_T, le_F, eq_T, eq_F, neg_1, cn_m1p, cn_m11, nI_add, cn_sub, pk_mul, cn_div, cn_irm, cn_lt, cn_eq, cn_ltm1, cn_m1lt, cn_eqm1, cn_m1eq, cn_ix, cn_inb, cn_ninb, cn_irs, cn_ils, cn_and, cn_or, cn_xor, grd_t, grd_bt, grd_bl, Nat.add_zero, Nat.zero_add, Nat.reduceAdd, Nat.reduceSub, Nat.reduceMul, Nat.reduceLT, Nat.reduceEqDiff, eq_self, true_and, and_true, and_false, false_and, if_true, if_false, and_self, Bool.true_eq_false, Bool.false_eq_true, gI_sI, gI_sA, gI_sL, gI_sQ, gI_sC, gI_sO, gI_sD, gA_sI, gA_sL, gA_sQ, gA_sO, gA_sD, gL_sI, gL_sA, gL_sQ, gL_sC, gL_sO, gL_sD, gQ_sI, gQ_sA, gQ_sL, gQ_sC, gQ_sO, gO_sI, gO_sA, gO_sL, gO_sQ, gO_sC, gO_sO, gO_sD, gA_eq, gA_ne, gQ_eq, gQ_ne, gL_sL, gA_cin, gA_cou, gQ_cin, gQ_cou, Nat.add_sub_cancel, Option.bind_some]
  | y :: pend, C, t, k, hp, h, ho, hn, hk => by
    rw [mfix_1 (by omega)]
    have hy := hp y (List.mem_cons_self ..)
    have hn' := hn
    rw [List.cons_append, List.length_cons, List.length_append, List.length_cons] at hn'
    have i := isOn_c (N := N) (a := 25) (W := pend ++ 25 :: W) h.2.2.2.1 (by omega) (by omega) (by rw [List.length_append, List.length_cons]; omega)
    rw [if_neg (by omega)] at i
    obtain ⟨t1, f, R⟩ := r_drop (N := N) (c := y) (W := pend ++ 25 :: W) (by rw [List.length_append, List.length_cons]; omega) h
    rw [List.length_cons] at hk
    obtain ⟨t2, f2, R2⟩ := L33_n hN (k0 := k0) (pend := pend) (C := C ++ [y]) (t := t1) (k - 1) (fun z hz => hp z (List.mem_cons_of_mem _ hz)) R ho (by rw [List.length_append, List.length_singleton, List.length_append, List.length_cons]; omega) (by omega)
    rw [List.append_assoc] at R2
    refine ⟨t2, ?_, R2⟩
    simp (disch := first | omega | decide) only [f_M_qGoesOnTest_L33, i, f, zI_0, zI_1, zI_2, zI_3, zI_4, zI_5, zI_6, zI_7, zI_8, zI_9, zI_10, zI_11, zI_12, zI_13, zI_14, zI_15, zI_16, zI_17, zI_18, zI_19, zI_20, zI_21, zI_22, zI_23, zI_24, zI_25, zI_26, zI_27, zI_28, zI_29, zI_30, zI_31, zI_32, zI_33, zI_34, zI_35, zI_36, zI_37, zI_38, zI_39, zI_40, zI_41, zI_42, zI_43, zI_44, zI_45, zI_46, zI_47, zI_48, zI_49, zI_50, zI_51, zI_52, zI_53, zI_54, zI_55, zI_56, zI_57, zI_58, zI_59, zI_60, zI_61, zI_62, zI_63, zI_64, zI_65, zI_66, zI_67, zI_74, zI_84, zI_85, zI_88, zI_91, zI_93, zI_97, zI_99, zI_100, zI_102, zI_105, zI_117, zI_122, zI_193, zI_202, zI_205, zI_251, zI_255, zI_256, zI_257, zI_258, zI_259, zI_260, zI_640, zI_999, zI_1000, zI_1024, zI_1600, zI_1602, zI_1700, zI_2040, zI_3200, zI_4100, zI_9728, zI_11784, zI_61440, zI_65536, zI_470536, zI_999999, zI_1000000, lt_T, lt_F, le_T, le_F, eq_T, eq_F, neg_1, cn_m1p, cn_m11, nI_add, cn_sub, pk_mul, cn_div, cn_irm, cn_lt, cn_eq, cn_ltm1, cn_m1lt, cn_eqm1, cn_m1eq, cn_ix, cn_inb, cn_ninb, cn_irs, cn_ils, cn_and, cn_or, cn_xor, grd_t, grd_bt, grd_bl, Nat.add_zero, Nat.zero_add, Nat.reduceAdd, Nat.reduceSub, Nat.reduceMul, Nat.reduceLT, Nat.reduceEqDiff, eq_self, true_and, and_true, and_false, false_and, if_true, if_false, and_self, Bool.true_eq_false, Bool.false_eq_true, Option.bind_some]
    exact f2
/-- a square closes -/
theorem TG_close (hh : RT tp n kd t0 p b (o + 1) C (pend ++ 25 :: W) 0 t) (hA : AllT W) (hp : OpT pend) (hl : C.length + (pend ++ 25 :: W).length < 1650) (hk : kK tp n p b = 93) (ho : o < 100) (hN : 10000 ≤ N) (hm : 1 ≤ m)
    (hc : ∀ t', RT tp n kd t0 (skp tp n p + 1) false o (C ++ pend) W 0 t' → rDN N Q m (W.length + 1) t') : rTG N Q (m + 1) t := by
  intro kg k2 h1 h2
  rw [mfix_1 (by omega)]
  obtain ⟨e1, e2, e3, e4⟩ := r_eq hh
  have l := look_b hh.2.1 hN
  have sg := (chM_sg (b := b) (p := p) (c := 93) ⟨by decide, by decide⟩ (RB_ht hh.2.1)).trans (eq_true hk)
  obtain ⟨k1, k2', k3, k4⟩ := kK_sg (c := 93) ⟨by decide, by decide⟩ hk
  have hpn := hh.2.1.2.2.2.1
  have sb := skp_b (tp := tp) hpn
  have hl2 := hl
  rw [List.length_append, List.length_cons] at hl2
  obtain ⟨h, hL, g2⟩ := RT_lk hh
  generalize lk tp n p t = t1 at *
  have hs := hs_1 (N := N) h.2.2.2.1 (fun x hx => by
    rcases List.mem_append.mp hx with hx | hx
    · have := hp x hx; omega
    · rcases List.mem_cons.mp hx with rfl | hx
      · omega
      · exact (hA x hx).2) (List.mem_append_right _ (List.mem_cons_self ..)) (by omega) hN
  have h2' : RT tp n kd t0 (skp tp n p + 1) false (o + 1) C (pend ++ 25 :: W) 0 (sI t1 1002 0 (nI (skp tp n p + 1))) :=
    RT_st (Fr_sI _ _ _ (by decide)) (l := [110200]) (by decide) (RB_sg (by omega) sb.1 (RL_RB hL)) h
  obtain ⟨t2, f2, R2⟩ := L33_n (N := N) hN (k0 := mfix (kg - 1) (f_M_qGoesOnTest_L0 N)) N hp h2' ho hl (by omega)
  obtain ⟨t4, f4, r1, r2⟩ := hc t2 R2 N (by omega)
  have f4 : f_M_qDropsNots N t2 = some t4 := f4
  rw [f4, Option.bind_some] at f2
  have j : f_M_qGoesOnTest_L0 N (mfix (kg - 1) (f_M_qGoesOnTest_L0 N)) t = mfix (kg - 1) (f_M_qGoesOnTest_L0 N) t4 := by
    rw [← f2]
    simp (disch := first | omega | decide) only [f_M_qGoesOnTest_L0, e2, l, sg, hs, g2, zI_0, zI_1, zI_2, zI_3, zI_4, zI_5, zI_6, zI_7, zI_8, zI_9, zI_10, zI_11, zI_12, zI_13, zI_14, zI_15, zI_16, zI_17, zI_18, zI_19, zI_20, zI_21, zI_22, zI_23, zI_24, zI_25, zI_26, zI_27, zI_28, zI_29, zI_30, zI_31, zI_32, zI_33, zI_34, zI_35, zI_36, zI_37, zI_38, zI_39, zI_40, zI_41, zI_42, zI_43, zI_44, zI_45, zI_46, zI_47, zI_48, zI_49, zI_50, zI_51, zI_52, zI_53, zI_54, zI_55, zI_56, zI_57, zI_58, zI_59, zI_60, zI_61, zI_62, zI_63, zI_64, zI_65, zI_66, zI_67, zI_74, zI_84, zI_85, zI_88, zI_91, zI_93, zI_97, zI_99, zI_100, zI_102, zI_105, zI_117, zI_122, zI_193, zI_202, zI_205, zI_251, zI_255, zI_256, zI_257, zI_258, zI_259, zI_260, zI_640, zI_999, zI_1000, zI_1024, zI_1600, zI_1602, zI_1700, zI_2040, zI_3200, zI_4100, zI_9728, zI_11784, zI_61440, zI_65536, zI_470536, zI_999999, zI_1000000, lt_T, lt_F, le_T, le_F, eq_T, eq_F, neg_1, cn_m1p, cn_m11, nI_add, cn_sub, pk_mul, cn_div, cn_irm, cn_lt, cn_eq, cn_ltm1, cn_m1lt, cn_eqm1, cn_m1eq, cn_ix, cn_inb, cn_ninb, cn_irs, cn_ils, cn_and, cn_or, cn_xor, grd_t, grd_bt, grd_bl, Nat.add_zero, Nat.zero_add, Nat.reduceAdd, Nat.reduceSub, Nat.reduceMul, Nat.reduceLT, Nat.reduceEqDiff, eq_self, true_and, and_true, and_false, false_and, if_true, if_false, and_self, Bool.true_eq_false, Bool.false_eq_true, Option.bind_some]
  rw [j]
  exact r2 (kg - 1) k2 (by omega) (by omega)
/-- neither of the two joining words stands there -/
def NoBo (w : Nat) : Prop := w ≠ 21 ∧ w ≠ 20
theorem TG_no (h : RT tp n kd t0 p b o C W 0 t) (hL : RL tp n p b t) (hno : NoBo (wdA tp n p b)) (hN : 10000 ≤ N) :
    f_M_qGoesOnTest_j76 N t = (f_M_qHasSquare N t).bind fun p3 => if p3.1 = nI 0 then some (nI 0, p3.2) else (f_M_fail N (nI 1) (gI p3.2 1002 0) p3.2).bind fun p4 => some (nI 0, p4) := by
  obtain ⟨n1, n2⟩ := hno
  have hR := RL_RB hL
  have l := lk_RL hL
  have e5 := hR.2.2.1
  have a1 := (takes_b (N := N) hR (show 48 ∈ kWo by decide) hN).2 n1
  have a2 := (takes_b (N := N) hR (show 49 ∈ kWo by decide) hN).2 n2
  rw [l] at a1 a2
  unfold f_M_qGoesOnTest_j76
  simp only [zI_0, zI_1, zI_2, zI_3, zI_4, zI_5, zI_6, zI_7, zI_8, zI_9, zI_10, zI_11, zI_12, zI_13, zI_14, zI_15, zI_16, zI_17, zI_18, zI_19, zI_20, zI_21, zI_22, zI_23, zI_24, zI_25, zI_26, zI_27, zI_28, zI_29, zI_30, zI_31, zI_32, zI_33, zI_34, zI_35, zI_36, zI_37, zI_38, zI_39, zI_40, zI_41, zI_42, zI_43, zI_44, zI_45, zI_46, zI_47, zI_48, zI_49, zI_50, zI_51, zI_52, zI_53, zI_54, zI_55, zI_56, zI_57, zI_58, zI_59, zI_60, zI_61, zI_62, zI_63, zI_64, zI_65, zI_66, zI_67, zI_74, zI_84, zI_85, zI_88, zI_91, zI_93, zI_97, zI_99, zI_100, zI_102, zI_105, zI_117, zI_122, zI_193, zI_202, zI_205, zI_251, zI_255, zI_256, zI_257, zI_258, zI_259, zI_260, zI_640, zI_999, zI_1000, zI_1024, zI_1600, zI_1602, zI_1700, zI_2040, zI_3200, zI_4100, zI_9728, zI_11784, zI_61440, zI_65536, zI_470536, zI_999999, zI_1000000, a1, a2, e5, Option.bind_some, eq_self, if_true]
  rfl
theorem TG_fail (hh : RT tp n kd t0 p b o C (pend ++ 25 :: W) 0 t) (hA : AllT W) (hp : OpT pend) (hl : C.length + (pend ++ 25 :: W).length < 1650) (hk : kK tp n p b ≠ 93) (hno : NoBo (wdA tp n p b)) (hN : 10000 ≤ N) (hm : 1 ≤ m)
    (hQ : ∀ t', BU t0 1 (skp tp n p) t' → Q t') : rTG N Q m t := by
  intro kg k2 h1 h2
  rw [mfix_1 (by omega)]
  have hl2 := hl
  rw [List.length_append, List.length_cons] at hl2
  obtain ⟨e1, e2, e3, e4⟩ := r_eq hh
  have l := look_b hh.2.1 hN
  have sg := (chM_sg (b := b) (p := p) (c := 93) ⟨by decide, by decide⟩ (RB_ht hh.2.1)).trans (eq_false hk)
  obtain ⟨h, hL, g2⟩ := RT_lk hh
  generalize lk tp n p t = t1 at *
  have hs := hs_1 (N := N) h.2.2.2.1 (fun x hx => by
    rcases List.mem_append.mp hx with hx | hx
    · have := hp x hx; omega
    · rcases List.mem_cons.mp hx with rfl | hx
      · omega
      · exact (hA x hx).2) (List.mem_append_right _ (List.mem_cons_self ..)) (by omega) hN
  obtain ⟨t2, f, D, F⟩ := mfail_l (N := N) (t := t1) (k := 1) (w := skp tp n p) (r_eq h).2.1 (by omega)
  have j : f_M_qGoesOnTest_L0 N (mfix (kg - 1) (f_M_qGoesOnTest_L0 N)) t = some (nI 0, t2) := by
    have g := TG_no h hL hno hN
    simp (disch := first | omega | decide) only [f_M_qGoesOnTest_L0, e2, l, sg, g, hs, g2, f, zI_0, zI_1, zI_2, zI_3, zI_4, zI_5, zI_6, zI_7, zI_8, zI_9, zI_10, zI_11, zI_12, zI_13, zI_14, zI_15, zI_16, zI_17, zI_18, zI_19, zI_20, zI_21, zI_22, zI_23, zI_24, zI_25, zI_26, zI_27, zI_28, zI_29, zI_30, zI_31, zI_32, zI_33, zI_34, zI_35, zI_36, zI_37, zI_38, zI_39, zI_40, zI_41, zI_42, zI_43, zI_44, zI_45, zI_46, zI_47, zI_48, zI_49, zI_50, zI_51, zI_52, zI_53, zI_54, zI_55, zI_56, zI_57, zI_58, zI_59, zI_60, zI_61, zI_62, zI_63, zI_64, zI_65, zI_66, zI_67, zI_74, zI_84, zI_85, zI_88, zI_91, zI_93, zI_97, zI_99, zI_100, zI_102, zI_105, zI_117, zI_122, zI_193, zI_202, zI_205, zI_251, zI_255, zI_256, zI_257, zI_258, zI_259, zI_260, zI_640, zI_999, zI_1000, zI_1024, zI_1600, zI_1602, zI_1700, zI_2040, zI_3200, zI_4100, zI_9728, zI_11784, zI_61440, zI_65536, zI_470536, zI_999999, zI_1000000, lt_T, lt_F, le_T, le_F, eq_T, eq_F, neg_1, cn_m1p, cn_m11, nI_add, cn_sub, pk_mul, cn_div, cn_irm, cn_lt, cn_eq, cn_ltm1, cn_m1lt, cn_eqm1, cn_m1eq, cn_ix, cn_inb, cn_ninb, cn_irs, cn_ils, cn_and, cn_or, cn_xor, grd_t, grd_bt, grd_bl, Nat.add_zero, Nat.zero_add, Nat.reduceAdd, Nat.reduceSub, Nat.reduceMul, Nat.reduceLT, Nat.reduceEqDiff, eq_self, true_and, and_true, and_false, false_and, if_true, if_false, and_self, Bool.true_eq_false, Bool.false_eq_true, Option.bind_some]
  rw [j, Option.bind_some]
  exact kT_bad hN (BT_U (BT_of h (by omega) F (by decide) (by decide) D)) (by omega) hQ
end FACT
