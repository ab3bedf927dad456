/-! WHAT BOTH SIDES DO WITH A FACT, A TEST -/
def SWT (W : List Nat) : Prop := ∀ x W', W = x :: W' → x ≠ 10 ∧ x ≠ 11 ∧ x ≠ 12 ∧ x < 10000
section CLAIMT
variable (N : Nat) (tp : Nat → Nat) (n kd mk pg : Nat) (al : Nat → Bool)
def TsB (p : Nat) (b : Bool) (o k w : Nat) : Prop := ∀ t0 Q C W t, RT tp n kd t0 p b o C W 0 t → C.length + W.length ≤ p → AllT W → (∀ t', BU t0 k w t' → Q t') → rTS N Q (n - p + 5) t
def TsG (p : Nat) (b : Bool) (o : Nat) (e : List Nat) (p' : Nat) (b' : Bool) : Prop := ∀ t0 Q C W t, RT tp n kd t0 p b o C W 0 t → C.length + W.length ≤ p → AllT W → (∀ t', RT tp n kd t0 p' b' o (C ++ e) W 0 t' → rDN N Q (n - p' + 5) (W.length + 1) t') → rTS N Q (n - p + 5) t
def TeB (p : Nat) (b : Bool) (o k w : Nat) : Prop := ∀ t0 Q C W t, RT tp n kd t0 p b o C W 0 t → C.length + W.length ≤ p → AllT W → SWT W → (∀ t', BU t0 k w t' → Q t') → rTS N Q (n - p + 5) t
def TeG (p : Nat) (b : Bool) (o : Nat) (es pend : List Nat) (p' : Nat) (b' : Bool) : Prop := ∀ t0 Q C W t, RT tp n kd t0 p b o C W 0 t → C.length + W.length ≤ p → AllT W → SWT W → (∀ t', RT tp n kd t0 p' b' o (C ++ es) (pend ++ W) 0 t' → rTG N Q (n - p' + 5) t') → rTS N Q (n - p + 5) t
def FactR (r o : Nat) (s0 : mS) (p : Nat) (b : Bool) (L : List Nat) (s : mS) : Prop :=
  (∃ k w s', f_Rd_grp N r 1 s = some s' ∧ CD pg s0 k w s' ∧ TsB N tp n kd p b o k w) ∨
  (∃ e p' b' s', f_Rd_grp N r 1 s = some s' ∧ CX tp n pg s0 p' b' o (L ++ e) s' ∧ p < p' ∧ e.length ≤ p' - p ∧ ckN al e (4 + 3 * (6 - o)) true ∧ TsG N tp n kd p b o e p' b')
def FactC (r o : Nat) : Prop := ∀ s0 p b L s, CE tp n pg mk s0 → CX tp n pg s0 p b o L s → L.length ≤ p → FactR N tp n kd pg al r o s0 p b L s
def TestR (r o : Nat) (s0 : mS) (p : Nat) (b : Bool) (L : List Nat) (s : mS) : Prop :=
  (∃ k w s', f_Rd_grp N r 0 s = some s' ∧ CD pg s0 k w s' ∧ TeB N tp n kd p b o k w) ∨
  (∃ es pend p' b' s', f_Rd_grp N r 0 s = some s' ∧ CX tp n pg s0 p' b' o (L ++ (es ++ pend)) s' ∧ p < p' ∧ (es ++ pend).length ≤ p' - p ∧ ckN al (es ++ pend) (6 + 3 * (6 - o)) true ∧ OpT pend ∧ NoBo (wdA tp n p' b') ∧ TeG N tp n kd p b o es pend p' b')
def TestC (r o : Nat) : Prop := ∀ s0 p b L s, CE tp n pg mk s0 → CX tp n pg s0 p b o L s → L.length ≤ p → TestR N tp n kd pg al r o s0 p b L s
end CLAIMT
section QFACT
variable {N n p p1 p2 o : Nat} {tp : Nat → Nat} {b b1 b2 : Bool} {t t0 : mS} {kd k w c : Nat} {C W e e2 : List Nat}
def CmK (K c : Nat) : Prop := (K = 60 ∧ c = 7) ∨ (K = 62 ∧ c = 8) ∨ (K = 61 ∧ c = 9)
theorem qF_tk (hL : RL tp n p b t) (w23 : wdA tp n p b ≠ 23) (hN : 10000 ≤ N) : f_M_takes N 50 t = some (nI 0, t) := by
  have f := (takes_b (N := N) (RL_RB hL) (show 50 ∈ kWo by decide) hN).2 w23
  rwa [lk_RL hL] at f
theorem qF_bad (h : RT tp n kd t0 p b o C W 0 t) (hL : RL tp n p b t) (w23 : wdA tp n p b ≠ 23) (hCW : C.length + W.length ≤ p) (hA : AllT W) (hN : 10000 ≤ N) (hB : SqB N tp n kd p b o k w) : ∃ t', f_M_qFact N t = some t' ∧ BU t0 k w t' := by
  have f0 := qF_tk hL w23 hN
  obtain ⟨t2, f2, D2⟩ := hB t0 C W 0 t h hCW (by omega) (AllT_t hA)
  have h1 := D2.1.1
  have h2 := D2.1.2.1
  have h3 := D2.1.2.2.1
  refine ⟨t2, ?_, BT_U D2⟩
  simp (disch := first | omega | decide) only [f_M_qFact, f0, f2, h3, zI_0, zI_1, zI_2, zI_3, zI_4, zI_5, zI_6, zI_7, zI_8, zI_9, zI_10, zI_11, zI_12, zI_13, zI_14, zI_15, zI_16, zI_17, zI_18, zI_19, zI_20, zI_21, zI_22, zI_23, zI_24, zI_25, zI_26, zI_27, zI_28, zI_29, zI_30, zI_31, zI_32, zI_33, zI_34, zI_35, zI_36, zI_37, zI_38, zI_39, zI_40, zI_41, zI_42, zI_43, zI_44, zI_45, zI_46, zI_47, zI_48, zI_49, zI_50, zI_51, zI_52, zI_53, zI_54, zI_55, zI_56, zI_57, zI_58, zI_59, zI_60, zI_61, zI_62, zI_63, zI_64, zI_65, zI_66, zI_67, zI_74, zI_84, zI_85, zI_88, zI_91, zI_93, zI_97, zI_99, zI_100, zI_102, zI_105, zI_117, zI_122, zI_193, zI_202, zI_205, zI_251, zI_255, zI_256, zI_257, zI_258, zI_259, zI_260, zI_640, zI_999, zI_1000, zI_1024, zI_1600, zI_1602, zI_1700, zI_2040, zI_3200, zI_4100, zI_9728, zI_11784, zI_61440, zI_65536, zI_470536, zI_999999, zI_1000000, lt_T, lt_F, le_T, le_F, eq_T, eq_F, neg_1, cn_m1p, cn_m11, nI_add, cn_sub, pk_mul, cn_div, cn_irm, cn_lt, cn_eq, cn_ltm1, cn_m1lt, cn_eqm1, cn_m1eq, cn_ix, cn_inb, cn_ninb, cn_irs, cn_ils, cn_and, cn_or, cn_xor, grd_t, grd_bt, grd_bl, Nat.add_zero, Nat.zero_add, Nat.reduceAdd, Nat.reduceSub, Nat.reduceMul, Nat.reduceLT, Nat.reduceEqDiff, eq_self, true_and, and_true, and_false, false_and, if_true, if_false, and_self, Bool.true_eq_false, Bool.false_eq_true, Option.bind_some]
/-- the first of the two sums, then what stands there -/
theorem qF_look (h : RT tp n kd t0 p b o C W 0 t) (hG : SqG N tp n kd p b o e p1 b1) (hCW : C.length + W.length ≤ p) (hA : AllT W) (hN : 10000 ≤ N) : ∃ t2, f_M_qSums N t = some t2 ∧ gI t2 1005 0 = nI 0 ∧ f_M_look N t2 = some (chM tp n p1, lk tp n p1 t2) ∧ RT tp n kd t0 p1 b1 o (C ++ e) W 0 (lk tp n p1 t2) ∧ RL tp n p1 b1 (lk tp n p1 t2) ∧ gI (lk tp n p1 t2) 1002 0 = nI (skp tp n p1) ∧ ∀ c, SgC c → (chM tp n p1 = nI c) = (kK tp n p1 b1 = c) := by
  obtain ⟨t2, f2, R2⟩ := hG t0 C W 0 t h hCW (by omega) (AllT_t hA)
  obtain ⟨h', hL', g2⟩ := RT_lk R2
  exact ⟨t2, f2, (r_eq R2).2.1, look_b R2.2.1 hN, h', hL', g2, fun c hc => chM_sg hc (RB_ht R2.2.1)⟩
theorem qF_sign (h : RT tp n kd t0 p b o C W 0 t) (hL : RL tp n p b t) (w23 : wdA tp n p b ≠ 23) (hCW : C.length + W.length ≤ p) (hA : AllT W) (hN : 10000 ≤ N) (hG : SqG N tp n kd p b o e p1 b1) (hl : C.length + e.length ≤ 1600) (hk : ∀ c, ¬ CmK (kK tp n p1 b1) c) : ∃ t', f_M_qFact N t = some t' ∧ BU t0 1 (skp tp n p1) t' := by
  have f0 := qF_tk hL w23 hN
  obtain ⟨t2, f2, e5, l2, R3, L3, g3, sg⟩ := qF_look h hG hCW hA hN
  have s60 := (sg 60 ⟨by decide, by decide⟩).trans (eq_false (fun h => hk 7 (Or.inl ⟨h, rfl⟩)))
  have s62 := (sg 62 ⟨by decide, by decide⟩).trans (eq_false (fun h => hk 8 (Or.inr (Or.inl ⟨h, rfl⟩))))
  have s61 := (sg 61 ⟨by decide, by decide⟩).trans (eq_false (fun h => hk 9 (Or.inr (Or.inr ⟨h, rfl⟩))))
  generalize lk tp n p1 t2 = t3 at *
  generalize chM tp n p1 = ch at *
  obtain ⟨t4, f4, D, F⟩ := mfail_l (N := N) (t := t3) (k := 1) (w := skp tp n p1) (r_eq R3).2.1 (by omega)
  refine ⟨t4, ?_, BT_U (BT_of R3 (by rw [List.length_append]; omega) F (by decide) (by decide) D)⟩
  simp (disch := first | omega | decide) only [f_M_qFact, f0, f2, e5, l2, s60, s61, s62, g3, f4, zI_0, zI_1, zI_2, zI_3, zI_4, zI_5, zI_6, zI_7, zI_8, zI_9, zI_10, zI_11, zI_12, zI_13, zI_14, zI_15, zI_16, zI_17, zI_18, zI_19, zI_20, zI_21, zI_22, zI_23, zI_24, zI_25, zI_26, zI_27, zI_28, zI_29, zI_30, zI_31, zI_32, zI_33, zI_34, zI_35, zI_36, zI_37, zI_38, zI_39, zI_40, zI_41, zI_42, zI_43, zI_44, zI_45, zI_46, zI_47, zI_48, zI_49, zI_50, zI_51, zI_52, zI_53, zI_54, zI_55, zI_56, zI_57, zI_58, zI_59, zI_60, zI_61, zI_62, zI_63, zI_64, zI_65, zI_66, zI_67, zI_74, zI_84, zI_85, zI_88, zI_91, zI_93, zI_97, zI_99, zI_100, zI_102, zI_105, zI_117, zI_122, zI_193, zI_202, zI_205, zI_251, zI_255, zI_256, zI_257, zI_258, zI_259, zI_260, zI_640, zI_999, zI_1000, zI_1024, zI_1600, zI_1602, zI_1700, zI_2040, zI_3200, zI_4100, zI_9728, zI_11784, zI_61440, zI_65536, zI_470536, zI_999999, zI_1000000, lt_T, lt_F, le_T, le_F, eq_T, eq_F, neg_1, cn_m1p, cn_m11, nI_add, cn_sub, pk_mul, cn_div, cn_irm, cn_lt, cn_eq, cn_ltm1, cn_m1lt, cn_eqm1, cn_m1eq, cn_ix, cn_inb, cn_ninb, cn_irs, cn_ils, cn_and, cn_or, cn_xor, grd_t, grd_bt, grd_bl, Nat.add_zero, Nat.zero_add, Nat.reduceAdd, Nat.reduceSub, Nat.reduceMul, Nat.reduceLT, Nat.reduceEqDiff, eq_self, true_and, and_true, and_false, false_and, if_true, if_false, and_self, Bool.true_eq_false, Bool.false_eq_true, Option.bind_some]
/-- behind the sign -/
theorem qF_j63 (h : RT tp n kd t0 p b o C W 0 t) (hL : RL tp n p b t) (w23 : wdA tp n p b ≠ 23) (hCW : C.length + W.length ≤ p) (hA : AllT W) (hN : 10000 ≤ N) (hG : SqG N tp n kd p b o e p1 b1) (hk : CmK (kK tp n p1 b1) c) :
    ∃ t3, RT tp n kd t0 (skp tp n p1 + 1) false o (C ++ e) W 0 t3 ∧ f_M_qFact N t = (f_M_qSums N t3).bind fun p2 => f_M_qCode N (nI c) p2 := by
  have f0 := qF_tk hL w23 hN
  obtain ⟨t2, f2, e5, l2, R3, L3, g3, sg⟩ := qF_look h hG hCW hA hN
  have s60 := sg 60 ⟨by decide, by decide⟩
  have s62 := sg 62 ⟨by decide, by decide⟩
  have s61 := sg 61 ⟨by decide, by decide⟩
  have kc : SgC (kK tp n p1 b1) := by unfold SgC; rcases hk with ⟨h, _⟩ | ⟨h, _⟩ | ⟨h, _⟩ <;> omega
  obtain ⟨k1, k2, k3, k4⟩ := kK_sg kc rfl
  have hp1 := L3.2.2.2.1
  have sb := skp_b (tp := tp) hp1
  generalize lk tp n p1 t2 = t3 at *
  generalize chM tp n p1 = ch at *
  refine ⟨sI t3 1002 0 (nI (skp tp n p1 + 1)), RT_st (Fr_sI _ _ _ (by decide)) (l := [110200]) (by decide) (RB_sg (by omega) sb.1 (RL_RB L3)) R3, ?_⟩
  have bs : ∀ o : Option mS, (o.bind fun p => some p) = o := fun o => by cases o <;> rfl
  rcases hk with ⟨h, rfl⟩ | ⟨h, rfl⟩ | ⟨h, rfl⟩
  · have s60 := s60.trans (eq_true h)
    simp (disch := first | omega | decide) only [f_M_qFact, f_M_qFact_j63, f0, f2, e5, l2, s60, g3, bs, zI_0, zI_1, zI_2, zI_3, zI_4, zI_5, zI_6, zI_7, zI_8, zI_9, zI_10, zI_11, zI_12, zI_13, zI_14, zI_15, zI_16, zI_17, zI_18, zI_19, zI_20, zI_21, zI_22, zI_23, zI_24, zI_25, zI_26, zI_27, zI_28, zI_29, zI_30, zI_31, zI_32, zI_33, zI_34, zI_35, zI_36, zI_37, zI_38, zI_39, zI_40, zI_41, zI_42, zI_43, zI_44, zI_45, zI_46, zI_47, zI_48, zI_49, zI_50, zI_51, zI_52, zI_53, zI_54, zI_55, zI_56, zI_57, zI_58, zI_59, zI_60, zI_61, zI_62, zI_63, zI_64, zI_65, zI_66, zI_67, zI_74, zI_84, zI_85, zI_88, zI_91, zI_93, zI_97, zI_99, zI_100, zI_102, zI_105, zI_117, zI_122, zI_193, zI_202, zI_205, zI_251, zI_255, zI_256, zI_257, zI_258, zI_259, zI_260, zI_640, zI_999, zI_1000, zI_1024, zI_1600, zI_1602, zI_1700, zI_2040, zI_3200, zI_4100, zI_9728, zI_11784, zI_61440, zI_65536, zI_470536, zI_999999, zI_1000000, lt_T, lt_F, le_T, le_F, eq_T, eq_F, neg_1, cn_m1p, cn_m11, nI_add, cn_sub, pk_mul, cn_div, cn_irm, cn_lt, cn_eq, cn_ltm1, cn_m1lt, cn_eqm1, cn_m1eq, cn_ix, cn_inb, cn_ninb, cn_irs, cn_ils, cn_and, cn_or, cn_xor, grd_t, grd_bt, grd_bl, Nat.add_zero, Nat.zero_add, Nat.reduceAdd, Nat.reduceSub, Nat.reduceMul, Nat.reduceLT, Nat.reduceEqDiff, eq_self, true_and, and_true, and_false, false_and, if_true, if_false, and_self, Bool.true_eq_false, Bool.false_eq_true, Option.bind_some]
  · have s60 := s60.trans (eq_false (by omega))
    have s62 := s62.trans (eq_true h)
    simp (disch := first | omega | decide) only [f_M_qFact, f_M_qFact_j63, f0, f2, e5, l2, s60, s62, g3, bs, zI_0, zI_1, zI_2, zI_3, zI_4, zI_5, zI_6, zI_7, zI_8, zI_9, zI_10, zI_11, zI_12, zI_13, zI_14, zI_15, zI_16, zI_17, zI_18, zI_19, zI_20, zI_21, zI_22, zI_23, zI_24, zI_25, zI_26, zI_27, zI_28, zI_29, zI_30, zI_31, zI_32, zI_33, zI_34, zI_35, zI_36, zI_37, zI_38, zI_39, zI_40, zI_41, zI_42, zI_43, zI_44, zI_45, zI_46, zI_47, zI_48, zI_49, zI_50, zI_51, zI_52, zI_53, zI_54, zI_55, zI_56, zI_57, zI_58, zI_59, zI_60, zI_61, zI_62, zI_63, zI_64, zI_65, zI_66, zI_67, zI_74, zI_84, zI_85, zI_88, zI_91, zI_93, zI_97, zI_99, zI_100, zI_102, zI_105, zI_117, zI_122, zI_193, zI_202, zI_205, zI_251, zI_255, zI_256, zI_257, zI_258, zI_259, zI_260, zI_640, zI_999, zI_1000, zI_1024, zI_1600, zI_1602, zI_1700, zI_2040, zI_3200, zI_4100, zI_9728, zI_11784, zI_61440, zI_65536, zI_470536, zI_999999, zI_1000000, lt_T, lt_F, le_T, le_F, eq_T, eq_F, neg_1, cn_m1p, cn_m11, nI_add, cn_sub, pk_mul, cn_div, cn_irm, cn_lt, cn_eq, cn_ltm1, cn_m1lt, cn_eqm1, cn_m1eq, cn_ix, cn_inb, cn_ninb, cn_irs, cn_ils, cn_and, cn_or, cn_xor, grd_t, grd_bt, grd_bl, Nat.add_zero, Nat.zero_add, Nat.reduceAdd, Nat.reduceSub, Nat.reduceMul, Nat.reduceLT, Nat.reduceEqDiff, eq_self, true_and, and_true, and_false, false_and, if_true, if_false, and_self, Bool.true_eq_false, Bool.false_eq_true, Option.bind_some]
  · have s60 := s60.trans (eq_false (by omega))
    have s62 := s62.trans (eq_false (by omega))
    have s61 := s61.trans (eq_true h)
    simp (disch := first | omega | decide) only [f_M_qFact, f_M_qFact_j63, f0, f2, e5, l2, s60, s62, s61, g3, bs, zI_0, zI_1, zI_2, zI_3, zI_4, zI_5, zI_6, zI_7, zI_8, zI_9, zI_10, zI_11, zI_12, zI_13, zI_14, zI_15, zI_16, zI_17, zI_18, zI_19, zI_20, zI_21, zI_22, zI_23, zI_24, zI_25, zI_26, zI_27, zI_28, zI_29, zI_30, zI_31, zI_32, zI_33, zI_34, zI_35, zI_36, zI_37, zI_38, zI_39, zI_40, zI_41, zI_42, zI_43, zI_44, zI_45, zI_46, zI_47, zI_48, zI_49, zI_50, zI_51, zI_52, zI_53, zI_54, zI_55, zI_56, zI_57, zI_58, zI_59, zI_60, zI_61, zI_62, zI_63, zI_64, zI_65, zI_66, zI_67, zI_74, zI_84, zI_85, zI_88, zI_91, zI_93, zI_97, zI_99, zI_100, zI_102, zI_105, zI_117, zI_122, zI_193, zI_202, zI_205, zI_251, zI_255, zI_256, zI_257, zI_258, zI_259, zI_260, zI_640, zI_999, zI_1000, zI_1024, zI_1600, zI_1602, zI_1700, zI_2040, zI_3200, zI_4100, zI_9728, zI_11784, zI_61440, zI_65536, zI_470536, zI_999999, zI_1000000, lt_T, lt_F, le_T, le_F, eq_T, eq_F, neg_1, cn_m1p, cn_m11, nI_add, cn_sub, pk_mul, cn_div, cn_irm, cn_lt, cn_eq, cn_ltm1, cn_m1lt, cn_eqm1, cn_m1eq, cn_ix, cn_inb, cn_ninb, cn_irs, cn_ils, cn_and, cn_or, cn_xor, grd_t, grd_bt, grd_bl, Nat.add_zero, Nat.zero_add, Nat.reduceAdd, Nat.reduceSub, Nat.reduceMul, Nat.reduceLT, Nat.reduceEqDiff, eq_self, true_and, and_true, and_false, false_and, if_true, if_false, and_self, Bool.true_eq_false, Bool.false_eq_true, Option.bind_some]
theorem r_codeu (h : BT t0 k w t) (x : Int32) : ∃ t', f_M_qCode N x t = some t' ∧ BU t0 k w t' := by
  obtain ⟨h1, h2, c, h3, h4⟩ := h
  have F2 : Fr [64, 118800] t (sI (sA t 64 c x) 1088 0 (nI (c + 1))) := Fr_t (Fr_sA 64 _ _ (by decide)) (Fr_sI _ _ _ (by decide))
  refine ⟨sI (sA t 64 c x) 1088 0 (nI (c + 1)), ?_, BdM_fr F2 (by decide) h1, Fr_t h2 (Fr_w F2 (by decide))⟩
  simp (disch := first | omega | decide) only [f_M_qCode, h4, zI_0, zI_1, zI_2, zI_3, zI_4, zI_5, zI_6, zI_7, zI_8, zI_9, zI_10, zI_11, zI_12, zI_13, zI_14, zI_15, zI_16, zI_17, zI_18, zI_19, zI_20, zI_21, zI_22, zI_23, zI_24, zI_25, zI_26, zI_27, zI_28, zI_29, zI_30, zI_31, zI_32, zI_33, zI_34, zI_35, zI_36, zI_37, zI_38, zI_39, zI_40, zI_41, zI_42, zI_43, zI_44, zI_45, zI_46, zI_47, zI_48, zI_49, zI_50, zI_51, zI_52, zI_53, zI_54, zI_55, zI_56, zI_57, zI_58, zI_59, zI_60, zI_61, zI_62, zI_63, zI_64, zI_65, zI_66, zI_67, zI_74, zI_84, zI_85, zI_88, zI_91, zI_93, zI_97, zI_99, zI_100, zI_102, zI_105, zI_117, zI_122, zI_193, zI_202, zI_205, zI_251, zI_255, zI_256, zI_257, zI_258, zI_259, zI_260, zI_640, zI_999, zI_1000, zI_1024, zI_1600, zI_1602, zI_1700, zI_2040, zI_3200, zI_4100, zI_9728, zI_11784, zI_61440, zI_65536, zI_470536, zI_999999, zI_1000000, lt_T, lt_F, le_T, le_F, eq_T, eq_F, neg_1, cn_m1p, cn_m11, nI_add, cn_sub, pk_mul, cn_div, cn_irm, cn_lt, cn_eq, cn_ltm1, cn_m1lt, cn_eqm1, cn_m1eq, cn_ix, cn_inb, cn_ninb, cn_irs, cn_ils, cn_and, cn_or, cn_xor, grd_t, grd_bt, grd_bl, Nat.add_zero, Nat.zero_add, Nat.reduceAdd, Nat.reduceSub, Nat.reduceMul, Nat.reduceLT, Nat.reduceEqDiff, eq_self, true_and, and_true, and_false, false_and, if_true, if_false, and_self, Bool.true_eq_false, Bool.false_eq_true, gI_sI, gI_sA, gI_sL, gI_sQ, gI_sC, gI_sO, gI_sD, gA_sI, gA_sL, gA_sQ, gA_sO, gA_sD, gL_sI, gL_sA, gL_sQ, gL_sC, gL_sO, gL_sD, gQ_sI, gQ_sA, gQ_sL, gQ_sC, gQ_sO, gO_sI, gO_sA, gO_sL, gO_sQ, gO_sC, gO_sO, gO_sD, gA_eq, gA_ne, gQ_eq, gQ_ne, gL_sL, gA_cin, gA_cou, gQ_cin, gQ_cou]
theorem qF_bad2 (h : RT tp n kd t0 p b o C W 0 t) (hL : RL tp n p b t) (w23 : wdA tp n p b ≠ 23) (hCW : C.length + W.length ≤ p) (hA : AllT W) (hN : 10000 ≤ N) (hG : SqG N tp n kd p b o e p1 b1) (hk : CmK (kK tp n p1 b1) c) (hl : C.length + e.length + W.length ≤ skp tp n p1 + 1) (hB : SqB N tp n kd (skp tp n p1 + 1) false o k w) : ∃ t', f_M_qFact N t = some t' ∧ BU t0 k w t' := by
  obtain ⟨t3, R3, f⟩ := qF_j63 h hL w23 hCW hA hN hG hk
  obtain ⟨t4, f4, D⟩ := hB t0 _ W 0 t3 R3 (by rw [List.length_append]; omega) (by omega) (AllT_t hA)
  obtain ⟨t5, f5, D5⟩ := r_codeu (N := N) D (nI c)
  exact ⟨t5, by rw [f, f4, Option.bind_some, f5], D5⟩
theorem qF_good (h : RT tp n kd t0 p b o C W 0 t) (hL : RL tp n p b t) (w23 : wdA tp n p b ≠ 23) (hCW : C.length + W.length ≤ p) (hA : AllT W) (hN : 10000 ≤ N) (hG : SqG N tp n kd p b o e p1 b1) (hk : CmK (kK tp n p1 b1) c) (hl : C.length + e.length + W.length ≤ skp tp n p1 + 1) (hG2 : SqG N tp n kd (skp tp n p1 + 1) false o e2 p2 b2) (hl2 : C.length + e.length + e2.length < 1650) : ∃ t', f_M_qFact N t = some t' ∧ RT tp n kd t0 p2 b2 o (C ++ (e ++ e2 ++ [c])) W 0 t' := by
  obtain ⟨t3, R3, f⟩ := qF_j63 h hL w23 hCW hA hN hG hk
  obtain ⟨t4, f4, R4⟩ := hG2 t0 _ W 0 t3 R3 (by rw [List.length_append]; omega) (by omega) (AllT_t hA)
  obtain ⟨t5, f5, R5⟩ := r_code (N := N) (c := c) (by rw [List.length_append, List.length_append]; omega) R4
  rw [List.append_assoc, List.append_assoc, ← List.append_assoc e] at R5
  exact ⟨t5, by rw [f, f4, Option.bind_some, f5], R5⟩
end QFACT
section FACTJ
variable {N n p o : Nat} {tp : Nat → Nat} {b : Bool} {s s0 : mS} {kd mk pg r : Nat} {al : Nat → Bool} {L : List Nat}
theorem gd1 {k w : Nat} (hr : 3 ≤ r) (hN : 10000 ≤ N) (h : CD pg s0 k w s) (hp : PgO pg) : ∃ s', f_Rd_grp N r 1 s = some s' ∧ CD pg s0 k w s' := by
  obtain ⟨r', rfl⟩ : ∃ r', r = r' + 3 := ⟨r - 3, by omega⟩
  obtain ⟨s', e, D, F⟩ := (grp_d (k := k) (w := w) hp hN r').2.2.1 s h.1
  exact ⟨s', e, D, Fr_t h.2 (Fr_w F (by intro k hk; unfold kDP at hk; unfold kCx; simp only [List.mem_cons, List.not_mem_nil, or_false] at hk ⊢; omega))⟩
/-- a comparison -/
theorem fact_h {v K : Int32} {kt kf ks kp : mS → Option mS} (wd : f_Rd_word N s = some (v, s)) (q21 : (v = nI 21) = False) (q22 : (v = nI 22) = False) (k1 : gI s 605 18 = K) (q91 : (K = nI 91) = False) :
    f_Rd_fact_B N kt kf ks kp s = (ks s).bind fun p3 => if gI p3 605 18 = nI 60 then f_Rd_fact_j154 N kt kf ks kp (gI p3 605 18, p3) else if gI p3 605 18 = nI 62 then f_Rd_fact_j154 N kt kf ks kp (gI p3 605 18, p3) else if gI p3 605 18 = nI 61 then f_Rd_fact_j154 N kt kf ks kp (gI p3 605 18, p3) else (f_Rd_fail N (nI 1) (gI p3 606 18) p3).bind fun p4 => f_Rd_fact_j154 N kt kf ks kp (gI p3 605 18, p4) := by
  simp (disch := first | omega | decide) only [f_Rd_fact_B, wd, k1, q21, q22, q91, zI_0, zI_1, zI_2, zI_3, zI_4, zI_5, zI_6, zI_7, zI_8, zI_9, zI_10, zI_11, zI_12, zI_13, zI_14, zI_15, zI_16, zI_17, zI_18, zI_19, zI_20, zI_21, zI_22, zI_23, zI_24, zI_25, zI_26, zI_27, zI_28, zI_29, zI_30, zI_31, zI_32, zI_33, zI_34, zI_35, zI_36, zI_37, zI_38, zI_39, zI_40, zI_41, zI_42, zI_43, zI_44, zI_45, zI_46, zI_47, zI_48, zI_49, zI_50, zI_51, zI_52, zI_53, zI_54, zI_55, zI_56, zI_57, zI_58, zI_59, zI_60, zI_61, zI_62, zI_63, zI_64, zI_65, zI_66, zI_67, zI_74, zI_84, zI_85, zI_88, zI_91, zI_93, zI_97, zI_99, zI_100, zI_102, zI_105, zI_117, zI_122, zI_193, zI_202, zI_205, zI_251, zI_255, zI_256, zI_257, zI_258, zI_259, zI_260, zI_640, zI_999, zI_1000, zI_1024, zI_1600, zI_1602, zI_1700, zI_2040, zI_3200, zI_4100, zI_9728, zI_11784, zI_61440, zI_65536, zI_470536, zI_999999, zI_1000000, Nat.reduceAdd, Nat.reduceSub, Nat.reduceMul, Nat.reduceLT, Nat.reduceEqDiff, eq_self, true_and, and_true, and_false, false_and, if_true, if_false, and_self, Bool.true_eq_false, Bool.false_eq_true, Option.bind_some]
  rfl
theorem fact_h2 {s1 : mS} {v K K1 : Int32} {kt kf ks kp : mS → Option mS} (wd : f_Rd_word N s = some (v, s)) (q21 : (v = nI 21) = False) (q22 : (v = nI 22) = False) (k1 : gI s 605 18 = K) (q91 : (K = nI 91) = False) (f : ks s = some s1) (k2 : gI s1 605 18 = K1) :
    (K1 = nI 60 ∨ K1 = nI 62 ∨ K1 = nI 61 → f_Rd_fact_B N kt kf ks kp s = f_Rd_fact_j154 N kt kf ks kp (K1, s1)) ∧
    (K1 ≠ nI 60 → K1 ≠ nI 62 → K1 ≠ nI 61 → f_Rd_fact_B N kt kf ks kp s = (f_Rd_fail N (nI 1) (gI s1 606 18) s1).bind fun p4 => f_Rd_fact_j154 N kt kf ks kp (K1, p4)) := by
  rw [fact_h wd q21 q22 k1 q91, f, Option.bind_some, k2]
  refine ⟨fun h => ?_, fun h1 h2 h3 => ?_⟩
  · rcases h with h | h | h
    · rw [if_pos h]
    · by_cases c : K1 = nI 60
      · rw [if_pos c]
      · rw [if_neg c, if_pos h]
    · by_cases c : K1 = nI 60
      · rw [if_pos c]
      · rw [if_neg c]
        by_cases c2 : K1 = nI 62
        · rw [if_pos c2]
        · rw [if_neg c2, if_pos h]
  · rw [if_neg h1, if_neg h2, if_neg h3]
theorem j154_n {s1 : mS} {K : Int32} {kt kf ks kp : mS → Option mS} (ad : f_Rd_advance N s = some s1) : f_Rd_fact_j154 N kt kf ks kp (K, s) = (ks s1).bind fun p2 => grd (isO Sx (gO p2) 5) (f_Pg_add N (gO p2) K p2) := by
  have bs : ∀ o : Option mS, (o.bind fun p => some p) = o := fun o => by cases o <;> rfl
  simp only [f_Rd_fact_j154, ad, bs, Option.bind_some]
/-- behind a fault of the first sum, of the sign -/
theorem fact_dead {k w : Nat} {K : Int32} (hr : 2 ≤ r) (hN : 10000 ≤ N) (hpo : PgO pg) (D : CD pg s0 k w s) : ∃ s', f_Rd_fact_j154 N (f_Rd_grp N r 0) (f_Rd_grp N r 1) (f_Rd_grp N r 2) (f_Rd_grp N r 3) (K, s) = some s' ∧ CD pg s0 k w s' := by
  obtain ⟨o1, _⟩ := pgo_ok hpo
  have g2 := gd2 hr hN D hpo
  have gg := D.1.2.1
  obtain ⟨s2, f2, D2⟩ := c_dadd (N := N) hpo D K
  refine ⟨s2, ?_, D2⟩
  rw [j154_n (adv_d (N := N) D.1.1), g2, Option.bind_some, gg, o1, grd_t, f2]
theorem cmp_b (hl : L.length ≤ p) (E : CE tp n pg mk s0) (h : CX tp n pg s0 p b o L s) (hN : 10000 ≤ N) (k91 : kK tp n p b ≠ 91) (w22 : wdA tp n p b ≠ 22) (w23 : wdA tp n p b ≠ 23) : ∃ v K, f_Rd_word N s = some (v, s) ∧ (v = nI 21) = False ∧ (v = nI 22) = False ∧ gI s 605 18 = K ∧ (K = nI 91) = False := by
  obtain ⟨hT, hO, hm, ht⟩ := CE_x E h
  have wl := wdA_le (tp := tp) (n := n) (p := p) (b := b)
  have kle := kK_le (b := b) (p := p) ht
  exact ⟨_, _, word_w (N := N) ht h.2.1, by rw [wm_n wl (by omega)]; exact eq_false w22, by rw [wm_n wl (by omega)]; exact eq_false w23, h.2.1.1, by rw [cn_eq (by omega)]; exact eq_false k91⟩
theorem cmp_1 {k' w' : Nat} {s1 : mS} (hn : n ≤ 1600) (E : CE tp n pg mk s0) (h : CX tp n pg s0 p b o L s) (hl : L.length ≤ p) (hr : 2 ≤ r) (hN : 10000 ≤ N) (k91 : kK tp n p b ≠ 91) (w22 : wdA tp n p b ≠ 22) (w23 : wdA tp n p b ≠ 23) (f1 : f_Rd_grp N r 2 s = some s1) (D : CD pg s0 k' w' s1) (hB : SqB N tp n kd p b o k' w') : FactR N tp n kd pg al (r + 1) o s0 p b L s := by
  have hp := h.1
  obtain ⟨v, K, wd, q21, q22, k1, q91⟩ := cmp_b (N := N) hl E h hN k91 w22 w23
  have k5 := D.1.1.2.2.2.2
  have fd := fail_d (N := N) D.1.1
  obtain ⟨s2, f2, D2⟩ := fact_dead (N := N) (K := nI 260) hr hN E.2.1 D
  left
  refine ⟨k', w', s2, ?_, D2, ?_⟩
  · show f_Rd_fact_B N _ _ _ _ s = some s2
    rw [(fact_h2 wd q21 q22 k1 q91 f1 k5).2 (by decide) (by decide) (by decide), fd, Option.bind_some, f2]
  · intro t0 Q C W t hR hCW hA hQ
    obtain ⟨h', hL', _⟩ := RT_lk hR
    obtain ⟨t', f, D'⟩ := qF_bad h' hL' w23 hCW hA hN hB
    exact TS_fact (m := n - p + 4) hR hN (by omega) (by omega) k91 w22 (Or.inr ⟨k', w', t', f, D', hQ⟩)
theorem cmp_2 {p1 : Nat} {b1 : Bool} {e : List Nat} {s1 : mS} (hn : n ≤ 1600) (E : CE tp n pg mk s0) (h : CX tp n pg s0 p b o L s) (hl : L.length ≤ p) (hr : 2 ≤ r) (hN : 10000 ≤ N) (k91 : kK tp n p b ≠ 91) (w22 : wdA tp n p b ≠ 22) (w23 : wdA tp n p b ≠ 23) (f1 : f_Rd_grp N r 2 s = some s1) (X1 : CX tp n pg s0 p1 b1 o (L ++ e) s1) (hp1 : p < p1) (hle : e.length ≤ p1 - p) (hG : SqG N tp n kd p b o e p1 b1) (nk : ∀ c, ¬ CmK (kK tp n p1 b1) c) : FactR N tp n kd pg al (r + 1) o s0 p b L s := by
  have hp := h.1
  have hpn1 := X1.1
  have ht := (CE_x E h).2.2.2
  obtain ⟨v, K, wd, q21, q22, k1, q91⟩ := cmp_b (N := N) hl E h hN k91 w22 w23
  have k1' := X1.2.1.1
  have k2' := X1.2.1.2.1
  have kle1 := kK_le (b := b1) (p := p1) ht
  have hl1 : (L ++ e).length ≤ p1 := by rw [List.length_append]; omega
  obtain ⟨s2, f2, D⟩ := c_fail (N := N) (k := 1) (w := skp tp n p1) E X1 (by omega) (by omega)
  obtain ⟨s3, f3, D3⟩ := fact_dead (N := N) (K := nI (kK tp n p1 b1)) hr hN E.2.1 D
  left
  refine ⟨1, skp tp n p1, s3, ?_, D3, ?_⟩
  · show f_Rd_fact_B N _ _ _ _ s = some s3
    rw [(fact_h2 wd q21 q22 k1 q91 f1 k1').2 (fun h => by rw [cn_eq (by omega)] at h; exact nk 7 (Or.inl ⟨h, rfl⟩)) (fun h => by rw [cn_eq (by omega)] at h; exact nk 8 (Or.inr (Or.inl ⟨h, rfl⟩))) (fun h => by rw [cn_eq (by omega)] at h; exact nk 9 (Or.inr (Or.inr ⟨h, rfl⟩))), k2', f2, Option.bind_some, f3]
  · intro t0 Q C W t hR hCW hA hQ
    obtain ⟨h', hL', _⟩ := RT_lk hR
    obtain ⟨t', f, D'⟩ := qF_sign h' hL' w23 hCW hA hN hG (by omega) nk
    exact TS_fact (m := n - p + 4) hR hN (by omega) (by omega) k91 w22 (Or.inr ⟨1, skp tp n p1, t', f, D', hQ⟩)
theorem cmp_3 {p1 c : Nat} {b1 : Bool} {e : List Nat} {s1 : mS} (hn : n ≤ 1600) (E : CE tp n pg mk s0) (h : CX tp n pg s0 p b o L s) (hl : L.length ≤ p) (hr : 2 ≤ r) (hN : 10000 ≤ N) (hS : SqC N tp n kd mk pg al r o) (k91 : kK tp n p b ≠ 91) (w22 : wdA tp n p b ≠ 22) (w23 : wdA tp n p b ≠ 23) (f1 : f_Rd_grp N r 2 s = some s1) (X1 : CX tp n pg s0 p1 b1 o (L ++ e) s1) (hp1 : p < p1) (hle : e.length ≤ p1 - p) (hck : ckN al e (3 + 3 * (6 - o)) false) (hG : SqG N tp n kd p b o e p1 b1) (hc : CmK (kK tp n p1 b1) c) : FactR N tp n kd pg al (r + 1) o s0 p b L s := by
  have hp := h.1
  have hpn1 := X1.1
  have ht := (CE_x E h).2.2.2
  have hpo := E.2.1
  obtain ⟨o1, _⟩ := pgo_ok hpo
  obtain ⟨v, K, wd, q21, q22, k1, q91⟩ := cmp_b (N := N) hl E h hN k91 w22 w23
  have k1' := X1.2.1.1
  have sb1 := skp_b (tp := tp) hpn1
  have hl1 : (L ++ e).length ≤ p1 := by rw [List.length_append]; omega
  have kc : SgC (kK tp n p1 b1) := by unfold SgC; rcases hc with ⟨h, _⟩ | ⟨h, _⟩ | ⟨h, _⟩ <;> omega
  have ec : nI (kK tp n p1 b1) = cSt c := by rcases hc with ⟨h, rfl⟩ | ⟨h, rfl⟩ | ⟨h, rfl⟩ <;> (rw [h]; rfl)
  have c79 : 7 ≤ c ∧ c ≤ 9 := by rcases hc with ⟨_, h⟩ | ⟨_, h⟩ | ⟨_, h⟩ <;> omega
  obtain ⟨s2, f2, X2, p3, p4⟩ := c_sg kc E X1 rfl hN
  have head : f_Rd_grp N (r + 1) 1 s = (f_Rd_grp N r 2 s2).bind fun p2 => grd (isO Sx (gO p2) 5) (f_Pg_add N (gO p2) (cSt c) p2) := by
    show f_Rd_fact_B N _ _ _ _ s = _
    rw [(fact_h2 wd q21 q22 k1 q91 f1 k1').1 (by rcases hc with ⟨h, _⟩ | ⟨h, _⟩ | ⟨h, _⟩ <;> rw [h] <;> decide), j154_n f2, ec]
  unfold FactR
  rw [head]
  rcases hS s0 _ _ _ s2 E X2 (by omega) with ⟨k', w', s3, f3, D, hB⟩ | ⟨e2, p2, b2, s3, f3, X3, hp2, hle2, hck2, hG2⟩
  · left
    have gg := D.1.2.1
    obtain ⟨s4, f4, D4⟩ := c_dadd (N := N) hpo D (cSt c)
    refine ⟨k', w', s4, by rw [f3, Option.bind_some, gg, o1, grd_t, f4], D4, ?_⟩
    intro t0 Q C W t hR hCW hA hQ
    obtain ⟨h', hL', _⟩ := RT_lk hR
    obtain ⟨t', f, D'⟩ := qF_bad2 h' hL' w23 hCW hA hN hG hc (by omega) hB
    exact TS_fact (m := n - p + 4) hR hN (by omega) (by omega) k91 w22 (Or.inr ⟨k', w', t', f, D', hQ⟩)
  · right
    have hpn2 := X3.1
    have gg := (CE_x E X3).2.1
    obtain ⟨s4, f4, X4⟩ := c_add (N := N) (c := c) E X3 (by rw [List.length_append, List.length_append]; omega) rfl
    rw [List.append_assoc, List.append_assoc, ← List.append_assoc e] at X4
    refine ⟨e ++ e2 ++ [c], p2, b2, s4, by rw [f3, Option.bind_some, gg, o1, grd_t, f4], X4, by omega, by rw [List.length_append, List.length_append, List.length_singleton]; omega, ?_, ?_⟩
    · exact ckN_two hck hck2 (by omega) (by omega) (fun ts _ => ck1_cm al c79 ts)
    · intro t0 Q C W t hR hCW hA hQ
      obtain ⟨h', hL', _⟩ := RT_lk hR
      obtain ⟨t', f, R'⟩ := qF_good h' hL' w23 hCW hA hN hG hc (by omega) hG2 (by omega)
      refine TS_fact (m := n - p + 4) hR hN (by omega) (by omega) k91 w22 (Or.inl ⟨t', f, (r_eq R').2.1, W.length + 1, by omega, ?_⟩)
      intro kd' hk'
      exact Ok_mono (hQ t' R' kd' hk') (fun x hx => ⟨hx.1, fun kg k2 h1 h2 => hx.2 kg k2 (by omega) (by omega)⟩)
theorem fact_cmp (E : CE tp n pg mk s0) (h : CX tp n pg s0 p b o L s) (hl : L.length ≤ p) (hr : 2 ≤ r) (hN : 10000 ≤ N) (hS : SqC N tp n kd mk pg al r o) (k91 : kK tp n p b ≠ 91) (w22 : wdA tp n p b ≠ 22) (w23 : wdA tp n p b ≠ 23) : FactR N tp n kd pg al (r + 1) o s0 p b L s := by
  have hn := (CE_x E h).1.1
  rcases hS s0 p b L s E h hl with ⟨k', w', s1, f1, D, hB⟩ | ⟨e, p1, b1, s1, f1, X1, hp1, hle, hck, hG⟩
  · exact cmp_1 hn E h hl hr hN k91 w22 w23 f1 D hB
  · by_cases cc : ∃ c, CmK (kK tp n p1 b1) c
    · obtain ⟨c, hc⟩ := cc
      exact cmp_3 hn E h hl hr hN hS k91 w22 w23 f1 X1 hp1 hle hck hG hc
    · exact cmp_2 hn E h hl hr hN k91 w22 w23 f1 X1 hp1 hle hG (fun c hc => cc ⟨c, hc⟩)
/-- all -/
theorem fact_all (E : CE tp n pg mk s0) (h : CX tp n pg s0 p b o L s) (hl : L.length ≤ p) (hN : 10000 ≤ N) (w23 : wdA tp n p b = 23) : FactR N tp n kd pg al (r + 1) o s0 p b L s := by
  obtain ⟨hT, hO, hm, ht⟩ := CE_x E h
  have hn := hT.1
  have hp := h.1
  have hpo := E.2.1
  obtain ⟨o1, _⟩ := pgo_ok hpo
  have wd := word_w (N := N) ht h.2.1
  rw [w23, m1_s] at wd
  have k1 := h.2.1.1
  have kk := wdA_k w23
  rw [kk] at k1
  right
  obtain ⟨s1, f1, X1⟩ := c_add (N := N) (c := 13) E h (by omega) (x := nI 22) rfl
  obtain ⟨s2, f2, X2, p3, p4⟩ := c_wd E X1 w23 hN
  refine ⟨[13], kE tp n p, true, s2, ?_, X2, p3, by rw [List.length_singleton]; omega, ?_, ?_⟩
  · show f_Rd_fact_B N _ _ _ _ s = some s2
    simp (disch := first | omega | decide) only [f_Rd_fact_B, wd, k1, hO, o1, f1, f2, zI_0, zI_1, zI_2, zI_3, zI_4, zI_5, zI_6, zI_7, zI_8, zI_9, zI_10, zI_11, zI_12, zI_13, zI_14, zI_15, zI_16, zI_17, zI_18, zI_19, zI_20, zI_21, zI_22, zI_23, zI_24, zI_25, zI_26, zI_27, zI_28, zI_29, zI_30, zI_31, zI_32, zI_33, zI_34, zI_35, zI_36, zI_37, zI_38, zI_39, zI_40, zI_41, zI_42, zI_43, zI_44, zI_45, zI_46, zI_47, zI_48, zI_49, zI_50, zI_51, zI_52, zI_53, zI_54, zI_55, zI_56, zI_57, zI_58, zI_59, zI_60, zI_61, zI_62, zI_63, zI_64, zI_65, zI_66, zI_67, zI_74, zI_84, zI_85, zI_88, zI_91, zI_93, zI_97, zI_99, zI_100, zI_102, zI_105, zI_117, zI_122, zI_193, zI_202, zI_205, zI_251, zI_255, zI_256, zI_257, zI_258, zI_259, zI_260, zI_640, zI_999, zI_1000, zI_1024, zI_1600, zI_1602, zI_1700, zI_2040, zI_3200, zI_4100, zI_9728, zI_11784, zI_61440, zI_65536, zI_470536, zI_999999, zI_1000000, lt_T, lt_F, le_T, le_F, eq_T, eq_F, neg_1, cn_m1p, cn_m11, nI_add, cn_sub, pk_mul, cn_div, cn_irm, cn_lt, cn_eq, cn_ltm1, cn_m1lt, cn_eqm1, cn_m1eq, cn_ix, cn_inb, cn_ninb, cn_irs, cn_ils, cn_and, cn_or, cn_xor, grd_t, grd_bt, grd_bl, Nat.add_zero, Nat.zero_add, Nat.reduceAdd, Nat.reduceSub, Nat.reduceMul, Nat.reduceLT, Nat.reduceEqDiff, eq_self, true_and, and_true, and_false, false_and, if_true, if_false, and_self, Bool.true_eq_false, Bool.false_eq_true, Option.bind_some]
  · intro ts hts
    refine ckL_1 al ?_
    unfold ck1
    rw [if_neg (by omega), if_neg (by omega), if_neg (by omega), if_neg (by omega), if_pos rfl, if_pos (by omega)]
  · intro t0 Q C W t hR hCW hA hQ
    obtain ⟨h', hL', _⟩ := RT_lk hR
    obtain ⟨t1, g1, R1, F1⟩ := (takes_b (N := N) (RL_RB hL') (show 50 ∈ kWo by decide) hN).1 w23
    have R2 := RT_st F1 (by decide) R1 h'
    obtain ⟨t2, g2, R3⟩ := r_code (N := N) (c := 13) (by omega) R2
    refine TS_fact (m := n - p + 4) hR hN (by omega) (by omega) (by omega) (by omega) (Or.inl ⟨t2, ?_, (r_eq R3).2.1, W.length + 1, by omega, ?_⟩)
    · simp (disch := first | omega | decide) only [f_M_qFact, g1, g2, zI_0, zI_1, zI_2, zI_3, zI_4, zI_5, zI_6, zI_7, zI_8, zI_9, zI_10, zI_11, zI_12, zI_13, zI_14, zI_15, zI_16, zI_17, zI_18, zI_19, zI_20, zI_21, zI_22, zI_23, zI_24, zI_25, zI_26, zI_27, zI_28, zI_29, zI_30, zI_31, zI_32, zI_33, zI_34, zI_35, zI_36, zI_37, zI_38, zI_39, zI_40, zI_41, zI_42, zI_43, zI_44, zI_45, zI_46, zI_47, zI_48, zI_49, zI_50, zI_51, zI_52, zI_53, zI_54, zI_55, zI_56, zI_57, zI_58, zI_59, zI_60, zI_61, zI_62, zI_63, zI_64, zI_65, zI_66, zI_67, zI_74, zI_84, zI_85, zI_88, zI_91, zI_93, zI_97, zI_99, zI_100, zI_102, zI_105, zI_117, zI_122, zI_193, zI_202, zI_205, zI_251, zI_255, zI_256, zI_257, zI_258, zI_259, zI_260, zI_640, zI_999, zI_1000, zI_1024, zI_1600, zI_1602, zI_1700, zI_2040, zI_3200, zI_4100, zI_9728, zI_11784, zI_61440, zI_65536, zI_470536, zI_999999, zI_1000000, lt_T, lt_F, le_T, le_F, eq_T, eq_F, neg_1, cn_m1p, cn_m11, nI_add, cn_sub, pk_mul, cn_div, cn_irm, cn_lt, cn_eq, cn_ltm1, cn_m1lt, cn_eqm1, cn_m1eq, cn_ix, cn_inb, cn_ninb, cn_irs, cn_ils, cn_and, cn_or, cn_xor, grd_t, grd_bt, grd_bl, Nat.add_zero, Nat.zero_add, Nat.reduceAdd, Nat.reduceSub, Nat.reduceMul, Nat.reduceLT, Nat.reduceEqDiff, eq_self, true_and, and_true, and_false, false_and, if_true, if_false, and_self, Bool.true_eq_false, Bool.false_eq_true, Option.bind_some]
    · intro kd' hk'
      exact Ok_mono (hQ t2 R3 kd' hk') (fun x hx => ⟨hx.1, fun kg k2 h1 h2 => hx.2 kg k2 (by omega) (by omega)⟩)
/-- not -/
theorem fact_not (E : CE tp n pg mk s0) (h : CX tp n pg s0 p b o L s) (hl : L.length ≤ p) (ho : o ≤ 6) (hr : 3 ≤ r) (hN : 10000 ≤ N) (hF : o < 6 → FactC N tp n kd mk pg al r (o + 1)) (w22 : wdA tp n p b = 22) : FactR N tp n kd pg al (r + 1) o s0 p b L s := by
  obtain ⟨hT, hO, hm, ht⟩ := CE_x E h
  have hn := hT.1
  have hp := h.1
  have hpo := E.2.1
  obtain ⟨o1, _⟩ := pgo_ok hpo
  have wd := word_w (N := N) ht h.2.1
  rw [w22, m1_s] at wd
  have kk := wdA_k w22
  have sb := skp_b (tp := tp) hp
  obtain ⟨g1, g2⟩ := c_enters (N := N) E h (by omega) ho
  have head : ∀ t0 C W t, RT tp n kd t0 p b o C W 0 t → ∀ g : Int32 × mS → Option mS, f_M_qTest_L2 N g (nI 1, t) = (f_M_qOpens N (nI 12) (nI (skp tp n p)) (lk tp n p t)).bind fun p6 => (f_M_asks N 47 p6).bind fun p7 => g (nI 1, p7) := by
    intro t0 C W t hR g
    obtain ⟨e2, l, e3, sg, i47⟩ := TS_look hR hN
    have sg := sg.trans (eq_false (by omega))
    rw [if_pos w22] at i47
    generalize lk tp n p t = t1 at *
    generalize chM tp n p = ch at *
    simp (disch := first | omega | decide) only [f_M_qTest_L2, e2, l, sg, i47, e3, zI_0, zI_1, zI_2, zI_3, zI_4, zI_5, zI_6, zI_7, zI_8, zI_9, zI_10, zI_11, zI_12, zI_13, zI_14, zI_15, zI_16, zI_17, zI_18, zI_19, zI_20, zI_21, zI_22, zI_23, zI_24, zI_25, zI_26, zI_27, zI_28, zI_29, zI_30, zI_31, zI_32, zI_33, zI_34, zI_35, zI_36, zI_37, zI_38, zI_39, zI_40, zI_41, zI_42, zI_43, zI_44, zI_45, zI_46, zI_47, zI_48, zI_49, zI_50, zI_51, zI_52, zI_53, zI_54, zI_55, zI_56, zI_57, zI_58, zI_59, zI_60, zI_61, zI_62, zI_63, zI_64, zI_65, zI_66, zI_67, zI_74, zI_84, zI_85, zI_88, zI_91, zI_93, zI_97, zI_99, zI_100, zI_102, zI_105, zI_117, zI_122, zI_193, zI_202, zI_205, zI_251, zI_255, zI_256, zI_257, zI_258, zI_259, zI_260, zI_640, zI_999, zI_1000, zI_1024, zI_1600, zI_1602, zI_1700, zI_2040, zI_3200, zI_4100, zI_9728, zI_11784, zI_61440, zI_65536, zI_470536, zI_999999, zI_1000000, lt_T, lt_F, le_T, le_F, eq_T, eq_F, neg_1, cn_m1p, cn_m11, nI_add, cn_sub, pk_mul, cn_div, cn_irm, cn_lt, cn_eq, cn_ltm1, cn_m1lt, cn_eqm1, cn_m1eq, cn_ix, cn_inb, cn_ninb, cn_irs, cn_ils, cn_and, cn_or, cn_xor, grd_t, grd_bt, grd_bl, Nat.add_zero, Nat.zero_add, Nat.reduceAdd, Nat.reduceSub, Nat.reduceMul, Nat.reduceLT, Nat.reduceEqDiff, eq_self, true_and, and_true, and_false, false_and, if_true, if_false, and_self, Bool.true_eq_false, Bool.false_eq_true, Option.bind_some]
  by_cases c : o < 6
  · obtain ⟨s1, f1, X1⟩ := g1 c
    obtain ⟨s2, f2, X2, p3, p4⟩ := c_wd E X1 w22 hN
    have step : ∀ t0 Q C W t, RT tp n kd t0 p b o C W 0 t → C.length + W.length ≤ p → (∀ t', RT tp n kd t0 (kE tp n p) true (o + 1) C (12 :: W) 0 t' → rTS N Q (n - kE tp n p + 5) t') → rTS N Q (n - p + 5) t := by
      intro t0 Q C W t hR hCW hA k2 h2
      rw [mfix_1 (by omega), head t0 C W t hR]
      obtain ⟨h', hL, e2⟩ := RT_lk hR
      obtain ⟨t1, f, R1, F⟩ := (r_open (N := N) (x := 12) (q := skp tp n p) (by omega) ho h').1 c
      obtain ⟨t2, f3, R2, F2⟩ := (asks_b (N := N) R1.2.1 (show 47 ∈ kWo by decide) hN).1 w22
      rw [f, Option.bind_some, f3, Option.bind_some]
      exact hA t2 (RT_st F2 (by decide) R2 R1) (k2 - 1) (by omega)
    rcases hF c s0 _ _ L s2 E X2 (by omega) with ⟨k', w', s3, f3, D, hB⟩ | ⟨e, p', b', s3, f3, X3, hp', hle, hck, hG⟩
    · left
      have gg := D.1.2.1
      obtain ⟨s4, f4, D4⟩ := c_dadd (N := N) hpo D (nI 21)
      refine ⟨k', w', _, ?_, c_ddec hpo D4 (gI s4 611 18 - nI 1), fun t0 Q C W t hR hCW hA hQ => step t0 Q C W t hR hCW (fun t' R => hB t0 Q C (12 :: W) t' R (by rw [List.length_cons]; omega) (AllT_c (by omega) hA) hQ)⟩
      show f_Rd_fact_B N _ _ _ _ s = _
      simp (disch := first | omega | decide) only [f_Rd_fact_B, wd, f1, f2, f3, gg, o1, f4, zI_0, zI_1, zI_2, zI_3, zI_4, zI_5, zI_6, zI_7, zI_8, zI_9, zI_10, zI_11, zI_12, zI_13, zI_14, zI_15, zI_16, zI_17, zI_18, zI_19, zI_20, zI_21, zI_22, zI_23, zI_24, zI_25, zI_26, zI_27, zI_28, zI_29, zI_30, zI_31, zI_32, zI_33, zI_34, zI_35, zI_36, zI_37, zI_38, zI_39, zI_40, zI_41, zI_42, zI_43, zI_44, zI_45, zI_46, zI_47, zI_48, zI_49, zI_50, zI_51, zI_52, zI_53, zI_54, zI_55, zI_56, zI_57, zI_58, zI_59, zI_60, zI_61, zI_62, zI_63, zI_64, zI_65, zI_66, zI_67, zI_74, zI_84, zI_85, zI_88, zI_91, zI_93, zI_97, zI_99, zI_100, zI_102, zI_105, zI_117, zI_122, zI_193, zI_202, zI_205, zI_251, zI_255, zI_256, zI_257, zI_258, zI_259, zI_260, zI_640, zI_999, zI_1000, zI_1024, zI_1600, zI_1602, zI_1700, zI_2040, zI_3200, zI_4100, zI_9728, zI_11784, zI_61440, zI_65536, zI_470536, zI_999999, zI_1000000, lt_T, lt_F, le_T, le_F, eq_T, eq_F, neg_1, cn_m1p, cn_m11, nI_add, cn_sub, pk_mul, cn_div, cn_irm, cn_lt, cn_eq, cn_ltm1, cn_m1lt, cn_eqm1, cn_m1eq, cn_ix, cn_inb, cn_ninb, cn_irs, cn_ils, cn_and, cn_or, cn_xor, grd_t, grd_bt, grd_bl, Nat.add_zero, Nat.zero_add, Nat.reduceAdd, Nat.reduceSub, Nat.reduceMul, Nat.reduceLT, Nat.reduceEqDiff, eq_self, true_and, and_true, and_false, false_and, if_true, if_false, and_self, Bool.true_eq_false, Bool.false_eq_true, Option.bind_some]
    · right
      have hpn' := X3.1
      have gg := (CE_x E X3).2.1
      obtain ⟨s4, f4, X4⟩ := c_add (N := N) (c := 12) E X3 (by rw [List.length_append]; omega) (x := nI 21) rfl
      have X5 := c_dec hpo X4
      rw [List.append_assoc] at X5
      refine ⟨e ++ [12], p', b', _, ?_, X5, by omega, by rw [List.length_append, List.length_singleton]; omega, ?_, ?_⟩
      · show f_Rd_fact_B N _ _ _ _ s = _
        simp (disch := first | omega | decide) only [f_Rd_fact_B, wd, f1, f2, f3, gg, o1, f4, zI_0, zI_1, zI_2, zI_3, zI_4, zI_5, zI_6, zI_7, zI_8, zI_9, zI_10, zI_11, zI_12, zI_13, zI_14, zI_15, zI_16, zI_17, zI_18, zI_19, zI_20, zI_21, zI_22, zI_23, zI_24, zI_25, zI_26, zI_27, zI_28, zI_29, zI_30, zI_31, zI_32, zI_33, zI_34, zI_35, zI_36, zI_37, zI_38, zI_39, zI_40, zI_41, zI_42, zI_43, zI_44, zI_45, zI_46, zI_47, zI_48, zI_49, zI_50, zI_51, zI_52, zI_53, zI_54, zI_55, zI_56, zI_57, zI_58, zI_59, zI_60, zI_61, zI_62, zI_63, zI_64, zI_65, zI_66, zI_67, zI_74, zI_84, zI_85, zI_88, zI_91, zI_93, zI_97, zI_99, zI_100, zI_102, zI_105, zI_117, zI_122, zI_193, zI_202, zI_205, zI_251, zI_255, zI_256, zI_257, zI_258, zI_259, zI_260, zI_640, zI_999, zI_1000, zI_1024, zI_1600, zI_1602, zI_1700, zI_2040, zI_3200, zI_4100, zI_9728, zI_11784, zI_61440, zI_65536, zI_470536, zI_999999, zI_1000000, lt_T, lt_F, le_T, le_F, eq_T, eq_F, neg_1, cn_m1p, cn_m11, nI_add, cn_sub, pk_mul, cn_div, cn_irm, cn_lt, cn_eq, cn_ltm1, cn_m1lt, cn_eqm1, cn_m1eq, cn_ix, cn_inb, cn_ninb, cn_irs, cn_ils, cn_and, cn_or, cn_xor, grd_t, grd_bt, grd_bl, Nat.add_zero, Nat.zero_add, Nat.reduceAdd, Nat.reduceSub, Nat.reduceMul, Nat.reduceLT, Nat.reduceEqDiff, eq_self, true_and, and_true, and_false, false_and, if_true, if_false, and_self, Bool.true_eq_false, Bool.false_eq_true, Option.bind_some]
      · refine ckN_one hck (by omega) (fun ts _ => ?_)
        unfold ck1
        rw [if_neg (by omega), if_neg (by omega), if_neg (by omega), if_neg (by omega), if_neg (by omega), if_pos rfl]
      · intro t0 Q C W t hR hCW hA hQ
        refine step t0 Q C W t hR hCW (fun t' R => hG t0 Q C (12 :: W) t' R (by rw [List.length_cons]; omega) (AllT_c (by omega) hA) (fun t2 R2 => ?_))
        refine DN_drop (by rw [List.length_append]; omega) R2 (by omega) (fun t3 R3 => ?_)
        rw [List.append_assoc] at R3
        exact hQ t3 R3
  · left
    obtain ⟨s1, f1, D1⟩ := g2 c
    refine ⟨4, skp tp n p, s1, ?_, D1, ?_⟩
    · show f_Rd_fact_B N _ _ _ _ s = some s1
      simp (disch := first | omega | decide) only [f_Rd_fact_B, wd, f1, zI_0, zI_1, zI_2, zI_3, zI_4, zI_5, zI_6, zI_7, zI_8, zI_9, zI_10, zI_11, zI_12, zI_13, zI_14, zI_15, zI_16, zI_17, zI_18, zI_19, zI_20, zI_21, zI_22, zI_23, zI_24, zI_25, zI_26, zI_27, zI_28, zI_29, zI_30, zI_31, zI_32, zI_33, zI_34, zI_35, zI_36, zI_37, zI_38, zI_39, zI_40, zI_41, zI_42, zI_43, zI_44, zI_45, zI_46, zI_47, zI_48, zI_49, zI_50, zI_51, zI_52, zI_53, zI_54, zI_55, zI_56, zI_57, zI_58, zI_59, zI_60, zI_61, zI_62, zI_63, zI_64, zI_65, zI_66, zI_67, zI_74, zI_84, zI_85, zI_88, zI_91, zI_93, zI_97, zI_99, zI_100, zI_102, zI_105, zI_117, zI_122, zI_193, zI_202, zI_205, zI_251, zI_255, zI_256, zI_257, zI_258, zI_259, zI_260, zI_640, zI_999, zI_1000, zI_1024, zI_1600, zI_1602, zI_1700, zI_2040, zI_3200, zI_4100, zI_9728, zI_11784, zI_61440, zI_65536, zI_470536, zI_999999, zI_1000000, lt_T, lt_F, le_T, le_F, eq_T, eq_F, neg_1, cn_m1p, cn_m11, nI_add, cn_sub, pk_mul, cn_div, cn_irm, cn_lt, cn_eq, cn_ltm1, cn_m1lt, cn_eqm1, cn_m1eq, cn_ix, cn_inb, cn_ninb, cn_irs, cn_ils, cn_and, cn_or, cn_xor, grd_t, grd_bt, grd_bl, Nat.add_zero, Nat.zero_add, Nat.reduceAdd, Nat.reduceSub, Nat.reduceMul, Nat.reduceLT, Nat.reduceEqDiff, eq_self, true_and, and_true, and_false, false_and, if_true, if_false, and_self, Bool.true_eq_false, Bool.false_eq_true, Option.bind_some]
    · intro t0 Q C W t hR hCW hA hQ k2 h2
      rw [mfix_1 (by omega), head t0 C W t hR]
      obtain ⟨h', hL, e2⟩ := RT_lk hR
      obtain ⟨t1, f, D, F⟩ := (r_open (N := N) (x := 12) (q := skp tp n p) (by omega) ho h').2 c
      rw [f, Option.bind_some, asks_d D.1, Option.bind_some]
      exact TS_bad hN (BT_U D) (by omega) hQ
/-- a test in square brackets -/
theorem fact_sq (E : CE tp n pg mk s0) (h : CX tp n pg s0 p b o L s) (hl : L.length ≤ p) (ho : o ≤ 6) (hr : 4 ≤ r) (hN : 10000 ≤ N) (hF : o < 6 → TestC N tp n kd mk pg al r (o + 1)) (k91 : kK tp n p b = 91) : FactR N tp n kd pg al (r + 1) o s0 p b L s := by
  obtain ⟨hT, hO, hm, ht⟩ := CE_x E h
  have hn := hT.1
  have hp := h.1
  have hpo := E.2.1
  obtain ⟨o1, _⟩ := pgo_ok hpo
  have wd := word_w (N := N) ht h.2.1
  have w0 : wdA tp n p b = 0 := wdA_0 (by omega)
  rw [w0, m1_0] at wd
  have k1 := h.2.1.1
  rw [k91] at k1
  have sb := skp_b (tp := tp) hp
  obtain ⟨z1, z2, z3, z4⟩ := kK_sg (c := 91) ⟨by decide, by decide⟩ k91
  obtain ⟨g1, g2⟩ := c_enters (N := N) E h (by omega) ho
  have head : ∀ t0 C W t, RT tp n kd t0 p b o C W 0 t → ∀ g : Int32 × mS → Option mS, f_M_qTest_L2 N g (nI 1, t) = (f_M_qOpens N (nI 25) (nI (skp tp n p)) (lk tp n p t)).bind fun p8 => g (nI 1, sI p8 1002 0 (gI p8 1002 0 + nI 1)) := by
    intro t0 C W t hR g
    obtain ⟨e2, l, e3, sg, i47⟩ := TS_look hR hN
    have sg := sg.trans (eq_true k91)
    generalize lk tp n p t = t1 at *
    generalize chM tp n p = ch at *
    simp (disch := first | omega | decide) only [f_M_qTest_L2, e2, l, sg, e3, zI_0, zI_1, zI_2, zI_3, zI_4, zI_5, zI_6, zI_7, zI_8, zI_9, zI_10, zI_11, zI_12, zI_13, zI_14, zI_15, zI_16, zI_17, zI_18, zI_19, zI_20, zI_21, zI_22, zI_23, zI_24, zI_25, zI_26, zI_27, zI_28, zI_29, zI_30, zI_31, zI_32, zI_33, zI_34, zI_35, zI_36, zI_37, zI_38, zI_39, zI_40, zI_41, zI_42, zI_43, zI_44, zI_45, zI_46, zI_47, zI_48, zI_49, zI_50, zI_51, zI_52, zI_53, zI_54, zI_55, zI_56, zI_57, zI_58, zI_59, zI_60, zI_61, zI_62, zI_63, zI_64, zI_65, zI_66, zI_67, zI_74, zI_84, zI_85, zI_88, zI_91, zI_93, zI_97, zI_99, zI_100, zI_102, zI_105, zI_117, zI_122, zI_193, zI_202, zI_205, zI_251, zI_255, zI_256, zI_257, zI_258, zI_259, zI_260, zI_640, zI_999, zI_1000, zI_1024, zI_1600, zI_1602, zI_1700, zI_2040, zI_3200, zI_4100, zI_9728, zI_11784, zI_61440, zI_65536, zI_470536, zI_999999, zI_1000000, lt_T, lt_F, le_T, le_F, eq_T, eq_F, neg_1, cn_m1p, cn_m11, nI_add, cn_sub, pk_mul, cn_div, cn_irm, cn_lt, cn_eq, cn_ltm1, cn_m1lt, cn_eqm1, cn_m1eq, cn_ix, cn_inb, cn_ninb, cn_irs, cn_ils, cn_and, cn_or, cn_xor, grd_t, grd_bt, grd_bl, Nat.add_zero, Nat.zero_add, Nat.reduceAdd, Nat.reduceSub, Nat.reduceMul, Nat.reduceLT, Nat.reduceEqDiff, eq_self, true_and, and_true, and_false, false_and, if_true, if_false, and_self, Bool.true_eq_false, Bool.false_eq_true, Option.bind_some]
  by_cases c : o < 6
  · obtain ⟨s1, f1, X1⟩ := g1 c
    obtain ⟨s2, f2, X2, p3, p4⟩ := c_sg (c := 91) ⟨by decide, by decide⟩ E X1 k91 hN
    have step : ∀ t0 Q C W t, RT tp n kd t0 p b o C W 0 t → C.length + W.length ≤ p → (∀ t', RT tp n kd t0 (skp tp n p + 1) false (o + 1) C (25 :: W) 0 t' → rTS N Q (n - (skp tp n p + 1) + 5) t') → rTS N Q (n - p + 5) t := by
      intro t0 Q C W t hR hCW hA k2 h2
      rw [mfix_1 (by omega), head t0 C W t hR]
      obtain ⟨h', hL, e2⟩ := RT_lk hR
      obtain ⟨t1, f, R1, F⟩ := (r_open (N := N) (x := 25) (q := skp tp n p) (by omega) ho h').1 c
      have g3 : gI t1 1002 0 = nI (skp tp n p) := by rw [F.I 1002 0 (by decide)]; exact e2
      rw [f, Option.bind_some]
      simp only [g3, nI_add]
      exact hA _ (RT_st (Fr_sI _ _ _ (by decide)) (l := [110200]) (by decide) (RB_sg (by omega) sb.1 R1.2.1) R1) (k2 - 1) (by omega)
    rcases hF c s0 _ _ L s2 E X2 (by omega) with ⟨k', w', s3, f3, D, hB⟩ | ⟨es, pend, p', b', s3, f3, X3, hp', hle, hck, hop, hno, hG⟩
    · left
      have d4 := expect_d (N := N) D.1.1 (c := 93) (by omega)
      have d5 := adv_d (N := N) D.1.1
      refine ⟨k', w', _, ?_, c_ddec hpo D (gI s3 611 18 - nI 1), fun t0 Q C W t hR hCW hA hQ => step t0 Q C W t hR hCW (fun t' R => hB t0 Q C (25 :: W) t' R (by rw [List.length_cons]; omega) (AllT_c (by omega) hA) (fun x W' e => by cases e; omega) hQ)⟩
      show f_Rd_fact_B N _ _ _ _ s = _
      simp (disch := first | omega | decide) only [f_Rd_fact_B, wd, k1, f1, f2, f3, d4, d5, zI_0, zI_1, zI_2, zI_3, zI_4, zI_5, zI_6, zI_7, zI_8, zI_9, zI_10, zI_11, zI_12, zI_13, zI_14, zI_15, zI_16, zI_17, zI_18, zI_19, zI_20, zI_21, zI_22, zI_23, zI_24, zI_25, zI_26, zI_27, zI_28, zI_29, zI_30, zI_31, zI_32, zI_33, zI_34, zI_35, zI_36, zI_37, zI_38, zI_39, zI_40, zI_41, zI_42, zI_43, zI_44, zI_45, zI_46, zI_47, zI_48, zI_49, zI_50, zI_51, zI_52, zI_53, zI_54, zI_55, zI_56, zI_57, zI_58, zI_59, zI_60, zI_61, zI_62, zI_63, zI_64, zI_65, zI_66, zI_67, zI_74, zI_84, zI_85, zI_88, zI_91, zI_93, zI_97, zI_99, zI_100, zI_102, zI_105, zI_117, zI_122, zI_193, zI_202, zI_205, zI_251, zI_255, zI_256, zI_257, zI_258, zI_259, zI_260, zI_640, zI_999, zI_1000, zI_1024, zI_1600, zI_1602, zI_1700, zI_2040, zI_3200, zI_4100, zI_9728, zI_11784, zI_61440, zI_65536, zI_470536, zI_999999, zI_1000000, lt_T, lt_F, le_T, le_F, eq_T, eq_F, neg_1, cn_m1p, cn_m11, nI_add, cn_sub, pk_mul, cn_div, cn_irm, cn_lt, cn_eq, cn_ltm1, cn_m1lt, cn_eqm1, cn_m1eq, cn_ix, cn_inb, cn_ninb, cn_irs, cn_ils, cn_and, cn_or, cn_xor, grd_t, grd_bt, grd_bl, Nat.add_zero, Nat.zero_add, Nat.reduceAdd, Nat.reduceSub, Nat.reduceMul, Nat.reduceLT, Nat.reduceEqDiff, eq_self, true_and, and_true, and_false, false_and, if_true, if_false, and_self, Bool.true_eq_false, Bool.false_eq_true, Option.bind_some]
    · have hpn' := X3.1
      have hl3 : (L ++ (es ++ pend)).length ≤ p' := by rw [List.length_append]; omega
      rw [List.length_append] at hle
      by_cases c2 : kK tp n p' b' = 93
      · right
        have d4 := (c_expect (N := N) (c := 93) E X3 (by omega) (by omega)).1 c2
        obtain ⟨s5, f5, X5, p5, p6⟩ := c_sg (c := 93) ⟨by decide, by decide⟩ E X3 c2 hN
        have X6 := c_dec hpo X5
        refine ⟨es ++ pend, skp tp n p' + 1, false, _, ?_, X6, by omega, by rw [List.length_append]; omega, ckN_mono hck (by omega), ?_⟩
        · show f_Rd_fact_B N _ _ _ _ s = _
          simp (disch := first | omega | decide) only [f_Rd_fact_B, wd, k1, f1, f2, f3, d4, f5, zI_0, zI_1, zI_2, zI_3, zI_4, zI_5, zI_6, zI_7, zI_8, zI_9, zI_10, zI_11, zI_12, zI_13, zI_14, zI_15, zI_16, zI_17, zI_18, zI_19, zI_20, zI_21, zI_22, zI_23, zI_24, zI_25, zI_26, zI_27, zI_28, zI_29, zI_30, zI_31, zI_32, zI_33, zI_34, zI_35, zI_36, zI_37, zI_38, zI_39, zI_40, zI_41, zI_42, zI_43, zI_44, zI_45, zI_46, zI_47, zI_48, zI_49, zI_50, zI_51, zI_52, zI_53, zI_54, zI_55, zI_56, zI_57, zI_58, zI_59, zI_60, zI_61, zI_62, zI_63, zI_64, zI_65, zI_66, zI_67, zI_74, zI_84, zI_85, zI_88, zI_91, zI_93, zI_97, zI_99, zI_100, zI_102, zI_105, zI_117, zI_122, zI_193, zI_202, zI_205, zI_251, zI_255, zI_256, zI_257, zI_258, zI_259, zI_260, zI_640, zI_999, zI_1000, zI_1024, zI_1600, zI_1602, zI_1700, zI_2040, zI_3200, zI_4100, zI_9728, zI_11784, zI_61440, zI_65536, zI_470536, zI_999999, zI_1000000, lt_T, lt_F, le_T, le_F, eq_T, eq_F, neg_1, cn_m1p, cn_m11, nI_add, cn_sub, pk_mul, cn_div, cn_irm, cn_lt, cn_eq, cn_ltm1, cn_m1lt, cn_eqm1, cn_m1eq, cn_ix, cn_inb, cn_ninb, cn_irs, cn_ils, cn_and, cn_or, cn_xor, grd_t, grd_bt, grd_bl, Nat.add_zero, Nat.zero_add, Nat.reduceAdd, Nat.reduceSub, Nat.reduceMul, Nat.reduceLT, Nat.reduceEqDiff, eq_self, true_and, and_true, and_false, false_and, if_true, if_false, and_self, Bool.true_eq_false, Bool.false_eq_true, Option.bind_some]
        · intro t0 Q C W t hR hCW hA hQ
          refine step t0 Q C W t hR hCW (fun t' R => hG t0 Q C (25 :: W) t' R (by rw [List.length_cons]; omega) (AllT_c (by omega) hA) (fun x W' e => by cases e; omega) (fun t2 R2 => ?_))
          have cl := TG_close (N := N) (Q := Q) (m := n - (skp tp n p' + 1) + 5) R2 hA hop (by rw [List.length_append, List.length_append, List.length_cons]; omega) c2 (by omega) hN (by omega) (fun t3 R3 => by
            rw [List.append_assoc] at R3
            exact hQ t3 R3)
          intro kg k2 h1 h2
          exact cl kg k2 (by omega) (by omega)
      · left
        obtain ⟨s4, f4, D4⟩ := (c_expect (N := N) (c := 93) E X3 (by omega) (by omega)).2 c2
        have d5 := adv_d (N := N) D4.1.1
        refine ⟨1, skp tp n p', _, ?_, c_ddec hpo D4 (gI s4 611 18 - nI 1), fun t0 Q C W t hR hCW hA hQ => step t0 Q C W t hR hCW (fun t' R => hG t0 Q C (25 :: W) t' R (by rw [List.length_cons]; omega) (AllT_c (by omega) hA) (fun x W' e => by cases e; omega) (fun t2 R2 => TG_fail R2 hA hop (by simp only [List.length_append, List.length_cons] at *; omega) c2 hno hN (by omega) hQ))⟩
        show f_Rd_fact_B N _ _ _ _ s = _
        simp (disch := first | omega | decide) only [f_Rd_fact_B, wd, k1, f1, f2, f3, f4, d5, zI_0, zI_1, zI_2, zI_3, zI_4, zI_5, zI_6, zI_7, zI_8, zI_9, zI_10, zI_11, zI_12, zI_13, zI_14, zI_15, zI_16, zI_17, zI_18, zI_19, zI_20, zI_21, zI_22, zI_23, zI_24, zI_25, zI_26, zI_27, zI_28, zI_29, zI_30, zI_31, zI_32, zI_33, zI_34, zI_35, zI_36, zI_37, zI_38, zI_39, zI_40, zI_41, zI_42, zI_43, zI_44, zI_45, zI_46, zI_47, zI_48, zI_49, zI_50, zI_51, zI_52, zI_53, zI_54, zI_55, zI_56, zI_57, zI_58, zI_59, zI_60, zI_61, zI_62, zI_63, zI_64, zI_65, zI_66, zI_67, zI_74, zI_84, zI_85, zI_88, zI_91, zI_93, zI_97, zI_99, zI_100, zI_102, zI_105, zI_117, zI_122, zI_193, zI_202, zI_205, zI_251, zI_255, zI_256, zI_257, zI_258, zI_259, zI_260, zI_640, zI_999, zI_1000, zI_1024, zI_1600, zI_1602, zI_1700, zI_2040, zI_3200, zI_4100, zI_9728, zI_11784, zI_61440, zI_65536, zI_470536, zI_999999, zI_1000000, lt_T, lt_F, le_T, le_F, eq_T, eq_F, neg_1, cn_m1p, cn_m11, nI_add, cn_sub, pk_mul, cn_div, cn_irm, cn_lt, cn_eq, cn_ltm1, cn_m1lt, cn_eqm1, cn_m1eq, cn_ix, cn_inb, cn_ninb, cn_irs, cn_ils, cn_and, cn_or, cn_xor, grd_t, grd_bt, grd_bl, Nat.add_zero, Nat.zero_add, Nat.reduceAdd, Nat.reduceSub, Nat.reduceMul, Nat.reduceLT, Nat.reduceEqDiff, eq_self, true_and, and_true, and_false, false_and, if_true, if_false, and_self, Bool.true_eq_false, Bool.false_eq_true, Option.bind_some]
  · left
    obtain ⟨s1, f1, D1⟩ := g2 c
    refine ⟨4, skp tp n p, s1, ?_, D1, ?_⟩
    · show f_Rd_fact_B N _ _ _ _ s = some s1
      simp (disch := first | omega | decide) only [f_Rd_fact_B, wd, k1, f1, zI_0, zI_1, zI_2, zI_3, zI_4, zI_5, zI_6, zI_7, zI_8, zI_9, zI_10, zI_11, zI_12, zI_13, zI_14, zI_15, zI_16, zI_17, zI_18, zI_19, zI_20, zI_21, zI_22, zI_23, zI_24, zI_25, zI_26, zI_27, zI_28, zI_29, zI_30, zI_31, zI_32, zI_33, zI_34, zI_35, zI_36, zI_37, zI_38, zI_39, zI_40, zI_41, zI_42, zI_43, zI_44, zI_45, zI_46, zI_47, zI_48, zI_49, zI_50, zI_51, zI_52, zI_53, zI_54, zI_55, zI_56, zI_57, zI_58, zI_59, zI_60, zI_61, zI_62, zI_63, zI_64, zI_65, zI_66, zI_67, zI_74, zI_84, zI_85, zI_88, zI_91, zI_93, zI_97, zI_99, zI_100, zI_102, zI_105, zI_117, zI_122, zI_193, zI_202, zI_205, zI_251, zI_255, zI_256, zI_257, zI_258, zI_259, zI_260, zI_640, zI_999, zI_1000, zI_1024, zI_1600, zI_1602, zI_1700, zI_2040, zI_3200, zI_4100, zI_9728, zI_11784, zI_61440, zI_65536, zI_470536, zI_999999, zI_1000000, lt_T, lt_F, le_T, le_F, eq_T, eq_F, neg_1, cn_m1p, cn_m11, nI_add, cn_sub, pk_mul, cn_div, cn_irm, cn_lt, cn_eq, cn_ltm1, cn_m1lt, cn_eqm1, cn_m1eq, cn_ix, cn_inb, cn_ninb, cn_irs, cn_ils, cn_and, cn_or, cn_xor, grd_t, grd_bt, grd_bl, Nat.add_zero, Nat.zero_add, Nat.reduceAdd, Nat.reduceSub, Nat.reduceMul, Nat.reduceLT, Nat.reduceEqDiff, eq_self, true_and, and_true, and_false, false_and, if_true, if_false, and_self, Bool.true_eq_false, Bool.false_eq_true, Option.bind_some]
    · intro t0 Q C W t hR hCW hA hQ k2 h2
      rw [mfix_1 (by omega), head t0 C W t hR]
      obtain ⟨h', hL, e2⟩ := RT_lk hR
      obtain ⟨t1, f, D, F⟩ := (r_open (N := N) (x := 25) (q := skp tp n p) (by omega) ho h').2 c
      rw [f, Option.bind_some]
      exact TS_bad hN (BT_U (BT_fr D (Fr_sI _ _ _ (by decide)) (l := [110200]) (by decide) (by decide) (by decide))) (by omega) hQ
theorem fact_j (ho : o ≤ 6) (hr : 4 ≤ r) (hN : 10000 ≤ N) (hS : SqC N tp n kd mk pg al r o) (hF : o < 6 → FactC N tp n kd mk pg al r (o + 1)) (hT : o < 6 → TestC N tp n kd mk pg al r (o + 1)) : FactC N tp n kd mk pg al (r + 1) o := by
  intro s0 p b L s E h hl
  by_cases k91 : kK tp n p b = 91
  · exact fact_sq E h hl ho hr hN hT k91
  · by_cases w22 : wdA tp n p b = 22
    · exact fact_not E h hl ho (by omega) hN hF w22
    · by_cases w23 : wdA tp n p b = 23
      · exact fact_all E h hl hN w23
      · exact fact_cmp E h hl (by omega) hN hS k91 w22 w23
end FACTJ
