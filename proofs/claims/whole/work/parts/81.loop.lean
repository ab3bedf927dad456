/-! THE FIRST STATEMENT, all statements, on both sides -/
def pE0 : pL := (0, 0, 0, 0, (fun w => if w = 10 then [13] else [43]), (fun _ => []), false, false)
def LpR (N : Nat) (tp : Nat → Nat) (n : Nat) (s0 t0 : mS) (cs rs : Option (Int32 × mS)) : Prop :=
  (∃ k w j s1 t1, DXd s0 k w s1 ∧ DMd t0 k w t1 ∧ cs = f_X_corridor_j61 N (nI j, s1) ∧ rs = f_M_corridor_j136 N t1) ∨
  (∃ A op pt L M p b j s1 t1, JX tp n s0 A op pt L p b s1 ∧ JM tp n t0 A op pt M p b t1 ∧ WD A op pt ∧ 0 < pD A ∧ L.length ≤ p ∧ M ≤ p ∧ gI t1 1045 0 = nI j ∧ cs = f_X_corridor_j61 N (nI j, s1) ∧ rs = f_M_corridor_j136 N t1)
section FIRST
variable {N n p op k w M mk j W : Nat} {tp pt : Nat → Nat} {b : Bool} {s s' s0 t t' t0 : mS} {L e : List Nat} {A A' : pL} {l : List Nat} {x v : Int32} {cs rs : Option mS}
theorem WD_E0 {v' : Nat} (h1 : 2 ≤ v') (h2 : v' ≤ 24) : WD (pSetD pE0 v') 0 (fun _ => 0) :=
  ⟨⟨h2, Nat.zero_le _, Nat.zero_le _, Nat.zero_le _, fun _ => rfl, fun p hp => absurd hp (Nat.not_lt_zero _), fun _ => ⟨show ckL alW [13] [] = some [true] by decide, show ckL alC [43] [] = some [false] by decide⟩, fun p hp => absurd hp (Nat.not_lt_zero _), fun _ => rfl, fun _ => rfl⟩, Nat.pow_pos (by omega), fun _ => Nat.zero_le _⟩
theorem body_doors (hJ : JX tp n s0 pE0 0 (fun _ => 0) L p b s) (hM : JM tp n t0 pE0 0 (fun _ => 0) M p b t) (hL : L.length ≤ p) (hMp : M ≤ p) (hx : gI t 1045 0 = x) (hN : 10000 ≤ N) :
    BoR tp n s0 t0 p x (f_Rd_numbers N (nI 0) s) ((f_M_number N (nI 2) (nI 24) t).bind fun p12 => some (sA p12.2 28 0 p12.1)) := by
  obtain ⟨⟨mk, E⟩, X, D, F0⟩ := hJ
  have hn := E.1.1
  have hpn := X.1
  rw [numb_0]
  rcases num_j (N := N) (lo := 2) (hi := 24) (by omega) (by omega) E X (by omega) hM.1 hN with ⟨k, w, s', v, t', f, Dd, g, B, F⟩ | ⟨v, s', t', v1, v2, f, X', hp', g, R, g10, F⟩
  · left
    exact ⟨k, w, _, _, by rw [f, Option.bind_some], DXd_fr (DX_d F0 Dd) (Fr_sI 400 9 (nI 2) (l := [50009]) (by decide)) (by decide) (by decide), by rw [g, Option.bind_some], DMd_28 (by omega) (BM_d hM.2.2 B F (by decide) (by decide))⟩
  · right
    have hp2 := X'.1
    have st := JX_st ⟨⟨mk, E⟩, X, D, F0⟩ X'
    obtain ⟨h1, h2, h3, h4, h5, h6, h7, h8, h9, h10, h11⟩ := st.2.2.1
    have D2 := DM_fr F (by decide) hM.2.1
    obtain ⟨m1', m2, m3, m4, m5, m6, m7, m8, m9, m10, m11, m12, m13⟩ := D2
    refine ⟨pSetD pE0 v, 0, fun _ => 0, L, M, kE tp n p, true, _, _, by rw [f, Option.bind_some], by rw [g, Option.bind_some], JX_cell st (Fr_sI 400 9 (nI v) (l := [50009]) (by decide)) (by decide) (by decide) ?_, ⟨RB_fr (Fr_sA 28 0 (nI v) (l := [28]) (by decide)) (by decide) R, ?_, FM_t hM.2.2 (FM_t (FM_f F (by decide) (by decide)) (FM_28 (by omega)))⟩, WD_E0 v1 v2, hp', by omega, by omega, show 0 < v by omega, by rw [gI_sA, F.I 1045 0 (by decide)]; exact hx⟩
    · exact ⟨by simp (disch := first | omega | decide) only [gI_sI, gI_sA, gI_sL, gI_sQ, gI_sC, gI_sO, gI_sD, gA_sI, gA_sL, gA_sQ, gA_sO, gA_sD, gL_sI, gL_sA, gL_sQ, gL_sC, gL_sO, gL_sD, gQ_sI, gQ_sA, gQ_sL, gQ_sC, gQ_sO, gO_sI, gO_sA, gO_sL, gO_sQ, gO_sC, gO_sO, gO_sD, gA_eq, gA_ne, gQ_eq, gQ_ne, gL_sL, gA_cin, gA_cou, gQ_cin, gQ_cou, Nat.reduceAdd, Nat.reduceSub, Nat.reduceMul, Nat.reduceLT, Nat.reduceEqDiff, eq_self, true_and, and_true, and_false, false_and, if_true, if_false, and_self, Bool.true_eq_false, Bool.false_eq_true]; rfl, by simp (disch := first | omega | decide) only [gI_sI, gI_sA, gI_sL, gI_sQ, gI_sC, gI_sO, gI_sD, gA_sI, gA_sL, gA_sQ, gA_sO, gA_sD, gL_sI, gL_sA, gL_sQ, gL_sC, gL_sO, gL_sD, gQ_sI, gQ_sA, gQ_sL, gQ_sC, gQ_sO, gO_sI, gO_sA, gO_sL, gO_sQ, gO_sC, gO_sO, gO_sD, gA_eq, gA_ne, gQ_eq, gQ_ne, gL_sL, gA_cin, gA_cou, gQ_cin, gQ_cou, Nat.reduceAdd, Nat.reduceSub, Nat.reduceMul, Nat.reduceLT, Nat.reduceEqDiff, eq_self, true_and, and_true, and_false, false_and, if_true, if_false, and_self, Bool.true_eq_false, Bool.false_eq_true]; exact h2, by simp (disch := first | omega | decide) only [gI_sI, gI_sA, gI_sL, gI_sQ, gI_sC, gI_sO, gI_sD, gA_sI, gA_sL, gA_sQ, gA_sO, gA_sD, gL_sI, gL_sA, gL_sQ, gL_sC, gL_sO, gL_sD, gQ_sI, gQ_sA, gQ_sL, gQ_sC, gQ_sO, gO_sI, gO_sA, gO_sL, gO_sQ, gO_sC, gO_sO, gO_sD, gA_eq, gA_ne, gQ_eq, gQ_ne, gL_sL, gA_cin, gA_cou, gQ_cin, gQ_cou, Nat.reduceAdd, Nat.reduceSub, Nat.reduceMul, Nat.reduceLT, Nat.reduceEqDiff, eq_self, true_and, and_true, and_false, false_and, if_true, if_false, and_self, Bool.true_eq_false, Bool.false_eq_true]; exact h3, by simp (disch := first | omega | decide) only [gI_sI, gI_sA, gI_sL, gI_sQ, gI_sC, gI_sO, gI_sD, gA_sI, gA_sL, gA_sQ, gA_sO, gA_sD, gL_sI, gL_sA, gL_sQ, gL_sC, gL_sO, gL_sD, gQ_sI, gQ_sA, gQ_sL, gQ_sC, gQ_sO, gO_sI, gO_sA, gO_sL, gO_sQ, gO_sC, gO_sO, gO_sD, gA_eq, gA_ne, gQ_eq, gQ_ne, gL_sL, gA_cin, gA_cou, gQ_cin, gQ_cou, Nat.reduceAdd, Nat.reduceSub, Nat.reduceMul, Nat.reduceLT, Nat.reduceEqDiff, eq_self, true_and, and_true, and_false, false_and, if_true, if_false, and_self, Bool.true_eq_false, Bool.false_eq_true]; exact h4, by simp (disch := first | omega | decide) only [gI_sI, gI_sA, gI_sL, gI_sQ, gI_sC, gI_sO, gI_sD, gA_sI, gA_sL, gA_sQ, gA_sO, gA_sD, gL_sI, gL_sA, gL_sQ, gL_sC, gL_sO, gL_sD, gQ_sI, gQ_sA, gQ_sL, gQ_sC, gQ_sO, gO_sI, gO_sA, gO_sL, gO_sQ, gO_sC, gO_sO, gO_sD, gA_eq, gA_ne, gQ_eq, gQ_ne, gL_sL, gA_cin, gA_cou, gQ_cin, gQ_cou, Nat.reduceAdd, Nat.reduceSub, Nat.reduceMul, Nat.reduceLT, Nat.reduceEqDiff, eq_self, true_and, and_true, and_false, false_and, if_true, if_false, and_self, Bool.true_eq_false, Bool.false_eq_true]; exact h5, h6, h7, by simp (disch := first | omega | decide) only [gI_sI, gI_sA, gI_sL, gI_sQ, gI_sC, gI_sO, gI_sD, gA_sI, gA_sL, gA_sQ, gA_sO, gA_sD, gL_sI, gL_sA, gL_sQ, gL_sC, gL_sO, gL_sD, gQ_sI, gQ_sA, gQ_sL, gQ_sC, gQ_sO, gO_sI, gO_sA, gO_sL, gO_sQ, gO_sC, gO_sO, gO_sD, gA_eq, gA_ne, gQ_eq, gQ_ne, gL_sL, gA_cin, gA_cou, gQ_cin, gQ_cou, Nat.reduceAdd, Nat.reduceSub, Nat.reduceMul, Nat.reduceLT, Nat.reduceEqDiff, eq_self, true_and, and_true, and_false, false_and, if_true, if_false, and_self, Bool.true_eq_false, Bool.false_eq_true]; exact h8, by simp (disch := first | omega | decide) only [gI_sI, gI_sA, gI_sL, gI_sQ, gI_sC, gI_sO, gI_sD, gA_sI, gA_sL, gA_sQ, gA_sO, gA_sD, gL_sI, gL_sA, gL_sQ, gL_sC, gL_sO, gL_sD, gQ_sI, gQ_sA, gQ_sL, gQ_sC, gQ_sO, gO_sI, gO_sA, gO_sL, gO_sQ, gO_sC, gO_sO, gO_sD, gA_eq, gA_ne, gQ_eq, gQ_ne, gL_sL, gA_cin, gA_cou, gQ_cin, gQ_cou, Nat.reduceAdd, Nat.reduceSub, Nat.reduceMul, Nat.reduceLT, Nat.reduceEqDiff, eq_self, true_and, and_true, and_false, false_and, if_true, if_false, and_self, Bool.true_eq_false, Bool.false_eq_true]; exact h9, fun w hw => XCd_same (h10 w hw) rfl rfl rfl, by simp (disch := first | omega | decide) only [gI_sI, gI_sA, gI_sL, gI_sQ, gI_sC, gI_sO, gI_sD, gA_sI, gA_sL, gA_sQ, gA_sO, gA_sD, gL_sI, gL_sA, gL_sQ, gL_sC, gL_sO, gL_sD, gQ_sI, gQ_sA, gQ_sL, gQ_sC, gQ_sO, gO_sI, gO_sA, gO_sL, gO_sQ, gO_sC, gO_sO, gO_sD, gA_eq, gA_ne, gQ_eq, gQ_ne, gL_sL, gA_cin, gA_cou, gQ_cin, gQ_cou, Nat.reduceAdd, Nat.reduceSub, Nat.reduceMul, Nat.reduceLT, Nat.reduceEqDiff, eq_self, true_and, and_true, and_false, false_and, if_true, if_false, and_self, Bool.true_eq_false, Bool.false_eq_true]; exact h11⟩
    · exact ⟨gA_eq rfl, by rw [gA_ne (by omega)]; exact m2, by rw [gA_ne (by omega)]; exact m3, by rw [gA_ne (by omega)]; exact m4, m5, fun d hd => by rw [gA_ne (by omega)]; exact m6 d hd, m7, m8, fun p hp => MCd_old (m9 p hp) rfl (gA_ne (by omega)) (gA_ne (by omega)) (fun i _ => gA_ne (by omega)) (Nat.le_refl _), fun h => MCd_old (m10 h) rfl (gA_ne (by omega)) (gA_ne (by omega)) (fun i _ => gA_ne (by omega)) (Nat.le_refl _), fun h => by rw [gA_ne (by omega)]; exact m11 h, fun h => MCd_old (m12 h) rfl (gA_ne (by omega)) (gA_ne (by omega)) (fun i _ => gA_ne (by omega)) (Nat.le_refl _), fun h => by rw [gA_ne (by omega)]; exact m13 h⟩
noncomputable def semF (N : Nat) (p : mS) : Option mS := (f_M_asksSign N (nI 59) p).bind fun p1 => some (sI p1 1045 0 (nI 1))
theorem semi_0 (hN : 10000 ≤ N) (h : BoR tp n s0 t0 p x cs rs) : BoR tp n s0 t0 p (nI 1) (cs.bind fun p => f_Rd_statement_j233 N p) (rs.bind fun p => semF N p) := by
  rcases h with ⟨k, w, s', t', rfl, D, rfl, B⟩ | ⟨A, op, pt, L, M, p', b', s', t', rfl, rfl, hJ, hM, hW, hp, hL, hMp, h0, hx⟩
  · left
    have d1 := expect_d (N := N) D.1.1 (c := 59) (by omega)
    have d2 := adv_d (N := N) D.1.1
    have g1 := asksSign_d (N := N) B.1 (nI 59)
    refine ⟨k, w, s', sI t' 1045 0 (nI 1), ?_, D, ?_, DMd_fr B (Fr_sI 1045 0 _ (l := [114500]) (by decide)) (by decide) (by decide) (by decide)⟩
    · simp only [f_Rd_statement_j233, zI_0, zI_1, zI_2, zI_3, zI_4, zI_5, zI_6, zI_7, zI_8, zI_9, zI_10, zI_11, zI_12, zI_13, zI_14, zI_15, zI_16, zI_17, zI_18, zI_19, zI_20, zI_21, zI_22, zI_23, zI_24, zI_25, zI_26, zI_27, zI_28, zI_29, zI_30, zI_31, zI_32, zI_33, zI_34, zI_35, zI_36, zI_37, zI_38, zI_39, zI_40, zI_41, zI_42, zI_43, zI_44, zI_45, zI_46, zI_47, zI_48, zI_49, zI_50, zI_51, zI_52, zI_53, zI_54, zI_55, zI_56, zI_57, zI_58, zI_59, zI_60, zI_61, zI_62, zI_63, zI_64, zI_65, zI_66, zI_67, zI_74, zI_84, zI_85, zI_88, zI_91, zI_93, zI_97, zI_99, zI_100, zI_102, zI_105, zI_117, zI_122, zI_193, zI_202, zI_205, zI_251, zI_255, zI_256, zI_257, zI_258, zI_259, zI_260, zI_640, zI_999, zI_1000, zI_1024, zI_1600, zI_1602, zI_1700, zI_2040, zI_3200, zI_4100, zI_9728, zI_11784, zI_61440, zI_65536, zI_470536, zI_999999, zI_1000000, d1, d2, Option.bind_some]
    · simp only [semF, g1, Option.bind_some]
  · obtain ⟨⟨mk, E⟩, X, D, F0⟩ := hJ
    have hn := E.1.1
    have hpn := X.1
    obtain ⟨e1, e2⟩ := c_expect (N := N) (c := 59) E X (by omega) (by omega)
    obtain ⟨a1, a2⟩ := asksSign_b (N := N) (c := 59) ⟨by decide, by decide⟩ hM.1 hN
    by_cases c : kK tp n p' b' = 59
    · right
      obtain ⟨z1, z2, z3, z4⟩ := kK_sg (c := 59) ⟨by decide, by decide⟩ c
      have f1 := e1 c
      obtain ⟨s1, f2, X1, p1, p2⟩ := c_sg (c := 59) ⟨by decide, by decide⟩ E X c hN
      obtain ⟨t1, g1, R, F⟩ := a1 c
      rw [z3, z4] at R
      have hM1 := JM_st hM R F (by decide)
      have F2 : Fr [114500] t1 (sI t1 1045 0 (nI 1)) := Fr_sI _ _ _ (by decide)
      refine ⟨A, op, pt, L, M, skp tp n p' + 1, false, s1, sI t1 1045 0 (nI 1), ?_, ?_, JX_st ⟨⟨mk, E⟩, X, D, F0⟩ X1, ⟨RB_fr F2 (by decide) hM1.1, DM_fr F2 (by decide) hM1.2.1, FM_t hM1.2.2 (FM_f F2 (by decide) (by decide))⟩, hW, by omega, by omega, by omega, h0, by simp (disch := first | omega | decide) only [gI_sI, gI_sA, gI_sL, gI_sQ, gI_sC, gI_sO, gI_sD, gA_sI, gA_sL, gA_sQ, gA_sO, gA_sD, gL_sI, gL_sA, gL_sQ, gL_sC, gL_sO, gL_sD, gQ_sI, gQ_sA, gQ_sL, gQ_sC, gQ_sO, gO_sI, gO_sA, gO_sL, gO_sQ, gO_sC, gO_sO, gO_sD, gA_eq, gA_ne, gQ_eq, gQ_ne, gL_sL, gA_cin, gA_cou, gQ_cin, gQ_cou, Nat.reduceAdd, Nat.reduceSub, Nat.reduceMul, Nat.reduceLT, Nat.reduceEqDiff, eq_self, true_and, and_true, and_false, false_and, if_true, if_false, and_self, Bool.true_eq_false, Bool.false_eq_true]⟩
      · simp only [f_Rd_statement_j233, zI_0, zI_1, zI_2, zI_3, zI_4, zI_5, zI_6, zI_7, zI_8, zI_9, zI_10, zI_11, zI_12, zI_13, zI_14, zI_15, zI_16, zI_17, zI_18, zI_19, zI_20, zI_21, zI_22, zI_23, zI_24, zI_25, zI_26, zI_27, zI_28, zI_29, zI_30, zI_31, zI_32, zI_33, zI_34, zI_35, zI_36, zI_37, zI_38, zI_39, zI_40, zI_41, zI_42, zI_43, zI_44, zI_45, zI_46, zI_47, zI_48, zI_49, zI_50, zI_51, zI_52, zI_53, zI_54, zI_55, zI_56, zI_57, zI_58, zI_59, zI_60, zI_61, zI_62, zI_63, zI_64, zI_65, zI_66, zI_67, zI_74, zI_84, zI_85, zI_88, zI_91, zI_93, zI_97, zI_99, zI_100, zI_102, zI_105, zI_117, zI_122, zI_193, zI_202, zI_205, zI_251, zI_255, zI_256, zI_257, zI_258, zI_259, zI_260, zI_640, zI_999, zI_1000, zI_1024, zI_1600, zI_1602, zI_1700, zI_2040, zI_3200, zI_4100, zI_9728, zI_11784, zI_61440, zI_65536, zI_470536, zI_999999, zI_1000000, f1, f2, Option.bind_some]
      · simp only [semF, g1, Option.bind_some]
    · left
      obtain ⟨s1, f1, D1⟩ := e2 c
      have f2 := adv_d (N := N) D1.1.1
      obtain ⟨t1, g1, B, F⟩ := a2 c
      refine ⟨1, skp tp n p', s1, sI t1 1045 0 (nI 1), ?_, DX_d F0 D1, ?_, DMd_fr (BM_d hM.2.2 B F (by decide) (by decide)) (Fr_sI 1045 0 _ (l := [114500]) (by decide)) (by decide) (by decide) (by decide)⟩
      · simp only [f_Rd_statement_j233, zI_0, zI_1, zI_2, zI_3, zI_4, zI_5, zI_6, zI_7, zI_8, zI_9, zI_10, zI_11, zI_12, zI_13, zI_14, zI_15, zI_16, zI_17, zI_18, zI_19, zI_20, zI_21, zI_22, zI_23, zI_24, zI_25, zI_26, zI_27, zI_28, zI_29, zI_30, zI_31, zI_32, zI_33, zI_34, zI_35, zI_36, zI_37, zI_38, zI_39, zI_40, zI_41, zI_42, zI_43, zI_44, zI_45, zI_46, zI_47, zI_48, zI_49, zI_50, zI_51, zI_52, zI_53, zI_54, zI_55, zI_56, zI_57, zI_58, zI_59, zI_60, zI_61, zI_62, zI_63, zI_64, zI_65, zI_66, zI_67, zI_74, zI_84, zI_85, zI_88, zI_91, zI_93, zI_97, zI_99, zI_100, zI_102, zI_105, zI_117, zI_122, zI_193, zI_202, zI_205, zI_251, zI_255, zI_256, zI_257, zI_258, zI_259, zI_260, zI_640, zI_999, zI_1000, zI_1024, zI_1600, zI_1602, zI_1700, zI_2040, zI_3200, zI_4100, zI_9728, zI_11784, zI_61440, zI_65536, zI_470536, zI_999999, zI_1000000, f1, f2, Option.bind_some]
      · simp only [semF, g1, Option.bind_some]
theorem doors_h : ((f_M_doorsTold N t).bind fun p => some (sI p 1045 0 (nI 1))) = (((f_M_asks N 3 t).bind fun p1 => (f_M_number N (nI 2) (nI 24) p1).bind fun p => some (sA p.2 28 0 p.1)).bind fun p => semF N p) := by
  simp only [f_M_doorsTold, semF, zI_0, zI_1, zI_2, zI_3, zI_4, zI_5, zI_6, zI_7, zI_8, zI_9, zI_10, zI_11, zI_12, zI_13, zI_14, zI_15, zI_16, zI_17, zI_18, zI_19, zI_20, zI_21, zI_22, zI_23, zI_24, zI_25, zI_26, zI_27, zI_28, zI_29, zI_30, zI_31, zI_32, zI_33, zI_34, zI_35, zI_36, zI_37, zI_38, zI_39, zI_40, zI_41, zI_42, zI_43, zI_44, zI_45, zI_46, zI_47, zI_48, zI_49, zI_50, zI_51, zI_52, zI_53, zI_54, zI_55, zI_56, zI_57, zI_58, zI_59, zI_60, zI_61, zI_62, zI_63, zI_64, zI_65, zI_66, zI_67, zI_74, zI_84, zI_85, zI_88, zI_91, zI_93, zI_97, zI_99, zI_100, zI_102, zI_105, zI_117, zI_122, zI_193, zI_202, zI_205, zI_251, zI_255, zI_256, zI_257, zI_258, zI_259, zI_260, zI_640, zI_999, zI_1000, zI_1024, zI_1600, zI_1602, zI_1700, zI_2040, zI_3200, zI_4100, zI_9728, zI_11784, zI_61440, zI_65536, zI_470536, zI_999999, zI_1000000, Option.bind_assoc, Option.bind_some]
theorem first_j (hJ : JX tp n s0 pE0 0 (fun _ => 0) [13, 43] p b s) (hM : JM tp n t0 pE0 0 (fun _ => 0) 0 p b t) (hN : 10000 ≤ N) :
    BoR tp n s0 t0 p (nI 1) (f_Rd_statement N (nI 0) s) ((f_M_doorsTold N t).bind fun p => some (sI p 1045 0 (nI 1))) := by
  obtain ⟨mk, E⟩ := hJ.1
  have X := hJ.2.1
  have D := hJ.2.2.1
  have hn := E.1.1
  have hpn := X.1
  have ht : ∀ i, i < n → tp i < 256 := (CE_x E X).2.2.2
  have wl := wdA_le (tp := tp) (n := n) (p := p) (b := b)
  have wd := word_w (N := N) ht X.2.1
  have om := om_n (N := N) (s := s) (np := 0) (tw := false) (tc := false) wl (by omega) D.2.1 D.2.2.2.2.2.2.2.1 D.2.2.2.2.2.2.2.2.1
  rw [if_neg (by simp)] at om
  rw [doors_h]
  obtain ⟨as1, as2⟩ := asks_b (N := N) hM.1 (show 3 ∈ kWo by decide) hN
  by_cases hw : wdA tp n p b = 1
  · rw [hw, m1_s] at wd om
    obtain ⟨s1, f1, X1, p1, p2⟩ := c_wd E X hw hN
    have hJ1 : JX tp n s0 pE0 0 (fun _ => 0) [13, 43] (kE tp n p) true s1 := JX_st hJ X1
    have hO1 := (CE_x E X1).2.1
    obtain ⟨t1, g1, R1, F1⟩ := as1 hw
    have hM1 := JM_st hM R1 F1 (by decide)
    have e5 := kE_w ht hpn (show 3 ∈ kWo by decide) hw
    have e5 : kE tp n p = skp tp n p + 5 := e5
    rw [st_01 wd om, j71_n (by omega) (by omega) (by omega) (by omega) X.2.2.1 f1 hO1, g1, Option.bind_some]
    exact BoR_mono (show p ≤ kE tp n p by omega) (semi_0 hN (body_doors (x := gI t1 1045 0) hJ1 hM1 (by simp only [List.length_cons, List.length_nil]; omega) (Nat.zero_le _) rfl hN))
  · left
    obtain ⟨s1, f1, D1⟩ := c_fail (N := N) (k := 1) (w := skp tp n p) E X (by decide) (by omega)
    obtain ⟨t1, g1, B, F⟩ := as2 hw
    have g2 := number_d (N := N) B (nI 2) (nI 24)
    have D2 := DMd_28 (i := 0) (v := nI 0) (by omega) (BM_d hM.2.2 B F (by decide) (by decide))
    have g3 := asksSign_d (N := N) D2.1 (nI 59)
    refine ⟨1, skp tp n p, s1, sI (sA t1 28 0 (nI 0)) 1045 0 (nI 1), ?_, DX_d hJ.2.2.2 D1, ?_, DMd_fr D2 (Fr_sI 1045 0 _ (l := [114500]) (by decide)) (by decide) (by decide) (by decide)⟩
    · rw [st_00 wd om (by rw [wm_n wl (by omega)]; exact eq_false hw), st_62 X.2.1.2.1 f1 D1.1.1]
    · rw [g1, Option.bind_some, g2, Option.bind_some, Option.bind_some]
      simp only [semF, g3, Option.bind_some]
/-- the statements, one behind the other -/
theorem bad_x (D : DdX k w s) (hj0 : 0 < j) (hj : j < 100) {f1 : Nat} (hf : 1 ≤ f1) : mfix f1 (f_X_corridor_L27 N) (nI j, s) = f_X_corridor_j61 N (nI j, s) := by
  have k5 := D.2.2.2.2
  rw [mfix_1 (by omega)]
  by_cases c : 60 < j
  · simp (disch := first | omega | decide) only [f_X_corridor_L27, zI_0, zI_1, zI_2, zI_3, zI_4, zI_5, zI_6, zI_7, zI_8, zI_9, zI_10, zI_11, zI_12, zI_13, zI_14, zI_15, zI_16, zI_17, zI_18, zI_19, zI_20, zI_21, zI_22, zI_23, zI_24, zI_25, zI_26, zI_27, zI_28, zI_29, zI_30, zI_31, zI_32, zI_33, zI_34, zI_35, zI_36, zI_37, zI_38, zI_39, zI_40, zI_41, zI_42, zI_43, zI_44, zI_45, zI_46, zI_47, zI_48, zI_49, zI_50, zI_51, zI_52, zI_53, zI_54, zI_55, zI_56, zI_57, zI_58, zI_59, zI_60, zI_61, zI_62, zI_63, zI_64, zI_65, zI_66, zI_67, zI_74, zI_84, zI_85, zI_88, zI_91, zI_93, zI_97, zI_99, zI_100, zI_102, zI_105, zI_117, zI_122, zI_193, zI_202, zI_205, zI_251, zI_255, zI_256, zI_257, zI_258, zI_259, zI_260, zI_640, zI_999, zI_1000, zI_1024, zI_1600, zI_1602, zI_1700, zI_2040, zI_3200, zI_4100, zI_9728, zI_11784, zI_61440, zI_65536, zI_470536, zI_999999, zI_1000000, lt_T, lt_F, le_T, le_F, eq_T, eq_F, neg_1, cn_m1p, cn_m11, nI_add, cn_sub, pk_mul, cn_div, cn_irm, cn_lt, cn_eq, cn_ltm1, cn_m1lt, cn_eqm1, cn_m1eq, cn_ix, cn_inb, cn_ninb, cn_irs, cn_ils, cn_and, cn_or, cn_xor, grd_t, grd_bt, grd_bl, Nat.add_zero, Nat.zero_add, Nat.reduceAdd, Nat.reduceSub, Nat.reduceMul, Nat.reduceLT, Nat.reduceEqDiff, eq_self, true_and, and_true, and_false, false_and, if_true, if_false, and_self, Bool.true_eq_false, Bool.false_eq_true]
  · simp (disch := first | omega | decide) only [f_X_corridor_L27, f_Rd_hasMore, k5, zI_0, zI_1, zI_2, zI_3, zI_4, zI_5, zI_6, zI_7, zI_8, zI_9, zI_10, zI_11, zI_12, zI_13, zI_14, zI_15, zI_16, zI_17, zI_18, zI_19, zI_20, zI_21, zI_22, zI_23, zI_24, zI_25, zI_26, zI_27, zI_28, zI_29, zI_30, zI_31, zI_32, zI_33, zI_34, zI_35, zI_36, zI_37, zI_38, zI_39, zI_40, zI_41, zI_42, zI_43, zI_44, zI_45, zI_46, zI_47, zI_48, zI_49, zI_50, zI_51, zI_52, zI_53, zI_54, zI_55, zI_56, zI_57, zI_58, zI_59, zI_60, zI_61, zI_62, zI_63, zI_64, zI_65, zI_66, zI_67, zI_74, zI_84, zI_85, zI_88, zI_91, zI_93, zI_97, zI_99, zI_100, zI_102, zI_105, zI_117, zI_122, zI_193, zI_202, zI_205, zI_251, zI_255, zI_256, zI_257, zI_258, zI_259, zI_260, zI_640, zI_999, zI_1000, zI_1024, zI_1600, zI_1602, zI_1700, zI_2040, zI_3200, zI_4100, zI_9728, zI_11784, zI_61440, zI_65536, zI_470536, zI_999999, zI_1000000, lt_T, lt_F, le_T, le_F, eq_T, eq_F, neg_1, cn_m1p, cn_m11, nI_add, cn_sub, pk_mul, cn_div, cn_irm, cn_lt, cn_eq, cn_ltm1, cn_m1lt, cn_eqm1, cn_m1eq, cn_ix, cn_inb, cn_ninb, cn_irs, cn_ils, cn_and, cn_or, cn_xor, grd_t, grd_bt, grd_bl, Nat.add_zero, Nat.zero_add, Nat.reduceAdd, Nat.reduceSub, Nat.reduceMul, Nat.reduceLT, Nat.reduceEqDiff, eq_self, true_and, and_true, and_false, false_and, if_true, if_false, and_self, Bool.true_eq_false, Bool.false_eq_true, Option.bind_some]
theorem bad_m (B : BdM k w t) {f2 : Nat} (hf : 1 ≤ f2) : mfix f2 (f_M_corridor_L114 N) t = f_M_corridor_j136 N t := by
  have B5 := B.2.2.1
  have B1 := B.1
  have B2 := B.2.1
  rw [mfix_1 (by omega)]
  simp (disch := first | omega | decide) only [f_M_corridor_L114, B5, zI_0, zI_1, zI_2, zI_3, zI_4, zI_5, zI_6, zI_7, zI_8, zI_9, zI_10, zI_11, zI_12, zI_13, zI_14, zI_15, zI_16, zI_17, zI_18, zI_19, zI_20, zI_21, zI_22, zI_23, zI_24, zI_25, zI_26, zI_27, zI_28, zI_29, zI_30, zI_31, zI_32, zI_33, zI_34, zI_35, zI_36, zI_37, zI_38, zI_39, zI_40, zI_41, zI_42, zI_43, zI_44, zI_45, zI_46, zI_47, zI_48, zI_49, zI_50, zI_51, zI_52, zI_53, zI_54, zI_55, zI_56, zI_57, zI_58, zI_59, zI_60, zI_61, zI_62, zI_63, zI_64, zI_65, zI_66, zI_67, zI_74, zI_84, zI_85, zI_88, zI_91, zI_93, zI_97, zI_99, zI_100, zI_102, zI_105, zI_117, zI_122, zI_193, zI_202, zI_205, zI_251, zI_255, zI_256, zI_257, zI_258, zI_259, zI_260, zI_640, zI_999, zI_1000, zI_1024, zI_1600, zI_1602, zI_1700, zI_2040, zI_3200, zI_4100, zI_9728, zI_11784, zI_61440, zI_65536, zI_470536, zI_999999, zI_1000000, lt_T, lt_F, le_T, le_F, eq_T, eq_F, neg_1, cn_m1p, cn_m11, nI_add, cn_sub, pk_mul, cn_div, cn_irm, cn_lt, cn_eq, cn_ltm1, cn_m1lt, cn_eqm1, cn_m1eq, cn_ix, cn_inb, cn_ninb, cn_irs, cn_ils, cn_and, cn_or, cn_xor, grd_t, grd_bt, grd_bl, Nat.add_zero, Nat.zero_add, Nat.reduceAdd, Nat.reduceSub, Nat.reduceMul, Nat.reduceLT, Nat.reduceEqDiff, eq_self, true_and, and_true, and_false, false_and, if_true, if_false, and_self, Bool.true_eq_false, Bool.false_eq_true]
theorem more_1 {K : Nat} (h : gI s 605 18 = nI K) (hK : K ≤ 260) (h1 : K ≠ 258) (h2 : K ≠ 260) : f_Rd_hasMore N s = some (nI 1, s) := by
  simp (disch := first | omega | decide) only [f_Rd_hasMore, h, zI_0, zI_1, zI_2, zI_3, zI_4, zI_5, zI_6, zI_7, zI_8, zI_9, zI_10, zI_11, zI_12, zI_13, zI_14, zI_15, zI_16, zI_17, zI_18, zI_19, zI_20, zI_21, zI_22, zI_23, zI_24, zI_25, zI_26, zI_27, zI_28, zI_29, zI_30, zI_31, zI_32, zI_33, zI_34, zI_35, zI_36, zI_37, zI_38, zI_39, zI_40, zI_41, zI_42, zI_43, zI_44, zI_45, zI_46, zI_47, zI_48, zI_49, zI_50, zI_51, zI_52, zI_53, zI_54, zI_55, zI_56, zI_57, zI_58, zI_59, zI_60, zI_61, zI_62, zI_63, zI_64, zI_65, zI_66, zI_67, zI_74, zI_84, zI_85, zI_88, zI_91, zI_93, zI_97, zI_99, zI_100, zI_102, zI_105, zI_117, zI_122, zI_193, zI_202, zI_205, zI_251, zI_255, zI_256, zI_257, zI_258, zI_259, zI_260, zI_640, zI_999, zI_1000, zI_1024, zI_1600, zI_1602, zI_1700, zI_2040, zI_3200, zI_4100, zI_9728, zI_11784, zI_61440, zI_65536, zI_470536, zI_999999, zI_1000000, lt_T, lt_F, le_T, le_F, eq_T, eq_F, neg_1, cn_m1p, cn_m11, nI_add, cn_sub, pk_mul, cn_div, cn_irm, cn_lt, cn_eq, cn_ltm1, cn_m1lt, cn_eqm1, cn_m1eq, cn_ix, cn_inb, cn_ninb, cn_irs, cn_ils, cn_and, cn_or, cn_xor, grd_t, grd_bt, grd_bl, Nat.add_zero, Nat.zero_add, Nat.reduceAdd, Nat.reduceSub, Nat.reduceMul, Nat.reduceLT, Nat.reduceEqDiff, eq_self, true_and, and_true, and_false, false_and, if_true, if_false, and_self, Bool.true_eq_false, Bool.false_eq_true]
theorem l27_go (hj0 : 0 < j) (hj : j ≤ 60) (h : f_Rd_hasMore N s = some (nI 1, s)) (g : Int32 × mS → Option (Int32 × mS)) : f_X_corridor_L27 N g (nI j, s) = (f_Rd_statement N (nI j) s).bind fun p1 => g (nI (j + 1), p1) := by
  simp (disch := first | omega | decide) only [f_X_corridor_L27, f_X_corridor_j47, h, zI_0, zI_1, zI_2, zI_3, zI_4, zI_5, zI_6, zI_7, zI_8, zI_9, zI_10, zI_11, zI_12, zI_13, zI_14, zI_15, zI_16, zI_17, zI_18, zI_19, zI_20, zI_21, zI_22, zI_23, zI_24, zI_25, zI_26, zI_27, zI_28, zI_29, zI_30, zI_31, zI_32, zI_33, zI_34, zI_35, zI_36, zI_37, zI_38, zI_39, zI_40, zI_41, zI_42, zI_43, zI_44, zI_45, zI_46, zI_47, zI_48, zI_49, zI_50, zI_51, zI_52, zI_53, zI_54, zI_55, zI_56, zI_57, zI_58, zI_59, zI_60, zI_61, zI_62, zI_63, zI_64, zI_65, zI_66, zI_67, zI_74, zI_84, zI_85, zI_88, zI_91, zI_93, zI_97, zI_99, zI_100, zI_102, zI_105, zI_117, zI_122, zI_193, zI_202, zI_205, zI_251, zI_255, zI_256, zI_257, zI_258, zI_259, zI_260, zI_640, zI_999, zI_1000, zI_1024, zI_1600, zI_1602, zI_1700, zI_2040, zI_3200, zI_4100, zI_9728, zI_11784, zI_61440, zI_65536, zI_470536, zI_999999, zI_1000000, lt_T, lt_F, le_T, le_F, eq_T, eq_F, neg_1, cn_m1p, cn_m11, nI_add, cn_sub, pk_mul, cn_div, cn_irm, cn_lt, cn_eq, cn_ltm1, cn_m1lt, cn_eqm1, cn_m1eq, cn_ix, cn_inb, cn_ninb, cn_irs, cn_ils, cn_and, cn_or, cn_xor, grd_t, grd_bt, grd_bl, Nat.add_zero, Nat.zero_add, Nat.reduceAdd, Nat.reduceSub, Nat.reduceMul, Nat.reduceLT, Nat.reduceEqDiff, eq_self, true_and, and_true, and_false, false_and, if_true, if_false, and_self, Bool.true_eq_false, Bool.false_eq_true, Option.bind_some]
theorem l27_end (hj0 : 0 < j) (hj : j ≤ 60) (h : gI s 605 18 = nI 258) (g : Int32 × mS → Option (Int32 × mS)) : f_X_corridor_L27 N g (nI j, s) = f_X_corridor_j61 N (nI j, s) := by
  simp (disch := first | omega | decide) only [f_X_corridor_L27, f_Rd_hasMore, h, zI_0, zI_1, zI_2, zI_3, zI_4, zI_5, zI_6, zI_7, zI_8, zI_9, zI_10, zI_11, zI_12, zI_13, zI_14, zI_15, zI_16, zI_17, zI_18, zI_19, zI_20, zI_21, zI_22, zI_23, zI_24, zI_25, zI_26, zI_27, zI_28, zI_29, zI_30, zI_31, zI_32, zI_33, zI_34, zI_35, zI_36, zI_37, zI_38, zI_39, zI_40, zI_41, zI_42, zI_43, zI_44, zI_45, zI_46, zI_47, zI_48, zI_49, zI_50, zI_51, zI_52, zI_53, zI_54, zI_55, zI_56, zI_57, zI_58, zI_59, zI_60, zI_61, zI_62, zI_63, zI_64, zI_65, zI_66, zI_67, zI_74, zI_84, zI_85, zI_88, zI_91, zI_93, zI_97, zI_99, zI_100, zI_102, zI_105, zI_117, zI_122, zI_193, zI_202, zI_205, zI_251, zI_255, zI_256, zI_257, zI_258, zI_259, zI_260, zI_640, zI_999, zI_1000, zI_1024, zI_1600, zI_1602, zI_1700, zI_2040, zI_3200, zI_4100, zI_9728, zI_11784, zI_61440, zI_65536, zI_470536, zI_999999, zI_1000000, lt_T, lt_F, le_T, le_F, eq_T, eq_F, neg_1, cn_m1p, cn_m11, nI_add, cn_sub, pk_mul, cn_div, cn_irm, cn_lt, cn_eq, cn_ltm1, cn_m1lt, cn_eqm1, cn_m1eq, cn_ix, cn_inb, cn_ninb, cn_irs, cn_ils, cn_and, cn_or, cn_xor, grd_t, grd_bt, grd_bl, Nat.add_zero, Nat.zero_add, Nat.reduceAdd, Nat.reduceSub, Nat.reduceMul, Nat.reduceLT, Nat.reduceEqDiff, eq_self, true_and, and_true, and_false, false_and, if_true, if_false, and_self, Bool.true_eq_false, Bool.false_eq_true, Option.bind_some]
theorem loop_j (hN : 10000 ≤ N) : ∀ d p b A op pt L M j s t f1 f2, n - p ≤ d → JX tp n s0 A op pt L p b s → JM tp n t0 A op pt M p b t → WD A op pt → 0 < pD A → L.length ≤ p → M ≤ p → 0 < j → j ≤ 60 → gI t 1045 0 = nI j → d + 3 ≤ f1 → d + 3 ≤ f2 → LpR N tp n s0 t0 (mfix f1 (f_X_corridor_L27 N) (nI j, s)) (mfix f2 (f_M_corridor_L114 N) t) := by
  intro d
  induction d with
  | zero =>
    intro p b A op pt L M j s t f1 f2 hd hJ hM hW h0 hL hMp hj0 hj hx h1 h2
    have hpn := hJ.2.1.1
    have sb := skp_b (tp := tp) hpn
    have ek : kK tp n p b = 258 := by unfold kK; rw [if_pos (by omega)]
    have k1 := hJ.2.1.2.1.1
    rw [ek] at k1
    have ch : chM tp n p = m1 := by unfold chM; rw [if_neg (by omega)]
    have l := look_b hM.1 hN
    have h5 := hM.1.2.2.1
    right
    refine ⟨A, op, pt, L, M, p, b, j, s, lk tp n p t, hJ, JM_st hM (RL_RB (RB_lk hM.1)) Fr_lk (by decide), hW, h0, hL, hMp, by rw [Fr_lk.I 1045 0 (by decide)]; exact hx, ?_, ?_⟩
    · rw [mfix_1 (by omega), l27_end hj0 hj k1]
    · have q : (m1 = -1) = True := eq_true rfl
      rw [mfix_1 (by omega)]
      simp (disch := first | omega | decide) only [f_M_corridor_L114, h5, l, ch, q, zI_0, zI_1, zI_2, zI_3, zI_4, zI_5, zI_6, zI_7, zI_8, zI_9, zI_10, zI_11, zI_12, zI_13, zI_14, zI_15, zI_16, zI_17, zI_18, zI_19, zI_20, zI_21, zI_22, zI_23, zI_24, zI_25, zI_26, zI_27, zI_28, zI_29, zI_30, zI_31, zI_32, zI_33, zI_34, zI_35, zI_36, zI_37, zI_38, zI_39, zI_40, zI_41, zI_42, zI_43, zI_44, zI_45, zI_46, zI_47, zI_48, zI_49, zI_50, zI_51, zI_52, zI_53, zI_54, zI_55, zI_56, zI_57, zI_58, zI_59, zI_60, zI_61, zI_62, zI_63, zI_64, zI_65, zI_66, zI_67, zI_74, zI_84, zI_85, zI_88, zI_91, zI_93, zI_97, zI_99, zI_100, zI_102, zI_105, zI_117, zI_122, zI_193, zI_202, zI_205, zI_251, zI_255, zI_256, zI_257, zI_258, zI_259, zI_260, zI_640, zI_999, zI_1000, zI_1024, zI_1600, zI_1602, zI_1700, zI_2040, zI_3200, zI_4100, zI_9728, zI_11784, zI_61440, zI_65536, zI_470536, zI_999999, zI_1000000, lt_T, lt_F, le_T, le_F, eq_T, eq_F, neg_1, cn_m1p, cn_m11, nI_add, cn_sub, pk_mul, cn_div, cn_irm, cn_lt, cn_eq, cn_ltm1, cn_m1lt, cn_eqm1, cn_m1eq, cn_ix, cn_inb, cn_ninb, cn_irs, cn_ils, cn_and, cn_or, cn_xor, grd_t, grd_bt, grd_bl, Nat.add_zero, Nat.zero_add, Nat.reduceAdd, Nat.reduceSub, Nat.reduceMul, Nat.reduceLT, Nat.reduceEqDiff, eq_self, true_and, and_true, and_false, false_and, if_true, if_false, and_self, Bool.true_eq_false, Bool.false_eq_true, Option.bind_some]
  | succ d ih =>
    intro p b A op pt L M j s t f1 f2 hd hJ hM hW h0 hL hMp hj0 hj hx h1 h2
    have hpn := hJ.2.1.1
    have sb := skp_b (tp := tp) hpn
    have l := look_b hM.1 hN
    have h5 := hM.1.2.2.1
    by_cases ce : n ≤ skp tp n p
    · have ek : kK tp n p b = 258 := by unfold kK; rw [if_pos ce]
      have k1 := hJ.2.1.2.1.1
      rw [ek] at k1
      have ch : chM tp n p = m1 := by unfold chM; rw [if_neg (by omega)]
      right
      refine ⟨A, op, pt, L, M, p, b, j, s, lk tp n p t, hJ, JM_st hM (RL_RB (RB_lk hM.1)) Fr_lk (by decide), hW, h0, hL, hMp, by rw [Fr_lk.I 1045 0 (by decide)]; exact hx, ?_, ?_⟩
      · rw [mfix_1 (by omega), l27_end hj0 hj k1]
      · have q : (m1 = -1) = True := eq_true rfl
        rw [mfix_1 (by omega)]
        simp (disch := first | omega | decide) only [f_M_corridor_L114, h5, l, ch, q, zI_0, zI_1, zI_2, zI_3, zI_4, zI_5, zI_6, zI_7, zI_8, zI_9, zI_10, zI_11, zI_12, zI_13, zI_14, zI_15, zI_16, zI_17, zI_18, zI_19, zI_20, zI_21, zI_22, zI_23, zI_24, zI_25, zI_26, zI_27, zI_28, zI_29, zI_30, zI_31, zI_32, zI_33, zI_34, zI_35, zI_36, zI_37, zI_38, zI_39, zI_40, zI_41, zI_42, zI_43, zI_44, zI_45, zI_46, zI_47, zI_48, zI_49, zI_50, zI_51, zI_52, zI_53, zI_54, zI_55, zI_56, zI_57, zI_58, zI_59, zI_60, zI_61, zI_62, zI_63, zI_64, zI_65, zI_66, zI_67, zI_74, zI_84, zI_85, zI_88, zI_91, zI_93, zI_97, zI_99, zI_100, zI_102, zI_105, zI_117, zI_122, zI_193, zI_202, zI_205, zI_251, zI_255, zI_256, zI_257, zI_258, zI_259, zI_260, zI_640, zI_999, zI_1000, zI_1024, zI_1600, zI_1602, zI_1700, zI_2040, zI_3200, zI_4100, zI_9728, zI_11784, zI_61440, zI_65536, zI_470536, zI_999999, zI_1000000, lt_T, lt_F, le_T, le_F, eq_T, eq_F, neg_1, cn_m1p, cn_m11, nI_add, cn_sub, pk_mul, cn_div, cn_irm, cn_lt, cn_eq, cn_ltm1, cn_m1lt, cn_eqm1, cn_m1eq, cn_ix, cn_inb, cn_ninb, cn_irs, cn_ils, cn_and, cn_or, cn_xor, grd_t, grd_bt, grd_bl, Nat.add_zero, Nat.zero_add, Nat.reduceAdd, Nat.reduceSub, Nat.reduceMul, Nat.reduceLT, Nat.reduceEqDiff, eq_self, true_and, and_true, and_false, false_and, if_true, if_false, and_self, Bool.true_eq_false, Bool.false_eq_true, Option.bind_some]
    · obtain ⟨mk, E⟩ := hJ.1
      have hn := E.1.1
      have ht : ∀ i, i < n → tp i < 256 := (CE_x E hJ.2.1).2.2.2
      have hb := ht _ (show skp tp n p < n by omega)
      have kn : kK tp n p b ≠ 258 ∧ kK tp n p b ≠ 260 ∧ kK tp n p b ≤ 260 := by
        unfold kK
        rw [if_neg ce]
        split
        · split <;> omega
        · split
          · split <;> omega
          · omega
      have hm := more_1 (N := N) hJ.2.1.2.1.1 kn.2.2 kn.1 kn.2.1
      have ch : (chM tp n p = m1) = False := by
        unfold chM; rw [if_pos (by omega)]
        exact cn_eqm1 (by omega)
      have hM1 := JM_st hM (RL_RB (RB_lk hM.1)) Fr_lk (by decide)
      have x1 : gI (lk tp n p t) 1045 0 = nI j := by rw [Fr_lk.I 1045 0 (by decide)]; exact hx
      have hr : mfix f2 (f_M_corridor_L114 N) t = (f_M_statementTold N (lk tp n p t)).bind fun p2 => mfix (f2 - 1) (f_M_corridor_L114 N) p2 := by
        rw [mfix_1 (by omega)]
        simp (disch := first | omega | decide) only [f_M_corridor_L114, h5, l, ch, zI_0, zI_1, zI_2, zI_3, zI_4, zI_5, zI_6, zI_7, zI_8, zI_9, zI_10, zI_11, zI_12, zI_13, zI_14, zI_15, zI_16, zI_17, zI_18, zI_19, zI_20, zI_21, zI_22, zI_23, zI_24, zI_25, zI_26, zI_27, zI_28, zI_29, zI_30, zI_31, zI_32, zI_33, zI_34, zI_35, zI_36, zI_37, zI_38, zI_39, zI_40, zI_41, zI_42, zI_43, zI_44, zI_45, zI_46, zI_47, zI_48, zI_49, zI_50, zI_51, zI_52, zI_53, zI_54, zI_55, zI_56, zI_57, zI_58, zI_59, zI_60, zI_61, zI_62, zI_63, zI_64, zI_65, zI_66, zI_67, zI_74, zI_84, zI_85, zI_88, zI_91, zI_93, zI_97, zI_99, zI_100, zI_102, zI_105, zI_117, zI_122, zI_193, zI_202, zI_205, zI_251, zI_255, zI_256, zI_257, zI_258, zI_259, zI_260, zI_640, zI_999, zI_1000, zI_1024, zI_1600, zI_1602, zI_1700, zI_2040, zI_3200, zI_4100, zI_9728, zI_11784, zI_61440, zI_65536, zI_470536, zI_999999, zI_1000000, lt_T, lt_F, le_T, le_F, eq_T, eq_F, neg_1, cn_m1p, cn_m11, nI_add, cn_sub, pk_mul, cn_div, cn_irm, cn_lt, cn_eq, cn_ltm1, cn_m1lt, cn_eqm1, cn_m1eq, cn_ix, cn_inb, cn_ninb, cn_irs, cn_ils, cn_and, cn_or, cn_xor, grd_t, grd_bt, grd_bl, Nat.add_zero, Nat.zero_add, Nat.reduceAdd, Nat.reduceSub, Nat.reduceMul, Nat.reduceLT, Nat.reduceEqDiff, eq_self, true_and, and_true, and_false, false_and, if_true, if_false, and_self, Bool.true_eq_false, Bool.false_eq_true, Option.bind_some]
      have hc : mfix f1 (f_X_corridor_L27 N) (nI j, s) = (f_Rd_statement N (nI j) s).bind fun p1 => mfix (f1 - 1) (f_X_corridor_L27 N) (nI (j + 1), p1) := by
        rw [mfix_1 (by omega), l27_go hj0 hj hm]
      rw [hr, hc]
      have B : BoR tp n s0 t0 p (nI (j + 1)) (f_Rd_statement N (nI j) s) (f_M_statementTold N (lk tp n p t)) ∧ (j = 60 → ∃ k w s' t', f_Rd_statement N (nI j) s = some s' ∧ DXd s0 k w s' ∧ f_M_statementTold N (lk tp n p t) = some t' ∧ DMd t0 k w t') := by
        by_cases c : j < 60
        · exact ⟨stmt_j hJ hM1 (RB_lk hM.1) hW hL hMp h0 hj0 c x1 hN, fun h => by omega⟩
        · have : j = 60 := by omega
          subst this
          have b := stmt_60 (x := nI 61) hJ hM1 (RB_lk hM.1) hL x1 hN
          refine ⟨b, fun _ => ?_⟩
          obtain ⟨s1, f1', D1⟩ := c_fail (N := N) (k := 5) (w := skp tp n p) E hJ.2.1 (by omega) (by omega)
          obtain ⟨t1, g1, B1, F1⟩ := mfail_l (N := N) (t := lk tp n p t) (k := 5) (w := skp tp n p) (RB_lk hM.1).2.2.1 (by omega)
          have e2 := (RB_lk hM.1).2.2.2.2.2
          refine ⟨5, skp tp n p, s1, t1, by rw [st_h60 (word_w (N := N) ht hJ.2.1.2.1), st_19 hJ.2.1.2.1.2.1 f1' D1.1.1], DX_d hJ.2.2.2 D1, ?_, BM_d hM1.2.2 B1 F1 (by decide) (by decide)⟩
          simp (disch := first | omega | decide) only [f_M_statementTold, x1, e2, g1, zI_0, zI_1, zI_2, zI_3, zI_4, zI_5, zI_6, zI_7, zI_8, zI_9, zI_10, zI_11, zI_12, zI_13, zI_14, zI_15, zI_16, zI_17, zI_18, zI_19, zI_20, zI_21, zI_22, zI_23, zI_24, zI_25, zI_26, zI_27, zI_28, zI_29, zI_30, zI_31, zI_32, zI_33, zI_34, zI_35, zI_36, zI_37, zI_38, zI_39, zI_40, zI_41, zI_42, zI_43, zI_44, zI_45, zI_46, zI_47, zI_48, zI_49, zI_50, zI_51, zI_52, zI_53, zI_54, zI_55, zI_56, zI_57, zI_58, zI_59, zI_60, zI_61, zI_62, zI_63, zI_64, zI_65, zI_66, zI_67, zI_74, zI_84, zI_85, zI_88, zI_91, zI_93, zI_97, zI_99, zI_100, zI_102, zI_105, zI_117, zI_122, zI_193, zI_202, zI_205, zI_251, zI_255, zI_256, zI_257, zI_258, zI_259, zI_260, zI_640, zI_999, zI_1000, zI_1024, zI_1600, zI_1602, zI_1700, zI_2040, zI_3200, zI_4100, zI_9728, zI_11784, zI_61440, zI_65536, zI_470536, zI_999999, zI_1000000, lt_T, lt_F, le_T, le_F, eq_T, eq_F, neg_1, cn_m1p, cn_m11, nI_add, cn_sub, pk_mul, cn_div, cn_irm, cn_lt, cn_eq, cn_ltm1, cn_m1lt, cn_eqm1, cn_m1eq, cn_ix, cn_inb, cn_ninb, cn_irs, cn_ils, cn_and, cn_or, cn_xor, grd_t, grd_bt, grd_bl, Nat.add_zero, Nat.zero_add, Nat.reduceAdd, Nat.reduceSub, Nat.reduceMul, Nat.reduceLT, Nat.reduceEqDiff, eq_self, true_and, and_true, and_false, false_and, if_true, if_false, and_self, Bool.true_eq_false, Bool.false_eq_true, Option.bind_some]
      by_cases c : j = 60
      · left
        obtain ⟨k, w, s', t', f, D, g, B'⟩ := B.2 c
        exact ⟨k, w, j + 1, s', t', D, B', by rw [f, Option.bind_some, bad_x D.1.1 (by omega) (by omega) (by omega)], by rw [g, Option.bind_some, bad_m B'.1 (by omega)]⟩
      · rcases B.1 with ⟨k, w, s', t', f, D, g, B'⟩ | ⟨A', op', pt', L', M', p', b', s', t', f, g, hJ', hM', hW', hp', hL', hMp', h0', hx'⟩
        · left
          exact ⟨k, w, j + 1, s', t', D, B', by rw [f, Option.bind_some, bad_x D.1.1 (by omega) (by omega) (by omega)], by rw [g, Option.bind_some, bad_m B'.1 (by omega)]⟩
        · have hp2 := hJ'.2.1.1
          rw [f, Option.bind_some, g, Option.bind_some]
          exact ih p' b' A' op' pt' L' M' (j + 1) s' t' (f1 - 1) (f2 - 1) (by omega) hJ' hM' hW' h0' hL' hMp' (by omega) (by omega) hx' (by omega) (by omega)
end FIRST
