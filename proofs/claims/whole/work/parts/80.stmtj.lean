/-! A STATEMENT, whole, on both sides -/
section STMTJ
variable {N n p op k w M mk j W : Nat} {tp pt : Nat → Nat} {b : Bool} {s s' s0 t t' t0 : mS} {L e : List Nat} {A A' : pL} {l : List Nat} {x v : Int32} {cs rs : Option mS}
theorem j168_d (B : DMd t0 k w t) : ∃ t', f_M_statementTold_j168 N t = some t' ∧ DMd t0 k w t' := by
  have g1 := asksSign_d (N := N) B.1 (nI 59)
  refine ⟨sI t 1045 0 (gI t 1045 0 + nI 1), ?_, DMd_fr B (Fr_sI 1045 0 _ (l := [114500]) (by decide)) (by decide) (by decide) (by decide)⟩
  simp only [f_M_statementTold_j168, zI_0, zI_1, zI_2, zI_3, zI_4, zI_5, zI_6, zI_7, zI_8, zI_9, zI_10, zI_11, zI_12, zI_13, zI_14, zI_15, zI_16, zI_17, zI_18, zI_19, zI_20, zI_21, zI_22, zI_23, zI_24, zI_25, zI_26, zI_27, zI_28, zI_29, zI_30, zI_31, zI_32, zI_33, zI_34, zI_35, zI_36, zI_37, zI_38, zI_39, zI_40, zI_41, zI_42, zI_43, zI_44, zI_45, zI_46, zI_47, zI_48, zI_49, zI_50, zI_51, zI_52, zI_53, zI_54, zI_55, zI_56, zI_57, zI_58, zI_59, zI_60, zI_61, zI_62, zI_63, zI_64, zI_65, zI_66, zI_67, zI_74, zI_84, zI_85, zI_88, zI_91, zI_93, zI_97, zI_99, zI_100, zI_102, zI_105, zI_117, zI_122, zI_193, zI_202, zI_205, zI_251, zI_255, zI_256, zI_257, zI_258, zI_259, zI_260, zI_640, zI_999, zI_1000, zI_1024, zI_1600, zI_1602, zI_1700, zI_2040, zI_3200, zI_4100, zI_9728, zI_11784, zI_61440, zI_65536, zI_470536, zI_999999, zI_1000000, g1, Option.bind_some]
theorem mname_d (B : BdM k w t) : f_M_name N t = some (0, t) := by
  have B5 := B.2.2.1
  have B1 := B.1
  have B2 := B.2.1
  simp (disch := first | omega | decide) only [f_M_name, B5, zI_0, zI_1, zI_2, zI_3, zI_4, zI_5, zI_6, zI_7, zI_8, zI_9, zI_10, zI_11, zI_12, zI_13, zI_14, zI_15, zI_16, zI_17, zI_18, zI_19, zI_20, zI_21, zI_22, zI_23, zI_24, zI_25, zI_26, zI_27, zI_28, zI_29, zI_30, zI_31, zI_32, zI_33, zI_34, zI_35, zI_36, zI_37, zI_38, zI_39, zI_40, zI_41, zI_42, zI_43, zI_44, zI_45, zI_46, zI_47, zI_48, zI_49, zI_50, zI_51, zI_52, zI_53, zI_54, zI_55, zI_56, zI_57, zI_58, zI_59, zI_60, zI_61, zI_62, zI_63, zI_64, zI_65, zI_66, zI_67, zI_74, zI_84, zI_85, zI_88, zI_91, zI_93, zI_97, zI_99, zI_100, zI_102, zI_105, zI_117, zI_122, zI_193, zI_202, zI_205, zI_251, zI_255, zI_256, zI_257, zI_258, zI_259, zI_260, zI_640, zI_999, zI_1000, zI_1024, zI_1600, zI_1602, zI_1700, zI_2040, zI_3200, zI_4100, zI_9728, zI_11784, zI_61440, zI_65536, zI_470536, zI_999999, zI_1000000, lt_T, lt_F, le_T, le_F, eq_T, eq_F, neg_1, cn_m1p, cn_m11, nI_add, cn_sub, pk_mul, cn_div, cn_irm, cn_lt, cn_eq, cn_ltm1, cn_m1lt, cn_eqm1, cn_m1eq, cn_ix, cn_inb, cn_ninb, cn_irs, cn_ils, cn_and, cn_or, cn_xor, grd_t, grd_bt, grd_bl, Nat.add_zero, Nat.zero_add, Nat.reduceAdd, Nat.reduceSub, Nat.reduceMul, Nat.reduceLT, Nat.reduceEqDiff, eq_self, true_and, and_true, and_false, false_and, if_true, if_false, and_self, Bool.true_eq_false, Bool.false_eq_true]
theorem tk_0 (hL : RL tp n p b t) {o : Nat} (ho : o ∈ kWo) (h : wdA tp n p b ≠ woJ o + 1) (hN : 10000 ≤ N) : f_M_takes N o t = some (nI 0, t) := by
  have := (takes_b (N := N) (RL_RB hL) ho hN).2 h
  rwa [lk_RL hL] at this
/-- one too many of a kind, on the other side -/
theorem too_2 {c : Int32} {q : Nat} (hM : JM tp n t0 A op pt M p b t) (hP : pP A = 10) (hc : c = nI q) (hN : 10000 ≤ N) : ∃ t', f_M_porterTold N c t = some t' ∧ DMd t0 5 q t' := by
  obtain ⟨t1, g, B, F⟩ := mfail_l (N := N) (t := t) (k := 5) (w := q) hM.1.2.2.1 (by omega)
  have h5 := hM.1.2.2.1
  have m2 := hM.2.1.2.1
  rw [hP] at m2
  have e := pL32_d (N := N) (v := 0) B (show 10 ≤ 10 by omega) (by rw [F.A 28 1 (by decide)]; exact m2) 10 0 N (by omega) (by omega)
  have nd := mname_d (N := N) B
  refine ⟨t1, ?_, BM_d hM.2.2 B F (by decide) (by decide)⟩
  rw [hc]
  simp (disch := first | omega | decide) only [f_M_porterTold, f_M_porterTold_j24, h5, m2, g, nd, e, zI_0, zI_1, zI_2, zI_3, zI_4, zI_5, zI_6, zI_7, zI_8, zI_9, zI_10, zI_11, zI_12, zI_13, zI_14, zI_15, zI_16, zI_17, zI_18, zI_19, zI_20, zI_21, zI_22, zI_23, zI_24, zI_25, zI_26, zI_27, zI_28, zI_29, zI_30, zI_31, zI_32, zI_33, zI_34, zI_35, zI_36, zI_37, zI_38, zI_39, zI_40, zI_41, zI_42, zI_43, zI_44, zI_45, zI_46, zI_47, zI_48, zI_49, zI_50, zI_51, zI_52, zI_53, zI_54, zI_55, zI_56, zI_57, zI_58, zI_59, zI_60, zI_61, zI_62, zI_63, zI_64, zI_65, zI_66, zI_67, zI_74, zI_84, zI_85, zI_88, zI_91, zI_93, zI_97, zI_99, zI_100, zI_102, zI_105, zI_117, zI_122, zI_193, zI_202, zI_205, zI_251, zI_255, zI_256, zI_257, zI_258, zI_259, zI_260, zI_640, zI_999, zI_1000, zI_1024, zI_1600, zI_1602, zI_1700, zI_2040, zI_3200, zI_4100, zI_9728, zI_11784, zI_61440, zI_65536, zI_470536, zI_999999, zI_1000000, lt_T, lt_F, le_T, le_F, eq_T, eq_F, neg_1, cn_m1p, cn_m11, nI_add, cn_sub, pk_mul, cn_div, cn_irm, cn_lt, cn_eq, cn_ltm1, cn_m1lt, cn_eqm1, cn_m1eq, cn_ix, cn_inb, cn_ninb, cn_irs, cn_ils, cn_and, cn_or, cn_xor, grd_t, grd_bt, grd_bl, Nat.add_zero, Nat.zero_add, Nat.reduceAdd, Nat.reduceSub, Nat.reduceMul, Nat.reduceLT, Nat.reduceEqDiff, eq_self, true_and, and_true, and_false, false_and, if_true, if_false, and_self, Bool.true_eq_false, Bool.false_eq_true, Option.bind_some]
theorem too_l {c : Int32} {q w kd : Nat} (hM : JM tp n t0 A op pt M p b t) (hw : w < 24) (hC : MCd A w M t) (hMp : M ≤ 1600) (hc : c = nI q) (hN : 10000 ≤ N) : ∃ t', f_M_lawTold N (nI w) (nI kd) c t = some t' ∧ DMd t0 5 q t' := by
  obtain ⟨t1, g, B, F⟩ := mfail_l (N := N) (t := t) (k := 5) (w := q) hM.1.2.2.1 (by omega)
  have h5 := hM.1.2.2.1
  obtain ⟨fr, f1, f2, _⟩ := hC
  have B5 := B.2.2.1
  refine ⟨t1, ?_, BM_d hM.2.2 B F (by decide) (by decide)⟩
  rw [hc]
  simp (disch := first | omega | decide) only [f_M_lawTold, f_M_lawTold_j23, h5, f2, g, B5, zI_0, zI_1, zI_2, zI_3, zI_4, zI_5, zI_6, zI_7, zI_8, zI_9, zI_10, zI_11, zI_12, zI_13, zI_14, zI_15, zI_16, zI_17, zI_18, zI_19, zI_20, zI_21, zI_22, zI_23, zI_24, zI_25, zI_26, zI_27, zI_28, zI_29, zI_30, zI_31, zI_32, zI_33, zI_34, zI_35, zI_36, zI_37, zI_38, zI_39, zI_40, zI_41, zI_42, zI_43, zI_44, zI_45, zI_46, zI_47, zI_48, zI_49, zI_50, zI_51, zI_52, zI_53, zI_54, zI_55, zI_56, zI_57, zI_58, zI_59, zI_60, zI_61, zI_62, zI_63, zI_64, zI_65, zI_66, zI_67, zI_74, zI_84, zI_85, zI_88, zI_91, zI_93, zI_97, zI_99, zI_100, zI_102, zI_105, zI_117, zI_122, zI_193, zI_202, zI_205, zI_251, zI_255, zI_256, zI_257, zI_258, zI_259, zI_260, zI_640, zI_999, zI_1000, zI_1024, zI_1600, zI_1602, zI_1700, zI_2040, zI_3200, zI_4100, zI_9728, zI_11784, zI_61440, zI_65536, zI_470536, zI_999999, zI_1000000, lt_T, lt_F, le_T, le_F, eq_T, eq_F, neg_1, cn_m1p, cn_m11, nI_add, cn_sub, pk_mul, cn_div, cn_irm, cn_lt, cn_eq, cn_ltm1, cn_m1lt, cn_eqm1, cn_m1eq, cn_ix, cn_inb, cn_ninb, cn_irs, cn_ils, cn_and, cn_or, cn_xor, grd_t, grd_bt, grd_bl, Nat.add_zero, Nat.zero_add, Nat.reduceAdd, Nat.reduceSub, Nat.reduceMul, Nat.reduceLT, Nat.reduceEqDiff, eq_self, true_and, and_true, and_false, false_and, if_true, if_false, and_self, Bool.true_eq_false, Bool.false_eq_true, Option.bind_some]
theorem stmt_bad (hJ : JX tp n s0 A op pt L p b s) (hM : JM tp n t0 A op pt M p b t) (hL : RL tp n p b t) (hLl : L.length ≤ p) (hj : j < 60) (hx : gI t 1045 0 = nI j) (hw : wdA tp n p b ≤ 1 ∨ 9 ≤ wdA tp n p b) (hc : f_Rd_statement N (nI j) s = f_Rd_statement_j62 N (nI (wdA tp n p b) + m1, s)) (hN : 10000 ≤ N) : BoR tp n s0 t0 p x (f_Rd_statement N (nI j) s) (f_M_statementTold N t) := by
  obtain ⟨mk, E⟩ := hJ.1
  have X := hJ.2.1
  have hn := E.1.1
  have hpn := X.1
  left
  obtain ⟨s1, f1, D1⟩ := c_fail (N := N) (k := 1) (w := skp tp n p) E X (by omega) (by omega)
  obtain ⟨t1, g1, B, F⟩ := (asks_b (N := N) (RL_RB hL) (show 11 ∈ kWo by decide) hN).2 (show wdA tp n p b ≠ 8 by omega)
  have g2 := number_d (N := N) B (nI 0) (nI 100)
  obtain ⟨t2, g3, B3⟩ := j168_d (N := N) (DMd_28 (i := 3) (v := nI 0) (by omega) (BM_d hM.2.2 B F (by decide) (by decide)))
  refine ⟨1, skp tp n p, s1, t2, by rw [hc, st_62 X.2.1.2.1 f1 D1.1.1], DX_d hJ.2.2.2 D1, ?_, B3⟩
  rw [ms_h hj hx (tk_0 hL (by decide) (show wdA tp n p b ≠ 2 by omega) hN) (tk_0 hL (by decide) (show wdA tp n p b ≠ 3 by omega) hN) (tk_0 hL (by decide) (show wdA tp n p b ≠ 4 by omega) hN) (tk_0 hL (by decide) (show wdA tp n p b ≠ 5 by omega) hN) (tk_0 hL (by decide) (show wdA tp n p b ≠ 6 by omega) hN) (tk_0 hL (by decide) (show wdA tp n p b ≠ 7 by omega) hN), g1, Option.bind_some, g2, Option.bind_some, Option.bind_some, g3]
theorem stmt_too (hJ : JX tp n s0 A op pt L p b s) (hM : JM tp n t0 A op pt M p b t) (hL : RL tp n p b t) (hLl : L.length ≤ p) (hMp : M ≤ p) (hj : j < 60) (hx : gI t 1045 0 = nI j) (hw : (wdA tp n p b = 2 ∧ pP A = 10) ∨ (wdA tp n p b = 6 ∧ pTw A = true) ∨ (wdA tp n p b = 7 ∧ pTc A = true)) (hc : f_Rd_statement N (nI j) s = f_Rd_statement_j19 N (nI (wdA tp n p b) + m1, s)) (hN : 10000 ≤ N) : BoR tp n s0 t0 p x (f_Rd_statement N (nI j) s) (f_M_statementTold N t) := by
  obtain ⟨mk, E⟩ := hJ.1
  have X := hJ.2.1
  have hn := E.1.1
  have hpn := X.1
  left
  obtain ⟨s1, f1, D1⟩ := c_fail (N := N) (k := 5) (w := skp tp n p) E X (by omega) (by omega)
  have e2 := hL.2.2.2.2.2
  have fin : ∀ t', (∃ t2, t' = some t2 ∧ DMd t0 5 (skp tp n p) t2) → f_M_statementTold N t = (t'.bind fun p => f_M_statementTold_j168 N p) → (∃ k w s' t', f_Rd_statement N (nI j) s = some s' ∧ DXd s0 k w s' ∧ f_M_statementTold N t = some t' ∧ DMd t0 k w t') := by
    rintro _ ⟨t2, rfl, B⟩ h
    obtain ⟨t3, g3, B3⟩ := j168_d (N := N) B
    exact ⟨5, skp tp n p, s1, t3, by rw [hc, st_19 X.2.1.2.1 f1 D1.1.1], DX_d hJ.2.2.2 D1, by rw [h, Option.bind_some, g3], B3⟩
  rcases hw with ⟨c1, c2⟩ | ⟨c1, c2⟩ | ⟨c1, c2⟩
  · obtain ⟨t1, g1, R1, F1⟩ := (takes_b (N := N) (RL_RB hL) (show 4 ∈ kWo by decide) hN).1 c1
    exact fin _ (too_2 (N := N) (JM_st hM R1 F1 (by decide)) c2 e2 hN) (ms_2 hj hx g1)
  · have T := fun o (ho : o ∈ kWo) (h : 6 ≠ woJ o + 1) => tk_0 (N := N) hL ho (by rw [c1]; exact h) hN
    obtain ⟨t1, g1, R1, F1⟩ := (takes_b (N := N) (RL_RB hL) (show 9 ∈ kWo by decide) hN).1 c1
    have hM1 := JM_st hM R1 F1 (by decide)
    exact fin _ (too_l (N := N) hM1 (by omega) (hM1.2.1.2.2.2.2.2.2.2.2.2.1 c2) (by omega) e2 hN) (ms_6 hj hx (T 4 (by decide) (by decide)) (T 6 (by decide) (by decide)) (T 7 (by decide) (by decide)) (T 8 (by decide) (by decide)) g1)
  · have T := fun o (ho : o ∈ kWo) (h : 7 ≠ woJ o + 1) => tk_0 (N := N) hL ho (by rw [c1]; exact h) hN
    obtain ⟨t1, g1, R1, F1⟩ := (takes_b (N := N) (RL_RB hL) (show 10 ∈ kWo by decide) hN).1 c1
    have hM1 := JM_st hM R1 F1 (by decide)
    exact fin _ (too_l (N := N) hM1 (by omega) (hM1.2.1.2.2.2.2.2.2.2.2.2.2.2.1 c2) (by omega) e2 hN) (ms_7 hj hx (T 4 (by decide) (by decide)) (T 6 (by decide) (by decide)) (T 7 (by decide) (by decide)) (T 8 (by decide) (by decide)) (T 9 (by decide) (by decide)) g1)
theorem stmt_j (hJ : JX tp n s0 A op pt L p b s) (hM : JM tp n t0 A op pt M p b t) (hL : RL tp n p b t) (hW : WD A op pt) (hLl : L.length ≤ p) (hMp : M ≤ p) (h0 : 0 < pD A) (hj0 : 0 < j) (hj : j < 60) (hx : gI t 1045 0 = nI j) (hN : 10000 ≤ N) : BoR tp n s0 t0 p (nI (j + 1)) (f_Rd_statement N (nI j) s) (f_M_statementTold N t) := by
  obtain ⟨mk, E⟩ := hJ.1
  have X := hJ.2.1
  have D := hJ.2.2.1
  have hn := E.1.1
  have hpn := X.1
  have hP10 := hW.1.2.1
  have ht : ∀ i, i < n → tp i < 256 := (CE_x E X).2.2.2
  have wl := wdA_le (tp := tp) (n := n) (p := p) (b := b)
  have wd := word_w (N := N) ht X.2.1
  have om := om_n (N := N) (s := s) wl hP10 D.2.1 D.2.2.2.2.2.2.2.1 D.2.2.2.2.2.2.2.2.1
  by_cases hT : (wdA tp n p b = 2 ∧ pP A = 10) ∨ (wdA tp n p b = 6 ∧ pTw A = true) ∨ (wdA tp n p b = 7 ∧ pTc A = true)
  · rw [if_pos hT] at om
    exact stmt_too hJ hM hL hLl hMp hj hx hT (st_hT hj wd om) hN
  · rw [if_neg hT] at om
    by_cases hb : wdA tp n p b ≤ 1 ∨ 9 ≤ wdA tp n p b
    · refine stmt_bad hJ hM hL hLl hj hx hb ?_ hN
      rcases hb with hb | hb
      · by_cases c : wdA tp n p b = 1
        · exact st_h0 hj hj0 wd om (by rw [c]; exact eq_true rfl)
        · have c0 : wdA tp n p b = 0 := by omega
          rw [st_hn hj hj0 wd om (by rw [c0]; exact eq_false (by decide)), if_pos (by rw [c0]; decide)]
      · have e : nI (wdA tp n p b) + m1 = nI (wdA tp n p b - 1) := by
          have := m1_s (wdA tp n p b - 1)
          rwa [show wdA tp n p b - 1 + 1 = wdA tp n p b by omega] at this
        rw [st_hn hj hj0 wd om (by rw [e, cn_eq (by omega)]; exact eq_false (by omega)), if_neg (by rw [e, cn_lt (by omega)]; omega), if_pos (by rw [e, cn_lt (by omega)]; omega)]
    · obtain ⟨i, hi⟩ : ∃ i, wdA tp n p b = i + 1 := ⟨wdA tp n p b - 1, by omega⟩
      rw [hi, m1_s] at wd om
      have hd : f_Rd_statement N (nI j) s = f_Rd_statement_j71 N (nI i, s) := by
        rw [st_hn hj hj0 wd om (by rw [cn_eq (by omega)]; exact eq_false (by omega)), if_neg (by rw [cn_lt (by omega)]; omega), if_neg (by rw [cn_lt (by omega)]; omega)]
      rw [hd]
      obtain ⟨s1, f1, X1, p1, p2⟩ := c_wd E X hi hN
      have hJ1 : JX tp n s0 A op pt L (kE tp n p) true s1 := JX_st hJ X1
      have hO1 := (CE_x E X1).2.1
      have h612 := X.2.2.1
      have e401 := hJ1.2.2.1.2.1
      have e501 := X1.2.2.2.2.1.1
      have T : ∀ o, o ∈ kWo → i ≠ woJ o → f_M_takes N o t = some (nI 0, t) := fun o ho h => tk_0 (N := N) hL ho (by rw [hi]; omega) hN
      have G : ∀ o, o ∈ kWo → i = woJ o → ∃ t1, f_M_takes N o t = some (nI 1, t1) ∧ JM tp n t0 A op pt M (kE tp n p) true t1 ∧ gI t1 1045 0 = nI j := fun o ho h => by
        obtain ⟨t1, g1, R1, F1⟩ := (takes_b (N := N) (RL_RB hL) ho hN).1 (by rw [hi, h])
        exact ⟨t1, g1, JM_st hM R1 F1 (by decide), by rw [F1.I 1045 0 (by decide)]; exact hx⟩
      refine BoR_mono (show p ≤ kE tp n p by omega) ?_
      rcases (show i = 1 ∨ i = 2 ∨ i = 3 ∨ i = 4 ∨ i = 5 ∨ i = 6 ∨ i = 7 by omega) with rfl | rfl | rfl | rfl | rfl | rfl | rfl
      · obtain ⟨t1, g1, hM1, x1⟩ := G 4 (by decide) (by decide)
        rw [j71_1 h612 f1 hO1, ms_2 hj hx g1, e401, e501]
        exact semi_j (by omega) hN (body_porter hJ1 hM1 hW (by omega) (by omega) h0 x1 (by omega) hN)
      · obtain ⟨t1, g1, hM1, x1⟩ := G 6 (by decide) (by decide)
        rw [j71_n (by omega) (by omega) (by omega) (by omega) h612 f1 hO1, ms_3 hj hx (T 4 (by decide) (by decide)) g1]
        exact semi_j (by omega) hN (body_paint hJ1 hM1 hW (by omega) (by omega) h0 x1 hN)
      · obtain ⟨t1, g1, hM1, x1⟩ := G 7 (by decide) (by decide)
        rw [j71_n (by omega) (by omega) (by omega) (by omega) h612 f1 hO1, ms_4 hj hx (T 4 (by decide) (by decide)) (T 6 (by decide) (by decide)) g1]
        exact semi_j (by omega) hN (body_open hJ1 hM1 hW (by omega) (by omega) h0 x1 hN)
      · obtain ⟨t1, g1, hM1, x1⟩ := G 8 (by decide) (by decide)
        rw [j71_n (by omega) (by omega) (by omega) (by omega) h612 f1 hO1, ms_5 hj hx (T 4 (by decide) (by decide)) (T 6 (by decide) (by decide)) (T 7 (by decide) (by decide)) g1]
        exact semi_j (by omega) hN (body_stiff hJ1 hM1 hW (by omega) (by omega) h0 x1 hN)
      · obtain ⟨t1, g1, hM1, x1⟩ := G 9 (by decide) (by decide)
        have tw : pTw A = false := by
          cases h : pTw A
          · rfl
          · exact absurd (Or.inr (Or.inl ⟨hi, h⟩)) hT
        rw [j71_5 h612 f1 hO1, ms_6 hj hx (T 4 (by decide) (by decide)) (T 6 (by decide) (by decide)) (T 7 (by decide) (by decide)) (T 8 (by decide) (by decide)) g1, e501]
        exact semi_j (by omega) hN (body_walks hJ1 hM1 hW (by omega) (by omega) h0 x1 tw hN)
      · obtain ⟨t1, g1, hM1, x1⟩ := G 10 (by decide) (by decide)
        have tc : pTc A = false := by
          cases h : pTc A
          · rfl
          · exact absurd (Or.inr (Or.inr ⟨hi, h⟩)) hT
        rw [j71_6 h612 f1 hO1, ms_7 hj hx (T 4 (by decide) (by decide)) (T 6 (by decide) (by decide)) (T 7 (by decide) (by decide)) (T 8 (by decide) (by decide)) (T 9 (by decide) (by decide)) g1, e501]
        exact semi_j (by omega) hN (body_cold hJ1 hM1 hW (by omega) (by omega) h0 x1 tc hN)
      · obtain ⟨t1, g1, R1, F1⟩ := (asks_b (N := N) (RL_RB hL) (show 11 ∈ kWo by decide) hN).1 (by rw [hi]; decide)
        have hM1 := JM_st hM R1 F1 (by decide)
        have x1 : gI t1 1045 0 = nI j := by rw [F1.I 1045 0 (by decide)]; exact hx
        rw [j71_n (by omega) (by omega) (by omega) (by omega) h612 f1 hO1, ms_h hj hx (T 4 (by decide) (by decide)) (T 6 (by decide) (by decide)) (T 7 (by decide) (by decide)) (T 8 (by decide) (by decide)) (T 9 (by decide) (by decide)) (T 10 (by decide) (by decide)), g1, Option.bind_some]
        exact semi_j (by omega) hN (body_ill hJ1 hM1 hW (by omega) (by omega) h0 x1 hN)
/-- the 61st -/
theorem stmt_60 (hJ : JX tp n s0 A op pt L p b s) (hM : JM tp n t0 A op pt M p b t) (hL : RL tp n p b t) (hLl : L.length ≤ p) (hx : gI t 1045 0 = nI 60) (hN : 10000 ≤ N) : BoR tp n s0 t0 p x (f_Rd_statement N (nI 60) s) (f_M_statementTold N t) := by
  obtain ⟨mk, E⟩ := hJ.1
  have X := hJ.2.1
  have hn := E.1.1
  have hpn := X.1
  have ht : ∀ i, i < n → tp i < 256 := (CE_x E X).2.2.2
  have wd := word_w (N := N) ht X.2.1
  have e2 := hL.2.2.2.2.2
  left
  obtain ⟨s1, f1, D1⟩ := c_fail (N := N) (k := 5) (w := skp tp n p) E X (by omega) (by omega)
  obtain ⟨t1, g1, B, F⟩ := mfail_l (N := N) (t := t) (k := 5) (w := skp tp n p) hL.2.2.1 (by omega)
  refine ⟨5, skp tp n p, s1, t1, by rw [st_h60 wd, st_19 X.2.1.2.1 f1 D1.1.1], DX_d hJ.2.2.2 D1, ?_, BM_d hM.2.2 B F (by decide) (by decide)⟩
  simp (disch := first | omega | decide) only [f_M_statementTold, hx, e2, g1, zI_0, zI_1, zI_2, zI_3, zI_4, zI_5, zI_6, zI_7, zI_8, zI_9, zI_10, zI_11, zI_12, zI_13, zI_14, zI_15, zI_16, zI_17, zI_18, zI_19, zI_20, zI_21, zI_22, zI_23, zI_24, zI_25, zI_26, zI_27, zI_28, zI_29, zI_30, zI_31, zI_32, zI_33, zI_34, zI_35, zI_36, zI_37, zI_38, zI_39, zI_40, zI_41, zI_42, zI_43, zI_44, zI_45, zI_46, zI_47, zI_48, zI_49, zI_50, zI_51, zI_52, zI_53, zI_54, zI_55, zI_56, zI_57, zI_58, zI_59, zI_60, zI_61, zI_62, zI_63, zI_64, zI_65, zI_66, zI_67, zI_74, zI_84, zI_85, zI_88, zI_91, zI_93, zI_97, zI_99, zI_100, zI_102, zI_105, zI_117, zI_122, zI_193, zI_202, zI_205, zI_251, zI_255, zI_256, zI_257, zI_258, zI_259, zI_260, zI_640, zI_999, zI_1000, zI_1024, zI_1600, zI_1602, zI_1700, zI_2040, zI_3200, zI_4100, zI_9728, zI_11784, zI_61440, zI_65536, zI_470536, zI_999999, zI_1000000, lt_T, lt_F, le_T, le_F, eq_T, eq_F, neg_1, cn_m1p, cn_m11, nI_add, cn_sub, pk_mul, cn_div, cn_irm, cn_lt, cn_eq, cn_ltm1, cn_m1lt, cn_eqm1, cn_m1eq, cn_ix, cn_inb, cn_ninb, cn_irs, cn_ils, cn_and, cn_or, cn_xor, grd_t, grd_bt, grd_bl, Nat.add_zero, Nat.zero_add, Nat.reduceAdd, Nat.reduceSub, Nat.reduceMul, Nat.reduceLT, Nat.reduceEqDiff, eq_self, true_and, and_true, and_false, false_and, if_true, if_false, and_self, Bool.true_eq_false, Bool.false_eq_true, Option.bind_some]
end STMTJ
