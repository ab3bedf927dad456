/-! A PART of parts and sums, on both sides -/
section PARTB
variable {N n p o : Nat} {tp : Nat → Nat} {b : Bool} {s s0 : mS} {kd mk pg r k w : Nat} {al : Nat → Bool} {L : List Nat}
theorem c_sg {c : Nat} (hc : SgC c) (E : CE tp n pg mk s0) (h : CX tp n pg s0 p b o L s) (hk : kK tp n p b = c) (hN : 10000 ≤ N) : ∃ s', f_Rd_advance N s = some s' ∧ CX tp n pg s0 (skp tp n p + 1) false o L s' ∧ p ≤ skp tp n p ∧ skp tp n p + 1 ≤ n := by
  obtain ⟨k1, k2, k3, k4⟩ := kK_sg hc hk
  obtain ⟨s', e, X⟩ := c_adv E h hN
  rw [k3, k4] at X
  have sb := skp_b (tp := tp) h.1
  exact ⟨s', e, X, sb.1, by omega⟩
theorem c_wd (E : CE tp n pg mk s0) (h : CX tp n pg s0 p b o L s) {j : Nat} (hw : wdA tp n p b = j + 1) (hN : 10000 ≤ N) : ∃ s', f_Rd_advance N s = some s' ∧ CX tp n pg s0 (kE tp n p) true o L s' ∧ p < kE tp n p ∧ kE tp n p ≤ n := by
  obtain ⟨hT, hO, hm, ht⟩ := CE_x E h
  have kk := wdA_k hw
  obtain ⟨kc, _, _⟩ := kK_w ht kk
  obtain ⟨s', e, X⟩ := c_adv E h hN
  rw [kk] at X
  have kb := kE_b (tp := tp) h.1
  have sb := skp_b (tp := tp) h.1
  exact ⟨s', e, X, by omega, kb.2.1⟩
theorem wm_n {W : Nat} {j : Nat} (hW : W ≤ 31) (hj : j < 100) : (nI W + m1 = nI j) = (W = j + 1) := by
  cases hw : W with
  | zero => rw [m1_0, cn_m1eq (by omega)]; exact (eq_false (by omega)).symm
  | succ i => rw [m1_s, cn_eq (by omega)]; exact propext ⟨fun h => by omega, fun h => by omega⟩
/-- what the sum in brackets comes to -/
theorem part_par (hK : KdA kd mk al) (E : CE tp n pg mk s0) (h : CX tp n pg s0 p b o L s) (hl : L.length ≤ p) (ho : o ≤ 6) (hr : 4 ≤ r) (hN : 10000 ≤ N) (hS : o < 6 → SumC N tp n kd mk pg al r (o + 1)) (k : kK tp n p b = 40) : PartR N tp n kd pg al (r + 1) o s0 p b L s := by
  obtain ⟨hT, hO, hm, ht⟩ := CE_x E h
  have hn := hT.1
  have hp := h.1
  have hpo := E.2.1
  obtain ⟨o1, _⟩ := pgo_ok hpo
  have wd := word_w (N := N) ht h.2.1
  have w0 : wdA tp n p b = 0 := wdA_0 (by omega)
  rw [w0, m1_0] at wd
  obtain ⟨k1, k2, k3, k4, k5, k6⟩ := h.2.1
  rw [k] at k1
  obtain ⟨g1, g2⟩ := c_enters (N := N) E h (by omega) ho
  obtain ⟨q1, q2, q3, q4⟩ := kK_sg (c := 40) ⟨by decide, by decide⟩ k
  have sb := skp_b (tp := tp) hp
  by_cases c : o < 6
  · obtain ⟨s1, f1, X1⟩ := g1 c
    obtain ⟨s2, f2, X2, p1, p2⟩ := c_sg (c := 40) ⟨by decide, by decide⟩ E X1 k hN
    have opens : ∀ t0 B0 Q C W B t, RT tp n kd t0 p b o C W B t → C.length + W.length ≤ p → (∀ t', RT tp n kd t0 (skp tp n p + 1) false (o + 1) C (20 :: W) B t' → rPS N B0 Q (n - (skp tp n p + 1) + 5) t') → rPS N B0 Q (n - p + 5) t := by
      intro t0 B0 Q C W B t hR hCW hA k2 k15 h1 h2
      obtain ⟨h', hL, g2⟩ := RT_lk hR
      obtain ⟨t1, f, R1, F⟩ := (r_open (N := N) (x := 20) (q := skp tp n p) (by omega) ho h').1 c
      have g3 : gI t1 1002 0 = nI (skp tp n p) := by rw [F.I 1002 0 (by decide)]; exact g2
      have R2 : RT tp n kd t0 (skp tp n p + 1) false (o + 1) C (20 :: W) B (sI t1 1002 0 (nI (skp tp n p + 1))) := RT_st (Fr_sI _ _ _ (by decide)) (l := [110200]) (by decide) (RB_sg (by omega) sb.1 R1.2.1) R1
      have fin := hA _ R2 (k2 - 1) k15 (by omega) (by omega)
      rw [mfix_1 (by omega), (PS_look hK hR hN _).1 k, f, Option.bind_some]
      simp only [g3, nI_add]
      exact fin
    rcases hS c s0 _ _ L s2 E X2 (by omega) with ⟨k', w', s3, f3, D3, hB⟩ | ⟨es, pend, p', b', s3, f3, X3, hp', hle, hck, hop, hno, hG⟩
    · left
      have d4 := expect_d (N := N) D3.1.1 (c := 41) (by omega)
      have d5 := adv_d (N := N) D3.1.1
      have D6 := c_ddec hpo D3 (gI s3 611 18 - nI 1)
      refine ⟨k', w', _, ?_, D6, fun t0 B0 Q C W B t hR hCW hB2 hQ => opens t0 B0 Q C W B t hR hCW (fun t' R => hB t0 B0 Q C (20 :: W) B t' R (by rw [List.length_cons]; omega) (by rw [List.length_cons]; omega) (SW_br (by omega)) hQ)⟩
      show f_Rd_part_B N _ _ _ _ s = _
      simp (disch := first | omega | decide) only [f_Rd_part_B, wd, k1, f1, f2, f3, d4, d5, zI_0, zI_1, zI_2, zI_3, zI_4, zI_5, zI_6, zI_7, zI_8, zI_9, zI_10, zI_11, zI_12, zI_13, zI_14, zI_15, zI_16, zI_17, zI_18, zI_19, zI_20, zI_21, zI_22, zI_23, zI_24, zI_25, zI_26, zI_27, zI_28, zI_29, zI_30, zI_31, zI_32, zI_33, zI_34, zI_35, zI_36, zI_37, zI_38, zI_39, zI_40, zI_41, zI_42, zI_43, zI_44, zI_45, zI_46, zI_47, zI_48, zI_49, zI_50, zI_51, zI_52, zI_53, zI_54, zI_55, zI_56, zI_57, zI_58, zI_59, zI_60, zI_61, zI_62, zI_63, zI_64, zI_65, zI_66, zI_67, zI_74, zI_84, zI_85, zI_88, zI_91, zI_93, zI_97, zI_99, zI_100, zI_102, zI_105, zI_117, zI_122, zI_193, zI_202, zI_205, zI_251, zI_255, zI_256, zI_257, zI_258, zI_259, zI_260, zI_640, zI_999, zI_1000, zI_1024, zI_1600, zI_1602, zI_1700, zI_2040, zI_3200, zI_4100, zI_9728, zI_11784, zI_61440, zI_65536, zI_470536, zI_999999, zI_1000000, lt_T, lt_F, le_T, le_F, eq_T, eq_F, neg_1, cn_m1p, cn_m11, nI_add, cn_sub, pk_mul, cn_div, cn_irm, cn_lt, cn_eq, cn_ltm1, cn_m1lt, cn_eqm1, cn_m1eq, cn_ix, cn_inb, cn_ninb, cn_irs, cn_ils, cn_and, cn_or, cn_xor, grd_t, grd_bt, grd_bl, Nat.add_zero, Nat.zero_add, Nat.reduceAdd, Nat.reduceSub, Nat.reduceMul, Nat.reduceLT, Nat.reduceEqDiff, eq_self, true_and, and_true, and_false, false_and, if_true, if_false, and_self, Bool.true_eq_false, Bool.false_eq_true, Option.bind_some]
    · have hp2 := X3.1
      have hl3 : (L ++ (es ++ pend)).length ≤ p' := by rw [List.length_append]; omega
      rw [List.length_append] at hle
      by_cases c2 : kK tp n p' b' = 41
      · right
        have d4 := (c_expect (N := N) (c := 41) E X3 (by omega) (by omega)).1 c2
        obtain ⟨s5, f5, X5, p3, p4⟩ := c_sg (c := 41) ⟨by decide, by decide⟩ E X3 c2 hN
        have X6 := c_dec hpo X5
        refine ⟨es ++ pend, skp tp n p' + 1, false, _, ?_, X6, by omega, by rw [List.length_append]; omega, ckN_mono hck (by omega), ?_⟩
        · show f_Rd_part_B N _ _ _ _ s = _
          simp (disch := first | omega | decide) only [f_Rd_part_B, wd, k1, f1, f2, f3, d4, f5, zI_0, zI_1, zI_2, zI_3, zI_4, zI_5, zI_6, zI_7, zI_8, zI_9, zI_10, zI_11, zI_12, zI_13, zI_14, zI_15, zI_16, zI_17, zI_18, zI_19, zI_20, zI_21, zI_22, zI_23, zI_24, zI_25, zI_26, zI_27, zI_28, zI_29, zI_30, zI_31, zI_32, zI_33, zI_34, zI_35, zI_36, zI_37, zI_38, zI_39, zI_40, zI_41, zI_42, zI_43, zI_44, zI_45, zI_46, zI_47, zI_48, zI_49, zI_50, zI_51, zI_52, zI_53, zI_54, zI_55, zI_56, zI_57, zI_58, zI_59, zI_60, zI_61, zI_62, zI_63, zI_64, zI_65, zI_66, zI_67, zI_74, zI_84, zI_85, zI_88, zI_91, zI_93, zI_97, zI_99, zI_100, zI_102, zI_105, zI_117, zI_122, zI_193, zI_202, zI_205, zI_251, zI_255, zI_256, zI_257, zI_258, zI_259, zI_260, zI_640, zI_999, zI_1000, zI_1024, zI_1600, zI_1602, zI_1700, zI_2040, zI_3200, zI_4100, zI_9728, zI_11784, zI_61440, zI_65536, zI_470536, zI_999999, zI_1000000, lt_T, lt_F, le_T, le_F, eq_T, eq_F, neg_1, cn_m1p, cn_m11, nI_add, cn_sub, pk_mul, cn_div, cn_irm, cn_lt, cn_eq, cn_ltm1, cn_m1lt, cn_eqm1, cn_m1eq, cn_ix, cn_inb, cn_ninb, cn_irs, cn_ils, cn_and, cn_or, cn_xor, grd_t, grd_bt, grd_bl, Nat.add_zero, Nat.zero_add, Nat.reduceAdd, Nat.reduceSub, Nat.reduceMul, Nat.reduceLT, Nat.reduceEqDiff, eq_self, true_and, and_true, and_false, false_and, if_true, if_false, and_self, Bool.true_eq_false, Bool.false_eq_true, Option.bind_some]
        · intro t0 B0 Q C W B t hR hCW hB2 hQ
          refine opens t0 B0 Q C W B t hR hCW (fun t' R => hG t0 B0 Q C (20 :: W) B t' R (by rw [List.length_cons]; omega) (by rw [List.length_cons]; omega) (SW_br (by omega)) (fun t2 R2 => ?_))
          obtain ⟨z1, z2, z3, z4⟩ := kK_sg (c := 41) ⟨by decide, by decide⟩ c2
          have cl := GO_close (N := N) (B0 := B0) (Q := Q) (m := n - (skp tp n p' + 1) + 5) R2 hop (Or.inl rfl) hB2 (by rw [List.length_append, List.length_append, List.length_cons]; omega) c2 (by omega) hN (by omega) (fun t3 R3 => by
            rw [if_pos rfl, List.append_nil, z3, z4, List.append_assoc] at R3
            exact hQ t3 R3)
          intro kg k15 h1 h2
          exact cl kg k15 (by omega) (by omega)
      · left
        obtain ⟨s4, f4, D4⟩ := (c_expect (N := N) (c := 41) E X3 (by omega) (by omega)).2 c2
        have d5 := adv_d (N := N) D4.1.1
        have D6 := c_ddec hpo D4 (gI s4 611 18 - nI 1)
        refine ⟨1, skp tp n p', _, ?_, D6, fun t0 B0 Q C W B t hR hCW hB2 hQ => opens t0 B0 Q C W B t hR hCW (fun t' R => hG t0 B0 Q C (20 :: W) B t' R (by rw [List.length_cons]; omega) (by rw [List.length_cons]; omega) (SW_br (by omega)) (fun t2 R2 => GO_fail R2 hop (by omega) hB2 (by simp only [List.length_append, List.length_cons] at *; omega) hno (Or.inr ⟨by omega, by omega, c2⟩) (by omega) hN hQ))⟩
        show f_Rd_part_B N _ _ _ _ s = _
        simp (disch := first | omega | decide) only [f_Rd_part_B, wd, k1, f1, f2, f3, f4, d5, zI_0, zI_1, zI_2, zI_3, zI_4, zI_5, zI_6, zI_7, zI_8, zI_9, zI_10, zI_11, zI_12, zI_13, zI_14, zI_15, zI_16, zI_17, zI_18, zI_19, zI_20, zI_21, zI_22, zI_23, zI_24, zI_25, zI_26, zI_27, zI_28, zI_29, zI_30, zI_31, zI_32, zI_33, zI_34, zI_35, zI_36, zI_37, zI_38, zI_39, zI_40, zI_41, zI_42, zI_43, zI_44, zI_45, zI_46, zI_47, zI_48, zI_49, zI_50, zI_51, zI_52, zI_53, zI_54, zI_55, zI_56, zI_57, zI_58, zI_59, zI_60, zI_61, zI_62, zI_63, zI_64, zI_65, zI_66, zI_67, zI_74, zI_84, zI_85, zI_88, zI_91, zI_93, zI_97, zI_99, zI_100, zI_102, zI_105, zI_117, zI_122, zI_193, zI_202, zI_205, zI_251, zI_255, zI_256, zI_257, zI_258, zI_259, zI_260, zI_640, zI_999, zI_1000, zI_1024, zI_1600, zI_1602, zI_1700, zI_2040, zI_3200, zI_4100, zI_9728, zI_11784, zI_61440, zI_65536, zI_470536, zI_999999, zI_1000000, lt_T, lt_F, le_T, le_F, eq_T, eq_F, neg_1, cn_m1p, cn_m11, nI_add, cn_sub, pk_mul, cn_div, cn_irm, cn_lt, cn_eq, cn_ltm1, cn_m1lt, cn_eqm1, cn_m1eq, cn_ix, cn_inb, cn_ninb, cn_irs, cn_ils, cn_and, cn_or, cn_xor, grd_t, grd_bt, grd_bl, Nat.add_zero, Nat.zero_add, Nat.reduceAdd, Nat.reduceSub, Nat.reduceMul, Nat.reduceLT, Nat.reduceEqDiff, eq_self, true_and, and_true, and_false, false_and, if_true, if_false, and_self, Bool.true_eq_false, Bool.false_eq_true, Option.bind_some]
  · left
    obtain ⟨s1, f1, D1⟩ := g2 c
    refine ⟨4, skp tp n p, s1, ?_, D1, ?_⟩
    · show f_Rd_part_B N _ _ _ _ s = some s1
      simp (disch := first | omega | decide) only [f_Rd_part_B, wd, k1, f1, zI_0, zI_1, zI_2, zI_3, zI_4, zI_5, zI_6, zI_7, zI_8, zI_9, zI_10, zI_11, zI_12, zI_13, zI_14, zI_15, zI_16, zI_17, zI_18, zI_19, zI_20, zI_21, zI_22, zI_23, zI_24, zI_25, zI_26, zI_27, zI_28, zI_29, zI_30, zI_31, zI_32, zI_33, zI_34, zI_35, zI_36, zI_37, zI_38, zI_39, zI_40, zI_41, zI_42, zI_43, zI_44, zI_45, zI_46, zI_47, zI_48, zI_49, zI_50, zI_51, zI_52, zI_53, zI_54, zI_55, zI_56, zI_57, zI_58, zI_59, zI_60, zI_61, zI_62, zI_63, zI_64, zI_65, zI_66, zI_67, zI_74, zI_84, zI_85, zI_88, zI_91, zI_93, zI_97, zI_99, zI_100, zI_102, zI_105, zI_117, zI_122, zI_193, zI_202, zI_205, zI_251, zI_255, zI_256, zI_257, zI_258, zI_259, zI_260, zI_640, zI_999, zI_1000, zI_1024, zI_1600, zI_1602, zI_1700, zI_2040, zI_3200, zI_4100, zI_9728, zI_11784, zI_61440, zI_65536, zI_470536, zI_999999, zI_1000000, lt_T, lt_F, le_T, le_F, eq_T, eq_F, neg_1, cn_m1p, cn_m11, nI_add, cn_sub, pk_mul, cn_div, cn_irm, cn_lt, cn_eq, cn_ltm1, cn_m1lt, cn_eqm1, cn_m1eq, cn_ix, cn_inb, cn_ninb, cn_irs, cn_ils, cn_and, cn_or, cn_xor, grd_t, grd_bt, grd_bl, Nat.add_zero, Nat.zero_add, Nat.reduceAdd, Nat.reduceSub, Nat.reduceMul, Nat.reduceLT, Nat.reduceEqDiff, eq_self, true_and, and_true, and_false, false_and, if_true, if_false, and_self, Bool.true_eq_false, Bool.false_eq_true, Option.bind_some]
    · intro t0 B0 Q C W B t hR hCW hB hQ k2 k15 h1 h2
      obtain ⟨h', hL, g2⟩ := RT_lk hR
      obtain ⟨t1, f, D, F⟩ := (r_open (N := N) (x := 20) (q := skp tp n p) (by omega) ho h').2 c
      rw [mfix_1 (by omega), (PS_look hK hR hN _).1 k, f, Option.bind_some]
      exact PS_bad (by omega) hN (BT_fr D (Fr_sI _ _ _ (by decide)) (l := [110200]) (by decide) (by decide) (by decide)) hQ (by omega)
/-- by, near -/
theorem part_by (hK : KdA kd mk al) (E : CE tp n pg mk s0) (h : CX tp n pg s0 p b o L s) (hl : L.length ≤ p) (ho : o ≤ 6) (hr : 4 ≤ r) (hN : 10000 ≤ N) (hP : o < 6 → PartC N tp n kd mk pg al r (o + 1)) {i : Nat} (hi : i = 9 ∨ i = 10) (hw : wq (wdA tp n p b) = i + 1) (ha : al i = true) : PartR N tp n kd pg al (r + 1) o s0 p b L s := by
  obtain ⟨hT, hO, hm, ht⟩ := CE_x E h
  have hn := hT.1
  have hp := h.1
  have hpo := E.2.1
  obtain ⟨o1, _⟩ := pgo_ok hpo
  have wl := wdA_le (tp := tp) (n := n) (p := p) (b := b)
  have ew : wdA tp n p b = i + 9 := by
    have q := ((wq_le _ (show wdA tp n p b < 32 by omega)).2 (by omega)).1
    rw [hw] at q
    rcases hi with rfl | rfl
    · exact q
    · exact q
  have wd := word_w (N := N) ht h.2.1
  have al1 := alw_c (N := N) hK hm (w := wdA tp n p b) wl
  rw [if_pos ⟨by omega, by rw [hw, Nat.add_sub_cancel]; exact ha⟩] at al1
  have ew2 : wdA tp n p b = (i + 8) + 1 := by omega
  have kk := wdA_k ew2
  rw [ew2, m1_s] at wd al1
  obtain ⟨k1, k2, k3, k4, k5, k6⟩ := h.2.1
  rw [kk] at k1
  obtain ⟨g1, g2⟩ := c_enters (N := N) E h (by omega) ho
  have wr : wqR al 9 11 (wdA tp n p b) = i + 1 := by unfold wqR; rw [if_pos ⟨by omega, by omega, by rw [hw, Nat.add_sub_cancel]; exact ha⟩, hw]
  have q17 : (nI (i + 8) = nI 17 ∧ i = 9) ∨ (nI (i + 8) = nI 18 ∧ i = 10) := by
    rcases hi with rfl | rfl
    · exact Or.inl ⟨rfl, rfl⟩
    · exact Or.inr ⟨rfl, rfl⟩
  have head : f_Rd_part_B N (f_Rd_grp N r 0) (f_Rd_grp N r 1) (f_Rd_grp N r 2) (f_Rd_grp N r 3) s = f_Rd_part_j215 N (f_Rd_grp N r 0) (f_Rd_grp N r 1) (f_Rd_grp N r 2) (f_Rd_grp N r 3) (nI (i + 8), s) := by
    rcases hi with rfl | rfl
    · simp (disch := first | omega | decide) only [f_Rd_part_B, wd, al1, k1, zI_0, zI_1, zI_2, zI_3, zI_4, zI_5, zI_6, zI_7, zI_8, zI_9, zI_10, zI_11, zI_12, zI_13, zI_14, zI_15, zI_16, zI_17, zI_18, zI_19, zI_20, zI_21, zI_22, zI_23, zI_24, zI_25, zI_26, zI_27, zI_28, zI_29, zI_30, zI_31, zI_32, zI_33, zI_34, zI_35, zI_36, zI_37, zI_38, zI_39, zI_40, zI_41, zI_42, zI_43, zI_44, zI_45, zI_46, zI_47, zI_48, zI_49, zI_50, zI_51, zI_52, zI_53, zI_54, zI_55, zI_56, zI_57, zI_58, zI_59, zI_60, zI_61, zI_62, zI_63, zI_64, zI_65, zI_66, zI_67, zI_74, zI_84, zI_85, zI_88, zI_91, zI_93, zI_97, zI_99, zI_100, zI_102, zI_105, zI_117, zI_122, zI_193, zI_202, zI_205, zI_251, zI_255, zI_256, zI_257, zI_258, zI_259, zI_260, zI_640, zI_999, zI_1000, zI_1024, zI_1600, zI_1602, zI_1700, zI_2040, zI_3200, zI_4100, zI_9728, zI_11784, zI_61440, zI_65536, zI_470536, zI_999999, zI_1000000, lt_T, lt_F, le_T, le_F, eq_T, eq_F, neg_1, cn_m1p, cn_m11, nI_add, cn_sub, pk_mul, cn_div, cn_irm, cn_lt, cn_eq, cn_ltm1, cn_m1lt, cn_eqm1, cn_m1eq, cn_ix, cn_inb, cn_ninb, cn_irs, cn_ils, cn_and, cn_or, cn_xor, grd_t, grd_bt, grd_bl, Nat.add_zero, Nat.zero_add, Nat.reduceAdd, Nat.reduceSub, Nat.reduceMul, Nat.reduceLT, Nat.reduceEqDiff, eq_self, true_and, and_true, and_false, false_and, if_true, if_false, and_self, Bool.true_eq_false, Bool.false_eq_true, Option.bind_some]
    · simp (disch := first | omega | decide) only [f_Rd_part_B, wd, al1, k1, zI_0, zI_1, zI_2, zI_3, zI_4, zI_5, zI_6, zI_7, zI_8, zI_9, zI_10, zI_11, zI_12, zI_13, zI_14, zI_15, zI_16, zI_17, zI_18, zI_19, zI_20, zI_21, zI_22, zI_23, zI_24, zI_25, zI_26, zI_27, zI_28, zI_29, zI_30, zI_31, zI_32, zI_33, zI_34, zI_35, zI_36, zI_37, zI_38, zI_39, zI_40, zI_41, zI_42, zI_43, zI_44, zI_45, zI_46, zI_47, zI_48, zI_49, zI_50, zI_51, zI_52, zI_53, zI_54, zI_55, zI_56, zI_57, zI_58, zI_59, zI_60, zI_61, zI_62, zI_63, zI_64, zI_65, zI_66, zI_67, zI_74, zI_84, zI_85, zI_88, zI_91, zI_93, zI_97, zI_99, zI_100, zI_102, zI_105, zI_117, zI_122, zI_193, zI_202, zI_205, zI_251, zI_255, zI_256, zI_257, zI_258, zI_259, zI_260, zI_640, zI_999, zI_1000, zI_1024, zI_1600, zI_1602, zI_1700, zI_2040, zI_3200, zI_4100, zI_9728, zI_11784, zI_61440, zI_65536, zI_470536, zI_999999, zI_1000000, lt_T, lt_F, le_T, le_F, eq_T, eq_F, neg_1, cn_m1p, cn_m11, nI_add, cn_sub, pk_mul, cn_div, cn_irm, cn_lt, cn_eq, cn_ltm1, cn_m1lt, cn_eqm1, cn_m1eq, cn_ix, cn_inb, cn_ninb, cn_irs, cn_ils, cn_and, cn_or, cn_xor, grd_t, grd_bt, grd_bl, Nat.add_zero, Nat.zero_add, Nat.reduceAdd, Nat.reduceSub, Nat.reduceMul, Nat.reduceLT, Nat.reduceEqDiff, eq_self, true_and, and_true, and_false, false_and, if_true, if_false, and_self, Bool.true_eq_false, Bool.false_eq_true, Option.bind_some]
  by_cases c : o < 6
  · obtain ⟨s1, f1, X1⟩ := g1 c
    obtain ⟨s2, f2, X2, p1, p2⟩ := c_wd E X1 ew2 hN
    have opens : ∀ t0 B0 Q C W B t, RT tp n kd t0 p b o C W B t → C.length + W.length ≤ p → (∀ t', RT tp n kd t0 (kE tp n p) true (o + 1) C ((i + 51) :: W) B t' → rPS N B0 Q (n - (kE tp n p) + 5) t') → rPS N B0 Q (n - p + 5) t := by
      intro t0 B0 Q C W B t hR hCW hA k2 k15 h1 h2
      obtain ⟨h', hL, g2⟩ := RT_lk hR
      obtain ⟨t1, f, R1, F⟩ := (r_open (N := N) (x := i + 51) (q := skp tp n p) (by omega) ho h').1 c
      obtain ⟨t2, f2, R2, F2⟩ := qAsks_b (N := N) (i := i) (by omega) R1.2.1 hw hN
      have fin := hA t2 (RT_st F2 (by decide) R2 R1) (k2 - 1) k15 (by omega) (by omega)
      rw [mfix_1 (by omega), (PS_look hK hR hN _).2.2.2 i (by omega) (by omega) (by omega) wr hi, show 60 + i - 9 = i + 51 by omega, f, Option.bind_some, f2, Option.bind_some]
      exact fin
    rcases hP c s0 _ _ L s2 E X2 (by omega) with ⟨k', w', s3, f3, D3, hB⟩ | ⟨e, p', b', s3, f3, X3, hp', hle, hck, hG⟩
    · left
      obtain ⟨s4, f4, D4⟩ := c_dadd (N := N) hpo D3 (nI (i + 8))
      have D6 := c_ddec hpo D4 (gI s4 611 18 - nI 1)
      have g3 := D3.1.2.1
      refine ⟨k', w', _, ?_, D6, fun t0 B0 Q C W B t hR hCW hB2 hQ => opens t0 B0 Q C W B t hR hCW (fun t' R => hB t0 B0 Q C ((i + 51) :: W) B t' R (by rw [List.length_cons]; omega) (by rw [List.length_cons]; omega) hQ)⟩
      show f_Rd_part_B N _ _ _ _ s = _
      rw [head]
      simp (disch := first | omega | decide) only [f_Rd_part_j215, f1, f2, f3, f4, g3, o1, zI_0, zI_1, zI_2, zI_3, zI_4, zI_5, zI_6, zI_7, zI_8, zI_9, zI_10, zI_11, zI_12, zI_13, zI_14, zI_15, zI_16, zI_17, zI_18, zI_19, zI_20, zI_21, zI_22, zI_23, zI_24, zI_25, zI_26, zI_27, zI_28, zI_29, zI_30, zI_31, zI_32, zI_33, zI_34, zI_35, zI_36, zI_37, zI_38, zI_39, zI_40, zI_41, zI_42, zI_43, zI_44, zI_45, zI_46, zI_47, zI_48, zI_49, zI_50, zI_51, zI_52, zI_53, zI_54, zI_55, zI_56, zI_57, zI_58, zI_59, zI_60, zI_61, zI_62, zI_63, zI_64, zI_65, zI_66, zI_67, zI_74, zI_84, zI_85, zI_88, zI_91, zI_93, zI_97, zI_99, zI_100, zI_102, zI_105, zI_117, zI_122, zI_193, zI_202, zI_205, zI_251, zI_255, zI_256, zI_257, zI_258, zI_259, zI_260, zI_640, zI_999, zI_1000, zI_1024, zI_1600, zI_1602, zI_1700, zI_2040, zI_3200, zI_4100, zI_9728, zI_11784, zI_61440, zI_65536, zI_470536, zI_999999, zI_1000000, lt_T, lt_F, le_T, le_F, eq_T, eq_F, neg_1, cn_m1p, cn_m11, nI_add, cn_sub, pk_mul, cn_div, cn_irm, cn_lt, cn_eq, cn_ltm1, cn_m1lt, cn_eqm1, cn_m1eq, cn_ix, cn_inb, cn_ninb, cn_irs, cn_ils, cn_and, cn_or, cn_xor, grd_t, grd_bt, grd_bl, Nat.add_zero, Nat.zero_add, Nat.reduceAdd, Nat.reduceSub, Nat.reduceMul, Nat.reduceLT, Nat.reduceEqDiff, eq_self, true_and, and_true, and_false, false_and, if_true, if_false, and_self, Bool.true_eq_false, Bool.false_eq_true, Option.bind_some]
    · right
      have hp2 := X3.1
      have hl3 : (L ++ e).length ≤ p' := by rw [List.length_append]; omega
      have g3 := (CE_x E X3).2.1
      have ec : nI (i + 8) = cSt (i + 51) := by rcases hi with rfl | rfl <;> rfl
      obtain ⟨s4, f4, X4⟩ := c_add (N := N) E X3 (by omega) ec
      have X6 := c_dec hpo X4
      rw [List.append_assoc] at X6
      refine ⟨e ++ [i + 51], p', b', _, ?_, X6, by omega, by rw [List.length_append, List.length_singleton]; omega, ?_, ?_⟩
      · show f_Rd_part_B N _ _ _ _ s = _
        rw [head]
        simp (disch := first | omega | decide) only [f_Rd_part_j215, f1, f2, f3, f4, g3, o1, zI_0, zI_1, zI_2, zI_3, zI_4, zI_5, zI_6, zI_7, zI_8, zI_9, zI_10, zI_11, zI_12, zI_13, zI_14, zI_15, zI_16, zI_17, zI_18, zI_19, zI_20, zI_21, zI_22, zI_23, zI_24, zI_25, zI_26, zI_27, zI_28, zI_29, zI_30, zI_31, zI_32, zI_33, zI_34, zI_35, zI_36, zI_37, zI_38, zI_39, zI_40, zI_41, zI_42, zI_43, zI_44, zI_45, zI_46, zI_47, zI_48, zI_49, zI_50, zI_51, zI_52, zI_53, zI_54, zI_55, zI_56, zI_57, zI_58, zI_59, zI_60, zI_61, zI_62, zI_63, zI_64, zI_65, zI_66, zI_67, zI_74, zI_84, zI_85, zI_88, zI_91, zI_93, zI_97, zI_99, zI_100, zI_102, zI_105, zI_117, zI_122, zI_193, zI_202, zI_205, zI_251, zI_255, zI_256, zI_257, zI_258, zI_259, zI_260, zI_640, zI_999, zI_1000, zI_1024, zI_1600, zI_1602, zI_1700, zI_2040, zI_3200, zI_4100, zI_9728, zI_11784, zI_61440, zI_65536, zI_470536, zI_999999, zI_1000000, lt_T, lt_F, le_T, le_F, eq_T, eq_F, neg_1, cn_m1p, cn_m11, nI_add, cn_sub, pk_mul, cn_div, cn_irm, cn_lt, cn_eq, cn_ltm1, cn_m1lt, cn_eqm1, cn_m1eq, cn_ix, cn_inb, cn_ninb, cn_irs, cn_ils, cn_and, cn_or, cn_xor, grd_t, grd_bt, grd_bl, Nat.add_zero, Nat.zero_add, Nat.reduceAdd, Nat.reduceSub, Nat.reduceMul, Nat.reduceLT, Nat.reduceEqDiff, eq_self, true_and, and_true, and_false, false_and, if_true, if_false, and_self, Bool.true_eq_false, Bool.false_eq_true, Option.bind_some]
      · refine ckN_one hck (by omega) (fun ts hts => ?_)
        unfold ck1
        rcases hi with rfl | rfl
        · rw [if_neg (by omega), if_pos rfl, if_pos ha]
        · rw [if_neg (by omega), if_neg (by omega), if_pos rfl, if_pos ha]
      · intro t0 B0 Q C W B t hR hCW hB2 hQ
        refine opens t0 B0 Q C W B t hR hCW (fun t' R => hG t0 B0 Q C ((i + 51) :: W) B t' R (by rw [List.length_cons]; omega) (by rw [List.length_cons]; omega) (fun t2 R2 => ?_))
        rw [List.length_cons]
        refine EP_drop (by omega) (by omega) hB2 (by rw [List.length_append]; omega) R2 (by omega) (fun t3 R3 => ?_)
        rw [List.append_assoc] at R3
        exact hQ t3 R3
  · left
    obtain ⟨s1, f1, D1⟩ := g2 c
    refine ⟨4, skp tp n p, s1, ?_, D1, ?_⟩
    · show f_Rd_part_B N _ _ _ _ s = some s1
      rw [head]
      simp (disch := first | omega | decide) only [f_Rd_part_j215, f1, zI_0, zI_1, zI_2, zI_3, zI_4, zI_5, zI_6, zI_7, zI_8, zI_9, zI_10, zI_11, zI_12, zI_13, zI_14, zI_15, zI_16, zI_17, zI_18, zI_19, zI_20, zI_21, zI_22, zI_23, zI_24, zI_25, zI_26, zI_27, zI_28, zI_29, zI_30, zI_31, zI_32, zI_33, zI_34, zI_35, zI_36, zI_37, zI_38, zI_39, zI_40, zI_41, zI_42, zI_43, zI_44, zI_45, zI_46, zI_47, zI_48, zI_49, zI_50, zI_51, zI_52, zI_53, zI_54, zI_55, zI_56, zI_57, zI_58, zI_59, zI_60, zI_61, zI_62, zI_63, zI_64, zI_65, zI_66, zI_67, zI_74, zI_84, zI_85, zI_88, zI_91, zI_93, zI_97, zI_99, zI_100, zI_102, zI_105, zI_117, zI_122, zI_193, zI_202, zI_205, zI_251, zI_255, zI_256, zI_257, zI_258, zI_259, zI_260, zI_640, zI_999, zI_1000, zI_1024, zI_1600, zI_1602, zI_1700, zI_2040, zI_3200, zI_4100, zI_9728, zI_11784, zI_61440, zI_65536, zI_470536, zI_999999, zI_1000000, lt_T, lt_F, le_T, le_F, eq_T, eq_F, neg_1, cn_m1p, cn_m11, nI_add, cn_sub, pk_mul, cn_div, cn_irm, cn_lt, cn_eq, cn_ltm1, cn_m1lt, cn_eqm1, cn_m1eq, cn_ix, cn_inb, cn_ninb, cn_irs, cn_ils, cn_and, cn_or, cn_xor, grd_t, grd_bt, grd_bl, Nat.add_zero, Nat.zero_add, Nat.reduceAdd, Nat.reduceSub, Nat.reduceMul, Nat.reduceLT, Nat.reduceEqDiff, eq_self, true_and, and_true, and_false, false_and, if_true, if_false, and_self, Bool.true_eq_false, Bool.false_eq_true, Option.bind_some]
    · intro t0 B0 Q C W B t hR hCW hB hQ k2 k15 h1 h2
      obtain ⟨h', hL, g2⟩ := RT_lk hR
      obtain ⟨t1, f, D, F⟩ := (r_open (N := N) (x := i + 51) (q := skp tp n p) (by omega) ho h').2 c
      have f2 := qAsks_d (N := N) D.1 (nI i)
      rw [mfix_1 (by omega), (PS_look hK hR hN _).2.2.2 i (by omega) (by omega) (by omega) wr hi, show 60 + i - 9 = i + 51 by omega, f, Option.bind_some, f2, Option.bind_some]
      exact PS_bad (by omega) hN D hQ (by omega)
/-- the reference at the word for the less, for the more -/
theorem two_head {t0 t : mS} {B0 : Int32} {Q : mS → Prop} {C W : List Nat} {B x : Nat} (hK : KdA kd mk al) (hR : RT tp n kd t0 p b o C W B t) (hx : x = 21 ∨ x = 22) (hw : wdA tp n p b = x + 3) (hN : 10000 ≤ N) (g : Int32 × mS → Option mS) :
    ∃ t1, RT tp n kd t0 (kE tp n p) true o C W B t1 ∧ f_M_qPartTold_L2 N g (nI 1, t) = f_M_qPartTold_j101 N g (nI 1, nI (22 - x), t1) := by
  have kk : kK tp n p b = 256 := wdA_k (j := x + 2) (by omega)
  have e := (PS_look hK hR hN g).2.1 (by omega) (by omega)
  obtain ⟨h', hL, g2⟩ := RT_lk hR
  have ll := lk_RL hL
  generalize lk tp n p t = t1 at *
  rcases hx with rfl | rfl
  · obtain ⟨t2, f, R, F⟩ := (takes_b (N := N) (RL_RB hL) (show 51 ∈ kWo by decide) hN).1 hw
    refine ⟨t2, RT_st F (by decide) R h', e.trans ?_⟩
    simp (disch := first | omega | decide) only [f_M_qPartTold_j78, f, zI_0, zI_1, zI_2, zI_3, zI_4, zI_5, zI_6, zI_7, zI_8, zI_9, zI_10, zI_11, zI_12, zI_13, zI_14, zI_15, zI_16, zI_17, zI_18, zI_19, zI_20, zI_21, zI_22, zI_23, zI_24, zI_25, zI_26, zI_27, zI_28, zI_29, zI_30, zI_31, zI_32, zI_33, zI_34, zI_35, zI_36, zI_37, zI_38, zI_39, zI_40, zI_41, zI_42, zI_43, zI_44, zI_45, zI_46, zI_47, zI_48, zI_49, zI_50, zI_51, zI_52, zI_53, zI_54, zI_55, zI_56, zI_57, zI_58, zI_59, zI_60, zI_61, zI_62, zI_63, zI_64, zI_65, zI_66, zI_67, zI_74, zI_84, zI_85, zI_88, zI_91, zI_93, zI_97, zI_99, zI_100, zI_102, zI_105, zI_117, zI_122, zI_193, zI_202, zI_205, zI_251, zI_255, zI_256, zI_257, zI_258, zI_259, zI_260, zI_640, zI_999, zI_1000, zI_1024, zI_1600, zI_1602, zI_1700, zI_2040, zI_3200, zI_4100, zI_9728, zI_11784, zI_61440, zI_65536, zI_470536, zI_999999, zI_1000000, lt_T, lt_F, le_T, le_F, eq_T, eq_F, neg_1, cn_m1p, cn_m11, nI_add, cn_sub, pk_mul, cn_div, cn_irm, cn_lt, cn_eq, cn_ltm1, cn_m1lt, cn_eqm1, cn_m1eq, cn_ix, cn_inb, cn_ninb, cn_irs, cn_ils, cn_and, cn_or, cn_xor, grd_t, grd_bt, grd_bl, Nat.add_zero, Nat.zero_add, Nat.reduceAdd, Nat.reduceSub, Nat.reduceMul, Nat.reduceLT, Nat.reduceEqDiff, eq_self, true_and, and_true, and_false, false_and, if_true, if_false, and_self, Bool.true_eq_false, Bool.false_eq_true, Option.bind_some]
  · have f := (takes_b (N := N) (RL_RB hL) (show 51 ∈ kWo by decide) hN).2 (by rw [hw]; decide)
    rw [ll] at f
    obtain ⟨t2, f2, R, F⟩ := (asks_b (N := N) (RL_RB hL) (show 52 ∈ kWo by decide) hN).1 hw
    refine ⟨t2, RT_st F (by decide) R h', e.trans ?_⟩
    simp (disch := first | omega | decide) only [f_M_qPartTold_j78, f, f2, zI_0, zI_1, zI_2, zI_3, zI_4, zI_5, zI_6, zI_7, zI_8, zI_9, zI_10, zI_11, zI_12, zI_13, zI_14, zI_15, zI_16, zI_17, zI_18, zI_19, zI_20, zI_21, zI_22, zI_23, zI_24, zI_25, zI_26, zI_27, zI_28, zI_29, zI_30, zI_31, zI_32, zI_33, zI_34, zI_35, zI_36, zI_37, zI_38, zI_39, zI_40, zI_41, zI_42, zI_43, zI_44, zI_45, zI_46, zI_47, zI_48, zI_49, zI_50, zI_51, zI_52, zI_53, zI_54, zI_55, zI_56, zI_57, zI_58, zI_59, zI_60, zI_61, zI_62, zI_63, zI_64, zI_65, zI_66, zI_67, zI_74, zI_84, zI_85, zI_88, zI_91, zI_93, zI_97, zI_99, zI_100, zI_102, zI_105, zI_117, zI_122, zI_193, zI_202, zI_205, zI_251, zI_255, zI_256, zI_257, zI_258, zI_259, zI_260, zI_640, zI_999, zI_1000, zI_1024, zI_1600, zI_1602, zI_1700, zI_2040, zI_3200, zI_4100, zI_9728, zI_11784, zI_61440, zI_65536, zI_470536, zI_999999, zI_1000000, lt_T, lt_F, le_T, le_F, eq_T, eq_F, neg_1, cn_m1p, cn_m11, nI_add, cn_sub, pk_mul, cn_div, cn_irm, cn_lt, cn_eq, cn_ltm1, cn_m1lt, cn_eqm1, cn_m1eq, cn_ix, cn_inb, cn_ninb, cn_irs, cn_ils, cn_and, cn_or, cn_xor, grd_t, grd_bt, grd_bl, Nat.add_zero, Nat.zero_add, Nat.reduceAdd, Nat.reduceSub, Nat.reduceMul, Nat.reduceLT, Nat.reduceEqDiff, eq_self, true_and, and_true, and_false, false_and, if_true, if_false, and_self, Bool.true_eq_false, Bool.false_eq_true, Option.bind_some]
theorem two_open {t0 t : mS} {B0 : Int32} {Q : mS → Prop} {C W : List Nat} {B x : Nat} (hR : RT tp n kd t0 p b o C W B t) (hx : x = 21 ∨ x = 22) (hW : C.length + W.length < 1600) (ho : o ≤ 6) (hN : 10000 ≤ N) (g : Int32 × mS → Option mS) :
    (kK tp n p b ≠ 40 → ∃ t1, BT t0 1 (skp tp n p) t1 ∧ f_M_qPartTold_j101 N g (nI 1, nI (22 - x), t) = g (nI 1, t1)) ∧
    (kK tp n p b = 40 → ¬ o < 6 → ∃ t1, BT t0 4 (skp tp n p) t1 ∧ f_M_qPartTold_j101 N g (nI 1, nI (22 - x), t) = g (nI 1, t1)) ∧
    (kK tp n p b = 40 → o < 6 → ∃ t1, RT tp n kd t0 (skp tp n p + 1) false (o + 1) C (x :: W) B t1 ∧ f_M_qPartTold_j101 N g (nI 1, nI (22 - x), t) = g (nI 1, t1)) := by
  have l := look_b hR.2.1 hN
  have sg := chM_sg (b := b) (p := p) (c := 40) ⟨by decide, by decide⟩ (RB_ht hR.2.1)
  have hn := hR.2.1.1.1
  have sb := skp_b (tp := tp) hR.2.1.2.2.2.1
  obtain ⟨h', hL, g2⟩ := RT_lk hR
  generalize lk tp n p t = t1 at *
  refine ⟨fun c => ?_, fun c c2 => ?_, fun c c2 => ?_⟩
  · have sg := sg.trans (eq_false c)
    obtain ⟨t2, f, D, F⟩ := (asksSign_b (N := N) (c := 40) ⟨by decide, by decide⟩ (RL_RB hL) hN).2 c
    refine ⟨t2, BT_of h' (by omega) F (by decide) (by decide) D, ?_⟩
    simp (disch := first | omega | decide) only [f_M_qPartTold_j101, f_M_qPartTold_j118, f_M_qPartTold_j144, l, sg, f, zI_0, zI_1, zI_2, zI_3, zI_4, zI_5, zI_6, zI_7, zI_8, zI_9, zI_10, zI_11, zI_12, zI_13, zI_14, zI_15, zI_16, zI_17, zI_18, zI_19, zI_20, zI_21, zI_22, zI_23, zI_24, zI_25, zI_26, zI_27, zI_28, zI_29, zI_30, zI_31, zI_32, zI_33, zI_34, zI_35, zI_36, zI_37, zI_38, zI_39, zI_40, zI_41, zI_42, zI_43, zI_44, zI_45, zI_46, zI_47, zI_48, zI_49, zI_50, zI_51, zI_52, zI_53, zI_54, zI_55, zI_56, zI_57, zI_58, zI_59, zI_60, zI_61, zI_62, zI_63, zI_64, zI_65, zI_66, zI_67, zI_74, zI_84, zI_85, zI_88, zI_91, zI_93, zI_97, zI_99, zI_100, zI_102, zI_105, zI_117, zI_122, zI_193, zI_202, zI_205, zI_251, zI_255, zI_256, zI_257, zI_258, zI_259, zI_260, zI_640, zI_999, zI_1000, zI_1024, zI_1600, zI_1602, zI_1700, zI_2040, zI_3200, zI_4100, zI_9728, zI_11784, zI_61440, zI_65536, zI_470536, zI_999999, zI_1000000, lt_T, lt_F, le_T, le_F, eq_T, eq_F, neg_1, cn_m1p, cn_m11, nI_add, cn_sub, pk_mul, cn_div, cn_irm, cn_lt, cn_eq, cn_ltm1, cn_m1lt, cn_eqm1, cn_m1eq, cn_ix, cn_inb, cn_ninb, cn_irs, cn_ils, cn_and, cn_or, cn_xor, grd_t, grd_bt, grd_bl, Nat.add_zero, Nat.zero_add, Nat.reduceAdd, Nat.reduceSub, Nat.reduceMul, Nat.reduceLT, Nat.reduceEqDiff, eq_self, true_and, and_true, and_false, false_and, if_true, if_false, and_self, Bool.true_eq_false, Bool.false_eq_true, Option.bind_some]
  · have sg := sg.trans (eq_true c)
    obtain ⟨t2, f, D, F⟩ := (r_open (N := N) (x := x) (q := skp tp n p) (by omega) ho h').2 c2
    have f2 := asksSign_d (N := N) D.1 (nI 40)
    refine ⟨t2, D, ?_⟩
    rcases hx with rfl | rfl
    · simp (disch := first | omega | decide) only [f_M_qPartTold_j101, f_M_qPartTold_j118, f_M_qPartTold_j144, l, sg, g2, f, f2, zI_0, zI_1, zI_2, zI_3, zI_4, zI_5, zI_6, zI_7, zI_8, zI_9, zI_10, zI_11, zI_12, zI_13, zI_14, zI_15, zI_16, zI_17, zI_18, zI_19, zI_20, zI_21, zI_22, zI_23, zI_24, zI_25, zI_26, zI_27, zI_28, zI_29, zI_30, zI_31, zI_32, zI_33, zI_34, zI_35, zI_36, zI_37, zI_38, zI_39, zI_40, zI_41, zI_42, zI_43, zI_44, zI_45, zI_46, zI_47, zI_48, zI_49, zI_50, zI_51, zI_52, zI_53, zI_54, zI_55, zI_56, zI_57, zI_58, zI_59, zI_60, zI_61, zI_62, zI_63, zI_64, zI_65, zI_66, zI_67, zI_74, zI_84, zI_85, zI_88, zI_91, zI_93, zI_97, zI_99, zI_100, zI_102, zI_105, zI_117, zI_122, zI_193, zI_202, zI_205, zI_251, zI_255, zI_256, zI_257, zI_258, zI_259, zI_260, zI_640, zI_999, zI_1000, zI_1024, zI_1600, zI_1602, zI_1700, zI_2040, zI_3200, zI_4100, zI_9728, zI_11784, zI_61440, zI_65536, zI_470536, zI_999999, zI_1000000, lt_T, lt_F, le_T, le_F, eq_T, eq_F, neg_1, cn_m1p, cn_m11, nI_add, cn_sub, pk_mul, cn_div, cn_irm, cn_lt, cn_eq, cn_ltm1, cn_m1lt, cn_eqm1, cn_m1eq, cn_ix, cn_inb, cn_ninb, cn_irs, cn_ils, cn_and, cn_or, cn_xor, grd_t, grd_bt, grd_bl, Nat.add_zero, Nat.zero_add, Nat.reduceAdd, Nat.reduceSub, Nat.reduceMul, Nat.reduceLT, Nat.reduceEqDiff, eq_self, true_and, and_true, and_false, false_and, if_true, if_false, and_self, Bool.true_eq_false, Bool.false_eq_true, Option.bind_some]
    · simp (disch := first | omega | decide) only [f_M_qPartTold_j101, f_M_qPartTold_j118, f_M_qPartTold_j144, l, sg, g2, f, f2, zI_0, zI_1, zI_2, zI_3, zI_4, zI_5, zI_6, zI_7, zI_8, zI_9, zI_10, zI_11, zI_12, zI_13, zI_14, zI_15, zI_16, zI_17, zI_18, zI_19, zI_20, zI_21, zI_22, zI_23, zI_24, zI_25, zI_26, zI_27, zI_28, zI_29, zI_30, zI_31, zI_32, zI_33, zI_34, zI_35, zI_36, zI_37, zI_38, zI_39, zI_40, zI_41, zI_42, zI_43, zI_44, zI_45, zI_46, zI_47, zI_48, zI_49, zI_50, zI_51, zI_52, zI_53, zI_54, zI_55, zI_56, zI_57, zI_58, zI_59, zI_60, zI_61, zI_62, zI_63, zI_64, zI_65, zI_66, zI_67, zI_74, zI_84, zI_85, zI_88, zI_91, zI_93, zI_97, zI_99, zI_100, zI_102, zI_105, zI_117, zI_122, zI_193, zI_202, zI_205, zI_251, zI_255, zI_256, zI_257, zI_258, zI_259, zI_260, zI_640, zI_999, zI_1000, zI_1024, zI_1600, zI_1602, zI_1700, zI_2040, zI_3200, zI_4100, zI_9728, zI_11784, zI_61440, zI_65536, zI_470536, zI_999999, zI_1000000, lt_T, lt_F, le_T, le_F, eq_T, eq_F, neg_1, cn_m1p, cn_m11, nI_add, cn_sub, pk_mul, cn_div, cn_irm, cn_lt, cn_eq, cn_ltm1, cn_m1lt, cn_eqm1, cn_m1eq, cn_ix, cn_inb, cn_ninb, cn_irs, cn_ils, cn_and, cn_or, cn_xor, grd_t, grd_bt, grd_bl, Nat.add_zero, Nat.zero_add, Nat.reduceAdd, Nat.reduceSub, Nat.reduceMul, Nat.reduceLT, Nat.reduceEqDiff, eq_self, true_and, and_true, and_false, false_and, if_true, if_false, and_self, Bool.true_eq_false, Bool.false_eq_true, Option.bind_some]
  · have sg := sg.trans (eq_true c)
    obtain ⟨z1, z2, z3, z4⟩ := kK_sg (c := 40) ⟨by decide, by decide⟩ c
    obtain ⟨t2, f, R2, F⟩ := (r_open (N := N) (x := x) (q := skp tp n p) (by omega) ho h').1 c2
    obtain ⟨t3, f3, R3, F3⟩ := (asksSign_b (N := N) (c := 40) ⟨by decide, by decide⟩ R2.2.1 hN).1 c
    rw [z3, z4] at R3
    refine ⟨t3, RT_st F3 (by decide) R3 R2, ?_⟩
    rcases hx with rfl | rfl
    · simp (disch := first | omega | decide) only [f_M_qPartTold_j101, f_M_qPartTold_j118, f_M_qPartTold_j144, l, sg, g2, f, f3, zI_0, zI_1, zI_2, zI_3, zI_4, zI_5, zI_6, zI_7, zI_8, zI_9, zI_10, zI_11, zI_12, zI_13, zI_14, zI_15, zI_16, zI_17, zI_18, zI_19, zI_20, zI_21, zI_22, zI_23, zI_24, zI_25, zI_26, zI_27, zI_28, zI_29, zI_30, zI_31, zI_32, zI_33, zI_34, zI_35, zI_36, zI_37, zI_38, zI_39, zI_40, zI_41, zI_42, zI_43, zI_44, zI_45, zI_46, zI_47, zI_48, zI_49, zI_50, zI_51, zI_52, zI_53, zI_54, zI_55, zI_56, zI_57, zI_58, zI_59, zI_60, zI_61, zI_62, zI_63, zI_64, zI_65, zI_66, zI_67, zI_74, zI_84, zI_85, zI_88, zI_91, zI_93, zI_97, zI_99, zI_100, zI_102, zI_105, zI_117, zI_122, zI_193, zI_202, zI_205, zI_251, zI_255, zI_256, zI_257, zI_258, zI_259, zI_260, zI_640, zI_999, zI_1000, zI_1024, zI_1600, zI_1602, zI_1700, zI_2040, zI_3200, zI_4100, zI_9728, zI_11784, zI_61440, zI_65536, zI_470536, zI_999999, zI_1000000, lt_T, lt_F, le_T, le_F, eq_T, eq_F, neg_1, cn_m1p, cn_m11, nI_add, cn_sub, pk_mul, cn_div, cn_irm, cn_lt, cn_eq, cn_ltm1, cn_m1lt, cn_eqm1, cn_m1eq, cn_ix, cn_inb, cn_ninb, cn_irs, cn_ils, cn_and, cn_or, cn_xor, grd_t, grd_bt, grd_bl, Nat.add_zero, Nat.zero_add, Nat.reduceAdd, Nat.reduceSub, Nat.reduceMul, Nat.reduceLT, Nat.reduceEqDiff, eq_self, true_and, and_true, and_false, false_and, if_true, if_false, and_self, Bool.true_eq_false, Bool.false_eq_true, Option.bind_some]
    · simp (disch := first | omega | decide) only [f_M_qPartTold_j101, f_M_qPartTold_j118, f_M_qPartTold_j144, l, sg, g2, f, f3, zI_0, zI_1, zI_2, zI_3, zI_4, zI_5, zI_6, zI_7, zI_8, zI_9, zI_10, zI_11, zI_12, zI_13, zI_14, zI_15, zI_16, zI_17, zI_18, zI_19, zI_20, zI_21, zI_22, zI_23, zI_24, zI_25, zI_26, zI_27, zI_28, zI_29, zI_30, zI_31, zI_32, zI_33, zI_34, zI_35, zI_36, zI_37, zI_38, zI_39, zI_40, zI_41, zI_42, zI_43, zI_44, zI_45, zI_46, zI_47, zI_48, zI_49, zI_50, zI_51, zI_52, zI_53, zI_54, zI_55, zI_56, zI_57, zI_58, zI_59, zI_60, zI_61, zI_62, zI_63, zI_64, zI_65, zI_66, zI_67, zI_74, zI_84, zI_85, zI_88, zI_91, zI_93, zI_97, zI_99, zI_100, zI_102, zI_105, zI_117, zI_122, zI_193, zI_202, zI_205, zI_251, zI_255, zI_256, zI_257, zI_258, zI_259, zI_260, zI_640, zI_999, zI_1000, zI_1024, zI_1600, zI_1602, zI_1700, zI_2040, zI_3200, zI_4100, zI_9728, zI_11784, zI_61440, zI_65536, zI_470536, zI_999999, zI_1000000, lt_T, lt_F, le_T, le_F, eq_T, eq_F, neg_1, cn_m1p, cn_m11, nI_add, cn_sub, pk_mul, cn_div, cn_irm, cn_lt, cn_eq, cn_ltm1, cn_m1lt, cn_eqm1, cn_m1eq, cn_ix, cn_inb, cn_ninb, cn_irs, cn_ils, cn_and, cn_or, cn_xor, grd_t, grd_bt, grd_bl, Nat.add_zero, Nat.zero_add, Nat.reduceAdd, Nat.reduceSub, Nat.reduceMul, Nat.reduceLT, Nat.reduceEqDiff, eq_self, true_and, and_true, and_false, false_and, if_true, if_false, and_self, Bool.true_eq_false, Bool.false_eq_true, Option.bind_some]
/-- the one side, behind a fault within the two -/
theorem two_dead {kt kf ks kp : mS → Option mS} (hpo : PgO pg) (hks : ∀ s, CD pg s0 k w s → ks s = some s) {wo : Int32} {s4 : mS} (D : CD pg s0 k w s4) :
    ∃ s', ((f_Rd_expect N 44 s4).bind fun p6 => (f_Rd_advance N p6).bind fun p7 => (ks p7).bind fun p8 => (f_Rd_expect N 41 p8).bind fun p9 => (f_Rd_advance N p9).bind fun p10 => grd (isO Sx (gO p10) 5) ((f_Pg_add N (gO p10) wo p10).bind fun p11 => some (sI p11 611 18 (gI p11 611 18 - 1)))) = some s' ∧ CD pg s0 k w s' := by
  obtain ⟨o1, _⟩ := pgo_ok hpo
  have d1 := expect_d (N := N) D.1.1 (c := 44) (by omega)
  have d2 := adv_d (N := N) D.1.1
  have d3 := hks s4 D
  have d4 := expect_d (N := N) D.1.1 (c := 41) (by omega)
  have g := D.1.2.1
  obtain ⟨s5, f5, D5⟩ := c_dadd (N := N) hpo D wo
  refine ⟨_, ?_, c_ddec hpo D5 (gI s5 611 18 - nI 1)⟩
  simp (disch := first | omega | decide) only [d1, d2, d3, d4, g, o1, f5, zI_0, zI_1, zI_2, zI_3, zI_4, zI_5, zI_6, zI_7, zI_8, zI_9, zI_10, zI_11, zI_12, zI_13, zI_14, zI_15, zI_16, zI_17, zI_18, zI_19, zI_20, zI_21, zI_22, zI_23, zI_24, zI_25, zI_26, zI_27, zI_28, zI_29, zI_30, zI_31, zI_32, zI_33, zI_34, zI_35, zI_36, zI_37, zI_38, zI_39, zI_40, zI_41, zI_42, zI_43, zI_44, zI_45, zI_46, zI_47, zI_48, zI_49, zI_50, zI_51, zI_52, zI_53, zI_54, zI_55, zI_56, zI_57, zI_58, zI_59, zI_60, zI_61, zI_62, zI_63, zI_64, zI_65, zI_66, zI_67, zI_74, zI_84, zI_85, zI_88, zI_91, zI_93, zI_97, zI_99, zI_100, zI_102, zI_105, zI_117, zI_122, zI_193, zI_202, zI_205, zI_251, zI_255, zI_256, zI_257, zI_258, zI_259, zI_260, zI_640, zI_999, zI_1000, zI_1024, zI_1600, zI_1602, zI_1700, zI_2040, zI_3200, zI_4100, zI_9728, zI_11784, zI_61440, zI_65536, zI_470536, zI_999999, zI_1000000, Nat.reduceAdd, Nat.reduceSub, Nat.reduceMul, Nat.reduceLT, Nat.reduceEqDiff, eq_self, true_and, and_true, and_false, false_and, if_true, if_false, and_self, Bool.true_eq_false, Bool.false_eq_true, grd_t, Option.bind_some]
theorem two_dead2 {kt kf ks kp : mS → Option mS} (hpo : PgO pg) {wo : Int32} {s4 : mS} (D : CD pg s0 k w s4) :
    ∃ s', ((f_Rd_expect N 41 s4).bind fun p9 => (f_Rd_advance N p9).bind fun p10 => grd (isO Sx (gO p10) 5) ((f_Pg_add N (gO p10) wo p10).bind fun p11 => some (sI p11 611 18 (gI p11 611 18 - 1)))) = some s' ∧ CD pg s0 k w s' := by
  obtain ⟨o1, _⟩ := pgo_ok hpo
  have d2 := adv_d (N := N) D.1.1
  have d4 := expect_d (N := N) D.1.1 (c := 41) (by omega)
  have g := D.1.2.1
  obtain ⟨s5, f5, D5⟩ := c_dadd (N := N) hpo D wo
  refine ⟨_, ?_, c_ddec hpo D5 (gI s5 611 18 - nI 1)⟩
  simp (disch := first | omega | decide) only [d2, d4, g, o1, f5, zI_0, zI_1, zI_2, zI_3, zI_4, zI_5, zI_6, zI_7, zI_8, zI_9, zI_10, zI_11, zI_12, zI_13, zI_14, zI_15, zI_16, zI_17, zI_18, zI_19, zI_20, zI_21, zI_22, zI_23, zI_24, zI_25, zI_26, zI_27, zI_28, zI_29, zI_30, zI_31, zI_32, zI_33, zI_34, zI_35, zI_36, zI_37, zI_38, zI_39, zI_40, zI_41, zI_42, zI_43, zI_44, zI_45, zI_46, zI_47, zI_48, zI_49, zI_50, zI_51, zI_52, zI_53, zI_54, zI_55, zI_56, zI_57, zI_58, zI_59, zI_60, zI_61, zI_62, zI_63, zI_64, zI_65, zI_66, zI_67, zI_74, zI_84, zI_85, zI_88, zI_91, zI_93, zI_97, zI_99, zI_100, zI_102, zI_105, zI_117, zI_122, zI_193, zI_202, zI_205, zI_251, zI_255, zI_256, zI_257, zI_258, zI_259, zI_260, zI_640, zI_999, zI_1000, zI_1024, zI_1600, zI_1602, zI_1700, zI_2040, zI_3200, zI_4100, zI_9728, zI_11784, zI_61440, zI_65536, zI_470536, zI_999999, zI_1000000, Nat.reduceAdd, Nat.reduceSub, Nat.reduceMul, Nat.reduceLT, Nat.reduceEqDiff, eq_self, true_and, and_true, and_false, false_and, if_true, if_false, and_self, Bool.true_eq_false, Bool.false_eq_true, grd_t, Option.bind_some]
theorem part_two (hK : KdA kd mk al) (E : CE tp n pg mk s0) (h : CX tp n pg s0 p b o L s) (hl : L.length ≤ p) (ho : o ≤ 6) (hr : 4 ≤ r) (hN : 10000 ≤ N) (hS : o < 6 → SumC N tp n kd mk pg al r (o + 1)) {x : Nat} (hx : x = 21 ∨ x = 22) (hw : wdA tp n p b = x + 3) : PartR N tp n kd pg al (r + 1) o s0 p b L s := by
  obtain ⟨hT, hO, hm, ht⟩ := CE_x E h
  have hn := hT.1
  have hp := h.1
  have hpo := E.2.1
  obtain ⟨o1, _⟩ := pgo_ok hpo
  have wd := word_w (N := N) ht h.2.1
  have ew2 : wdA tp n p b = (x + 2) + 1 := hw
  have kk := wdA_k ew2
  rw [ew2, m1_s] at wd
  obtain ⟨k1, k2, k3, k4, k5, k6⟩ := h.2.1
  rw [kk] at k1
  obtain ⟨s1, f1, X1, p1, p2⟩ := c_wd E h ew2 hN
  have hks : ∀ k w s, CD pg s0 k w s → f_Rd_grp N r 2 s = some s := fun k w s D => gd2 (by omega) hN D hpo
  have head : f_Rd_part_B N (f_Rd_grp N r 0) (f_Rd_grp N r 1) (f_Rd_grp N r 2) (f_Rd_grp N r 3) s = f_Rd_part_j113 N (f_Rd_grp N r 0) (f_Rd_grp N r 1) (f_Rd_grp N r 2) (f_Rd_grp N r 3) (nI (x + 2), s) := by
    rcases hx with rfl | rfl
    · simp (disch := first | omega | decide) only [f_Rd_part_B, wd, k1, zI_0, zI_1, zI_2, zI_3, zI_4, zI_5, zI_6, zI_7, zI_8, zI_9, zI_10, zI_11, zI_12, zI_13, zI_14, zI_15, zI_16, zI_17, zI_18, zI_19, zI_20, zI_21, zI_22, zI_23, zI_24, zI_25, zI_26, zI_27, zI_28, zI_29, zI_30, zI_31, zI_32, zI_33, zI_34, zI_35, zI_36, zI_37, zI_38, zI_39, zI_40, zI_41, zI_42, zI_43, zI_44, zI_45, zI_46, zI_47, zI_48, zI_49, zI_50, zI_51, zI_52, zI_53, zI_54, zI_55, zI_56, zI_57, zI_58, zI_59, zI_60, zI_61, zI_62, zI_63, zI_64, zI_65, zI_66, zI_67, zI_74, zI_84, zI_85, zI_88, zI_91, zI_93, zI_97, zI_99, zI_100, zI_102, zI_105, zI_117, zI_122, zI_193, zI_202, zI_205, zI_251, zI_255, zI_256, zI_257, zI_258, zI_259, zI_260, zI_640, zI_999, zI_1000, zI_1024, zI_1600, zI_1602, zI_1700, zI_2040, zI_3200, zI_4100, zI_9728, zI_11784, zI_61440, zI_65536, zI_470536, zI_999999, zI_1000000, lt_T, lt_F, le_T, le_F, eq_T, eq_F, neg_1, cn_m1p, cn_m11, nI_add, cn_sub, pk_mul, cn_div, cn_irm, cn_lt, cn_eq, cn_ltm1, cn_m1lt, cn_eqm1, cn_m1eq, cn_ix, cn_inb, cn_ninb, cn_irs, cn_ils, cn_and, cn_or, cn_xor, grd_t, grd_bt, grd_bl, Nat.add_zero, Nat.zero_add, Nat.reduceAdd, Nat.reduceSub, Nat.reduceMul, Nat.reduceLT, Nat.reduceEqDiff, eq_self, true_and, and_true, and_false, false_and, if_true, if_false, and_self, Bool.true_eq_false, Bool.false_eq_true, Option.bind_some]
    · simp (disch := first | omega | decide) only [f_Rd_part_B, wd, k1, zI_0, zI_1, zI_2, zI_3, zI_4, zI_5, zI_6, zI_7, zI_8, zI_9, zI_10, zI_11, zI_12, zI_13, zI_14, zI_15, zI_16, zI_17, zI_18, zI_19, zI_20, zI_21, zI_22, zI_23, zI_24, zI_25, zI_26, zI_27, zI_28, zI_29, zI_30, zI_31, zI_32, zI_33, zI_34, zI_35, zI_36, zI_37, zI_38, zI_39, zI_40, zI_41, zI_42, zI_43, zI_44, zI_45, zI_46, zI_47, zI_48, zI_49, zI_50, zI_51, zI_52, zI_53, zI_54, zI_55, zI_56, zI_57, zI_58, zI_59, zI_60, zI_61, zI_62, zI_63, zI_64, zI_65, zI_66, zI_67, zI_74, zI_84, zI_85, zI_88, zI_91, zI_93, zI_97, zI_99, zI_100, zI_102, zI_105, zI_117, zI_122, zI_193, zI_202, zI_205, zI_251, zI_255, zI_256, zI_257, zI_258, zI_259, zI_260, zI_640, zI_999, zI_1000, zI_1024, zI_1600, zI_1602, zI_1700, zI_2040, zI_3200, zI_4100, zI_9728, zI_11784, zI_61440, zI_65536, zI_470536, zI_999999, zI_1000000, lt_T, lt_F, le_T, le_F, eq_T, eq_F, neg_1, cn_m1p, cn_m11, nI_add, cn_sub, pk_mul, cn_div, cn_irm, cn_lt, cn_eq, cn_ltm1, cn_m1lt, cn_eqm1, cn_m1eq, cn_ix, cn_inb, cn_ninb, cn_irs, cn_ils, cn_and, cn_or, cn_xor, grd_t, grd_bt, grd_bl, Nat.add_zero, Nat.zero_add, Nat.reduceAdd, Nat.reduceSub, Nat.reduceMul, Nat.reduceLT, Nat.reduceEqDiff, eq_self, true_and, and_true, and_false, false_and, if_true, if_false, and_self, Bool.true_eq_false, Bool.false_eq_true, Option.bind_some]
  generalize hq : kE tp n p = q at *
  have sbq := skp_b (tp := tp) (n := n) (p := q) p2
  by_cases c40 : kK tp n q true = 40
  · have e40 := (c_expect (N := N) (c := 40) E X1 (by omega) (by omega)).1 c40
    obtain ⟨g1, g2⟩ := c_enters (N := N) E X1 (by omega) ho
    by_cases c : o < 6
    · obtain ⟨s2, f2, X2⟩ := g1 c
      obtain ⟨s3, f3, X3, p3, p4⟩ := c_sg (c := 40) ⟨by decide, by decide⟩ E X2 c40 hN
      have opens : ∀ t0 B0 Q C W B t, RT tp n kd t0 p b o C W B t → C.length + W.length ≤ p → (∀ t', RT tp n kd t0 (skp tp n q + 1) false (o + 1) C (x :: W) B t' → rPS N B0 Q (n - (skp tp n q + 1) + 5) t') → rPS N B0 Q (n - p + 5) t := by
        intro t0 B0 Q C W B t hR hCW hA k2' k15 h1 h2
        rw [mfix_1 (by omega)]
        obtain ⟨t1, R1, e1⟩ := two_head (B0 := B0) (Q := Q) hK hR hx hw hN (mfix (k2' - 1) (f_M_qPartTold_L2 N))
        rw [hq] at R1
        obtain ⟨t2, R2, e2⟩ := (two_open (B0 := B0) (Q := Q) R1 hx (by omega) ho hN (mfix (k2' - 1) (f_M_qPartTold_L2 N))).2.2 c40 c
        rw [e1, e2]
        exact hA t2 R2 (k2' - 1) k15 (by omega) (by omega)
      have hd : f_Rd_part_j113 N (f_Rd_grp N r 0) (f_Rd_grp N r 1) (f_Rd_grp N r 2) (f_Rd_grp N r 3) (nI (x + 2), s) = (f_Rd_grp N r 2 s3).bind fun p5 => (f_Rd_expect N 44 p5).bind fun p6 => (f_Rd_advance N p6).bind fun p7 => (f_Rd_grp N r 2 p7).bind fun p8 => (f_Rd_expect N 41 p8).bind fun p9 => (f_Rd_advance N p9).bind fun p10 => grd (isO Sx (gO p10) 5) ((f_Pg_add N (gO p10) (nI (x + 2)) p10).bind fun p11 => some (sI p11 611 18 (gI p11 611 18 - 1))) := by
        simp (disch := first | omega | decide) only [f_Rd_part_j113, f1, e40, f2, f3, zI_40, zI_0, zI_1, zI_2, zI_3, zI_4, zI_5, zI_6, zI_7, zI_8, zI_9, zI_10, zI_11, zI_12, zI_13, zI_14, zI_15, zI_16, zI_17, zI_18, zI_19, zI_20, zI_21, zI_22, zI_23, zI_24, zI_25, zI_26, zI_27, zI_28, zI_29, zI_30, zI_31, zI_32, zI_33, zI_34, zI_35, zI_36, zI_37, zI_38, zI_39, zI_40, zI_41, zI_42, zI_43, zI_44, zI_45, zI_46, zI_47, zI_48, zI_49, zI_50, zI_51, zI_52, zI_53, zI_54, zI_55, zI_56, zI_57, zI_58, zI_59, zI_60, zI_61, zI_62, zI_63, zI_64, zI_65, zI_66, zI_67, zI_74, zI_84, zI_85, zI_88, zI_91, zI_93, zI_97, zI_99, zI_100, zI_102, zI_105, zI_117, zI_122, zI_193, zI_202, zI_205, zI_251, zI_255, zI_256, zI_257, zI_258, zI_259, zI_260, zI_640, zI_999, zI_1000, zI_1024, zI_1600, zI_1602, zI_1700, zI_2040, zI_3200, zI_4100, zI_9728, zI_11784, zI_61440, zI_65536, zI_470536, zI_999999, zI_1000000, lt_T, lt_F, le_T, le_F, eq_T, eq_F, neg_1, cn_m1p, cn_m11, nI_add, cn_sub, pk_mul, cn_div, cn_irm, cn_lt, cn_eq, cn_ltm1, cn_m1lt, cn_eqm1, cn_m1eq, cn_ix, cn_inb, cn_ninb, cn_irs, cn_ils, cn_and, cn_or, cn_xor, grd_t, grd_bt, grd_bl, Nat.add_zero, Nat.zero_add, Nat.reduceAdd, Nat.reduceSub, Nat.reduceMul, Nat.reduceLT, Nat.reduceEqDiff, eq_self, true_and, and_true, and_false, false_and, if_true, if_false, and_self, Bool.true_eq_false, Bool.false_eq_true, Option.bind_some]
      rcases hS c s0 _ _ L s3 E X3 (by omega) with ⟨k', w', s4, f4, D4, hB⟩ | ⟨es, pend, p', b', s4, f4, X4, hp', hle, hck, hop, hno, hG⟩
      · left
        obtain ⟨s', f', D'⟩ := two_dead (N := N) (kt := some) (kf := some) (kp := some) hpo (hks k' w') (wo := nI (x + 2)) D4
        refine ⟨k', w', s', ?_, D', fun t0 B0 Q C W B t hR hCW hB2 hQ => opens t0 B0 Q C W B t hR hCW (fun t' R => hB t0 B0 Q C (x :: W) B t' R (by rw [List.length_cons]; omega) (by rw [List.length_cons]; omega) (SW_br (by omega)) hQ)⟩
        show f_Rd_part_B N _ _ _ _ s = _
        rw [head, hd, f4, Option.bind_some]
        exact f'
      · have hp2 := X4.1
        have hl4 : (L ++ (es ++ pend)).length ≤ p' := by rw [List.length_append]; omega
        rw [List.length_append] at hle
        by_cases c44 : kK tp n p' b' = 44
        · have e44 := (c_expect (N := N) (c := 44) E X4 (by omega) (by omega)).1 c44
          obtain ⟨s5, f5, X5, p5, p6⟩ := c_sg (c := 44) ⟨by decide, by decide⟩ E X4 c44 hN
          obtain ⟨z1, z2, z3, z4⟩ := kK_sg (c := 44) ⟨by decide, by decide⟩ c44
          have opens2 : ∀ t0 B0 Q C W B t, RT tp n kd t0 p b o C W B t → C.length + W.length ≤ p → B ≤ W.length → (∀ t', RT tp n kd t0 (skp tp n p' + 1) false (o + 1) (C ++ (es ++ pend)) ((x + 2) :: W) B t' → rPS N B0 Q (n - (skp tp n p' + 1) + 5) t') → rPS N B0 Q (n - p + 5) t := by
            intro t0 B0 Q C W B t hR hCW hB2 hA
            refine opens t0 B0 Q C W B t hR hCW (fun t' R => hG t0 B0 Q C (x :: W) B t' R (by rw [List.length_cons]; omega) (by rw [List.length_cons]; omega) (SW_br (by omega)) (fun t2 R2 => ?_))
            have cm := GO_comma (N := N) (B0 := B0) (Q := Q) (m := n - (skp tp n p' + 1) + 5) R2 hop hx hB2 (by rw [List.length_append, List.length_append, List.length_cons]; omega) c44 hN (by omega) (fun t3 R3 => by
              rw [z3, z4, List.append_assoc] at R3
              exact hA t3 R3)
            intro kg k15 h1 h2
            exact cm kg k15 (by omega) (by omega)
          rcases hS c s0 _ _ _ s5 E X5 (by omega) with ⟨k', w', s6, f6, D6, hB⟩ | ⟨es2, pend2, p2', b2', s6, f6, X6, hp2', hle2, hck2, hop2, hno2, hG2⟩
          · left
            obtain ⟨s', f', D'⟩ := two_dead2 (N := N) (kt := some) (kf := some) (ks := some) (kp := some) hpo (wo := nI (x + 2)) D6
            refine ⟨k', w', s', ?_, D', fun t0 B0 Q C W B t hR hCW hB2 hQ => opens2 t0 B0 Q C W B t hR hCW hB2 (fun t' R => hB t0 B0 Q (C ++ (es ++ pend)) ((x + 2) :: W) B t' R (by rw [List.length_cons, List.length_append, List.length_append]; omega) (by rw [List.length_cons]; omega) (SW_br (by omega)) hQ)⟩
            show f_Rd_part_B N _ _ _ _ s = _
            rw [head, hd, f4, Option.bind_some]
            simp only [zI_44, e44, f5, f6, Option.bind_some]
            exact f'
          · have hp3 := X6.1
            have hl6 : (L ++ (es ++ pend) ++ (es2 ++ pend2)).length ≤ p2' := by rw [List.length_append]; omega
            rw [List.length_append] at hle2
            by_cases c41 : kK tp n p2' b2' = 41
            · right
              have e41 := (c_expect (N := N) (c := 41) E X6 (by omega) (by omega)).1 c41
              obtain ⟨s7, f7, X7, p7, p8⟩ := c_sg (c := 41) ⟨by decide, by decide⟩ E X6 c41 hN
              have g7 := (CE_x E X7).2.1
              have ec : nI (x + 2) = cSt (x - 16) := by rcases hx with rfl | rfl <;> rfl
              obtain ⟨s8, f8, X8⟩ := c_add (N := N) E X7 (by omega) ec
              have X9 := c_dec hpo X8
              refine ⟨(es ++ pend) ++ (es2 ++ pend2) ++ [x - 16], skp tp n p2' + 1, false, _, ?_, (by rw [← List.append_assoc, ← List.append_assoc]; exact X9), by omega, by rw [List.length_append, List.length_append, List.length_append, List.length_append, List.length_singleton]; omega, ckN_two hck hck2 (by omega) (by omega) (fun ts _ => ck1_op al (by omega) ts), ?_⟩
              · show f_Rd_part_B N _ _ _ _ s = _
                rw [head, hd, f4, Option.bind_some]
                simp (disch := first | omega | decide) only [zI_44, zI_41, zI_1, e44, f5, f6, e41, f7, g7, o1, f8, grd_t, Option.bind_some]
              · intro t0 B0 Q C W B t hR hCW hB2 hQ
                refine opens2 t0 B0 Q C W B t hR hCW hB2 (fun t' R => hG2 t0 B0 Q (C ++ (es ++ pend)) ((x + 2) :: W) B t' R (by rw [List.length_cons, List.length_append, List.length_append]; omega) (by rw [List.length_cons]; omega) (SW_br (by omega)) (fun t2 R2 => ?_))
                obtain ⟨y1, y2, y3, y4⟩ := kK_sg (c := 41) ⟨by decide, by decide⟩ c41
                have cl := GO_close (N := N) (B0 := B0) (Q := Q) (m := n - (skp tp n p2' + 1) + 5) R2 hop2 (by omega) hB2 (by rw [List.length_append, List.length_append, List.length_append, List.length_append, List.length_cons]; omega) c41 (by omega) hN (by omega) (fun t3 R3 => by
                  have ei : (if x + 2 = 20 then [] else if x + 2 = 23 then [5] else [6]) = [x - 16] := by rcases hx with rfl | rfl <;> rfl
                  rw [ei, y3, y4] at R3
                  refine hQ t3 ?_
                  rw [← List.append_assoc, ← List.append_assoc, ← List.append_assoc]
                  exact R3)
                intro kg k15 h1 h2
                exact cl kg k15 (by omega) (by omega)
            · left
              obtain ⟨s7, f7, D7⟩ := (c_expect (N := N) (c := 41) E X6 (by omega) (by omega)).2 c41
              have d8 := adv_d (N := N) D7.1.1
              have g7 := D7.1.2.1
              obtain ⟨s8, f8, D8⟩ := c_dadd (N := N) hpo D7 (nI (x + 2))
              have D9 := c_ddec hpo D8 (gI s8 611 18 - nI 1)
              refine ⟨1, skp tp n p2', _, ?_, D9, fun t0 B0 Q C W B t hR hCW hB2 hQ => opens2 t0 B0 Q C W B t hR hCW hB2 (fun t' R => hG2 t0 B0 Q (C ++ (es ++ pend)) ((x + 2) :: W) B t' R (by rw [List.length_cons, List.length_append, List.length_append]; omega) (by rw [List.length_cons]; omega) (SW_br (by omega)) (fun t2 R2 => GO_fail R2 hop2 (by omega) hB2 (by simp only [List.length_append, List.length_cons] at *; omega) hno2 (Or.inr ⟨by omega, by omega, c41⟩) (by omega) hN hQ))⟩
              show f_Rd_part_B N _ _ _ _ s = _
              rw [head, hd, f4, Option.bind_some]
              simp (disch := first | omega | decide) only [zI_44, zI_41, zI_1, e44, f5, f6, f7, d8, g7, o1, f8, grd_t, Option.bind_some]
        · left
          obtain ⟨s5, f5, D5⟩ := (c_expect (N := N) (c := 44) E X4 (by omega) (by omega)).2 c44
          have d6 := adv_d (N := N) D5.1.1
          have d7 := hks _ _ _ D5
          obtain ⟨s', f', D'⟩ := two_dead2 (N := N) (kt := some) (kf := some) (ks := some) (kp := some) hpo (wo := nI (x + 2)) D5
          refine ⟨1, skp tp n p', s', ?_, D', fun t0 B0 Q C W B t hR hCW hB2 hQ => opens t0 B0 Q C W B t hR hCW (fun t' R => hG t0 B0 Q C (x :: W) B t' R (by rw [List.length_cons]; omega) (by rw [List.length_cons]; omega) (SW_br (by omega)) (fun t2 R2 => GO_fail R2 hop (by omega) hB2 (by simp only [List.length_append, List.length_cons] at *; omega) hno (Or.inl ⟨hx, c44⟩) (by omega) hN hQ))⟩
          show f_Rd_part_B N _ _ _ _ s = _
          rw [head, hd, f4, Option.bind_some]
          simp only [zI_44, f5, d6, d7, Option.bind_some]
          exact f'
    · left
      obtain ⟨s2, f2, D2⟩ := g2 c
      refine ⟨4, skp tp n q, s2, ?_, D2, ?_⟩
      · show f_Rd_part_B N _ _ _ _ s = _
        rw [head]
        simp (disch := first | omega | decide) only [f_Rd_part_j113, f1, e40, f2, zI_40, zI_0, zI_1, zI_2, zI_3, zI_4, zI_5, zI_6, zI_7, zI_8, zI_9, zI_10, zI_11, zI_12, zI_13, zI_14, zI_15, zI_16, zI_17, zI_18, zI_19, zI_20, zI_21, zI_22, zI_23, zI_24, zI_25, zI_26, zI_27, zI_28, zI_29, zI_30, zI_31, zI_32, zI_33, zI_34, zI_35, zI_36, zI_37, zI_38, zI_39, zI_40, zI_41, zI_42, zI_43, zI_44, zI_45, zI_46, zI_47, zI_48, zI_49, zI_50, zI_51, zI_52, zI_53, zI_54, zI_55, zI_56, zI_57, zI_58, zI_59, zI_60, zI_61, zI_62, zI_63, zI_64, zI_65, zI_66, zI_67, zI_74, zI_84, zI_85, zI_88, zI_91, zI_93, zI_97, zI_99, zI_100, zI_102, zI_105, zI_117, zI_122, zI_193, zI_202, zI_205, zI_251, zI_255, zI_256, zI_257, zI_258, zI_259, zI_260, zI_640, zI_999, zI_1000, zI_1024, zI_1600, zI_1602, zI_1700, zI_2040, zI_3200, zI_4100, zI_9728, zI_11784, zI_61440, zI_65536, zI_470536, zI_999999, zI_1000000, lt_T, lt_F, le_T, le_F, eq_T, eq_F, neg_1, cn_m1p, cn_m11, nI_add, cn_sub, pk_mul, cn_div, cn_irm, cn_lt, cn_eq, cn_ltm1, cn_m1lt, cn_eqm1, cn_m1eq, cn_ix, cn_inb, cn_ninb, cn_irs, cn_ils, cn_and, cn_or, cn_xor, grd_t, grd_bt, grd_bl, Nat.add_zero, Nat.zero_add, Nat.reduceAdd, Nat.reduceSub, Nat.reduceMul, Nat.reduceLT, Nat.reduceEqDiff, eq_self, true_and, and_true, and_false, false_and, if_true, if_false, and_self, Bool.true_eq_false, Bool.false_eq_true, Option.bind_some]
      · intro t0 B0 Q C W B t hR hCW hB hQ k2' k15 h1 h2
        rw [mfix_1 (by omega)]
        obtain ⟨t1, R1, e1⟩ := two_head (B0 := B0) (Q := Q) hK hR hx hw hN (mfix (k2' - 1) (f_M_qPartTold_L2 N))
        rw [hq] at R1
        obtain ⟨t2, D, e2⟩ := (two_open (B0 := B0) (Q := Q) R1 hx (by omega) ho hN (mfix (k2' - 1) (f_M_qPartTold_L2 N))).2.1 c40 c
        rw [e1, e2]
        exact PS_bad (by omega) hN D hQ (by omega)
  · left
    obtain ⟨s2, f2, D2⟩ := (c_expect (N := N) (c := 40) E X1 (by omega) (by omega)).2 c40
    obtain ⟨s3, f3, D3⟩ := c_dent (N := N) hpo D2
    refine ⟨1, skp tp n q, s3, ?_, D3, ?_⟩
    · show f_Rd_part_B N _ _ _ _ s = _
      rw [head]
      simp (disch := first | omega | decide) only [f_Rd_part_j113, f1, f2, f3, zI_40, zI_0, zI_1, zI_2, zI_3, zI_4, zI_5, zI_6, zI_7, zI_8, zI_9, zI_10, zI_11, zI_12, zI_13, zI_14, zI_15, zI_16, zI_17, zI_18, zI_19, zI_20, zI_21, zI_22, zI_23, zI_24, zI_25, zI_26, zI_27, zI_28, zI_29, zI_30, zI_31, zI_32, zI_33, zI_34, zI_35, zI_36, zI_37, zI_38, zI_39, zI_40, zI_41, zI_42, zI_43, zI_44, zI_45, zI_46, zI_47, zI_48, zI_49, zI_50, zI_51, zI_52, zI_53, zI_54, zI_55, zI_56, zI_57, zI_58, zI_59, zI_60, zI_61, zI_62, zI_63, zI_64, zI_65, zI_66, zI_67, zI_74, zI_84, zI_85, zI_88, zI_91, zI_93, zI_97, zI_99, zI_100, zI_102, zI_105, zI_117, zI_122, zI_193, zI_202, zI_205, zI_251, zI_255, zI_256, zI_257, zI_258, zI_259, zI_260, zI_640, zI_999, zI_1000, zI_1024, zI_1600, zI_1602, zI_1700, zI_2040, zI_3200, zI_4100, zI_9728, zI_11784, zI_61440, zI_65536, zI_470536, zI_999999, zI_1000000, lt_T, lt_F, le_T, le_F, eq_T, eq_F, neg_1, cn_m1p, cn_m11, nI_add, cn_sub, pk_mul, cn_div, cn_irm, cn_lt, cn_eq, cn_ltm1, cn_m1lt, cn_eqm1, cn_m1eq, cn_ix, cn_inb, cn_ninb, cn_irs, cn_ils, cn_and, cn_or, cn_xor, grd_t, grd_bt, grd_bl, Nat.add_zero, Nat.zero_add, Nat.reduceAdd, Nat.reduceSub, Nat.reduceMul, Nat.reduceLT, Nat.reduceEqDiff, eq_self, true_and, and_true, and_false, false_and, if_true, if_false, and_self, Bool.true_eq_false, Bool.false_eq_true, Option.bind_some]
    · intro t0 B0 Q C W B t hR hCW hB hQ k2' k15 h1 h2
      rw [mfix_1 (by omega)]
      obtain ⟨t1, R1, e1⟩ := two_head (B0 := B0) (Q := Q) hK hR hx hw hN (mfix (k2' - 1) (f_M_qPartTold_L2 N))
      rw [hq] at R1
      obtain ⟨t2, D, e2⟩ := (two_open (B0 := B0) (Q := Q) R1 hx (by omega) ho hN (mfix (k2' - 1) (f_M_qPartTold_L2 N))).1 c40
      rw [e1, e2]
      exact PS_bad (by omega) hN D hQ (by omega)
/-- a part -/
theorem part_j (hK : KdA kd mk al) (ho : o ≤ 6) (hr : 4 ≤ r) (hN : 10000 ≤ N) (hP : o < 6 → PartC N tp n kd mk pg al r (o + 1)) (hS : o < 6 → SumC N tp n kd mk pg al r (o + 1)) : PartC N tp n kd mk pg al (r + 1) o := by
  intro s0 p b L s E h hl
  by_cases k257 : kK tp n p b = 257
  · exact part_num hK E h hl hN k257
  · by_cases k40 : kK tp n p b = 40
    · exact part_par hK E h hl ho hr hN hS k40
    · by_cases w24 : wdA tp n p b = 24
      · exact part_two hK E h hl ho hr hN hS (x := 21) (Or.inl rfl) w24
      · by_cases w25 : wdA tp n p b = 25
        · exact part_two hK E h hl ho hr hN hS (x := 22) (Or.inr rfl) w25
        · by_cases c : (wq (wdA tp n p b) = 10 ∨ wq (wdA tp n p b) = 11) ∧ al (wq (wdA tp n p b) - 1) = true
          · exact part_by hK E h hl ho hr hN hP (i := wq (wdA tp n p b) - 1) (by omega) (by omega) c.2
          · exact part_word hK E h hl hN k257 k40 w24 w25 (fun h1 h2 => c ⟨h1, h2⟩)
end PARTB
