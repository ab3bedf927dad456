/-! THE CALL corridor -/
def kXc : List Nat := [10100, 70318, 9999, 60112, 13, 70418, 70518, 70618, 70718, 70818, 260918, 71118, 71218, 71318, 50009, 50109, 50209, 50309, 50409, 51009, 51109, 51209, 10, 5011, 14, 15, 71018]
section CORR
variable {N n p op k w M mk j : Nat} {tp pt : Nat → Nat} {b : Bool} {s s' s0 t t' t0 : mS} {L : List Nat} {A : pL} {H : hL} {pa : Nat × (Nat → hL)} {se : Nat × (Nat → Nat × Bool)} {v : Int32}
/-- a text's reading, from the tape on -/
theorem corr_l (hn : n ≤ 1600) (h1 : gI s 1 0 = nI n) (h2 : gI t 1001 0 = nI n) (hT : ∀ i, i < n → tp i < 256 ∧ gA s 1 i = nI (tp i) ∧ gA t 1 i = nI (tp i)) (hW : MWd t) (hN : 10000 ≤ N) :
    ∃ s3 t3, LpR N tp n s3 t3 (f_X_corridor N s) (f_M_corridor N t) ∧ gI s3 1 0 = nI 0 ∧ gI s3 613 18 = m1 ∧ Fr kXc s s3 ∧ gI t3 1001 0 = nI 0 ∧ gI t3 1006 0 = m1 ∧ Fr kCo t t3 ∧ (∀ i, 4 ≤ i → gA t3 28 i = gA t 28 i) ∧ ∀ i, 12 ≤ i → gA t3 31 i = gA t 31 i := by
  obtain ⟨s1, f1, D1, P1, F1⟩ := clear_n (N := N) (s := s) hN
  have F2 : Fr [10100] s1 (sI s1 1 0 (nI 0)) := Fr_sI _ _ _ (by decide)
  obtain ⟨s3, f3, ⟨mk, E⟩, T, q1, q2, q3, F3⟩ := begin_n (N := N) (tp := tp) (n := n) (pg := 12) (s := sI s1 1 0 (nI 0)) (Or.inl rfl) hn (fun i hi => ⟨(hT i hi).1, by rw [F2.A 1 i (by decide), F1.A 1 i (by decide)]; exact (hT i hi).2.1⟩) hN
  obtain ⟨t3, g, hM, r1, r2, G, i28, i31⟩ := mbegin_n (N := N) (tp := tp) hn h2 (fun i hi => ⟨(hT i hi).1, (hT i hi).2.2⟩) hW hN
  have e1 : gI s1 1 0 = nI n := by rw [F1.I 1 0 (by decide)]; exact h1
  have hx : f_X_corridor N s = (f_Rd_statement N (nI 0) s3).bind fun p1 => mfix (N - 1) (f_X_corridor_L27 N) (nI 1, p1) := by
    have hd : f_X_corridor N s = mfix N (f_X_corridor_L27 N) (nI 0, s3) := by
      simp only [f_X_corridor, f1, f_X_takeTape, e1, zI_0, f3, Option.bind_some]
    rw [hd, mfix_1 (by omega)]
    simp (disch := first | omega | decide) only [f_X_corridor_L27, f_X_corridor_j47, zI_0, zI_1, zI_2, zI_3, zI_4, zI_5, zI_6, zI_7, zI_8, zI_9, zI_10, zI_11, zI_12, zI_13, zI_14, zI_15, zI_16, zI_17, zI_18, zI_19, zI_20, zI_21, zI_22, zI_23, zI_24, zI_25, zI_26, zI_27, zI_28, zI_29, zI_30, zI_31, zI_32, zI_33, zI_34, zI_35, zI_36, zI_37, zI_38, zI_39, zI_40, zI_41, zI_42, zI_43, zI_44, zI_45, zI_46, zI_47, zI_48, zI_49, zI_50, zI_51, zI_52, zI_53, zI_54, zI_55, zI_56, zI_57, zI_58, zI_59, zI_60, zI_61, zI_62, zI_63, zI_64, zI_65, zI_66, zI_67, zI_74, zI_84, zI_85, zI_88, zI_91, zI_93, zI_97, zI_99, zI_100, zI_102, zI_105, zI_117, zI_122, zI_193, zI_202, zI_205, zI_251, zI_255, zI_256, zI_257, zI_258, zI_259, zI_260, zI_640, zI_999, zI_1000, zI_1024, zI_1600, zI_1602, zI_1700, zI_2040, zI_3200, zI_4100, zI_9728, zI_11784, zI_61440, zI_65536, zI_470536, zI_999999, zI_1000000, lt_T, lt_F, le_T, le_F, eq_T, eq_F, neg_1, cn_m1p, cn_m11, nI_add, cn_sub, pk_mul, cn_div, cn_irm, cn_lt, cn_eq, cn_ltm1, cn_m1lt, cn_eqm1, cn_m1eq, cn_ix, cn_inb, cn_ninb, cn_irs, cn_ils, cn_and, cn_or, cn_xor, grd_t, grd_bt, grd_bl, Nat.add_zero, Nat.zero_add, Nat.reduceAdd, Nat.reduceSub, Nat.reduceMul, Nat.reduceLT, Nat.reduceEqDiff, eq_self, true_and, and_true, and_false, false_and, if_true, if_false, and_self, Bool.true_eq_false, Bool.false_eq_true]
  have hJ : JX tp n s3 pE0 0 (fun _ => 0) [13, 43] 0 false s3 := ⟨⟨mk, E⟩, ⟨Nat.zero_le _, T, q1, q3, PgC_fr F3 (by decide) (by decide) (PgC_fr F2 (by decide) (by decide) P1), Fr_r _ _⟩, DX_fr F3 (by decide) (DX_fr F2 (by decide) D1), Fr_r _ _⟩
  refine ⟨s3, t3, ?_, by rw [F3.I 1 0 (by decide)]; simp (disch := first | omega | decide) only [gI_sI, gI_sA, gI_sL, gI_sQ, gI_sC, gI_sO, gI_sD, gA_sI, gA_sL, gA_sQ, gA_sO, gA_sD, gL_sI, gL_sA, gL_sQ, gL_sC, gL_sO, gL_sD, gQ_sI, gQ_sA, gQ_sL, gQ_sC, gQ_sO, gO_sI, gO_sA, gO_sL, gO_sQ, gO_sC, gO_sO, gO_sD, gA_eq, gA_ne, gQ_eq, gQ_ne, gL_sL, gA_cin, gA_cou, gQ_cin, gQ_cou, Nat.reduceAdd, Nat.reduceSub, Nat.reduceMul, Nat.reduceLT, Nat.reduceEqDiff, eq_self, true_and, and_true, and_false, false_and, if_true, if_false, and_self, Bool.true_eq_false, Bool.false_eq_true], q2, Fr_t (Fr_w F1 (by decide)) (Fr_t (Fr_w F2 (by decide)) (Fr_w F3 (by decide))), r1, r2, G, i28, i31⟩
  rw [hx, g]
  rcases first_j (N := N) hJ hM hN with ⟨k, w, s', t', f, D, g', B⟩ | ⟨A, op, pt, L, M, p', b', s', t', f, g', hJ', hM', hW', hp, hL, hMp, h0, hx'⟩
  · left
    exact ⟨k, w, 1, s', t', D, B, by rw [f, Option.bind_some, bad_x D.1.1 (by omega) (by omega) (by omega)], by rw [g', Option.bind_some, bad_m B.1 (by omega)]⟩
  · rw [f, Option.bind_some, g', Option.bind_some]
    exact loop_j hN (n - p') p' b' A op pt L M 1 s' t' (N - 1) N (Nat.le_refl _) hJ' hM' hW' h0 hL hMp (by omega) (by omega) hx' (by omega) (by omega)
theorem P_corridor (hN : 10000 ≤ N) : Pure_2 Inv N := by
  rintro s t ⟨A, H, pa, se, hW, hX, hM, hR⟩
  obtain ⟨⟨n, tp, hn, h1, h2, hT⟩, hR2, hR3, hR4, hR5⟩ := hR
  obtain ⟨s3, t3, hl, a1, a2, F, b1, b2, G, i28, i31⟩ := corr_l (N := N) hn h1 h2 hT hM.2.1.2 hN
  rcases hl with ⟨k, w, j, s4, t4, D, B, f, g⟩ | ⟨A', op, pt, L, M, p, b, j, s4, t4, hJ, hM', hW', h0, hL, hMp, hx, f, g⟩
  · have F4 : Fr kXc s s4 := Fr_t F (Fr_w D.2 (by decide))
    have G4 : Fr kMy t t4 := Fr_t (Fr_w G (by decide)) (Fr_w B.2.1 (by decide))
    have G5 : Fr [110700, 110800] t4 (sI (sI t4 1007 0 (nI k)) 1008 0 (nI w)) := Fr_t (Fr_sI _ _ _ (by decide)) (Fr_sI _ _ _ (by decide))
    have GG : Fr kMy t (sI (sI t4 1007 0 (nI k)) 1008 0 (nI w)) := Fr_t G4 (Fr_w G5 (by decide))
    have x := IVX_fr F4 (by decide) (XO_fr F4 (by decide) (by decide) hX.2.2.2.1) hX
    have m := IVM_ix hW.1 hM GG (fun i hi => by rw [G5.A 28 i (by decide), B.2.2.1 i hi]; exact i28 i hi) (fun i hi => by rw [G5.A 31 i (by decide), (B.2.2.2.1 i hi).1]; exact i31 i hi) (fun i hi => by rw [G5.A 32 i (by decide), (B.2.2.2.1 i hi).2]; exact G.A 32 i (by decide)) (fun i hi => by rw [G5.A 33 i (by decide), B.2.2.2.2.1 i hi]; exact G.A 33 i (by decide)) (fun i hi => by rw [G5.Q 29 i (by decide), B.2.2.2.2.2 i hi]; exact G.Q 29 i (by decide))
    have r : IVR s4 (sI (sI t4 1007 0 (nI k)) 1008 0 (nI w)) := ⟨RTp_set (n := 0) (tp := fun _ => 0) (Nat.zero_le _) ((D.2.I 1 0 (by decide)).trans a1) ((G5.I 1001 0 (by decide)).trans ((B.2.1.I 1001 0 (by decide)).trans b1)) (fun i hi => absurd hi (Nat.not_lt_zero _)), RRf_fr F4 GG (by decide) (by decide) hR2, RIm_fr F4 GG (by decide) (by decide) hR3, RSd_fr F4 GG (by decide) (by decide) hR4, by simp (disch := first | omega | decide) only [gI_sI, gI_sA, gI_sL, gI_sQ, gI_sC, gI_sO, gI_sD, gA_sI, gA_sL, gA_sQ, gA_sO, gA_sD, gL_sI, gL_sA, gL_sQ, gL_sC, gL_sO, gL_sD, gQ_sI, gQ_sA, gQ_sL, gQ_sC, gQ_sO, gO_sI, gO_sA, gO_sL, gO_sQ, gO_sC, gO_sO, gO_sD, gA_eq, gA_ne, gQ_eq, gQ_ne, gL_sL, gA_cin, gA_cou, gQ_cin, gQ_cou, Nat.reduceAdd, Nat.reduceSub, Nat.reduceMul, Nat.reduceLT, Nat.reduceEqDiff, eq_self, true_and, and_true, and_false, false_and, if_true, if_false, and_self, Bool.true_eq_false, Bool.false_eq_true]; exact D.1.1.2.2.1, by simp (disch := first | omega | decide) only [gI_sI, gI_sA, gI_sL, gI_sQ, gI_sC, gI_sO, gI_sD, gA_sI, gA_sL, gA_sQ, gA_sO, gA_sD, gL_sI, gL_sA, gL_sQ, gL_sC, gL_sO, gL_sD, gQ_sI, gQ_sA, gQ_sL, gQ_sC, gQ_sO, gO_sI, gO_sA, gO_sL, gO_sQ, gO_sC, gO_sO, gO_sD, gA_eq, gA_ne, gQ_eq, gQ_ne, gL_sL, gA_cin, gA_cou, gQ_cin, gQ_cou, Nat.reduceAdd, Nat.reduceSub, Nat.reduceMul, Nat.reduceLT, Nat.reduceEqDiff, eq_self, true_and, and_true, and_false, false_and, if_true, if_false, and_self, Bool.true_eq_false, Bool.false_eq_true]; exact D.1.1.2.2.2.1⟩
    exact ⟨m1, _, _, by rw [f, j61_bad D.1.1], by rw [g, j136_bad B.1], Inv_rf hW x m r (by omega)⟩
  · have hn' := hJ.1
    obtain ⟨mk, E⟩ := hJ.1
    have hn6 := E.1.1
    have hpn := hJ.2.1.1
    have F4 : Fr kXc s s4 := Fr_t F (Fr_w hJ.2.2.2 (by decide))
    have G4 : Fr kMy t t4 := Fr_t (Fr_w G (by decide)) (Fr_w hM'.2.2.1 (by decide))
    obtain ⟨_, nx, hnx, hn2, _⟩ := hX.2.2.2.2.2.2
    obtain ⟨_, ne, hne, hn3, _⟩ := hM.2.2.2.2.1
    have h53 : gI t 1053 0 = nI 0 := hM.2.2.1.2.1
    obtain ⟨s5, f5, x5, F5⟩ := j61_good (N := N) (v := nI j) hJ hW' hL h0 hnx (by rw [F4.I 301 23 (by decide)]; exact hn2) hN
    obtain ⟨t5, g5, m5, e7, e8, G5⟩ := j136_good (N := N) (v := nI j) hM' hW' (by omega) h0 hx hne (by rw [G4.I 1062 0 (by decide)]; exact hn3) (by rw [G4.I 1053 0 (by decide)]; exact h53) hN
    have FF : Fr (kXc ++ kGd) s s5 := Fr_t (Fr_w F4 (fun k hk => List.mem_append_left _ hk)) (Fr_w F5 (fun k hk => List.mem_append_right _ hk))
    have GG : Fr (kMy ++ kGm) t t5 := Fr_t (Fr_w G4 (fun k hk => List.mem_append_left _ hk)) (Fr_w G5 (fun k hk => List.mem_append_right _ hk))
    refine ⟨nI j, s5, t5, by rw [f, f5], by rw [g, g5], A', hBeg op pt, (0, fun _ => hBeg op pt), (0, fun _ => (0, false)), ⟨hW'.1, HB_beg hW', Nat.zero_le _, ⟨Nat.zero_le _, fun k hk => absurd hk (Nat.not_lt_zero _)⟩, ⟨Nat.zero_le _, fun k hk => absurd hk (Nat.not_lt_zero _)⟩⟩, x5, m5, RTp_set (n := 0) (tp := fun _ => 0) (Nat.zero_le _) ?_ ?_ (fun i hi => absurd hi (Nat.not_lt_zero _)), RRf_fr FF GG (by decide) (by decide) hR2, RIm_fr FF GG (by decide) (by decide) hR3, RSd_fr FF GG (by decide) (by decide) hR4, ?_, ?_⟩
    · rw [F5.I 1 0 (by decide), hJ.2.2.2.I 1 0 (by decide)]; exact a1
    · rw [G5.I 1001 0 (by decide), hM'.2.2.1.I 1001 0 (by decide)]; exact b1
    · rw [e7, F5.I 612 18 (by decide)]; exact hJ.2.1.2.2.1
    · rw [e8, hM'.2.2.1.I 1006 0 (by decide), b2, F5.I 613 18 (by decide), hJ.2.2.2.I 613 18 (by decide)]; exact a2
end CORR
