/-! TEXTS of a corridor: who walks, the cold, a porter's order -/
def pSetW (A : pL) (e : List Nat) : pL := (pD A, pP A, pS A, pI A, fU (pC A) 10 e, pNm A, true, pTc A)
def pSetC (A : pL) (e : List Nat) : pL := (pD A, pP A, pS A, pI A, fU (pC A) 11 e, pNm A, pTw A, true)
def pSetP (A : pL) (l e : List Nat) : pL := (pD A, pP A + 1, pS A, pI A, fU (pC A) (pP A) e, fU (pNm A) (pP A) l, pTw A, pTc A)
section LAWS
variable {N n p op k w M mk kd : Nat} {tp pt : Nat → Nat} {b : Bool} {s s' s0 t t' t0 : mS} {L e : List Nat} {A A' : pL} {l : List Nat} {x : Int32}
theorem lawt_h {c : Int32} (h5 : gI t 1005 0 = nI 0) (hw : w < 24) (h31 : gA t 31 w = m1) : f_M_lawTold N (nI w) (nI kd) c t = f_M_reads N (nI w) (nI kd) t := by
  have bs : ∀ o : Option mS, (o.bind fun p => some p) = o := fun o => by cases o <;> rfl
  have q : ((m1 : Int32) = -1) = True := eq_true rfl
  simp (disch := first | omega | decide) only [f_M_lawTold, f_M_lawTold_j23, h5, h31, bs, zI_0, zI_1, zI_2, zI_3, zI_4, zI_5, zI_6, zI_7, zI_8, zI_9, zI_10, zI_11, zI_12, zI_13, zI_14, zI_15, zI_16, zI_17, zI_18, zI_19, zI_20, zI_21, zI_22, zI_23, zI_24, zI_25, zI_26, zI_27, zI_28, zI_29, zI_30, zI_31, zI_32, zI_33, zI_34, zI_35, zI_36, zI_37, zI_38, zI_39, zI_40, zI_41, zI_42, zI_43, zI_44, zI_45, zI_46, zI_47, zI_48, zI_49, zI_50, zI_51, zI_52, zI_53, zI_54, zI_55, zI_56, zI_57, zI_58, zI_59, zI_60, zI_61, zI_62, zI_63, zI_64, zI_65, zI_66, zI_67, zI_74, zI_84, zI_85, zI_88, zI_91, zI_93, zI_97, zI_99, zI_100, zI_102, zI_105, zI_117, zI_122, zI_193, zI_202, zI_205, zI_251, zI_255, zI_256, zI_257, zI_258, zI_259, zI_260, zI_640, zI_999, zI_1000, zI_1024, zI_1600, zI_1602, zI_1700, zI_2040, zI_3200, zI_4100, zI_9728, zI_11784, zI_61440, zI_65536, zI_470536, zI_999999, zI_1000000, lt_T, lt_F, le_T, le_F, eq_T, eq_F, neg_1, cn_m1p, cn_m11, nI_add, cn_sub, pk_mul, cn_div, cn_irm, cn_lt, cn_eq, cn_ltm1, cn_m1lt, cn_eqm1, cn_m1eq, cn_ix, cn_inb, cn_ninb, cn_irs, cn_ils, cn_and, cn_or, cn_xor, grd_t, grd_bt, grd_bl, Nat.add_zero, Nat.zero_add, Nat.reduceAdd, Nat.reduceSub, Nat.reduceMul, Nat.reduceLT, Nat.reduceEqDiff, eq_self, true_and, and_true, and_false, false_and, if_true, if_false, and_self, Bool.true_eq_false, Bool.false_eq_true]
theorem FM_law (F : Fr (31 :: 32 :: 33 :: 114400 :: kRg) t t') (hw : w < 12) (h1 : ∀ i, i ≠ w → gA t' 31 i = gA t 31 i ∧ gA t' 32 i = gA t 32 i) (h2 : ∀ i, i < M ∨ 1600 ≤ i → gA t' 33 i = gA t 33 i) : FM t t' :=
  ⟨Fr_w F (by decide), fun i _ => F.A 28 i (by decide), fun i hi => h1 i (by omega), fun i hi => h2 i (Or.inr hi), fun i _ => F.Q 29 i (by decide)⟩
theorem bn_ok {bn : Nat} {c : Bool} (h : bn < 4096) (hw : w < 12) : (if c = true then bn ||| 1 <<< w else bn) < 4096 := by
  cases c
  · rw [if_neg (by simp)]; exact h
  · rw [if_pos rfl]
    exact Nat.or_lt_two_pow (n := 12) h (by rw [Nat.shiftLeft_eq, Nat.one_mul]; exact Nat.pow_lt_pow_right (by omega) hw)
theorem bn_bit {bn i : Nat} {c : Bool} : (if c = true then bn ||| 1 <<< w else bn).testBit i = (bn.testBit i || (c && decide (i = w))) := by
  cases c
  · rw [if_neg (by simp), Bool.false_and, Bool.or_false]
  · rw [if_pos rfl, or_bit, Bool.true_and]
theorem body_walks (hJ : JX tp n s0 A op pt L p b s) (hM : JM tp n t0 A op pt M p b t) (hW : WD A op pt) (hL : L.length ≤ p) (hMp : M ≤ p) (h0 : 0 < pD A) (hx : gI t 1045 0 = x) (hT : pTw A = false) {c : Int32} (hN : 10000 ≤ N) :
    BoR tp n s0 t0 p x ((f_Rd_test N (sI (sI s 411 9 (nI 1)) 610 18 (nI 61440))).bind fun p8 => f_Pl_place N 9 (nI 10) (nI L.length) p8) (f_M_lawTold N (nI 10) (nI 2) c t) := by
  obtain ⟨⟨mk, E⟩, X, D, F0⟩ := hJ
  have hn := E.1.1
  have hpn := X.1
  have hP10 := hW.1.2.1
  obtain ⟨h1, h2, h3, h4, h5, h6, h7, h8, h9, h10, bn, h11, h12, h13⟩ := D
  obtain ⟨m1', m2, m3, m4, m5, m6, m7, m8, m9, m10, m11, m12, m13⟩ := hM.2.1
  have F1 : Fr [51109, 71018] s (sI (sI s 411 9 (nI 1)) 610 18 (nI 61440)) := Fr_t (Fr_sI _ _ _ (by decide)) (Fr_sI _ _ _ (by decide))
  have E1 := CE_mk (mk' := 61440) F1 (by decide) (by simp (disch := first | omega | decide) only [gI_sI, gI_sA, gI_sL, gI_sQ, gI_sC, gI_sO, gI_sD, gA_sI, gA_sL, gA_sQ, gA_sO, gA_sD, gL_sI, gL_sA, gL_sQ, gL_sC, gL_sO, gL_sD, gQ_sI, gQ_sA, gQ_sL, gQ_sC, gQ_sO, gO_sI, gO_sA, gO_sL, gO_sQ, gO_sC, gO_sO, gO_sD, gA_eq, gA_ne, gQ_eq, gQ_ne, gL_sL, gA_cin, gA_cou, gQ_cin, gQ_cou, Nat.reduceAdd, Nat.reduceSub, Nat.reduceMul, Nat.reduceLT, Nat.reduceEqDiff, eq_self, true_and, and_true, and_false, false_and, if_true, if_false, and_self, Bool.true_eq_false, Bool.false_eq_true]) E
  have X1 : CX tp n 12 (sI (sI s 411 9 (nI 1)) 610 18 (nI 61440)) p b 0 L (sI (sI s 411 9 (nI 1)) 610 18 (nI 61440)) := ⟨hpn, TkA_fr F1 (by decide) X.2.1, by rw [F1.I 612 18 (by decide)]; exact X.2.2.1, by rw [F1.I 611 18 (by decide)]; exact X.2.2.2.1, PgC_fr F1 (by decide) (by decide) X.2.2.2.2.1, Fr_r _ _⟩
  have c41 : gI (sI (sI s 411 9 (nI 1)) 610 18 (nI 61440)) 411 9 = nI 1 := by simp (disch := first | omega | decide) only [gI_sI, gI_sA, gI_sL, gI_sQ, gI_sC, gI_sO, gI_sD, gA_sI, gA_sL, gA_sQ, gA_sO, gA_sD, gL_sI, gL_sA, gL_sQ, gL_sC, gL_sO, gL_sD, gQ_sI, gQ_sA, gQ_sL, gQ_sC, gQ_sO, gO_sI, gO_sA, gO_sL, gO_sQ, gO_sC, gO_sO, gO_sD, gA_eq, gA_ne, gQ_eq, gQ_ne, gL_sL, gA_cin, gA_cou, gQ_cin, gQ_cou, Nat.reduceAdd, Nat.reduceSub, Nat.reduceMul, Nat.reduceLT, Nat.reduceEqDiff, eq_self, true_and, and_true, and_false, false_and, if_true, if_false, and_self, Bool.true_eq_false, Bool.false_eq_true]
  have c10 : gI (sI (sI s 411 9 (nI 1)) 610 18 (nI 61440)) 410 9 = nI bn := by rw [F1.I 410 9 (by decide)]; exact h11
  generalize sI (sI s 411 9 (nI 1)) 610 18 (nI 61440) = s7 at *
  have hK : KdA 2 61440 alW := Or.inr (Or.inr (Or.inl ⟨rfl, rfl, rfl⟩))
  rw [lawt_h hM.1.2.2.1 (by omega) (m11 hT)]
  have R : RdC N tp n 2 61440 12 alW true (if true = true then f_Rd_test N else f_Rd_sum N) (if true = true then f_M_qTest N else f_M_qSums N) := by
    rw [if_pos rfl, if_pos rfl]
    exact rd_test hK hN
  rcases law_j (w := 10) (kd := 2) (q := true) R (by omega) (by simp) E1 X1 hL c10 hM.1 m8 hMp hN with ⟨k, w', s1, t1, f, D1, F, g, B, G⟩ | ⟨e, p', b', s1, t1, f, E2, X2, hp', hle, hck, c1, c2, c3, c4, F, g, R2, r1, r2, r3, r4, r5, r6, G⟩
  · left
    rw [if_pos rfl] at f
    exact ⟨k, w', s1, t1, f, ⟨D1, Fr_t (Fr_w F0 (by decide)) (Fr_t (Fr_w F1 (by decide)) (Fr_w F (by decide)))⟩, g, BM_d hM.2.2 B G (by decide) (by decide)⟩
  · right
    rw [if_pos rfl] at f
    have hp2 := X2.1
    have FF : Fr kDg s s1 := Fr_t (Fr_w F1 (by decide)) (Fr_w F (by decide))
    have I1 : ∀ f o, 10000 + 100 * f + o ∉ [51109, 71018] → 10000 + 100 * f + o ∉ kLg → gI s1 f o = gI s f o := fun f o a1 a2 => (F.I f o a2).trans (F1.I f o a1)
    obtain ⟨⟨a1, a2, a3, a4, a5, a6, a7, a8, a9, a10⟩, w2, w3⟩ := hW
    have pw : pC (pSetW A e) 10 = e := fU_s (pC A) 10 e
    have po : ∀ i, i ≠ 10 → pC (pSetW A e) i = pC A i := fun i hi => fU_n (f := pC A) (v := e) hi
    have ll : (L ++ e).length = L.length + e.length := List.length_append
    refine ⟨pSetW A e, op, pt, L ++ e, M + e.length, p', b', s1, t1, f, g, ⟨⟨_, E2⟩, X2, ?_, Fr_t F0 FF⟩, ⟨R2, ?_, FM_t hM.2.2 (FM_law G (by omega) r5 r6)⟩, ⟨⟨a1, a2, a3, a4, a5, fun p hp => ?_, fun h => ?_, a8, fun h => (by cases h), fun h => (po 11 (by omega)).trans (a10 h)⟩, w2, w3⟩, hp', by omega, by omega, h0, by rw [G.I 1045 0 (by decide)]; exact hx⟩
    · refine ⟨(I1 400 9 (by decide) (by decide)).trans h1, (I1 401 9 (by decide) (by decide)).trans h2, (I1 402 9 (by decide) (by decide)).trans h3, (I1 403 9 (by decide) (by decide)).trans h4, (I1 404 9 (by decide) (by decide)).trans h5, fun d hd => ((F.A 10 d (by decide)).trans (F1.A 10 d (by decide))).trans (h6 d hd), fun p hp => ((F.Q 11 p (by decide)).trans (F1.Q 11 p (by decide))).trans (h7 p hp), (F.I 411 9 (by decide)).trans c41, (I1 412 9 (by decide) (by decide)).trans h9, fun w hw => ?_, _, c4, bn_ok h12 (by omega), fun i hi => ?_⟩
      · by_cases c : w = 10
        · subst c
          exact XCd_new pw c1 c2
        · exact XCd_old (h10 w hw) (po w c) ((c3 w c).1.trans (F1.A 14 w (by decide))) ((c3 w c).2.trans (F1.A 15 w (by decide)))
      · rw [bn_bit, decide_eq_false (show ¬ i = 10 by omega), Bool.and_false, Bool.or_false, h13 i hi]
        show _ = (decide (i < pP A) && (fU (pC A) 10 e i).elem 40)
        rw [fU_n (by omega)]
    · refine ⟨(G.A 28 0 (by decide)).trans m1', (G.A 28 1 (by decide)).trans m2, (G.A 28 2 (by decide)).trans m3, (G.A 28 3 (by decide)).trans m4, (G.I 1040 0 (by decide)).trans m5, fun d hd => (G.A 30 d (by decide)).trans (m6 d hd), fun p hp => (G.Q 29 p (by decide)).trans (m7 p hp), r4, fun p hp => ?_, fun _ => MCd_new pw r1 r2 r3, fun h => (by cases h), fun h => MCd_old (m12 h) (po 11 (by omega)) (r5 11 (by omega)).1 (r5 11 (by omega)).2 (fun i hi => r6 i (Or.inl hi)) (by omega), fun h => (r5 11 (by omega)).1.trans (m13 h)⟩
      have hpp : p < pP A := hp
      exact MCd_old (m9 p hp) (po p (by omega)) (r5 p (by omega)).1 (r5 p (by omega)).2 (fun i hi => r6 i (Or.inl hi)) (by omega)
    · have hpp : p < pP A := hp
      show ckL alT (fU (pC A) 10 e p) [] = some [true]
      rw [fU_n (by omega)]
      exact a6 p hp
    · show ckL alW (fU (pC A) 10 e 10) [] = some [true] ∧ ckL alC (fU (pC A) 10 e 11) [] = some [false]
      rw [fU_s, fU_n (by omega)]
      exact ⟨hck, (a7 h).2⟩
theorem body_cold (hJ : JX tp n s0 A op pt L p b s) (hM : JM tp n t0 A op pt M p b t) (hW : WD A op pt) (hL : L.length ≤ p) (hMp : M ≤ p) (h0 : 0 < pD A) (hx : gI t 1045 0 = x) (hT : pTc A = false) {c : Int32} (hN : 10000 ≤ N) :
    BoR tp n s0 t0 p x ((f_Rd_sum N (sI (sI s 412 9 (nI 1)) 610 18 (nI 11784))).bind fun p8 => f_Pl_place N 9 (nI 11) (nI L.length) p8) (f_M_lawTold N (nI 11) (nI 1) c t) := by
  obtain ⟨⟨mk, E⟩, X, D, F0⟩ := hJ
  have hn := E.1.1
  have hpn := X.1
  have hP10 := hW.1.2.1
  obtain ⟨h1, h2, h3, h4, h5, h6, h7, h8, h9, h10, bn, h11, h12, h13⟩ := D
  obtain ⟨m1', m2, m3, m4, m5, m6, m7, m8, m9, m10, m11, m12, m13⟩ := hM.2.1
  have F1 : Fr [51209, 71018] s (sI (sI s 412 9 (nI 1)) 610 18 (nI 11784)) := Fr_t (Fr_sI _ _ _ (by decide)) (Fr_sI _ _ _ (by decide))
  have E1 := CE_mk (mk' := 11784) F1 (by decide) (by simp (disch := first | omega | decide) only [gI_sI, gI_sA, gI_sL, gI_sQ, gI_sC, gI_sO, gI_sD, gA_sI, gA_sL, gA_sQ, gA_sO, gA_sD, gL_sI, gL_sA, gL_sQ, gL_sC, gL_sO, gL_sD, gQ_sI, gQ_sA, gQ_sL, gQ_sC, gQ_sO, gO_sI, gO_sA, gO_sL, gO_sQ, gO_sC, gO_sO, gO_sD, gA_eq, gA_ne, gQ_eq, gQ_ne, gL_sL, gA_cin, gA_cou, gQ_cin, gQ_cou, Nat.reduceAdd, Nat.reduceSub, Nat.reduceMul, Nat.reduceLT, Nat.reduceEqDiff, eq_self, true_and, and_true, and_false, false_and, if_true, if_false, and_self, Bool.true_eq_false, Bool.false_eq_true]) E
  have X1 : CX tp n 12 (sI (sI s 412 9 (nI 1)) 610 18 (nI 11784)) p b 0 L (sI (sI s 412 9 (nI 1)) 610 18 (nI 11784)) := ⟨hpn, TkA_fr F1 (by decide) X.2.1, by rw [F1.I 612 18 (by decide)]; exact X.2.2.1, by rw [F1.I 611 18 (by decide)]; exact X.2.2.2.1, PgC_fr F1 (by decide) (by decide) X.2.2.2.2.1, Fr_r _ _⟩
  have c41 : gI (sI (sI s 412 9 (nI 1)) 610 18 (nI 11784)) 412 9 = nI 1 := by simp (disch := first | omega | decide) only [gI_sI, gI_sA, gI_sL, gI_sQ, gI_sC, gI_sO, gI_sD, gA_sI, gA_sL, gA_sQ, gA_sO, gA_sD, gL_sI, gL_sA, gL_sQ, gL_sC, gL_sO, gL_sD, gQ_sI, gQ_sA, gQ_sL, gQ_sC, gQ_sO, gO_sI, gO_sA, gO_sL, gO_sQ, gO_sC, gO_sO, gO_sD, gA_eq, gA_ne, gQ_eq, gQ_ne, gL_sL, gA_cin, gA_cou, gQ_cin, gQ_cou, Nat.reduceAdd, Nat.reduceSub, Nat.reduceMul, Nat.reduceLT, Nat.reduceEqDiff, eq_self, true_and, and_true, and_false, false_and, if_true, if_false, and_self, Bool.true_eq_false, Bool.false_eq_true]
  have c10 : gI (sI (sI s 412 9 (nI 1)) 610 18 (nI 11784)) 410 9 = nI bn := by rw [F1.I 410 9 (by decide)]; exact h11
  generalize sI (sI s 412 9 (nI 1)) 610 18 (nI 11784) = s7 at *
  have hK : KdA 1 11784 alC := Or.inr (Or.inl ⟨rfl, rfl, rfl⟩)
  rw [lawt_h hM.1.2.2.1 (by omega) (m13 hT)]
  have R : RdC N tp n 1 11784 12 alC false (if false = true then f_Rd_test N else f_Rd_sum N) (if false = true then f_M_qTest N else f_M_qSums N) := by
    rw [if_neg (by decide), if_neg (by decide)]
    exact rd_sum hK hN
  rcases law_j (w := 11) (kd := 1) (q := false) R (by omega) (by simp) E1 X1 hL c10 hM.1 m8 hMp hN with ⟨k, w', s1, t1, f, D1, F, g, B, G⟩ | ⟨e, p', b', s1, t1, f, E2, X2, hp', hle, hck, c1, c2, c3, c4, F, g, R2, r1, r2, r3, r4, r5, r6, G⟩
  · left
    rw [if_neg (by decide)] at f
    exact ⟨k, w', s1, t1, f, ⟨D1, Fr_t (Fr_w F0 (by decide)) (Fr_t (Fr_w F1 (by decide)) (Fr_w F (by decide)))⟩, g, BM_d hM.2.2 B G (by decide) (by decide)⟩
  · right
    rw [if_neg (by decide)] at f
    have hp2 := X2.1
    have FF : Fr kDg s s1 := Fr_t (Fr_w F1 (by decide)) (Fr_w F (by decide))
    have I1 : ∀ f o, 10000 + 100 * f + o ∉ [51209, 71018] → 10000 + 100 * f + o ∉ kLg → gI s1 f o = gI s f o := fun f o a1 a2 => (F.I f o a2).trans (F1.I f o a1)
    obtain ⟨⟨a1, a2, a3, a4, a5, a6, a7, a8, a9, a10⟩, w2, w3⟩ := hW
    have pw : pC (pSetC A e) 11 = e := fU_s (pC A) 11 e
    have po : ∀ i, i ≠ 11 → pC (pSetC A e) i = pC A i := fun i hi => fU_n (f := pC A) (v := e) hi
    have ll : (L ++ e).length = L.length + e.length := List.length_append
    refine ⟨pSetC A e, op, pt, L ++ e, M + e.length, p', b', s1, t1, f, g, ⟨⟨_, E2⟩, X2, ?_, Fr_t F0 FF⟩, ⟨R2, ?_, FM_t hM.2.2 (FM_law G (by omega) r5 r6)⟩, ⟨⟨a1, a2, a3, a4, a5, fun p hp => ?_, fun h => ?_, a8, fun h => (po 10 (by omega)).trans (a9 h), fun h => (by cases h)⟩, w2, w3⟩, hp', by omega, by omega, h0, by rw [G.I 1045 0 (by decide)]; exact hx⟩
    · refine ⟨(I1 400 9 (by decide) (by decide)).trans h1, (I1 401 9 (by decide) (by decide)).trans h2, (I1 402 9 (by decide) (by decide)).trans h3, (I1 403 9 (by decide) (by decide)).trans h4, (I1 404 9 (by decide) (by decide)).trans h5, fun d hd => ((F.A 10 d (by decide)).trans (F1.A 10 d (by decide))).trans (h6 d hd), fun p hp => ((F.Q 11 p (by decide)).trans (F1.Q 11 p (by decide))).trans (h7 p hp), (I1 411 9 (by decide) (by decide)).trans h8, (F.I 412 9 (by decide)).trans c41, fun w hw => ?_, _, c4, bn_ok h12 (by omega), fun i hi => ?_⟩
      · by_cases c : w = 11
        · subst c
          exact XCd_new pw c1 c2
        · exact XCd_old (h10 w hw) (po w c) ((c3 w c).1.trans (F1.A 14 w (by decide))) ((c3 w c).2.trans (F1.A 15 w (by decide)))
      · rw [bn_bit, decide_eq_false (show ¬ i = 11 by omega), Bool.and_false, Bool.or_false, h13 i hi]
        show _ = (decide (i < pP A) && (fU (pC A) 11 e i).elem 40)
        rw [fU_n (by omega)]
    · refine ⟨(G.A 28 0 (by decide)).trans m1', (G.A 28 1 (by decide)).trans m2, (G.A 28 2 (by decide)).trans m3, (G.A 28 3 (by decide)).trans m4, (G.I 1040 0 (by decide)).trans m5, fun d hd => (G.A 30 d (by decide)).trans (m6 d hd), fun p hp => (G.Q 29 p (by decide)).trans (m7 p hp), r4, fun p hp => ?_, fun h => MCd_old (m10 h) (po 10 (by omega)) (r5 10 (by omega)).1 (r5 10 (by omega)).2 (fun i hi => r6 i (Or.inl hi)) (by omega), fun h => (r5 10 (by omega)).1.trans (m11 h), fun _ => MCd_new pw r1 r2 r3, fun h => (by cases h)⟩
      have hpp : p < pP A := hp
      exact MCd_old (m9 p hp) (po p (by omega)) (r5 p (by omega)).1 (r5 p (by omega)).2 (fun i hi => r6 i (Or.inl hi)) (by omega)
    · have hpp : p < pP A := hp
      show ckL alT (fU (pC A) 11 e p) [] = some [true]
      rw [fU_n (by omega)]
      exact a6 p hp
    · show ckL alW (fU (pC A) 11 e 10) [] = some [true] ∧ ckL alC (fU (pC A) 11 e 11) [] = some [false]
      rw [fU_s, fU_n (by omega)]
      exact ⟨(a7 h).1, hck⟩
end LAWS
