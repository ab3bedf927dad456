/-! THE DRAFT of a corridor, on both sides -/
def kDr : List Nat := [60112, 13, 70418, 70518, 70618, 70718, 70818, 260918, 71118, 71218, 71318, 50009, 50109, 50209, 50309, 50409, 51009, 51109, 51209, 10, 5011, 14, 15, 71018]
def kDg : List Nat := [60112, 13, 70418, 70518, 70618, 70718, 70818, 260918, 71118, 50009, 50109, 50209, 50309, 50409, 51009, 51109, 51209, 10, 5011, 14, 15, 71018]
def kDm : List Nat := [110200, 110400, 111000, 118800, 119000, 119100, 119200, 64, 65, 28, 5029, 30, 31, 32, 33, 113600, 114000, 114400, 114500, 114700]
def kDb : List Nat := [110200, 110400, 110500, 110600, 111000, 118800, 119000, 119100, 119200, 64, 65, 28, 5029, 30, 31, 32, 33, 113600, 114000, 114400, 114500, 114700]
def kDx : List Nat := [50009, 50109, 50209, 50309, 50409, 51009, 51109, 51209, 10, 5011, 14, 15]
def kDy : List Nat := [28, 5029, 30, 31, 32, 33, 114000, 114400]
/-- the other side: what was told stays -/
def FMl (l : List Nat) (t0 t : mS) : Prop := Fr l t0 t ∧ (∀ i, 4 ≤ i → gA t 28 i = gA t0 28 i) ∧ (∀ i, 12 ≤ i → gA t 31 i = gA t0 31 i ∧ gA t 32 i = gA t0 32 i) ∧ (∀ i, 1600 ≤ i → gA t 33 i = gA t0 33 i) ∧ ∀ i, 10 ≤ i → gQ t 29 i = gQ t0 29 i
abbrev FM (t0 t : mS) : Prop := FMl kDm t0 t
abbrev FB (t0 t : mS) : Prop := FMl kDb t0 t
def XCd (A : pL) (w : Nat) (L : List Nat) (s : mS) : Prop := ∃ fr, fr + (pC A w).length ≤ L.length ∧ gA s 14 w = nI fr ∧ gA s 15 w = nI (fr + (pC A w).length) ∧ ∀ i, i < (pC A w).length → L.getD (fr + i) 0 = (pC A w).getD i 0
def DX (A : pL) (op : Nat) (pt : Nat → Nat) (L : List Nat) (s : mS) : Prop := gI s 400 9 = nI (pD A) ∧ gI s 401 9 = nI (pP A) ∧ gI s 402 9 = nI (pS A) ∧ gI s 403 9 = nI (pI A) ∧ gI s 404 9 = nI op ∧ (∀ d, d < 24 → gA s 10 d = nI (pt d)) ∧ (∀ p, p < pP A → gQ s 11 p = lN (nmX (pNm A p))) ∧ gI s 411 9 = nI (if pTw A = true then 1 else 0) ∧ gI s 412 9 = nI (if pTc A = true then 1 else 0) ∧ (∀ w, w < pP A ∨ w = 10 ∨ w = 11 → XCd A w L s) ∧ ∃ bn, gI s 410 9 = nI bn ∧ bn < 4096 ∧ ∀ p, p < 10 → bn.testBit p = (decide (p < pP A) && (pC A p).elem 40)
def MCd (A : pL) (w M : Nat) (t : mS) : Prop := ∃ fr, fr + (pC A w).length ≤ M ∧ gA t 31 w = nI fr ∧ gA t 32 w = nI (fr + (pC A w).length) ∧ ∀ i, i < (pC A w).length → gA t 33 (fr + i) = nI ((pC A w).getD i 0)
def DM (A : pL) (op : Nat) (pt : Nat → Nat) (M : Nat) (t : mS) : Prop := gA t 28 0 = nI (pD A) ∧ gA t 28 1 = nI (pP A) ∧ gA t 28 2 = nI (pS A) ∧ gA t 28 3 = nI (pI A) ∧ gI t 1040 0 = nI op ∧ (∀ d, d < 24 → gA t 30 d = nI (pt d)) ∧ (∀ p, p < pP A → gQ t 29 p = lN (vaL 27 (pNm A p))) ∧ gI t 1044 0 = nI M ∧ (∀ p, p < pP A → MCd A p M t) ∧ (pTw A = true → MCd A 10 M t) ∧ (pTw A = false → gA t 31 10 = m1) ∧ (pTc A = true → MCd A 11 M t) ∧ (pTc A = false → gA t 31 11 = m1)
def WD (A : pL) (op : Nat) (pt : Nat → Nat) : Prop := WA A ∧ op < 2 ^ pD A ∧ ∀ d, pt d ≤ 9
def JX (tp : Nat → Nat) (n : Nat) (s0 : mS) (A : pL) (op : Nat) (pt : Nat → Nat) (L : List Nat) (p : Nat) (b : Bool) (s : mS) : Prop := (∃ mk, CE tp n 12 mk s) ∧ CX tp n 12 s p b 0 L s ∧ DX A op pt L s ∧ Fr kDg s0 s
def JM (tp : Nat → Nat) (n : Nat) (t0 : mS) (A : pL) (op : Nat) (pt : Nat → Nat) (M p : Nat) (b : Bool) (t : mS) : Prop := RB tp n p b t ∧ DM A op pt M t ∧ FM t0 t
def DXd (s0 : mS) (k w : Nat) (s : mS) : Prop := DPX 12 k w s ∧ Fr kDr s0 s
def DMd (t0 : mS) (k w : Nat) (t : mS) : Prop := BdM k w t ∧ FB t0 t
section DRAFT
variable {N n p p' o w M M' bn kd mk op k w' : Nat} {tp pt : Nat → Nat} {b : Bool} {s s' s0 s1 t t' t0 t1 : mS} {L e : List Nat} {A A' : pL} {l : List Nat}
theorem FM_r (t : mS) : FM t t := ⟨Fr_r _ _, fun _ _ => rfl, fun _ _ => ⟨rfl, rfl⟩, fun _ _ => rfl, fun _ _ => rfl⟩
theorem FM_w (h : FM t0 t) : FB t0 t := ⟨Fr_w h.1 (by decide), h.2⟩
theorem FM_t {l : List Nat} (h : FMl l t0 t1) (h2 : FMl l t1 t) : FMl l t0 t :=
  ⟨Fr_t h.1 h2.1, fun i hi => (h2.2.1 i hi).trans (h.2.1 i hi), fun i hi => ⟨(h2.2.2.1 i hi).1.trans (h.2.2.1 i hi).1, (h2.2.2.1 i hi).2.trans (h.2.2.1 i hi).2⟩, fun i hi => (h2.2.2.2.1 i hi).trans (h.2.2.2.1 i hi), fun i hi => (h2.2.2.2.2 i hi).trans (h.2.2.2.2 i hi)⟩
theorem FM_f {m : List Nat} (F : Fr l t t') (hl : ∀ k ∈ l, k ∈ m) (h : ∀ k ∈ [28, 31, 32, 33, 5029], k ∉ l) : FMl m t t' :=
  ⟨Fr_w F hl, fun i _ => F.A 28 i (h _ (by decide)), fun i _ => ⟨F.A 31 i (h _ (by decide)), F.A 32 i (h _ (by decide))⟩, fun i _ => F.A 33 i (h _ (by decide)), fun i _ => F.Q 29 i (h _ (by decide))⟩
theorem XCd_old (h : XCd A w L s) (hC : pC A' w = pC A w) (h14 : gA s' 14 w = gA s 14 w) (h15 : gA s' 15 w = gA s 15 w) : XCd A' w (L ++ e) s' := by
  obtain ⟨fr, h1, h2, h3, h4⟩ := h
  refine ⟨fr, by rw [hC, List.length_append]; omega, h14.trans h2, by rw [hC]; exact h15.trans h3, fun i hi => ?_⟩
  rw [hC] at hi ⊢
  rw [gd_l (by omega)]
  exact h4 i hi
theorem XCd_same (h : XCd A w L s) (hC : pC A' w = pC A w) (h14 : gA s' 14 w = gA s 14 w) (h15 : gA s' 15 w = gA s 15 w) : XCd A' w L s' := by
  have := XCd_old (e := []) h hC h14 h15
  rwa [List.append_nil] at this
theorem XCd_new (hC : pC A' w = e) (h14 : gA s' 14 w = nI L.length) (h15 : gA s' 15 w = nI (L ++ e).length) : XCd A' w (L ++ e) s' :=
  ⟨L.length, by rw [hC, List.length_append]; omega, h14, by rw [hC, ← List.length_append]; exact h15, fun i hi => by rw [hC, gd_r]⟩
theorem MCd_old (h : MCd A w M t) (hC : pC A' w = pC A w) (h31 : gA t' 31 w = gA t 31 w) (h32 : gA t' 32 w = gA t 32 w) (h33 : ∀ i, i < M → gA t' 33 i = gA t 33 i) (hM : M ≤ M') : MCd A' w M' t' := by
  obtain ⟨fr, h1, h2, h3, h4⟩ := h
  refine ⟨fr, by rw [hC]; omega, h31.trans h2, by rw [hC]; exact h32.trans h3, fun i hi => ?_⟩
  rw [hC] at hi ⊢
  rw [h33 _ (by omega)]
  exact h4 i hi
theorem MCd_new (hC : pC A' w = e) (h31 : gA t' 31 w = nI M) (h32 : gA t' 32 w = nI (M + e.length)) (h33 : ∀ i, i < e.length → gA t' 33 (M + i) = nI (e.getD i 0)) : MCd A' w (M + e.length) t' :=
  ⟨M, by rw [hC]; omega, h31, by rw [hC]; exact h32, fun i hi => by rw [hC] at hi ⊢; exact h33 i hi⟩
theorem DX_fr (F : Fr l s s') (hk : ∀ k ∈ kDx, k ∉ l) (h : DX A op pt L s) : DX A op pt L s' := by
  obtain ⟨h1, h2, h3, h4, h5, h6, h7, h8, h9, h10, bn, h11, h12⟩ := h
  exact ⟨by rw [F.I 400 9 (hk _ (by decide))]; exact h1, by rw [F.I 401 9 (hk _ (by decide))]; exact h2, by rw [F.I 402 9 (hk _ (by decide))]; exact h3, by rw [F.I 403 9 (hk _ (by decide))]; exact h4, by rw [F.I 404 9 (hk _ (by decide))]; exact h5, fun d hd => by rw [F.A 10 d (hk _ (by decide))]; exact h6 d hd, fun p hp => by rw [F.Q 11 p (hk _ (by decide))]; exact h7 p hp, by rw [F.I 411 9 (hk _ (by decide))]; exact h8, by rw [F.I 412 9 (hk _ (by decide))]; exact h9, fun w hw => XCd_same (h10 w hw) rfl (F.A 14 w (hk _ (by decide))) (F.A 15 w (hk _ (by decide))), bn, by rw [F.I 410 9 (hk _ (by decide))]; exact h11, h12⟩
theorem DM_fr (F : Fr l t t') (hk : ∀ k ∈ kDy, k ∉ l) (h : DM A op pt M t) : DM A op pt M t' := by
  obtain ⟨h1, h2, h3, h4, h5, h6, h7, h8, h9, h10, h11, h12, h13⟩ := h
  have e28 := fun i => F.A 28 i (hk _ (by decide))
  have e31 := fun i => F.A 31 i (hk _ (by decide))
  have e32 := fun i => F.A 32 i (hk _ (by decide))
  have e33 := fun i => F.A 33 i (hk _ (by decide))
  exact ⟨by rw [e28]; exact h1, by rw [e28]; exact h2, by rw [e28]; exact h3, by rw [e28]; exact h4, by rw [F.I 1040 0 (hk _ (by decide))]; exact h5, fun d hd => by rw [F.A 30 d (hk _ (by decide))]; exact h6 d hd, fun p hp => by rw [F.Q 29 p (hk _ (by decide))]; exact h7 p hp, by rw [F.I 1044 0 (hk _ (by decide))]; exact h8, fun p hp => MCd_old (h9 p hp) rfl (e31 _) (e32 _) (fun i _ => e33 i) (Nat.le_refl _), fun h => MCd_old (h10 h) rfl (e31 _) (e32 _) (fun i _ => e33 i) (Nat.le_refl _), fun h => by rw [e31]; exact h11 h, fun h => MCd_old (h12 h) rfl (e31 _) (e32 _) (fun i _ => e33 i) (Nat.le_refl _), fun h => by rw [e31]; exact h13 h⟩
theorem DX_d (hF : Fr kDg s0 s) (D : CD 12 s k w s') : DXd s0 k w s' := ⟨D.1, Fr_t (Fr_w hF (by decide)) (Fr_w D.2 (by decide))⟩
theorem DXd_fr (D : DXd s0 k w s) (F : Fr l s s') (hl : ∀ k ∈ l, k ∈ kDr) (hk : ∀ k ∈ [71218, 71318, 70518, 9999, 60112], k ∉ l) : DXd s0 k w s' := by
  obtain ⟨⟨h1, h2, sz, h3, h4⟩, h5⟩ := D
  exact ⟨⟨DdX_fr F (fun k h => hk k ((by decide : ∀ k ∈ [71218, 71318, 70518], k ∈ [71218, 71318, 70518, 9999, 60112]) k h)) h1, by rw [F.O (hk _ (by decide))]; exact h2, sz, h3, by rw [F.I 501 12 (hk _ (by decide))]; exact h4⟩, Fr_t h5 (Fr_w F hl)⟩
theorem DMd_fr (D : DMd t0 k w t) (F : Fr l t t') (hl : ∀ k ∈ l, k ∈ kDb) (h : ∀ k ∈ [28, 31, 32, 33, 5029], k ∉ l) (hk : ∀ k ∈ [110500, 110600], k ∉ l) : DMd t0 k w t' := ⟨BdM_fr F hk D.1, FM_t D.2 (FM_f F hl h)⟩
/-- a text's codes are kept, on the other side -/
def kRg : List Nat := [110200, 110400, 111000, 118800, 119000, 119100, 119200, 64, 65, 114700]
def kRd : List Nat := [110200, 110400, 110500, 110600, 111000, 118800, 119000, 119100, 119200, 64, 65, 114700]
noncomputable def rdS (kd : Nat) (t : mS) : mS := sI (sI (sI (sI (sI t 1047 0 (nI kd)) 1088 0 (nI 0)) 1090 0 (nI 0)) 1091 0 (nI 0)) 1092 0 (nI 0)
theorem Fr_rd (kd : Nat) (t : mS) : Fr [114700, 118800, 119000, 119100, 119200] t (rdS kd t) := Fr_t (Fr_sI _ _ _ (by decide)) (Fr_t (Fr_sI _ _ _ (by decide)) (Fr_t (Fr_sI _ _ _ (by decide)) (Fr_t (Fr_sI _ _ _ (by decide)) (Fr_sI _ _ _ (by decide)))))
theorem RT_rd (h : RB tp n p b t) : RT tp n kd (rdS kd t) p b 0 [] [] 0 (rdS kd t) :=
  ⟨Fr_r _ _, RB_fr (Fr_rd kd t) (by decide) h, ⟨by unfold rdS; simp (disch := first | omega | decide) only [gI_sI, gI_sA, gI_sL, gI_sQ, gI_sC, gI_sO, gI_sD, gA_sI, gA_sL, gA_sQ, gA_sO, gA_sD, gL_sI, gL_sA, gL_sQ, gL_sC, gL_sO, gL_sD, gQ_sI, gQ_sA, gQ_sL, gQ_sC, gQ_sO, gO_sI, gO_sA, gO_sL, gO_sQ, gO_sC, gO_sO, gO_sD, gA_eq, gA_ne, gQ_eq, gQ_ne, gL_sL, gA_cin, gA_cou, gQ_cin, gQ_cou, Nat.reduceAdd, Nat.reduceSub, Nat.reduceMul, Nat.reduceLT, Nat.reduceEqDiff, eq_self, true_and, and_true, and_false, false_and, if_true, if_false, and_self, Bool.true_eq_false, Bool.false_eq_true, List.length_nil], fun i hi => absurd hi (Nat.not_lt_zero _)⟩, ⟨by unfold rdS; simp (disch := first | omega | decide) only [gI_sI, gI_sA, gI_sL, gI_sQ, gI_sC, gI_sO, gI_sD, gA_sI, gA_sL, gA_sQ, gA_sO, gA_sD, gL_sI, gL_sA, gL_sQ, gL_sC, gL_sO, gL_sD, gQ_sI, gQ_sA, gQ_sL, gQ_sC, gQ_sO, gO_sI, gO_sA, gO_sL, gO_sQ, gO_sC, gO_sO, gO_sD, gA_eq, gA_ne, gQ_eq, gQ_ne, gL_sL, gA_cin, gA_cou, gQ_cin, gQ_cou, Nat.reduceAdd, Nat.reduceSub, Nat.reduceMul, Nat.reduceLT, Nat.reduceEqDiff, eq_self, true_and, and_true, and_false, false_and, if_true, if_false, and_self, Bool.true_eq_false, Bool.false_eq_true, List.length_nil], trivial⟩, by unfold rdS; simp (disch := first | omega | decide) only [gI_sI, gI_sA, gI_sL, gI_sQ, gI_sC, gI_sO, gI_sD, gA_sI, gA_sL, gA_sQ, gA_sO, gA_sD, gL_sI, gL_sA, gL_sQ, gL_sC, gL_sO, gL_sD, gQ_sI, gQ_sA, gQ_sL, gQ_sC, gQ_sO, gO_sI, gO_sA, gO_sL, gO_sQ, gO_sC, gO_sO, gO_sD, gA_eq, gA_ne, gQ_eq, gQ_ne, gL_sL, gA_cin, gA_cou, gQ_cin, gQ_cou, Nat.reduceAdd, Nat.reduceSub, Nat.reduceMul, Nat.reduceLT, Nat.reduceEqDiff, eq_self, true_and, and_true, and_false, false_and, if_true, if_false, and_self, Bool.true_eq_false, Bool.false_eq_true], by unfold rdS; simp (disch := first | omega | decide) only [gI_sI, gI_sA, gI_sL, gI_sQ, gI_sC, gI_sO, gI_sD, gA_sI, gA_sL, gA_sQ, gA_sO, gA_sD, gL_sI, gL_sA, gL_sQ, gL_sC, gL_sO, gL_sD, gQ_sI, gQ_sA, gQ_sL, gQ_sC, gQ_sO, gO_sI, gO_sA, gO_sL, gO_sQ, gO_sC, gO_sO, gO_sD, gA_eq, gA_ne, gQ_eq, gQ_ne, gL_sL, gA_cin, gA_cou, gQ_cin, gQ_cou, Nat.reduceAdd, Nat.reduceSub, Nat.reduceMul, Nat.reduceLT, Nat.reduceEqDiff, eq_self, true_and, and_true, and_false, false_and, if_true, if_false, and_self, Bool.true_eq_false, Bool.false_eq_true], by unfold rdS; simp (disch := first | omega | decide) only [gI_sI, gI_sA, gI_sL, gI_sQ, gI_sC, gI_sO, gI_sD, gA_sI, gA_sL, gA_sQ, gA_sO, gA_sD, gL_sI, gL_sA, gL_sQ, gL_sC, gL_sO, gL_sD, gQ_sI, gQ_sA, gQ_sL, gQ_sC, gQ_sO, gO_sI, gO_sA, gO_sL, gO_sQ, gO_sC, gO_sO, gO_sD, gA_eq, gA_ne, gQ_eq, gQ_ne, gL_sL, gA_cin, gA_cou, gQ_cin, gQ_cou, Nat.reduceAdd, Nat.reduceSub, Nat.reduceMul, Nat.reduceLT, Nat.reduceEqDiff, eq_self, true_and, and_true, and_false, false_and, if_true, if_false, and_self, Bool.true_eq_false, Bool.false_eq_true]⟩
theorem reads_h (hw : w < 12) {q : Bool} (hq : (w = 11) = (q = false)) : f_M_reads N (nI w) (nI kd) t = ((if q = true then f_M_qTest N (rdS kd t) else f_M_qSums N (rdS kd t)).bind fun p => f_M_reads_j42 N (nI w, p)) := by
  unfold rdS
  cases q with
  | true =>
    have c : w ≠ 11 := fun h => by have := hq.mp h; cases this
    simp (disch := first | omega | decide) only [f_M_reads, zI_0, zI_1, zI_2, zI_3, zI_4, zI_5, zI_6, zI_7, zI_8, zI_9, zI_10, zI_11, zI_12, zI_13, zI_14, zI_15, zI_16, zI_17, zI_18, zI_19, zI_20, zI_21, zI_22, zI_23, zI_24, zI_25, zI_26, zI_27, zI_28, zI_29, zI_30, zI_31, zI_32, zI_33, zI_34, zI_35, zI_36, zI_37, zI_38, zI_39, zI_40, zI_41, zI_42, zI_43, zI_44, zI_45, zI_46, zI_47, zI_48, zI_49, zI_50, zI_51, zI_52, zI_53, zI_54, zI_55, zI_56, zI_57, zI_58, zI_59, zI_60, zI_61, zI_62, zI_63, zI_64, zI_65, zI_66, zI_67, zI_74, zI_84, zI_85, zI_88, zI_91, zI_93, zI_97, zI_99, zI_100, zI_102, zI_105, zI_117, zI_122, zI_193, zI_202, zI_205, zI_251, zI_255, zI_256, zI_257, zI_258, zI_259, zI_260, zI_640, zI_999, zI_1000, zI_1024, zI_1600, zI_1602, zI_1700, zI_2040, zI_3200, zI_4100, zI_9728, zI_11784, zI_61440, zI_65536, zI_470536, zI_999999, zI_1000000, lt_T, lt_F, le_T, le_F, eq_T, eq_F, neg_1, cn_m1p, cn_m11, nI_add, cn_sub, pk_mul, cn_div, cn_irm, cn_lt, cn_eq, cn_ltm1, cn_m1lt, cn_eqm1, cn_m1eq, cn_ix, cn_inb, cn_ninb, cn_irs, cn_ils, cn_and, cn_or, cn_xor, grd_t, grd_bt, grd_bl, Nat.add_zero, Nat.zero_add, Nat.reduceAdd, Nat.reduceSub, Nat.reduceMul, Nat.reduceLT, Nat.reduceEqDiff, eq_self, true_and, and_true, and_false, false_and, if_true, if_false, and_self, Bool.true_eq_false, Bool.false_eq_true]
  | false =>
    have c : w = 11 := hq.mpr rfl
    simp (disch := first | omega | decide) only [f_M_reads, c, zI_0, zI_1, zI_2, zI_3, zI_4, zI_5, zI_6, zI_7, zI_8, zI_9, zI_10, zI_11, zI_12, zI_13, zI_14, zI_15, zI_16, zI_17, zI_18, zI_19, zI_20, zI_21, zI_22, zI_23, zI_24, zI_25, zI_26, zI_27, zI_28, zI_29, zI_30, zI_31, zI_32, zI_33, zI_34, zI_35, zI_36, zI_37, zI_38, zI_39, zI_40, zI_41, zI_42, zI_43, zI_44, zI_45, zI_46, zI_47, zI_48, zI_49, zI_50, zI_51, zI_52, zI_53, zI_54, zI_55, zI_56, zI_57, zI_58, zI_59, zI_60, zI_61, zI_62, zI_63, zI_64, zI_65, zI_66, zI_67, zI_74, zI_84, zI_85, zI_88, zI_91, zI_93, zI_97, zI_99, zI_100, zI_102, zI_105, zI_117, zI_122, zI_193, zI_202, zI_205, zI_251, zI_255, zI_256, zI_257, zI_258, zI_259, zI_260, zI_640, zI_999, zI_1000, zI_1024, zI_1600, zI_1602, zI_1700, zI_2040, zI_3200, zI_4100, zI_9728, zI_11784, zI_61440, zI_65536, zI_470536, zI_999999, zI_1000000, lt_T, lt_F, le_T, le_F, eq_T, eq_F, neg_1, cn_m1p, cn_m11, nI_add, cn_sub, pk_mul, cn_div, cn_irm, cn_lt, cn_eq, cn_ltm1, cn_m1lt, cn_eqm1, cn_m1eq, cn_ix, cn_inb, cn_ninb, cn_irs, cn_ils, cn_and, cn_or, cn_xor, grd_t, grd_bt, grd_bl, Nat.add_zero, Nat.zero_add, Nat.reduceAdd, Nat.reduceSub, Nat.reduceMul, Nat.reduceLT, Nat.reduceEqDiff, eq_self, true_and, and_true, and_false, false_and, if_true, if_false, and_self, Bool.true_eq_false, Bool.false_eq_true]
theorem rcopy_n (hw : w < 12) (hR : RCd e t) (h5 : gI t 1005 0 = nI 0) (h44 : gI t 1044 0 = nI M) (hM : M + e.length ≤ 1600) (hN : 10000 ≤ N) :
    ∃ t', f_M_reads_j42 N (nI w, t) = some t' ∧ gA t' 31 w = nI M ∧ gA t' 32 w = nI (M + e.length) ∧ (∀ i, i < e.length → gA t' 33 (M + i) = nI (e.getD i 0)) ∧ gI t' 1044 0 = nI (M + e.length) ∧ (∀ i, i ≠ w → gA t' 31 i = gA t 31 i ∧ gA t' 32 i = gA t 32 i) ∧ (∀ i, i < M ∨ 1600 ≤ i → gA t' 33 i = gA t 33 i) ∧ Fr [31, 32, 33, 114400] t t' := by
  have hl : Ok (mfix N (f_M_reads_L62 N) (nI w, nI 0, sA t 31 w (nI M))) (fun r => gA r 31 w = nI M ∧ gA r 32 w = nI (M + e.length) ∧ (∀ i, i < e.length → gA r 33 (M + i) = nI (e.getD i 0)) ∧ gI r 1044 0 = nI (M + e.length) ∧ (∀ i, i ≠ w → gA r 31 i = gA t 31 i ∧ gA r 32 i = gA t 32 i) ∧ (∀ i, i < M ∨ 1600 ≤ i → gA r 33 i = gA t 33 i) ∧ Fr [31, 32, 33, 114400] t r) := by
    refine mfix_up (fun i x => ∃ t1, x = (nI w, nI i, t1) ∧ gA t1 31 w = nI M ∧ (∀ j, j < i → gA t1 33 (M + j) = nI (e.getD j 0)) ∧ gI t1 1044 0 = nI (M + i) ∧ (∀ j, j ≠ w → gA t1 31 j = gA t 31 j) ∧ (∀ j, j < M ∨ 1600 ≤ j → gA t1 33 j = gA t 33 j) ∧ Fr [31, 33, 114400] t t1) e.length ?_ ?_ N 0 _ ⟨_, rfl, gA_eq rfl, fun j hj => absurd hj (Nat.not_lt_zero _), h44, fun j hj => gA_ne (by omega), fun j hj => gA_ne (by omega), Fr_sA 31 _ _ (by decide)⟩ (Nat.zero_le _) (by omega)
    · rintro i k x hi ⟨t1, rfl, g1, g2, g3, g4, g5, F⟩ hk
      have e1 : gI t1 1088 0 = nI e.length := by rw [F.I 1088 0 (by decide)]; exact hR.1
      have e2 : gA t1 64 i = nI (e.getD i 0) := by rw [F.A 64 i (by decide)]; exact hR.2 i hi
      simp (disch := first | omega | decide) only [f_M_reads_L62, e1, e2, g3, zI_0, zI_1, zI_2, zI_3, zI_4, zI_5, zI_6, zI_7, zI_8, zI_9, zI_10, zI_11, zI_12, zI_13, zI_14, zI_15, zI_16, zI_17, zI_18, zI_19, zI_20, zI_21, zI_22, zI_23, zI_24, zI_25, zI_26, zI_27, zI_28, zI_29, zI_30, zI_31, zI_32, zI_33, zI_34, zI_35, zI_36, zI_37, zI_38, zI_39, zI_40, zI_41, zI_42, zI_43, zI_44, zI_45, zI_46, zI_47, zI_48, zI_49, zI_50, zI_51, zI_52, zI_53, zI_54, zI_55, zI_56, zI_57, zI_58, zI_59, zI_60, zI_61, zI_62, zI_63, zI_64, zI_65, zI_66, zI_67, zI_74, zI_84, zI_85, zI_88, zI_91, zI_93, zI_97, zI_99, zI_100, zI_102, zI_105, zI_117, zI_122, zI_193, zI_202, zI_205, zI_251, zI_255, zI_256, zI_257, zI_258, zI_259, zI_260, zI_640, zI_999, zI_1000, zI_1024, zI_1600, zI_1602, zI_1700, zI_2040, zI_3200, zI_4100, zI_9728, zI_11784, zI_61440, zI_65536, zI_470536, zI_999999, zI_1000000, lt_T, lt_F, le_T, le_F, eq_T, eq_F, neg_1, cn_m1p, cn_m11, nI_add, cn_sub, pk_mul, cn_div, cn_irm, cn_lt, cn_eq, cn_ltm1, cn_m1lt, cn_eqm1, cn_m1eq, cn_ix, cn_inb, cn_ninb, cn_irs, cn_ils, cn_and, cn_or, cn_xor, grd_t, grd_bt, grd_bl, Nat.add_zero, Nat.zero_add, Nat.reduceAdd, Nat.reduceSub, Nat.reduceMul, Nat.reduceLT, Nat.reduceEqDiff, eq_self, true_and, and_true, and_false, false_and, if_true, if_false, and_self, Bool.true_eq_false, Bool.false_eq_true, gI_sI, gI_sA, gI_sL, gI_sQ, gI_sC, gI_sO, gI_sD, gA_sI, gA_sL, gA_sQ, gA_sO, gA_sD, gL_sI, gL_sA, gL_sQ, gL_sC, gL_sO, gL_sD, gQ_sI, gQ_sA, gQ_sL, gQ_sC, gQ_sO, gO_sI, gO_sA, gO_sL, gO_sQ, gO_sC, gO_sO, gO_sD, gA_eq, gA_ne, gQ_eq, gQ_ne, gL_sL, gA_cin, gA_cou, gQ_cin, gQ_cou]
      refine hk _ ⟨_, rfl, ?_, fun j hj => ?_, by simp (disch := first | omega | decide) only [gI_sI, gI_sA, gI_sL, gI_sQ, gI_sC, gI_sO, gI_sD, gA_sI, gA_sL, gA_sQ, gA_sO, gA_sD, gL_sI, gL_sA, gL_sQ, gL_sC, gL_sO, gL_sD, gQ_sI, gQ_sA, gQ_sL, gQ_sC, gQ_sO, gO_sI, gO_sA, gO_sL, gO_sQ, gO_sC, gO_sO, gO_sD, gA_eq, gA_ne, gQ_eq, gQ_ne, gL_sL, gA_cin, gA_cou, gQ_cin, gQ_cou, Nat.reduceAdd, Nat.reduceSub, Nat.reduceMul, Nat.reduceLT, Nat.reduceEqDiff, eq_self, true_and, and_true, and_false, false_and, if_true, if_false, and_self, Bool.true_eq_false, Bool.false_eq_true, Nat.add_assoc], fun j hj => ?_, fun j hj => ?_, Fr_t F (Fr_t (Fr_sA 33 _ _ (by decide)) (Fr_sI _ _ _ (by decide)))⟩
      · rw [gA_sI, gA_ne (by omega)]; exact g1
      · by_cases c : j = i
        · rw [c, gA_sI, gA_eq rfl]
        · rw [gA_sI, gA_ne (by omega)]; exact g2 j (by omega)
      · rw [gA_sI, gA_ne (by omega)]; exact g4 j hj
      · rw [gA_sI, gA_ne (by omega)]; exact g5 j hj
    · rintro k x ⟨t1, rfl, g1, g2, g3, g4, g5, F⟩
      have e1 : gI t1 1088 0 = nI e.length := by rw [F.I 1088 0 (by decide)]; exact hR.1
      simp (disch := first | omega | decide) only [f_M_reads_L62, e1, g3, zI_0, zI_1, zI_2, zI_3, zI_4, zI_5, zI_6, zI_7, zI_8, zI_9, zI_10, zI_11, zI_12, zI_13, zI_14, zI_15, zI_16, zI_17, zI_18, zI_19, zI_20, zI_21, zI_22, zI_23, zI_24, zI_25, zI_26, zI_27, zI_28, zI_29, zI_30, zI_31, zI_32, zI_33, zI_34, zI_35, zI_36, zI_37, zI_38, zI_39, zI_40, zI_41, zI_42, zI_43, zI_44, zI_45, zI_46, zI_47, zI_48, zI_49, zI_50, zI_51, zI_52, zI_53, zI_54, zI_55, zI_56, zI_57, zI_58, zI_59, zI_60, zI_61, zI_62, zI_63, zI_64, zI_65, zI_66, zI_67, zI_74, zI_84, zI_85, zI_88, zI_91, zI_93, zI_97, zI_99, zI_100, zI_102, zI_105, zI_117, zI_122, zI_193, zI_202, zI_205, zI_251, zI_255, zI_256, zI_257, zI_258, zI_259, zI_260, zI_640, zI_999, zI_1000, zI_1024, zI_1600, zI_1602, zI_1700, zI_2040, zI_3200, zI_4100, zI_9728, zI_11784, zI_61440, zI_65536, zI_470536, zI_999999, zI_1000000, lt_T, lt_F, le_T, le_F, eq_T, eq_F, neg_1, cn_m1p, cn_m11, nI_add, cn_sub, pk_mul, cn_div, cn_irm, cn_lt, cn_eq, cn_ltm1, cn_m1lt, cn_eqm1, cn_m1eq, cn_ix, cn_inb, cn_ninb, cn_irs, cn_ils, cn_and, cn_or, cn_xor, grd_t, grd_bt, grd_bl, Nat.add_zero, Nat.zero_add, Nat.reduceAdd, Nat.reduceSub, Nat.reduceMul, Nat.reduceLT, Nat.reduceEqDiff, eq_self, true_and, and_true, and_false, false_and, if_true, if_false, and_self, Bool.true_eq_false, Bool.false_eq_true, gI_sI, gI_sA, gI_sL, gI_sQ, gI_sC, gI_sO, gI_sD, gA_sI, gA_sL, gA_sQ, gA_sO, gA_sD, gL_sI, gL_sA, gL_sQ, gL_sC, gL_sO, gL_sD, gQ_sI, gQ_sA, gQ_sL, gQ_sC, gQ_sO, gO_sI, gO_sA, gO_sL, gO_sQ, gO_sC, gO_sO, gO_sD, gA_eq, gA_ne, gQ_eq, gQ_ne, gL_sL, gA_cin, gA_cou, gQ_cin, gQ_cou]
      refine Ok_some ⟨?_, gA_eq rfl, fun i hi => ?_, g3, fun i hi => ⟨?_, ?_⟩, fun i hi => ?_, Fr_t (Fr_w F (by decide)) (Fr_sA 32 _ _ (by decide))⟩
      · rw [gA_ne (by omega)]; exact g1
      · rw [gA_ne (by omega)]; exact g2 i hi
      · rw [gA_ne (by omega)]; exact g4 i hi
      · rw [gA_ne (by omega)]; exact F.A 32 i (by decide)
      · rw [gA_ne (by omega)]; exact g5 i hi
  obtain ⟨x, x1, x2⟩ := hl
  refine ⟨x, ?_, x2⟩
  simp (disch := first | omega | decide) only [f_M_reads_j42, h5, h44, zI_0, zI_1, zI_2, zI_3, zI_4, zI_5, zI_6, zI_7, zI_8, zI_9, zI_10, zI_11, zI_12, zI_13, zI_14, zI_15, zI_16, zI_17, zI_18, zI_19, zI_20, zI_21, zI_22, zI_23, zI_24, zI_25, zI_26, zI_27, zI_28, zI_29, zI_30, zI_31, zI_32, zI_33, zI_34, zI_35, zI_36, zI_37, zI_38, zI_39, zI_40, zI_41, zI_42, zI_43, zI_44, zI_45, zI_46, zI_47, zI_48, zI_49, zI_50, zI_51, zI_52, zI_53, zI_54, zI_55, zI_56, zI_57, zI_58, zI_59, zI_60, zI_61, zI_62, zI_63, zI_64, zI_65, zI_66, zI_67, zI_74, zI_84, zI_85, zI_88, zI_91, zI_93, zI_97, zI_99, zI_100, zI_102, zI_105, zI_117, zI_122, zI_193, zI_202, zI_205, zI_251, zI_255, zI_256, zI_257, zI_258, zI_259, zI_260, zI_640, zI_999, zI_1000, zI_1024, zI_1600, zI_1602, zI_1700, zI_2040, zI_3200, zI_4100, zI_9728, zI_11784, zI_61440, zI_65536, zI_470536, zI_999999, zI_1000000, lt_T, lt_F, le_T, le_F, eq_T, eq_F, neg_1, cn_m1p, cn_m11, nI_add, cn_sub, pk_mul, cn_div, cn_irm, cn_lt, cn_eq, cn_ltm1, cn_m1lt, cn_eqm1, cn_m1eq, cn_ix, cn_inb, cn_ninb, cn_irs, cn_ils, cn_and, cn_or, cn_xor, grd_t, grd_bt, grd_bl, Nat.add_zero, Nat.zero_add, Nat.reduceAdd, Nat.reduceSub, Nat.reduceMul, Nat.reduceLT, Nat.reduceEqDiff, eq_self, true_and, and_true, and_false, false_and, if_true, if_false, and_self, Bool.true_eq_false, Bool.false_eq_true]
  exact x1
def kLg : List Nat := [60112, 13, 70418, 70518, 70618, 70718, 70818, 260918, 71118, 14, 15, 51009]
def kLw : List Nat := [60112, 13, 70418, 70518, 70618, 70718, 70818, 260918, 71118, 71218, 71318, 14, 15, 51009]
/-- a text is read and kept, by both sides -/
theorem law_j {q : Bool} {al : Nat → Bool} (hR : RdC N tp n kd mk 12 al q (if q = true then f_Rd_test N else f_Rd_sum N) (if q = true then f_M_qTest N else f_M_qSums N)) (hw : w < 12) (hq : (w = 11) = (q = false)) (E : CE tp n 12 mk s) (X : CX tp n 12 s p b 0 L s) (hL : L.length ≤ p) (hb : gI s 410 9 = nI bn) (hB : RB tp n p b t) (h44 : gI t 1044 0 = nI M) (hM : M ≤ p) (hN : 10000 ≤ N) :
    (∃ k w' s' t', (((if q = true then f_Rd_test N else f_Rd_sum N) s).bind fun p4 => f_Pl_place N 9 (nI w) (nI L.length) p4) = some s' ∧ DPX 12 k w' s' ∧ Fr kLw s s' ∧ f_M_reads N (nI w) (nI kd) t = some t' ∧ BdM k w' t' ∧ Fr kRd t t') ∨
    (∃ e p' b' s' t', (((if q = true then f_Rd_test N else f_Rd_sum N) s).bind fun p4 => f_Pl_place N 9 (nI w) (nI L.length) p4) = some s' ∧ CE tp n 12 mk s' ∧ CX tp n 12 s' p' b' 0 (L ++ e) s' ∧ p < p' ∧ e.length ≤ p' - p ∧ ckL al e [] = some [q] ∧
      gA s' 14 w = nI L.length ∧ gA s' 15 w = nI (L ++ e).length ∧ (∀ i, i ≠ w → gA s' 14 i = gA s 14 i ∧ gA s' 15 i = gA s 15 i) ∧ gI s' 410 9 = nI (if e.elem 40 = true then bn ||| 1 <<< w else bn) ∧ Fr kLg s s' ∧
      f_M_reads N (nI w) (nI kd) t = some t' ∧ RB tp n p' b' t' ∧ gA t' 31 w = nI M ∧ gA t' 32 w = nI (M + e.length) ∧ (∀ i, i < e.length → gA t' 33 (M + i) = nI (e.getD i 0)) ∧ gI t' 1044 0 = nI (M + e.length) ∧ (∀ i, i ≠ w → gA t' 31 i = gA t 31 i ∧ gA t' 32 i = gA t 32 i) ∧ (∀ i, i < M ∨ 1600 ≤ i → gA t' 33 i = gA t 33 i) ∧ Fr (31 :: 32 :: 33 :: 114400 :: kRg) t t') := by
  have hT := E.1
  have hn := hT.1
  have hpn := X.1
  have hrd : f_M_reads N (nI w) (nI kd) t = ((if q = true then f_M_qTest N else f_M_qSums N) (rdS kd t)).bind fun p => f_M_reads_j42 N (nI w, p) := by
    rw [reads_h hw hq]
    cases q <;> rfl
  rcases hR s p b L s E X hL with ⟨k, w', s1, f1, D, hr⟩ | ⟨e, p', b', s1, f1, X1, hp', hle, hck, hr⟩
  · left
    obtain ⟨t1, g1, B1⟩ := hr _ _ (RT_rd (kd := kd) hB)
    obtain ⟨⟨d1, d2, sz, d3, d4⟩, d5⟩ := D
    obtain ⟨s2, f2, F2⟩ := place_d (N := N) (fr := L.length) (w := w) d4 d3 (by omega) hw hN
    have e5 := B1.1.2.2.1
    have h1 := B1.1.1
    have h2 := B1.1.2.1
    refine ⟨k, w', s2, t1, ?_, ⟨DdX_fr F2 (by decide) d1, by rw [F2.O (by decide)]; exact d2, sz, d3, by rw [F2.I 501 12 (by decide)]; exact d4⟩, Fr_t (Fr_w d5 (by decide)) (Fr_w F2 (by decide)), ?_, B1.1, Fr_t (Fr_w (Fr_rd kd t) (by decide)) (Fr_w B1.2 (by decide))⟩
    · rw [f1, Option.bind_some, f2]
    · rw [hrd, g1, Option.bind_some]
      simp (disch := first | omega | decide) only [f_M_reads_j42, e5, zI_0, zI_1, zI_2, zI_3, zI_4, zI_5, zI_6, zI_7, zI_8, zI_9, zI_10, zI_11, zI_12, zI_13, zI_14, zI_15, zI_16, zI_17, zI_18, zI_19, zI_20, zI_21, zI_22, zI_23, zI_24, zI_25, zI_26, zI_27, zI_28, zI_29, zI_30, zI_31, zI_32, zI_33, zI_34, zI_35, zI_36, zI_37, zI_38, zI_39, zI_40, zI_41, zI_42, zI_43, zI_44, zI_45, zI_46, zI_47, zI_48, zI_49, zI_50, zI_51, zI_52, zI_53, zI_54, zI_55, zI_56, zI_57, zI_58, zI_59, zI_60, zI_61, zI_62, zI_63, zI_64, zI_65, zI_66, zI_67, zI_74, zI_84, zI_85, zI_88, zI_91, zI_93, zI_97, zI_99, zI_100, zI_102, zI_105, zI_117, zI_122, zI_193, zI_202, zI_205, zI_251, zI_255, zI_256, zI_257, zI_258, zI_259, zI_260, zI_640, zI_999, zI_1000, zI_1024, zI_1600, zI_1602, zI_1700, zI_2040, zI_3200, zI_4100, zI_9728, zI_11784, zI_61440, zI_65536, zI_470536, zI_999999, zI_1000000, lt_T, lt_F, le_T, le_F, eq_T, eq_F, neg_1, cn_m1p, cn_m11, nI_add, cn_sub, pk_mul, cn_div, cn_irm, cn_lt, cn_eq, cn_ltm1, cn_m1lt, cn_eqm1, cn_m1eq, cn_ix, cn_inb, cn_ninb, cn_irs, cn_ils, cn_and, cn_or, cn_xor, grd_t, grd_bt, grd_bl, Nat.add_zero, Nat.zero_add, Nat.reduceAdd, Nat.reduceSub, Nat.reduceMul, Nat.reduceLT, Nat.reduceEqDiff, eq_self, true_and, and_true, and_false, false_and, if_true, if_false, and_self, Bool.true_eq_false, Bool.false_eq_true]
  · right
    have hp2 := X1.1
    have ll : (L ++ e).length = L.length + e.length := List.length_append
    obtain ⟨t1, g1, R1⟩ := hr _ _ (RT_rd (kd := kd) hB)
    obtain ⟨E1, X1'⟩ := CX_re E X1
    have hb1 : gI s1 410 9 = nI bn := by rw [X1.2.2.2.2.2.I 410 9 (by decide)]; exact hb
    obtain ⟨s2, f2, c1, c2, c3, c4, F2⟩ := place_n (N := N) (w := w) X1.2.2.2.2.1 (by omega) hw hb1 (fun c hc => ck_bd hck c hc) hN
    obtain ⟨r1, r2, r3, r4, r5, r6, r7⟩ := R1
    have m44 : gI t1 1044 0 = nI M := by rw [r1.I 1044 0 (by decide), (Fr_rd kd t).I 1044 0 (by decide)]; exact h44
    obtain ⟨t2, g2, m1', m2', m3, m4, m5, m6, F3⟩ := rcopy_n (N := N) hw r3 r2.2.2.1 m44 (by omega) hN
    have FF : Fr kRg t t1 := Fr_t (Fr_w (Fr_rd kd t) (by decide)) (Fr_w r1 (by decide))
    refine ⟨e, p', b', s2, t2, ?_, CE_fr F2 (by decide) E1, CX_fr F2 (by decide) X1', hp', hle, hck, c1, c2, fun i hi => ?_, c4, Fr_t (Fr_w X1.2.2.2.2.2 (by decide)) (Fr_w F2 (by decide)), ?_, RB_fr F3 (by decide) r2, m1', m2', m3, m4, fun i hi => ?_, fun i hi => ?_, Fr_t (Fr_w FF (fun k hk => List.mem_cons_of_mem _ (List.mem_cons_of_mem _ (List.mem_cons_of_mem _ (List.mem_cons_of_mem _ hk))))) (Fr_w F3 (by decide))⟩
    · rw [f1, Option.bind_some, f2]
    · obtain ⟨a1, a2⟩ := c3 i hi
      have F0 := X1.2.2.2.2.2
      exact ⟨a1.trans (F0.A 14 i (by decide)), a2.trans (F0.A 15 i (by decide))⟩
    · rw [hrd, g1, Option.bind_some, g2]
    · obtain ⟨a1, a2⟩ := m5 i hi
      exact ⟨a1.trans (FF.A 31 i (by decide)), a2.trans (FF.A 32 i (by decide))⟩
    · exact (m6 i hi).trans (FF.A 33 i (by decide))
end DRAFT
