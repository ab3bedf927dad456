/-! TEXT: bytes, cursors; tokens -/
def scn (q : Nat → Bool) : Nat → Nat → Nat
  | 0, i => i
  | m + 1, i => if q i then scn q m (i + 1) else i
theorem scn_ge (q : Nat → Bool) : ∀ m i, i ≤ scn q m i ∧ scn q m i ≤ i + m
  | 0, i => ⟨Nat.le_refl _, Nat.le_refl _⟩
  | m + 1, i => by
    have := scn_ge q m (i + 1)
    unfold scn; split <;> omega
theorem scn_in (q : Nat → Bool) : ∀ m i k, i ≤ k → k < scn q m i → q k = true
  | 0, i, k, h, h2 => by have h2 : k < i := h2; omega
  | m + 1, i, k, h, h2 => by
    unfold scn at h2
    split at h2
    · by_cases e : k = i
      · rw [e]; assumption
      · exact scn_in q m (i + 1) k (by omega) h2
    · omega
theorem scn_out (q : Nat → Bool) : ∀ m i, scn q m i < i + m → q (scn q m i) = false
  | 0, i, h => by have h : i < i := h; omega
  | m + 1, i, h => by
    unfold scn at h ⊢
    by_cases c : q i = true
    · rw [if_pos c] at h ⊢
      exact scn_out q m (i + 1) (by omega)
    · rw [if_neg c]
      cases e : q i
      · rfl
      · exact absurd e c
def isLe (c : Nat) : Bool := decide (97 ≤ c ∧ c ≤ 122)
def isDi (c : Nat) : Bool := decide (48 ≤ c ∧ c ≤ 57)
def isBl (c : Nat) : Bool := decide (c = 32 ∨ c = 10)
/-- behind blanks, behind letters, behind digits -/
def skp (tp : Nat → Nat) (n p : Nat) : Nat := scn (fun i => isBl (tp i)) (n - p) p
def wEn (tp : Nat → Nat) (n p : Nat) : Nat := scn (fun i => isLe (tp i)) (n - p) p
def dEn (tp : Nat → Nat) (n p : Nat) : Nat := scn (fun i => isDi (tp i)) (n - p) p
/-- the first k letters as a number, the first k digits -/
def spW (tp : Nat → Nat) (p k : Nat) : Nat := itN (fun i v => v * 100 + (tp (p + i) - 97 + 1)) k 0
def nuV (tp : Nat → Nat) (p k : Nat) : Nat := itN (fun i v => v * 10 + (tp (p + i) - 48)) k 0
def mSplN (j : Nat) : Nat := [415151819, 161518200518, 1601091420, 15160514, 1920090606, 2301121119, 3151204, 91212, 2021181419, 142113020518, 31512152118, 202118140504, 230815, 1409070820, 151605140504, 2009180504, 100113130504, 225, 14050118, 1518, 11404, 141520, 11212, 130914, 130124, 609181920, 12011920, 1506200514, 2015200112, 13151920, 1205011920].getD j 0
theorem mSpl_n : ∀ j, j < 31 → mSpl j = lN (mSplN j) ∧ mSplN j < 1000000000000 := by decide +kernel
/-- which word a spelling is: 0 none, else its number and 1 -/
def wIx (v n : Nat) : Nat := itN (fun k r => if mSplN k = v then k + 1 else r) n 0
theorem wIx_le (v : Nat) : ∀ n, wIx v n ≤ n :=
  itN_inv (fun i (x : Nat) => x ≤ i) (Nat.le_refl _) fun i x hx => by
    have hx : x ≤ i := hx
    show (if mSplN i = v then i + 1 else x) ≤ i + 1
    split <;> omega
def wId (sz v : Nat) : Nat := if sz ≤ 6 then wIx v 31 else 0
/-- the reader's text -/
def RxT (tp : Nat → Nat) (n : Nat) (s : mS) : Prop := n ≤ 1600 ∧ gI s 603 18 = nI n ∧ ∀ i, i < n → tp i < 256 ∧ gA s 1 i = nI (tp i)
theorem RxT_fr {tp : Nat → Nat} {n : Nat} {l : List Nat} {s s' : mS} (hF : Fr l s s') (hk : ∀ k ∈ [70318, 1], k ∉ l) (h : RxT tp n s) : RxT tp n s' :=
  ⟨h.1, by rw [hF.I 603 18 (hk _ (by decide))]; exact h.2.1, fun i hi => ⟨(h.2.2 i hi).1, by rw [hF.A 1 i (hk _ (by decide))]; exact (h.2.2 i hi).2⟩⟩
section LEX
variable {N n p : Nat} {tp : Nat → Nat} {s : mS}
theorem spW_s (tp : Nat → Nat) (p k : Nat) : spW tp p (k + 1) = spW tp p k * 100 + (tp (p + k) - 97 + 1) := rfl
theorem nuV_s (tp : Nat → Nat) (p k : Nat) : nuV tp p (k + 1) = nuV tp p k * 10 + (tp (p + k) - 48) := rfl
theorem spW_lt (h : ∀ i, i < 6 → p + i < wEn tp n p → tp (p + i) ≤ 122) : ∀ k, k ≤ 6 → p + k ≤ wEn tp n p → spW tp p k < 100 ^ k
  | 0, _, _ => Nat.one_pos
  | k + 1, h6, hk => by
    have h1 := spW_lt h k (by omega) (by omega)
    have h2 := h k (by omega) (by omega)
    rw [spW_s, Nat.pow_succ]
    omega
theorem word_in {i : Nat} (h : p + i < wEn tp n p) : 97 ≤ tp (p + i) ∧ tp (p + i) ≤ 122 :=
  of_decide_eq_true (scn_in (fun i => isLe (tp i)) (n - p) p (p + i) (by omega) h)
theorem dig_in {i : Nat} (h : p + i < dEn tp n p) : 48 ≤ tp (p + i) ∧ tp (p + i) ≤ 57 :=
  of_decide_eq_true (scn_in (fun i => isDi (tp i)) (n - p) p (p + i) (by omega) h)
theorem blk_in {i : Nat} (h : p + i < skp tp n p) : tp (p + i) = 32 ∨ tp (p + i) = 10 :=
  of_decide_eq_true (scn_in (fun i => isBl (tp i)) (n - p) p (p + i) (by omega) h)
theorem wEn_b (hp : p ≤ n) : p ≤ wEn tp n p ∧ wEn tp n p ≤ n := by
  have := scn_ge (fun i => isLe (tp i)) (n - p) p
  unfold wEn; omega
theorem dEn_b (hp : p ≤ n) : p ≤ dEn tp n p ∧ dEn tp n p ≤ n := by
  have := scn_ge (fun i => isDi (tp i)) (n - p) p
  unfold dEn; omega
theorem skp_b (hp : p ≤ n) : p ≤ skp tp n p ∧ skp tp n p ≤ n := by
  have := scn_ge (fun i => isBl (tp i)) (n - p) p
  unfold skp; omega
theorem wEn_o (hp : p ≤ n) (h : wEn tp n p < n) : tp (wEn tp n p) < 97 ∨ 122 < tp (wEn tp n p) := by
  have := of_decide_eq_false (scn_out (fun i => isLe (tp i)) (n - p) p (by unfold wEn at h; omega))
  unfold wEn; omega
theorem dEn_o (hp : p ≤ n) (h : dEn tp n p < n) : tp (dEn tp n p) < 48 ∨ 57 < tp (dEn tp n p) := by
  have := of_decide_eq_false (scn_out (fun i => isDi (tp i)) (n - p) p (by unfold dEn at h; omega))
  unfold dEn; omega
theorem skp_o (hp : p ≤ n) (h : skp tp n p < n) : tp (skp tp n p) ≠ 32 ∧ tp (skp tp n p) ≠ 10 := by
  have := of_decide_eq_false (scn_out (fun i => isBl (tp i)) (n - p) p (by unfold skp at h; omega))
  unfold skp; omega
def kRw : List Nat := [70418, 70718, 70818, 260918]
theorem findW_n {sz v : Nat} (hs : gI s 607 18 = nI sz) (hz : sz ≤ 1600) (hv : gL s 609 18 = lN v) (hv2 : v < 1000000000000) (h0 : gI s 608 18 = m1) (hN : 10000 ≤ N) :
    ∃ s', mfix N (f_Rd_readWord_L106 N) (nI 0, s) = some s' ∧ gI s' 608 18 = nI (wId sz v) + m1 ∧ Fr [70818] s s' := by
  have hl : Ok (mfix N (f_Rd_readWord_L106 N) (nI 0, s)) (fun r => gI r 608 18 = nI (wId sz v) + m1 ∧ Fr [70818] s r) := by
    refine mfix_up (fun i x => ∃ s1, x = (nI i, s1) ∧ gI s1 608 18 = nI (if sz ≤ 6 then wIx v i else 0) + m1 ∧ Fr [70818] s s1) 31 ?_ ?_ N 0 _ ⟨s, rfl, by rw [h0, show (if sz ≤ 6 then wIx v 0 else 0) = 0 from by split <;> rfl]; rfl, Fr_r _ _⟩ (Nat.zero_le _) (by omega)
    · rintro i k x hi ⟨s1, rfl, g, F⟩ hk
      have e1 : gI s1 607 18 = nI sz := by rw [F.I 607 18 (by decide)]; exact hs
      have e2 : gL s1 609 18 = lN v := by rw [F.L 609 18 (by decide)]; exact hv
      obtain ⟨m2, m3⟩ := mSpl_n i hi
      by_cases c : sz ≤ 6
      · rw [if_pos c] at g
        have q : (lg_cmp (lN (mSplN i)) (lN v) = 0) = (mSplN i = v) := by
          rw [← zl_lN, ← zl_lN, zc_eq (by omega)]
          exact propext ⟨fun h => by omega, fun h => by omega⟩
        by_cases cv : mSplN i = v
        · have q := q.trans (eq_true cv)
          simp only [zI_0] at q
          simp (disch := first | omega | decide) only [f_Rd_readWord_L106, zI_0, zI_1, zI_2, zI_3, zI_4, zI_5, zI_6, zI_7, zI_8, zI_9, zI_10, zI_11, zI_12, zI_13, zI_14, zI_15, zI_16, zI_17, zI_18, zI_19, zI_20, zI_21, zI_22, zI_23, zI_24, zI_25, zI_26, zI_27, zI_28, zI_29, zI_30, zI_31, zI_32, zI_33, zI_34, zI_35, zI_36, zI_37, zI_38, zI_39, zI_40, zI_41, zI_42, zI_43, zI_44, zI_45, zI_46, zI_47, zI_48, zI_49, zI_50, zI_51, zI_52, zI_53, zI_54, zI_55, zI_56, zI_57, zI_58, zI_59, zI_60, zI_61, zI_62, zI_63, zI_64, zI_65, zI_66, zI_67, zI_74, zI_84, zI_85, zI_88, zI_91, zI_93, zI_97, zI_99, zI_100, zI_102, zI_105, zI_117, zI_122, zI_193, zI_202, zI_205, zI_251, zI_255, zI_256, zI_257, zI_258, zI_259, zI_260, zI_640, zI_999, zI_1000, zI_1024, zI_1600, zI_1602, zI_1700, zI_2040, zI_3200, zI_4100, zI_9728, zI_11784, zI_61440, zI_65536, zI_470536, zI_999999, zI_1000000, lt_T, lt_F, le_T, le_F, eq_T, eq_F, neg_1, cn_m1p, cn_m11, nI_add, cn_sub, pk_mul, cn_div, cn_irm, cn_lt, cn_eq, cn_ltm1, cn_m1lt, cn_eqm1, cn_m1eq, cn_ix, cn_inb, cn_ninb, cn_irs, cn_ils, cn_and, cn_or, cn_xor, grd_t, grd_bt, grd_bl, Nat.add_zero, Nat.zero_add, Nat.reduceAdd, Nat.reduceSub, Nat.reduceMul, Nat.reduceLT, Nat.reduceEqDiff, eq_self, true_and, and_true, and_false, false_and, if_true, if_false, and_self, Bool.true_eq_false, Bool.false_eq_true, e1, e2, m2, q]
          refine hk _ ⟨_, rfl, ?_, Fr_t F (Fr_sI _ _ _ (by decide))⟩
          rw [if_pos c, show wIx v (i + 1) = i + 1 from if_pos cv]
          simp (disch := first | omega | decide) only [gI_sI, gI_sA, gI_sL, gI_sQ, gI_sC, gI_sO, gI_sD, gA_sI, gA_sL, gA_sQ, gA_sO, gA_sD, gL_sI, gL_sA, gL_sQ, gL_sC, gL_sO, gL_sD, gQ_sI, gQ_sA, gQ_sL, gQ_sC, gQ_sO, gO_sI, gO_sA, gO_sL, gO_sQ, gO_sC, gO_sO, gO_sD, gA_eq, gA_ne, gQ_eq, gQ_ne, gL_sL, gA_cin, gA_cou, gQ_cin, gQ_cou, Nat.reduceAdd, Nat.reduceSub, Nat.reduceMul, Nat.reduceLT, Nat.reduceEqDiff, eq_self, true_and, and_true, and_false, false_and, if_true, if_false, and_self, Bool.true_eq_false, Bool.false_eq_true]
          rw [← nI_add, Int32.add_assoc, show nI 1 + m1 = 0 from rfl, Int32.add_zero]
        · have q := q.trans (eq_false cv)
          simp only [zI_0] at q
          simp (disch := first | omega | decide) only [f_Rd_readWord_L106, zI_0, zI_1, zI_2, zI_3, zI_4, zI_5, zI_6, zI_7, zI_8, zI_9, zI_10, zI_11, zI_12, zI_13, zI_14, zI_15, zI_16, zI_17, zI_18, zI_19, zI_20, zI_21, zI_22, zI_23, zI_24, zI_25, zI_26, zI_27, zI_28, zI_29, zI_30, zI_31, zI_32, zI_33, zI_34, zI_35, zI_36, zI_37, zI_38, zI_39, zI_40, zI_41, zI_42, zI_43, zI_44, zI_45, zI_46, zI_47, zI_48, zI_49, zI_50, zI_51, zI_52, zI_53, zI_54, zI_55, zI_56, zI_57, zI_58, zI_59, zI_60, zI_61, zI_62, zI_63, zI_64, zI_65, zI_66, zI_67, zI_74, zI_84, zI_85, zI_88, zI_91, zI_93, zI_97, zI_99, zI_100, zI_102, zI_105, zI_117, zI_122, zI_193, zI_202, zI_205, zI_251, zI_255, zI_256, zI_257, zI_258, zI_259, zI_260, zI_640, zI_999, zI_1000, zI_1024, zI_1600, zI_1602, zI_1700, zI_2040, zI_3200, zI_4100, zI_9728, zI_11784, zI_61440, zI_65536, zI_470536, zI_999999, zI_1000000, lt_T, lt_F, le_T, le_F, eq_T, eq_F, neg_1, cn_m1p, cn_m11, nI_add, cn_sub, pk_mul, cn_div, cn_irm, cn_lt, cn_eq, cn_ltm1, cn_m1lt, cn_eqm1, cn_m1eq, cn_ix, cn_inb, cn_ninb, cn_irs, cn_ils, cn_and, cn_or, cn_xor, grd_t, grd_bt, grd_bl, Nat.add_zero, Nat.zero_add, Nat.reduceAdd, Nat.reduceSub, Nat.reduceMul, Nat.reduceLT, Nat.reduceEqDiff, eq_self, true_and, and_true, and_false, false_and, if_true, if_false, and_self, Bool.true_eq_false, Bool.false_eq_true, e1, e2, m2, q]
          refine hk _ ⟨s1, rfl, ?_, F⟩
          rw [if_pos c, show wIx v (i + 1) = wIx v i from if_neg cv]; exact g
      · rw [if_neg c] at g
        simp (disch := first | omega | decide) only [f_Rd_readWord_L106, zI_0, zI_1, zI_2, zI_3, zI_4, zI_5, zI_6, zI_7, zI_8, zI_9, zI_10, zI_11, zI_12, zI_13, zI_14, zI_15, zI_16, zI_17, zI_18, zI_19, zI_20, zI_21, zI_22, zI_23, zI_24, zI_25, zI_26, zI_27, zI_28, zI_29, zI_30, zI_31, zI_32, zI_33, zI_34, zI_35, zI_36, zI_37, zI_38, zI_39, zI_40, zI_41, zI_42, zI_43, zI_44, zI_45, zI_46, zI_47, zI_48, zI_49, zI_50, zI_51, zI_52, zI_53, zI_54, zI_55, zI_56, zI_57, zI_58, zI_59, zI_60, zI_61, zI_62, zI_63, zI_64, zI_65, zI_66, zI_67, zI_74, zI_84, zI_85, zI_88, zI_91, zI_93, zI_97, zI_99, zI_100, zI_102, zI_105, zI_117, zI_122, zI_193, zI_202, zI_205, zI_251, zI_255, zI_256, zI_257, zI_258, zI_259, zI_260, zI_640, zI_999, zI_1000, zI_1024, zI_1600, zI_1602, zI_1700, zI_2040, zI_3200, zI_4100, zI_9728, zI_11784, zI_61440, zI_65536, zI_470536, zI_999999, zI_1000000, lt_T, lt_F, le_T, le_F, eq_T, eq_F, neg_1, cn_m1p, cn_m11, nI_add, cn_sub, pk_mul, cn_div, cn_irm, cn_lt, cn_eq, cn_ltm1, cn_m1lt, cn_eqm1, cn_m1eq, cn_ix, cn_inb, cn_ninb, cn_irs, cn_ils, cn_and, cn_or, cn_xor, grd_t, grd_bt, grd_bl, Nat.add_zero, Nat.zero_add, Nat.reduceAdd, Nat.reduceSub, Nat.reduceMul, Nat.reduceLT, Nat.reduceEqDiff, eq_self, true_and, and_true, and_false, false_and, if_true, if_false, and_self, Bool.true_eq_false, Bool.false_eq_true, e1]
        exact hk _ ⟨s1, rfl, by rw [if_neg c]; exact g, F⟩
    · rintro k x ⟨s1, rfl, g, F⟩
      simp (disch := first | omega | decide) only [f_Rd_readWord_L106, zI_0, zI_1, zI_2, zI_3, zI_4, zI_5, zI_6, zI_7, zI_8, zI_9, zI_10, zI_11, zI_12, zI_13, zI_14, zI_15, zI_16, zI_17, zI_18, zI_19, zI_20, zI_21, zI_22, zI_23, zI_24, zI_25, zI_26, zI_27, zI_28, zI_29, zI_30, zI_31, zI_32, zI_33, zI_34, zI_35, zI_36, zI_37, zI_38, zI_39, zI_40, zI_41, zI_42, zI_43, zI_44, zI_45, zI_46, zI_47, zI_48, zI_49, zI_50, zI_51, zI_52, zI_53, zI_54, zI_55, zI_56, zI_57, zI_58, zI_59, zI_60, zI_61, zI_62, zI_63, zI_64, zI_65, zI_66, zI_67, zI_74, zI_84, zI_85, zI_88, zI_91, zI_93, zI_97, zI_99, zI_100, zI_102, zI_105, zI_117, zI_122, zI_193, zI_202, zI_205, zI_251, zI_255, zI_256, zI_257, zI_258, zI_259, zI_260, zI_640, zI_999, zI_1000, zI_1024, zI_1600, zI_1602, zI_1700, zI_2040, zI_3200, zI_4100, zI_9728, zI_11784, zI_61440, zI_65536, zI_470536, zI_999999, zI_1000000, lt_T, lt_F, le_T, le_F, eq_T, eq_F, neg_1, cn_m1p, cn_m11, nI_add, cn_sub, pk_mul, cn_div, cn_irm, cn_lt, cn_eq, cn_ltm1, cn_m1lt, cn_eqm1, cn_m1eq, cn_ix, cn_inb, cn_ninb, cn_irs, cn_ils, cn_and, cn_or, cn_xor, grd_t, grd_bt, grd_bl, Nat.add_zero, Nat.zero_add, Nat.reduceAdd, Nat.reduceSub, Nat.reduceMul, Nat.reduceLT, Nat.reduceEqDiff, eq_self, true_and, and_true, and_false, false_and, if_true, if_false, and_self, Bool.true_eq_false, Bool.false_eq_true]
      exact Ok_some ⟨g, F⟩
  obtain ⟨x, x1, x2, x3⟩ := hl
  exact ⟨x, x1, x2, x3⟩
theorem readWord_n (hT : RxT tp n s) (hp : p ≤ n) (h1 : gI s 604 18 = nI p) (h2 : gI s 607 18 = nI 0) (h3 : gL s 609 18 = lN 0) (hN : 10000 ≤ N) :
    ∃ s', f_Rd_readWord N s = some s' ∧ gI s' 604 18 = nI (wEn tp n p) ∧ gI s' 607 18 = nI (wEn tp n p - p) ∧ gI s' 608 18 = nI (wId (wEn tp n p - p) (spW tp p (min 6 (wEn tp n p - p)))) + m1 ∧ gL s' 609 18 = lN (spW tp p (min 6 (wEn tp n p - p))) ∧ Fr kRw s s' := by
  obtain ⟨hn, hT1, hT2⟩ := hT
  have wb := wEn_b (tp := tp) hp
  have w97 : ∀ i, p + i < wEn tp n p → 97 ≤ tp (p + i) ∧ tp (p + i) ≤ 122 := fun i h => word_in h
  have sl : ∀ k, k ≤ 6 → p + k ≤ wEn tp n p → spW tp p k < 1000000000000 := fun k h6 hk =>
    Nat.lt_of_lt_of_le (spW_lt (n := n) (fun i _ h => (w97 i h).2) k h6 hk) (Nat.pow_le_pow_right (n := 100) (by omega) h6)
  have hl : Ok (mfix N (f_Rd_readWord_L0 N) s) (fun r => gI r 604 18 = nI (wEn tp n p) ∧ gI r 607 18 = nI (wEn tp n p - p) ∧ gI r 608 18 = nI (wId (wEn tp n p - p) (spW tp p (min 6 (wEn tp n p - p)))) + m1 ∧ gL r 609 18 = lN (spW tp p (min 6 (wEn tp n p - p))) ∧ Fr kRw s r) := by
    refine mfix_up (fun i s1 => gI s1 604 18 = nI (p + i) ∧ gI s1 607 18 = nI i ∧ gL s1 609 18 = lN (spW tp p (min 6 i)) ∧ Fr kRw s s1) (wEn tp n p - p) ?_ ?_ N 0 _ ⟨h1, h2, h3, Fr_r _ _⟩ (Nat.zero_le _) (by omega)
    · rintro i k s1 hi ⟨g1, g2, g3, F⟩ hk
      have e1 : gI s1 603 18 = nI n := by rw [F.I 603 18 (by decide)]; exact hT1
      have e2 : gA s1 1 (p + i) = nI (tp (p + i)) := by rw [F.A 1 _ (by decide)]; exact (hT2 _ (by omega)).2
      obtain ⟨a1, a2⟩ := w97 i (by omega)
      by_cases c : i < 6
      · have e3 : lN (spW tp p (min 6 i)) * 100 + (nI (tp (p + i) - 97 + 1)).toInt64 = lN (spW tp p (min 6 (i + 1))) := by
          rw [Nat.min_eq_right (by omega), Nat.min_eq_right (by omega), spW_s, nI_l (by omega), show (100 : Int64) = lN 100 from rfl, qN_mul, qN_add]
        simp (disch := first | omega | decide) only [f_Rd_readWord_L0, f_Rd_readWord_j76, zI_0, zI_1, zI_2, zI_3, zI_4, zI_5, zI_6, zI_7, zI_8, zI_9, zI_10, zI_11, zI_12, zI_13, zI_14, zI_15, zI_16, zI_17, zI_18, zI_19, zI_20, zI_21, zI_22, zI_23, zI_24, zI_25, zI_26, zI_27, zI_28, zI_29, zI_30, zI_31, zI_32, zI_33, zI_34, zI_35, zI_36, zI_37, zI_38, zI_39, zI_40, zI_41, zI_42, zI_43, zI_44, zI_45, zI_46, zI_47, zI_48, zI_49, zI_50, zI_51, zI_52, zI_53, zI_54, zI_55, zI_56, zI_57, zI_58, zI_59, zI_60, zI_61, zI_62, zI_63, zI_64, zI_65, zI_66, zI_67, zI_74, zI_84, zI_85, zI_88, zI_91, zI_93, zI_97, zI_99, zI_100, zI_102, zI_105, zI_117, zI_122, zI_193, zI_202, zI_205, zI_251, zI_255, zI_256, zI_257, zI_258, zI_259, zI_260, zI_640, zI_999, zI_1000, zI_1024, zI_1600, zI_1602, zI_1700, zI_2040, zI_3200, zI_4100, zI_9728, zI_11784, zI_61440, zI_65536, zI_470536, zI_999999, zI_1000000, lt_T, lt_F, le_T, le_F, eq_T, eq_F, neg_1, cn_m1p, cn_m11, nI_add, cn_sub, pk_mul, cn_div, cn_irm, cn_lt, cn_eq, cn_ltm1, cn_m1lt, cn_eqm1, cn_m1eq, cn_ix, cn_inb, cn_ninb, cn_irs, cn_ils, cn_and, cn_or, cn_xor, grd_t, grd_bt, grd_bl, Nat.add_zero, Nat.zero_add, Nat.reduceAdd, Nat.reduceSub, Nat.reduceMul, Nat.reduceLT, Nat.reduceEqDiff, eq_self, true_and, and_true, and_false, false_and, if_true, if_false, and_self, Bool.true_eq_false, Bool.false_eq_true, gI_sI, gI_sA, gI_sL, gI_sQ, gI_sC, gI_sO, gI_sD, gA_sI, gA_sL, gA_sQ, gA_sO, gA_sD, gL_sI, gL_sA, gL_sQ, gL_sC, gL_sO, gL_sD, gQ_sI, gQ_sA, gQ_sL, gQ_sC, gQ_sO, gO_sI, gO_sA, gO_sL, gO_sQ, gO_sC, gO_sO, gO_sD, gA_eq, gA_ne, gQ_eq, gQ_ne, gL_sL, gA_cin, gA_cou, gQ_cin, gQ_cou, g1, g2, g3, e1, e2, e3]
        exact hk _ ⟨by simp (disch := first | omega | decide) only [gI_sI, gI_sA, gI_sL, gI_sQ, gI_sC, gI_sO, gI_sD, gA_sI, gA_sL, gA_sQ, gA_sO, gA_sD, gL_sI, gL_sA, gL_sQ, gL_sC, gL_sO, gL_sD, gQ_sI, gQ_sA, gQ_sL, gQ_sC, gQ_sO, gO_sI, gO_sA, gO_sL, gO_sQ, gO_sC, gO_sO, gO_sD, gA_eq, gA_ne, gQ_eq, gQ_ne, gL_sL, gA_cin, gA_cou, gQ_cin, gQ_cou, Nat.reduceAdd, Nat.reduceSub, Nat.reduceMul, Nat.reduceLT, Nat.reduceEqDiff, eq_self, true_and, and_true, and_false, false_and, if_true, if_false, and_self, Bool.true_eq_false, Bool.false_eq_true, Nat.add_assoc], by simp (disch := first | omega | decide) only [gI_sI, gI_sA, gI_sL, gI_sQ, gI_sC, gI_sO, gI_sD, gA_sI, gA_sL, gA_sQ, gA_sO, gA_sD, gL_sI, gL_sA, gL_sQ, gL_sC, gL_sO, gL_sD, gQ_sI, gQ_sA, gQ_sL, gQ_sC, gQ_sO, gO_sI, gO_sA, gO_sL, gO_sQ, gO_sC, gO_sO, gO_sD, gA_eq, gA_ne, gQ_eq, gQ_ne, gL_sL, gA_cin, gA_cou, gQ_cin, gQ_cou, Nat.reduceAdd, Nat.reduceSub, Nat.reduceMul, Nat.reduceLT, Nat.reduceEqDiff, eq_self, true_and, and_true, and_false, false_and, if_true, if_false, and_self, Bool.true_eq_false, Bool.false_eq_true], by simp (disch := first | omega | decide) only [gI_sI, gI_sA, gI_sL, gI_sQ, gI_sC, gI_sO, gI_sD, gA_sI, gA_sL, gA_sQ, gA_sO, gA_sD, gL_sI, gL_sA, gL_sQ, gL_sC, gL_sO, gL_sD, gQ_sI, gQ_sA, gQ_sL, gQ_sC, gQ_sO, gO_sI, gO_sA, gO_sL, gO_sQ, gO_sC, gO_sO, gO_sD, gA_eq, gA_ne, gQ_eq, gQ_ne, gL_sL, gA_cin, gA_cou, gQ_cin, gQ_cou, Nat.reduceAdd, Nat.reduceSub, Nat.reduceMul, Nat.reduceLT, Nat.reduceEqDiff, eq_self, true_and, and_true, and_false, false_and, if_true, if_false, and_self, Bool.true_eq_false, Bool.false_eq_true], Fr_t F (Fr_t (Fr_sL _ _ _ (by decide)) (Fr_t (Fr_sI _ _ _ (by decide)) (Fr_sI _ _ _ (by decide))))⟩
      · simp (disch := first | omega | decide) only [f_Rd_readWord_L0, f_Rd_readWord_j76, zI_0, zI_1, zI_2, zI_3, zI_4, zI_5, zI_6, zI_7, zI_8, zI_9, zI_10, zI_11, zI_12, zI_13, zI_14, zI_15, zI_16, zI_17, zI_18, zI_19, zI_20, zI_21, zI_22, zI_23, zI_24, zI_25, zI_26, zI_27, zI_28, zI_29, zI_30, zI_31, zI_32, zI_33, zI_34, zI_35, zI_36, zI_37, zI_38, zI_39, zI_40, zI_41, zI_42, zI_43, zI_44, zI_45, zI_46, zI_47, zI_48, zI_49, zI_50, zI_51, zI_52, zI_53, zI_54, zI_55, zI_56, zI_57, zI_58, zI_59, zI_60, zI_61, zI_62, zI_63, zI_64, zI_65, zI_66, zI_67, zI_74, zI_84, zI_85, zI_88, zI_91, zI_93, zI_97, zI_99, zI_100, zI_102, zI_105, zI_117, zI_122, zI_193, zI_202, zI_205, zI_251, zI_255, zI_256, zI_257, zI_258, zI_259, zI_260, zI_640, zI_999, zI_1000, zI_1024, zI_1600, zI_1602, zI_1700, zI_2040, zI_3200, zI_4100, zI_9728, zI_11784, zI_61440, zI_65536, zI_470536, zI_999999, zI_1000000, lt_T, lt_F, le_T, le_F, eq_T, eq_F, neg_1, cn_m1p, cn_m11, nI_add, cn_sub, pk_mul, cn_div, cn_irm, cn_lt, cn_eq, cn_ltm1, cn_m1lt, cn_eqm1, cn_m1eq, cn_ix, cn_inb, cn_ninb, cn_irs, cn_ils, cn_and, cn_or, cn_xor, grd_t, grd_bt, grd_bl, Nat.add_zero, Nat.zero_add, Nat.reduceAdd, Nat.reduceSub, Nat.reduceMul, Nat.reduceLT, Nat.reduceEqDiff, eq_self, true_and, and_true, and_false, false_and, if_true, if_false, and_self, Bool.true_eq_false, Bool.false_eq_true, gI_sI, gI_sA, gI_sL, gI_sQ, gI_sC, gI_sO, gI_sD, gA_sI, gA_sL, gA_sQ, gA_sO, gA_sD, gL_sI, gL_sA, gL_sQ, gL_sC, gL_sO, gL_sD, gQ_sI, gQ_sA, gQ_sL, gQ_sC, gQ_sO, gO_sI, gO_sA, gO_sL, gO_sQ, gO_sC, gO_sO, gO_sD, gA_eq, gA_ne, gQ_eq, gQ_ne, gL_sL, gA_cin, gA_cou, gQ_cin, gQ_cou, g1, g2, e1, e2]
        exact hk _ ⟨by simp (disch := first | omega | decide) only [gI_sI, gI_sA, gI_sL, gI_sQ, gI_sC, gI_sO, gI_sD, gA_sI, gA_sL, gA_sQ, gA_sO, gA_sD, gL_sI, gL_sA, gL_sQ, gL_sC, gL_sO, gL_sD, gQ_sI, gQ_sA, gQ_sL, gQ_sC, gQ_sO, gO_sI, gO_sA, gO_sL, gO_sQ, gO_sC, gO_sO, gO_sD, gA_eq, gA_ne, gQ_eq, gQ_ne, gL_sL, gA_cin, gA_cou, gQ_cin, gQ_cou, Nat.reduceAdd, Nat.reduceSub, Nat.reduceMul, Nat.reduceLT, Nat.reduceEqDiff, eq_self, true_and, and_true, and_false, false_and, if_true, if_false, and_self, Bool.true_eq_false, Bool.false_eq_true, Nat.add_assoc], by simp (disch := first | omega | decide) only [gI_sI, gI_sA, gI_sL, gI_sQ, gI_sC, gI_sO, gI_sD, gA_sI, gA_sL, gA_sQ, gA_sO, gA_sD, gL_sI, gL_sA, gL_sQ, gL_sC, gL_sO, gL_sD, gQ_sI, gQ_sA, gQ_sL, gQ_sC, gQ_sO, gO_sI, gO_sA, gO_sL, gO_sQ, gO_sC, gO_sO, gO_sD, gA_eq, gA_ne, gQ_eq, gQ_ne, gL_sL, gA_cin, gA_cou, gQ_cin, gQ_cou, Nat.reduceAdd, Nat.reduceSub, Nat.reduceMul, Nat.reduceLT, Nat.reduceEqDiff, eq_self, true_and, and_true, and_false, false_and, if_true, if_false, and_self, Bool.true_eq_false, Bool.false_eq_true], by simp (disch := first | omega | decide) only [gI_sI, gI_sA, gI_sL, gI_sQ, gI_sC, gI_sO, gI_sD, gA_sI, gA_sL, gA_sQ, gA_sO, gA_sD, gL_sI, gL_sA, gL_sQ, gL_sC, gL_sO, gL_sD, gQ_sI, gQ_sA, gQ_sL, gQ_sC, gQ_sO, gO_sI, gO_sA, gO_sL, gO_sQ, gO_sC, gO_sO, gO_sD, gA_eq, gA_ne, gQ_eq, gQ_ne, gL_sL, gA_cin, gA_cou, gQ_cin, gQ_cou, Nat.reduceAdd, Nat.reduceSub, Nat.reduceMul, Nat.reduceLT, Nat.reduceEqDiff, eq_self, true_and, and_true, and_false, false_and, if_true, if_false, and_self, Bool.true_eq_false, Bool.false_eq_true]; rw [g3, Nat.min_eq_left (by omega), Nat.min_eq_left (by omega)], Fr_t F (Fr_t (Fr_sI _ _ _ (by decide)) (Fr_sI _ _ _ (by decide)))⟩
    · rintro k s1 ⟨g1, g2, g3, F⟩
      rw [show p + (wEn tp n p - p) = wEn tp n p by omega] at g1
      have e1 : gI s1 603 18 = nI n := by rw [F.I 603 18 (by decide)]; exact hT1
      have F1 : Fr [70818] s1 (sI s1 608 18 m1) := Fr_sI _ _ _ (by decide)
      obtain ⟨s2, f1, f2, F2⟩ := findW_n (N := N) (s := sI s1 608 18 m1) (sz := wEn tp n p - p) (v := spW tp p (min 6 (wEn tp n p - p))) g2 (by omega) g3 (sl _ (Nat.min_le_left _ _) (by omega)) (by simp (disch := first | omega | decide) only [gI_sI, gI_sA, gI_sL, gI_sQ, gI_sC, gI_sO, gI_sD, gA_sI, gA_sL, gA_sQ, gA_sO, gA_sD, gL_sI, gL_sA, gL_sQ, gL_sC, gL_sO, gL_sD, gQ_sI, gQ_sA, gQ_sL, gQ_sC, gQ_sO, gO_sI, gO_sA, gO_sL, gO_sQ, gO_sC, gO_sO, gO_sD, gA_eq, gA_ne, gQ_eq, gQ_ne, gL_sL, gA_cin, gA_cou, gQ_cin, gQ_cou, Nat.reduceAdd, Nat.reduceSub, Nat.reduceMul, Nat.reduceLT, Nat.reduceEqDiff, eq_self, true_and, and_true, and_false, false_and, if_true, if_false, and_self, Bool.true_eq_false, Bool.false_eq_true]) hN
      have fin : Ok (some s2) (fun r => gI r 604 18 = nI (wEn tp n p) ∧ gI r 607 18 = nI (wEn tp n p - p) ∧ gI r 608 18 = nI (wId (wEn tp n p - p) (spW tp p (min 6 (wEn tp n p - p)))) + m1 ∧ gL r 609 18 = lN (spW tp p (min 6 (wEn tp n p - p))) ∧ Fr kRw s r) := by
        have F12 : Fr [70818] s1 s2 := Fr_t F1 F2
        exact Ok_some ⟨by rw [F12.I 604 18 (by decide)]; exact g1, by rw [F12.I 607 18 (by decide)]; exact g2, f2, by rw [F12.L 609 18 (by decide)]; exact g3, Fr_t F (Fr_w F12 (by decide))⟩
      by_cases c : wEn tp n p < n
      · have e2 : gA s1 1 (wEn tp n p) = nI (tp (wEn tp n p)) := by rw [F.A 1 _ (by decide)]; exact (hT2 _ c).2
        have hb := (hT2 _ c).1
        have o := wEn_o hp c
        by_cases c2 : tp (wEn tp n p) < 97
        · simp (disch := first | omega | decide) only [f_Rd_readWord_L0, zI_0, zI_1, zI_2, zI_3, zI_4, zI_5, zI_6, zI_7, zI_8, zI_9, zI_10, zI_11, zI_12, zI_13, zI_14, zI_15, zI_16, zI_17, zI_18, zI_19, zI_20, zI_21, zI_22, zI_23, zI_24, zI_25, zI_26, zI_27, zI_28, zI_29, zI_30, zI_31, zI_32, zI_33, zI_34, zI_35, zI_36, zI_37, zI_38, zI_39, zI_40, zI_41, zI_42, zI_43, zI_44, zI_45, zI_46, zI_47, zI_48, zI_49, zI_50, zI_51, zI_52, zI_53, zI_54, zI_55, zI_56, zI_57, zI_58, zI_59, zI_60, zI_61, zI_62, zI_63, zI_64, zI_65, zI_66, zI_67, zI_74, zI_84, zI_85, zI_88, zI_91, zI_93, zI_97, zI_99, zI_100, zI_102, zI_105, zI_117, zI_122, zI_193, zI_202, zI_205, zI_251, zI_255, zI_256, zI_257, zI_258, zI_259, zI_260, zI_640, zI_999, zI_1000, zI_1024, zI_1600, zI_1602, zI_1700, zI_2040, zI_3200, zI_4100, zI_9728, zI_11784, zI_61440, zI_65536, zI_470536, zI_999999, zI_1000000, lt_T, lt_F, le_T, le_F, eq_T, eq_F, neg_1, cn_m1p, cn_m11, nI_add, cn_sub, pk_mul, cn_div, cn_irm, cn_lt, cn_eq, cn_ltm1, cn_m1lt, cn_eqm1, cn_m1eq, cn_ix, cn_inb, cn_ninb, cn_irs, cn_ils, cn_and, cn_or, cn_xor, grd_t, grd_bt, grd_bl, Nat.add_zero, Nat.zero_add, Nat.reduceAdd, Nat.reduceSub, Nat.reduceMul, Nat.reduceLT, Nat.reduceEqDiff, eq_self, true_and, and_true, and_false, false_and, if_true, if_false, and_self, Bool.true_eq_false, Bool.false_eq_true, gI_sI, gI_sA, gI_sL, gI_sQ, gI_sC, gI_sO, gI_sD, gA_sI, gA_sL, gA_sQ, gA_sO, gA_sD, gL_sI, gL_sA, gL_sQ, gL_sC, gL_sO, gL_sD, gQ_sI, gQ_sA, gQ_sL, gQ_sC, gQ_sO, gO_sI, gO_sA, gO_sL, gO_sQ, gO_sC, gO_sO, gO_sD, gA_eq, gA_ne, gQ_eq, gQ_ne, gL_sL, gA_cin, gA_cou, gQ_cin, gQ_cou, g1, e1, e2, f1]
          exact fin
        · simp (disch := first | omega | decide) only [f_Rd_readWord_L0, zI_0, zI_1, zI_2, zI_3, zI_4, zI_5, zI_6, zI_7, zI_8, zI_9, zI_10, zI_11, zI_12, zI_13, zI_14, zI_15, zI_16, zI_17, zI_18, zI_19, zI_20, zI_21, zI_22, zI_23, zI_24, zI_25, zI_26, zI_27, zI_28, zI_29, zI_30, zI_31, zI_32, zI_33, zI_34, zI_35, zI_36, zI_37, zI_38, zI_39, zI_40, zI_41, zI_42, zI_43, zI_44, zI_45, zI_46, zI_47, zI_48, zI_49, zI_50, zI_51, zI_52, zI_53, zI_54, zI_55, zI_56, zI_57, zI_58, zI_59, zI_60, zI_61, zI_62, zI_63, zI_64, zI_65, zI_66, zI_67, zI_74, zI_84, zI_85, zI_88, zI_91, zI_93, zI_97, zI_99, zI_100, zI_102, zI_105, zI_117, zI_122, zI_193, zI_202, zI_205, zI_251, zI_255, zI_256, zI_257, zI_258, zI_259, zI_260, zI_640, zI_999, zI_1000, zI_1024, zI_1600, zI_1602, zI_1700, zI_2040, zI_3200, zI_4100, zI_9728, zI_11784, zI_61440, zI_65536, zI_470536, zI_999999, zI_1000000, lt_T, lt_F, le_T, le_F, eq_T, eq_F, neg_1, cn_m1p, cn_m11, nI_add, cn_sub, pk_mul, cn_div, cn_irm, cn_lt, cn_eq, cn_ltm1, cn_m1lt, cn_eqm1, cn_m1eq, cn_ix, cn_inb, cn_ninb, cn_irs, cn_ils, cn_and, cn_or, cn_xor, grd_t, grd_bt, grd_bl, Nat.add_zero, Nat.zero_add, Nat.reduceAdd, Nat.reduceSub, Nat.reduceMul, Nat.reduceLT, Nat.reduceEqDiff, eq_self, true_and, and_true, and_false, false_and, if_true, if_false, and_self, Bool.true_eq_false, Bool.false_eq_true, gI_sI, gI_sA, gI_sL, gI_sQ, gI_sC, gI_sO, gI_sD, gA_sI, gA_sL, gA_sQ, gA_sO, gA_sD, gL_sI, gL_sA, gL_sQ, gL_sC, gL_sO, gL_sD, gQ_sI, gQ_sA, gQ_sL, gQ_sC, gQ_sO, gO_sI, gO_sA, gO_sL, gO_sQ, gO_sC, gO_sO, gO_sD, gA_eq, gA_ne, gQ_eq, gQ_ne, gL_sL, gA_cin, gA_cou, gQ_cin, gQ_cou, g1, e1, e2, f1]
          exact fin
      · simp (disch := first | omega | decide) only [f_Rd_readWord_L0, zI_0, zI_1, zI_2, zI_3, zI_4, zI_5, zI_6, zI_7, zI_8, zI_9, zI_10, zI_11, zI_12, zI_13, zI_14, zI_15, zI_16, zI_17, zI_18, zI_19, zI_20, zI_21, zI_22, zI_23, zI_24, zI_25, zI_26, zI_27, zI_28, zI_29, zI_30, zI_31, zI_32, zI_33, zI_34, zI_35, zI_36, zI_37, zI_38, zI_39, zI_40, zI_41, zI_42, zI_43, zI_44, zI_45, zI_46, zI_47, zI_48, zI_49, zI_50, zI_51, zI_52, zI_53, zI_54, zI_55, zI_56, zI_57, zI_58, zI_59, zI_60, zI_61, zI_62, zI_63, zI_64, zI_65, zI_66, zI_67, zI_74, zI_84, zI_85, zI_88, zI_91, zI_93, zI_97, zI_99, zI_100, zI_102, zI_105, zI_117, zI_122, zI_193, zI_202, zI_205, zI_251, zI_255, zI_256, zI_257, zI_258, zI_259, zI_260, zI_640, zI_999, zI_1000, zI_1024, zI_1600, zI_1602, zI_1700, zI_2040, zI_3200, zI_4100, zI_9728, zI_11784, zI_61440, zI_65536, zI_470536, zI_999999, zI_1000000, lt_T, lt_F, le_T, le_F, eq_T, eq_F, neg_1, cn_m1p, cn_m11, nI_add, cn_sub, pk_mul, cn_div, cn_irm, cn_lt, cn_eq, cn_ltm1, cn_m1lt, cn_eqm1, cn_m1eq, cn_ix, cn_inb, cn_ninb, cn_irs, cn_ils, cn_and, cn_or, cn_xor, grd_t, grd_bt, grd_bl, Nat.add_zero, Nat.zero_add, Nat.reduceAdd, Nat.reduceSub, Nat.reduceMul, Nat.reduceLT, Nat.reduceEqDiff, eq_self, true_and, and_true, and_false, false_and, if_true, if_false, and_self, Bool.true_eq_false, Bool.false_eq_true, gI_sI, gI_sA, gI_sL, gI_sQ, gI_sC, gI_sO, gI_sD, gA_sI, gA_sL, gA_sQ, gA_sO, gA_sD, gL_sI, gL_sA, gL_sQ, gL_sC, gL_sO, gL_sD, gQ_sI, gQ_sA, gQ_sL, gQ_sC, gQ_sO, gO_sI, gO_sA, gO_sL, gO_sQ, gO_sC, gO_sO, gO_sD, gA_eq, gA_ne, gQ_eq, gQ_ne, gL_sL, gA_cin, gA_cou, gQ_cin, gQ_cou, g1, e1, f1]
        exact fin
  obtain ⟨x, x1, x2⟩ := hl
  exact ⟨x, x1, x2⟩
end LEX
