/-! WORDS: the reference's asking -/
def wdL (j : Nat) : List Nat := ([[4, 15, 15, 18, 19], [16, 15, 18, 20, 5, 18], [16, 1, 9, 14, 20], [15, 16, 5, 14], [19, 20, 9, 6, 6], [23, 1, 12, 11, 19], [3, 15, 12, 4], [9, 12, 12], [20, 21, 18, 14, 19], [14, 21, 13, 2, 5, 18], [3, 15, 12, 15, 21, 18], [20, 21, 18, 14, 5, 4], [23, 8, 15], [14, 9, 7, 8, 20], [15, 16, 5, 14, 5, 4], [20, 9, 18, 5, 4], [10, 1, 13, 13, 5, 4], [2, 25], [14, 5, 1, 18], [15, 18], [1, 14, 4], [14, 15, 20], [1, 12, 12], [13, 9, 14], [13, 1, 24], [6, 9, 18, 19, 20], [12, 1, 19, 20], [15, 6, 20, 5, 14], [20, 15, 20, 1, 12], [13, 15, 19, 20], [12, 5, 1, 19, 20]] : List (List Nat)).getD j []
def woJ (o : Nat) : Nat := ([0, 0, 0, 0, 1, 8, 2, 3, 4, 5, 6, 7, 9, 10, 11, 12, 13, 14, 15, 16, 17, 18, 19, 20, 21, 22, 23, 24, 0, 0, 0, 0, 0, 0, 0, 0, 0, 0, 0, 0, 0, 25, 26, 27, 28, 29, 30, 21, 20, 19, 22, 23, 24, 13, 9, 10, 3, 11, 12, 14, 15, 16, 17, 18] : List Nat).getD o 0
def vf (f : Nat → Nat) (k : Nat) : Nat := itN (fun i v => v * 100 + f i) k 0
theorem vf_inj {f g : Nat → Nat} : ∀ {k l : Nat}, (∀ i, i < k → 1 ≤ f i ∧ f i ≤ 99) → (∀ i, i < l → 1 ≤ g i ∧ g i ≤ 99) → vf f k = vf g l → k = l ∧ ∀ i, i < k → f i = g i
  | 0, 0, _, _, _ => ⟨rfl, fun i h => absurd h (Nat.not_lt_zero _)⟩
  | 0, l + 1, _, hg, h => by
    have h : 0 = vf g l * 100 + g l := h
    have := hg l (by omega)
    omega
  | k + 1, 0, hf, _, h => by
    have h : vf f k * 100 + f k = 0 := h
    have := hf k (by omega)
    omega
  | k + 1, l + 1, hf, hg, h => by
    have h : vf f k * 100 + f k = vf g l * 100 + g l := h
    have h1 := hf k (by omega)
    have h2 := hg l (by omega)
    obtain ⟨e1, e2⟩ := vf_inj (f := f) (g := g) (k := k) (l := l) (fun i hi => hf i (by omega)) (fun i hi => hg i (by omega)) (by omega)
    subst e1
    refine ⟨rfl, fun i hi => ?_⟩
    by_cases c : i = k
    · subst c; omega
    · exact e2 i (by omega)
theorem wdL_ok : ∀ j, j < 31 → mSplN j = vf (fun i => (wdL j).getD i 0) (wdL j).length ∧ 1 ≤ (wdL j).length ∧ (wdL j).length ≤ 6 ∧ ∀ i, i < (wdL j).length → 1 ≤ (wdL j).getD i 0 ∧ (wdL j).getD i 0 ≤ 26 := by decide +kernel
theorem mSplN_inj : ∀ i, i < 31 → ∀ j, j < 31 → mSplN i = mSplN j → i = j := by decide +kernel
theorem woJ_ok : ∀ o ∈ kWo, woJ o < 31 ∧ isA Sm o = true ∧ alA Sm o = (wdL (woJ o)).length ∧ aln Sm 1 o = (wdL (woJ o)).length ∧ ∀ i, i < (wdL (woJ o)).length → gA m0 o i = nI (96 + (wdL (woJ o)).getD i 0) := by decide +kernel
theorem wIx_some {v : Nat} : ∀ n k, wIx v n = k + 1 → k < n ∧ mSplN k = v := by
  intro n
  refine itN_inv (fun i (x : Nat) => ∀ k, x = k + 1 → k < i ∧ mSplN k = v) (fun k h => by cases h) (fun i x hx k h => ?_) n
  have h : (if mSplN i = v then i + 1 else x) = k + 1 := h
  split at h
  · have : i = k := by omega
    subst this
    exact ⟨by omega, by assumption⟩
  · have := hx k h
    exact ⟨by omega, this.2⟩
theorem wIx_is {v j : Nat} (hj : mSplN j = v) : ∀ n, n ≤ 31 → j < n → wIx v n = j + 1
  | 0, _, h => absurd h (Nat.not_lt_zero _)
  | n + 1, h31, h => by
    show (if mSplN n = v then n + 1 else wIx v n) = j + 1
    by_cases c : mSplN n = v
    · rw [if_pos c, mSplN_inj n (by omega) j (by omega) (c.trans hj.symm)]
    · rw [if_neg c]
      have : j ≠ n := fun e => c (e ▸ hj)
      exact wIx_is hj n (by omega) (by omega)
/-- the word of the token behind (p, b): 0 none, else its number and 1 -/
def wdA (tp : Nat → Nat) (n p : Nat) (b : Bool) : Nat := if kK tp n p b = 256 then wId (kZ tp n p) (kS tp n p) else 0
section WORDS
variable {N n p q z j : Nat} {tp : Nat → Nat} {b : Bool} {t : mS}
theorem wdA_le : wdA tp n p b ≤ 31 := by
  unfold wdA wId
  split
  · split
    · exact wIx_le _ _
    · omega
  · omega
theorem wId_iff (hj : j < 31) (hz : 0 < z) (hw : ∀ i, i < z → 97 ≤ tp (q + i) ∧ tp (q + i) ≤ 122) :
    wId z (spW tp q (min 6 z)) = j + 1 ↔ z = (wdL j).length ∧ ∀ i, i < z → tp (q + i) = 96 + (wdL j).getD i 0 := by
  obtain ⟨o1, o2, o3, o4⟩ := wdL_ok j hj
  unfold wId
  constructor
  · intro h
    split at h
    · rename_i c6
      obtain ⟨_, h⟩ := wIx_some _ _ h
      rw [Nat.min_eq_right c6, o1] at h
      obtain ⟨e1, e2⟩ := vf_inj (k := (wdL j).length) (l := z) (g := fun i => tp (q + i) - 97 + 1) (fun i hi => ⟨(o4 i hi).1, Nat.le_trans (o4 i hi).2 (by omega)⟩) (fun i hi => by have := hw i hi; omega) h
      refine ⟨e1.symm, fun i hi => ?_⟩
      have h1 : (wdL j).getD i 0 = tp (q + i) - 97 + 1 := e2 i (by omega)
      have h2 := hw i hi
      omega
    · cases h
  · rintro ⟨e1, e2⟩
    rw [if_pos (by omega)]
    refine wIx_is ?_ 31 (by omega) hj
    rw [Nat.min_eq_right (by omega), o1, ← e1]
    refine itN_cong _ fun i x hi => ?_
    have h1 := e2 i hi
    have h2 := hw i hi
    show x * 100 + (wdL j).getD i 0 = x * 100 + (tp (q + i) - 97 + 1)
    omega
/-- the reference's text and place -/
def RxM (tp : Nat → Nat) (n : Nat) (t : mS) : Prop := n ≤ 1600 ∧ gI t 1003 0 = nI n ∧ ∀ i, i < n → tp i < 256 ∧ gA t 1 i = nI (tp i)
def EnM (p : Nat) (b : Bool) (t : mS) : Prop := ∃ e, gI t 1004 0 = nI e + m1 ∧ (b = true → e = p + 1) ∧ (b = false → e ≤ p)
def AtM (tp : Nat → Nat) (n p : Nat) (b : Bool) (t : mS) : Prop := p ≤ n ∧ EnM p b t ∧ ∃ q, gI t 1002 0 = nI q ∧ p ≤ q ∧ q ≤ skp tp n p
def AtL (tp : Nat → Nat) (n p : Nat) (b : Bool) (t : mS) : Prop := p ≤ n ∧ EnM p b t ∧ gI t 1002 0 = nI (skp tp n p)
noncomputable def lk (tp : Nat → Nat) (n p : Nat) (t : mS) : mS := sI t 1002 0 (nI (skp tp n p))
noncomputable def chM (tp : Nat → Nat) (n p : Nat) : Int32 := if skp tp n p < n then nI (tp (skp tp n p)) else m1
theorem mS_ext {s t : mS} (h1 : ∀ f o, gI s f o = gI t f o) (h2 : s.2 = t.2) : s = t := by
  obtain ⟨a, b⟩ := s
  obtain ⟨c, d⟩ := t
  cases h2
  have : a = c := funext fun f => funext fun o => h1 f o
  rw [this]
theorem sI_id {s : mS} {f o : Nat} {v : Int32} (h : gI s f o = v) : sI s f o v = s := by
  refine mS_ext (fun f' o' => ?_) rfl
  rw [gI_sI]
  split
  · rename_i c
    rw [c.1, c.2]; exact h.symm
  · rfl
theorem sI_sI (s : mS) (f o : Nat) (v w : Int32) : sI (sI s f o v) f o w = sI s f o w := by
  refine mS_ext (fun f' o' => ?_) rfl
  rw [gI_sI, gI_sI, gI_sI]
  split <;> rfl
theorem RxM_fr {l : List Nat} {t t' : mS} (hF : Fr l t t') (hk : ∀ k ∈ [110300, 1], k ∉ l) (h : RxM tp n t) : RxM tp n t' :=
  ⟨h.1, by rw [hF.I 1003 0 (hk _ (by decide))]; exact h.2.1, fun i hi => ⟨(h.2.2 i hi).1, by rw [hF.A 1 i (hk _ (by decide))]; exact (h.2.2 i hi).2⟩⟩
theorem AtL_AtM (h : AtL tp n p b t) : AtM tp n p b t := ⟨h.1, h.2.1, _, h.2.2, (skp_b h.1).1, Nat.le_refl _⟩
theorem AtL_lk (h : AtM tp n p b t) : AtL tp n p b (lk tp n p t) := by
  obtain ⟨h1, ⟨e, h2, h3⟩, q, h4⟩ := h
  exact ⟨h1, ⟨e, by unfold lk; simp (disch := first | omega | decide) only [gI_sI, gI_sA, gI_sL, gI_sQ, gI_sC, gI_sO, gI_sD, gA_sI, gA_sL, gA_sQ, gA_sO, gA_sD, gL_sI, gL_sA, gL_sQ, gL_sC, gL_sO, gL_sD, gQ_sI, gQ_sA, gQ_sL, gQ_sC, gQ_sO, gO_sI, gO_sA, gO_sL, gO_sQ, gO_sC, gO_sO, gO_sD, gA_eq, gA_ne, gQ_eq, gQ_ne, gL_sL, gA_cin, gA_cou, gQ_cin, gQ_cou, Nat.reduceAdd, Nat.reduceSub, Nat.reduceMul, Nat.reduceLT, Nat.reduceEqDiff, eq_self, true_and, and_true, and_false, false_and, if_true, if_false, and_self, Bool.true_eq_false, Bool.false_eq_true]; exact h2, h3⟩, by unfold lk; simp (disch := first | omega | decide) only [gI_sI, gI_sA, gI_sL, gI_sQ, gI_sC, gI_sO, gI_sD, gA_sI, gA_sL, gA_sQ, gA_sO, gA_sD, gL_sI, gL_sA, gL_sQ, gL_sC, gL_sO, gL_sD, gQ_sI, gQ_sA, gQ_sL, gQ_sC, gQ_sO, gO_sI, gO_sA, gO_sL, gO_sQ, gO_sC, gO_sO, gO_sD, gA_eq, gA_ne, gQ_eq, gQ_ne, gL_sL, gA_cin, gA_cou, gQ_cin, gQ_cou, Nat.reduceAdd, Nat.reduceSub, Nat.reduceMul, Nat.reduceLT, Nat.reduceEqDiff, eq_self, true_and, and_true, and_false, false_and, if_true, if_false, and_self, Bool.true_eq_false, Bool.false_eq_true]⟩
theorem Fr_lk : Fr [110200] t (lk tp n p t) := Fr_sI _ _ _ (by decide)
theorem skp_run (h1 : p ≤ q) (h2 : q < skp tp n p) : tp q = 32 ∨ tp q = 10 := by
  have := blk_in (tp := tp) (n := n) (p := p) (i := q - p) (by omega)
  rwa [show p + (q - p) = q by omega] at this
theorem look_n (hT : RxM tp n t) (h : AtM tp n p b t) (hN : 10000 ≤ N) : f_M_look N t = some (chM tp n p, lk tp n p t) := by
  obtain ⟨hn, hT1, hT2⟩ := hT
  obtain ⟨hp, he, q, hq, h1, h2⟩ := h
  have sb := skp_b (tp := tp) hp
  have so := skp_o (tp := tp) hp
  have hl : Ok (f_M_look N t) (fun r => r = (chM tp n p, lk tp n p t)) := by
    refine mfix_up (fun i s1 => gI s1 1002 0 = nI (q + i) ∧ s1 = sI t 1002 0 (nI (q + i))) (skp tp n p - q) ?_ ?_ N 0 _ ⟨hq, (sI_id hq).symm⟩ (Nat.zero_le _) (by omega)
    · rintro i k s1 hi ⟨g1, g2⟩ hk
      have e1 : gI s1 1003 0 = nI n := by rw [g2]; simp (disch := first | omega | decide) only [gI_sI, gI_sA, gI_sL, gI_sQ, gI_sC, gI_sO, gI_sD, gA_sI, gA_sL, gA_sQ, gA_sO, gA_sD, gL_sI, gL_sA, gL_sQ, gL_sC, gL_sO, gL_sD, gQ_sI, gQ_sA, gQ_sL, gQ_sC, gQ_sO, gO_sI, gO_sA, gO_sL, gO_sQ, gO_sC, gO_sO, gO_sD, gA_eq, gA_ne, gQ_eq, gQ_ne, gL_sL, gA_cin, gA_cou, gQ_cin, gQ_cou, Nat.reduceAdd, Nat.reduceSub, Nat.reduceMul, Nat.reduceLT, Nat.reduceEqDiff, eq_self, true_and, and_true, and_false, false_and, if_true, if_false, and_self, Bool.true_eq_false, Bool.false_eq_true]; exact hT1
      have e2 : gA s1 1 (q + i) = nI (tp (q + i)) := by rw [g2]; exact (hT2 _ (by omega)).2
      have bl := skp_run (tp := tp) (n := n) (p := p) (q := q + i) (by omega) (by omega)
      have nx : sI s1 1002 0 (nI (q + i + 1)) = sI t 1002 0 (nI (q + (i + 1))) := by rw [g2, sI_sI, Nat.add_assoc]
      rcases bl with c | c
      · simp (disch := first | omega | decide) only [f_M_look_L0, zI_0, zI_1, zI_2, zI_3, zI_4, zI_5, zI_6, zI_7, zI_8, zI_9, zI_10, zI_11, zI_12, zI_13, zI_14, zI_15, zI_16, zI_17, zI_18, zI_19, zI_20, zI_21, zI_22, zI_23, zI_24, zI_25, zI_26, zI_27, zI_28, zI_29, zI_30, zI_31, zI_32, zI_33, zI_34, zI_35, zI_36, zI_37, zI_38, zI_39, zI_40, zI_41, zI_42, zI_43, zI_44, zI_45, zI_46, zI_47, zI_48, zI_49, zI_50, zI_51, zI_52, zI_53, zI_54, zI_55, zI_56, zI_57, zI_58, zI_59, zI_60, zI_61, zI_62, zI_63, zI_64, zI_65, zI_66, zI_67, zI_74, zI_84, zI_85, zI_88, zI_91, zI_93, zI_97, zI_99, zI_100, zI_102, zI_105, zI_117, zI_122, zI_193, zI_202, zI_205, zI_251, zI_255, zI_256, zI_257, zI_258, zI_259, zI_260, zI_640, zI_999, zI_1000, zI_1024, zI_1600, zI_1602, zI_1700, zI_2040, zI_3200, zI_4100, zI_9728, zI_11784, zI_61440, zI_65536, zI_470536, zI_999999, zI_1000000, lt_T, lt_F, le_T, le_F, eq_T, eq_F, neg_1, cn_m1p, cn_m11, nI_add, cn_sub, pk_mul, cn_div, cn_irm, cn_lt, cn_eq, cn_ltm1, cn_m1lt, cn_eqm1, cn_m1eq, cn_ix, cn_inb, cn_ninb, cn_irs, cn_ils, cn_and, cn_or, cn_xor, grd_t, grd_bt, grd_bl, Nat.add_zero, Nat.zero_add, Nat.reduceAdd, Nat.reduceSub, Nat.reduceMul, Nat.reduceLT, Nat.reduceEqDiff, eq_self, true_and, and_true, and_false, false_and, if_true, if_false, and_self, Bool.true_eq_false, Bool.false_eq_true, g1, e1, e2, c]
        exact hk _ ⟨by simp (disch := first | omega | decide) only [gI_sI, gI_sA, gI_sL, gI_sQ, gI_sC, gI_sO, gI_sD, gA_sI, gA_sL, gA_sQ, gA_sO, gA_sD, gL_sI, gL_sA, gL_sQ, gL_sC, gL_sO, gL_sD, gQ_sI, gQ_sA, gQ_sL, gQ_sC, gQ_sO, gO_sI, gO_sA, gO_sL, gO_sQ, gO_sC, gO_sO, gO_sD, gA_eq, gA_ne, gQ_eq, gQ_ne, gL_sL, gA_cin, gA_cou, gQ_cin, gQ_cou, Nat.reduceAdd, Nat.reduceSub, Nat.reduceMul, Nat.reduceLT, Nat.reduceEqDiff, eq_self, true_and, and_true, and_false, false_and, if_true, if_false, and_self, Bool.true_eq_false, Bool.false_eq_true, Nat.add_assoc], nx⟩
      · simp (disch := first | omega | decide) only [f_M_look_L0, zI_0, zI_1, zI_2, zI_3, zI_4, zI_5, zI_6, zI_7, zI_8, zI_9, zI_10, zI_11, zI_12, zI_13, zI_14, zI_15, zI_16, zI_17, zI_18, zI_19, zI_20, zI_21, zI_22, zI_23, zI_24, zI_25, zI_26, zI_27, zI_28, zI_29, zI_30, zI_31, zI_32, zI_33, zI_34, zI_35, zI_36, zI_37, zI_38, zI_39, zI_40, zI_41, zI_42, zI_43, zI_44, zI_45, zI_46, zI_47, zI_48, zI_49, zI_50, zI_51, zI_52, zI_53, zI_54, zI_55, zI_56, zI_57, zI_58, zI_59, zI_60, zI_61, zI_62, zI_63, zI_64, zI_65, zI_66, zI_67, zI_74, zI_84, zI_85, zI_88, zI_91, zI_93, zI_97, zI_99, zI_100, zI_102, zI_105, zI_117, zI_122, zI_193, zI_202, zI_205, zI_251, zI_255, zI_256, zI_257, zI_258, zI_259, zI_260, zI_640, zI_999, zI_1000, zI_1024, zI_1600, zI_1602, zI_1700, zI_2040, zI_3200, zI_4100, zI_9728, zI_11784, zI_61440, zI_65536, zI_470536, zI_999999, zI_1000000, lt_T, lt_F, le_T, le_F, eq_T, eq_F, neg_1, cn_m1p, cn_m11, nI_add, cn_sub, pk_mul, cn_div, cn_irm, cn_lt, cn_eq, cn_ltm1, cn_m1lt, cn_eqm1, cn_m1eq, cn_ix, cn_inb, cn_ninb, cn_irs, cn_ils, cn_and, cn_or, cn_xor, grd_t, grd_bt, grd_bl, Nat.add_zero, Nat.zero_add, Nat.reduceAdd, Nat.reduceSub, Nat.reduceMul, Nat.reduceLT, Nat.reduceEqDiff, eq_self, true_and, and_true, and_false, false_and, if_true, if_false, and_self, Bool.true_eq_false, Bool.false_eq_true, g1, e1, e2, c]
        exact hk _ ⟨by simp (disch := first | omega | decide) only [gI_sI, gI_sA, gI_sL, gI_sQ, gI_sC, gI_sO, gI_sD, gA_sI, gA_sL, gA_sQ, gA_sO, gA_sD, gL_sI, gL_sA, gL_sQ, gL_sC, gL_sO, gL_sD, gQ_sI, gQ_sA, gQ_sL, gQ_sC, gQ_sO, gO_sI, gO_sA, gO_sL, gO_sQ, gO_sC, gO_sO, gO_sD, gA_eq, gA_ne, gQ_eq, gQ_ne, gL_sL, gA_cin, gA_cou, gQ_cin, gQ_cou, Nat.reduceAdd, Nat.reduceSub, Nat.reduceMul, Nat.reduceLT, Nat.reduceEqDiff, eq_self, true_and, and_true, and_false, false_and, if_true, if_false, and_self, Bool.true_eq_false, Bool.false_eq_true, Nat.add_assoc], nx⟩
    · rintro k s1 ⟨g1, g2⟩
      rw [show q + (skp tp n p - q) = skp tp n p by omega] at g1 g2
      have e1 : gI s1 1003 0 = nI n := by rw [g2]; simp (disch := first | omega | decide) only [gI_sI, gI_sA, gI_sL, gI_sQ, gI_sC, gI_sO, gI_sD, gA_sI, gA_sL, gA_sQ, gA_sO, gA_sD, gL_sI, gL_sA, gL_sQ, gL_sC, gL_sO, gL_sD, gQ_sI, gQ_sA, gQ_sL, gQ_sC, gQ_sO, gO_sI, gO_sA, gO_sL, gO_sQ, gO_sC, gO_sO, gO_sD, gA_eq, gA_ne, gQ_eq, gQ_ne, gL_sL, gA_cin, gA_cou, gQ_cin, gQ_cou, Nat.reduceAdd, Nat.reduceSub, Nat.reduceMul, Nat.reduceLT, Nat.reduceEqDiff, eq_self, true_and, and_true, and_false, false_and, if_true, if_false, and_self, Bool.true_eq_false, Bool.false_eq_true]; exact hT1
      have e3 : s1 = lk tp n p t := g2
      by_cases c : skp tp n p < n
      · have e2 : gA s1 1 (skp tp n p) = nI (tp (skp tp n p)) := by rw [g2]; exact (hT2 _ c).2
        have hb := (hT2 _ c).1
        have o := so c
        have q1 : (tp (skp tp n p) = 32) = False := eq_false o.1
        have q2 : (tp (skp tp n p) = 10) = False := eq_false o.2
        simp (disch := first | omega | decide) only [f_M_look_L0, f_M_look_j52, zI_0, zI_1, zI_2, zI_3, zI_4, zI_5, zI_6, zI_7, zI_8, zI_9, zI_10, zI_11, zI_12, zI_13, zI_14, zI_15, zI_16, zI_17, zI_18, zI_19, zI_20, zI_21, zI_22, zI_23, zI_24, zI_25, zI_26, zI_27, zI_28, zI_29, zI_30, zI_31, zI_32, zI_33, zI_34, zI_35, zI_36, zI_37, zI_38, zI_39, zI_40, zI_41, zI_42, zI_43, zI_44, zI_45, zI_46, zI_47, zI_48, zI_49, zI_50, zI_51, zI_52, zI_53, zI_54, zI_55, zI_56, zI_57, zI_58, zI_59, zI_60, zI_61, zI_62, zI_63, zI_64, zI_65, zI_66, zI_67, zI_74, zI_84, zI_85, zI_88, zI_91, zI_93, zI_97, zI_99, zI_100, zI_102, zI_105, zI_117, zI_122, zI_193, zI_202, zI_205, zI_251, zI_255, zI_256, zI_257, zI_258, zI_259, zI_260, zI_640, zI_999, zI_1000, zI_1024, zI_1600, zI_1602, zI_1700, zI_2040, zI_3200, zI_4100, zI_9728, zI_11784, zI_61440, zI_65536, zI_470536, zI_999999, zI_1000000, lt_T, lt_F, le_T, le_F, eq_T, eq_F, neg_1, cn_m1p, cn_m11, nI_add, cn_sub, pk_mul, cn_div, cn_irm, cn_lt, cn_eq, cn_ltm1, cn_m1lt, cn_eqm1, cn_m1eq, cn_ix, cn_inb, cn_ninb, cn_irs, cn_ils, cn_and, cn_or, cn_xor, grd_t, grd_bt, grd_bl, Nat.add_zero, Nat.zero_add, Nat.reduceAdd, Nat.reduceSub, Nat.reduceMul, Nat.reduceLT, Nat.reduceEqDiff, eq_self, true_and, and_true, and_false, false_and, if_true, if_false, and_self, Bool.true_eq_false, Bool.false_eq_true, g1, e1, e2, q1, q2]
        exact Ok_some (by unfold chM; rw [if_pos c, ← e3])
      · simp (disch := first | omega | decide) only [f_M_look_L0, f_M_look_j52, zI_0, zI_1, zI_2, zI_3, zI_4, zI_5, zI_6, zI_7, zI_8, zI_9, zI_10, zI_11, zI_12, zI_13, zI_14, zI_15, zI_16, zI_17, zI_18, zI_19, zI_20, zI_21, zI_22, zI_23, zI_24, zI_25, zI_26, zI_27, zI_28, zI_29, zI_30, zI_31, zI_32, zI_33, zI_34, zI_35, zI_36, zI_37, zI_38, zI_39, zI_40, zI_41, zI_42, zI_43, zI_44, zI_45, zI_46, zI_47, zI_48, zI_49, zI_50, zI_51, zI_52, zI_53, zI_54, zI_55, zI_56, zI_57, zI_58, zI_59, zI_60, zI_61, zI_62, zI_63, zI_64, zI_65, zI_66, zI_67, zI_74, zI_84, zI_85, zI_88, zI_91, zI_93, zI_97, zI_99, zI_100, zI_102, zI_105, zI_117, zI_122, zI_193, zI_202, zI_205, zI_251, zI_255, zI_256, zI_257, zI_258, zI_259, zI_260, zI_640, zI_999, zI_1000, zI_1024, zI_1600, zI_1602, zI_1700, zI_2040, zI_3200, zI_4100, zI_9728, zI_11784, zI_61440, zI_65536, zI_470536, zI_999999, zI_1000000, lt_T, lt_F, le_T, le_F, eq_T, eq_F, neg_1, cn_m1p, cn_m11, nI_add, cn_sub, pk_mul, cn_div, cn_irm, cn_lt, cn_eq, cn_ltm1, cn_m1lt, cn_eqm1, cn_m1eq, cn_ix, cn_inb, cn_ninb, cn_irs, cn_ils, cn_and, cn_or, cn_xor, grd_t, grd_bt, grd_bl, Nat.add_zero, Nat.zero_add, Nat.reduceAdd, Nat.reduceSub, Nat.reduceMul, Nat.reduceLT, Nat.reduceEqDiff, eq_self, true_and, and_true, and_false, false_and, if_true, if_false, and_self, Bool.true_eq_false, Bool.false_eq_true, g1, e1]
        exact Ok_some (by unfold chM; rw [if_neg c, ← e3])
  obtain ⟨x, x1, x2⟩ := hl
  rw [x1, x2]
theorem lookL_n (hT : RxM tp n t) (h : AtL tp n p b t) (hN : 10000 ≤ N) : f_M_look N t = some (chM tp n p, t) := by
  rw [look_n hT (AtL_AtM h) hN]
  unfold lk
  rw [sI_id h.2.2]
theorem isLetter_n {c : Nat} (hc : c < 256) : f_M_isLetter N (nI c) t = some (nI (if isLe c then 1 else 0), t) := by
  by_cases c1 : c < 97
  · have e : isLe c = false := decide_eq_false (by omega)
    rw [e]
    simp (disch := first | omega | decide) only [f_M_isLetter, zI_0, zI_1, zI_2, zI_3, zI_4, zI_5, zI_6, zI_7, zI_8, zI_9, zI_10, zI_11, zI_12, zI_13, zI_14, zI_15, zI_16, zI_17, zI_18, zI_19, zI_20, zI_21, zI_22, zI_23, zI_24, zI_25, zI_26, zI_27, zI_28, zI_29, zI_30, zI_31, zI_32, zI_33, zI_34, zI_35, zI_36, zI_37, zI_38, zI_39, zI_40, zI_41, zI_42, zI_43, zI_44, zI_45, zI_46, zI_47, zI_48, zI_49, zI_50, zI_51, zI_52, zI_53, zI_54, zI_55, zI_56, zI_57, zI_58, zI_59, zI_60, zI_61, zI_62, zI_63, zI_64, zI_65, zI_66, zI_67, zI_74, zI_84, zI_85, zI_88, zI_91, zI_93, zI_97, zI_99, zI_100, zI_102, zI_105, zI_117, zI_122, zI_193, zI_202, zI_205, zI_251, zI_255, zI_256, zI_257, zI_258, zI_259, zI_260, zI_640, zI_999, zI_1000, zI_1024, zI_1600, zI_1602, zI_1700, zI_2040, zI_3200, zI_4100, zI_9728, zI_11784, zI_61440, zI_65536, zI_470536, zI_999999, zI_1000000, lt_T, lt_F, le_T, le_F, eq_T, eq_F, neg_1, cn_m1p, cn_m11, nI_add, cn_sub, pk_mul, cn_div, cn_irm, cn_lt, cn_eq, cn_ltm1, cn_m1lt, cn_eqm1, cn_m1eq, cn_ix, cn_inb, cn_ninb, cn_irs, cn_ils, cn_and, cn_or, cn_xor, grd_t, grd_bt, grd_bl, Nat.add_zero, Nat.zero_add, Nat.reduceAdd, Nat.reduceSub, Nat.reduceMul, Nat.reduceLT, Nat.reduceEqDiff, eq_self, true_and, and_true, and_false, false_and, if_true, if_false, and_self, Bool.true_eq_false, Bool.false_eq_true]
  · by_cases c2 : 122 < c
    · have e : isLe c = false := decide_eq_false (by omega)
      rw [e]
      simp (disch := first | omega | decide) only [f_M_isLetter, zI_0, zI_1, zI_2, zI_3, zI_4, zI_5, zI_6, zI_7, zI_8, zI_9, zI_10, zI_11, zI_12, zI_13, zI_14, zI_15, zI_16, zI_17, zI_18, zI_19, zI_20, zI_21, zI_22, zI_23, zI_24, zI_25, zI_26, zI_27, zI_28, zI_29, zI_30, zI_31, zI_32, zI_33, zI_34, zI_35, zI_36, zI_37, zI_38, zI_39, zI_40, zI_41, zI_42, zI_43, zI_44, zI_45, zI_46, zI_47, zI_48, zI_49, zI_50, zI_51, zI_52, zI_53, zI_54, zI_55, zI_56, zI_57, zI_58, zI_59, zI_60, zI_61, zI_62, zI_63, zI_64, zI_65, zI_66, zI_67, zI_74, zI_84, zI_85, zI_88, zI_91, zI_93, zI_97, zI_99, zI_100, zI_102, zI_105, zI_117, zI_122, zI_193, zI_202, zI_205, zI_251, zI_255, zI_256, zI_257, zI_258, zI_259, zI_260, zI_640, zI_999, zI_1000, zI_1024, zI_1600, zI_1602, zI_1700, zI_2040, zI_3200, zI_4100, zI_9728, zI_11784, zI_61440, zI_65536, zI_470536, zI_999999, zI_1000000, lt_T, lt_F, le_T, le_F, eq_T, eq_F, neg_1, cn_m1p, cn_m11, nI_add, cn_sub, pk_mul, cn_div, cn_irm, cn_lt, cn_eq, cn_ltm1, cn_m1lt, cn_eqm1, cn_m1eq, cn_ix, cn_inb, cn_ninb, cn_irs, cn_ils, cn_and, cn_or, cn_xor, grd_t, grd_bt, grd_bl, Nat.add_zero, Nat.zero_add, Nat.reduceAdd, Nat.reduceSub, Nat.reduceMul, Nat.reduceLT, Nat.reduceEqDiff, eq_self, true_and, and_true, and_false, false_and, if_true, if_false, and_self, Bool.true_eq_false, Bool.false_eq_true]
    · have e : isLe c = true := decide_eq_true (by omega)
      rw [e]
      simp (disch := first | omega | decide) only [f_M_isLetter, zI_0, zI_1, zI_2, zI_3, zI_4, zI_5, zI_6, zI_7, zI_8, zI_9, zI_10, zI_11, zI_12, zI_13, zI_14, zI_15, zI_16, zI_17, zI_18, zI_19, zI_20, zI_21, zI_22, zI_23, zI_24, zI_25, zI_26, zI_27, zI_28, zI_29, zI_30, zI_31, zI_32, zI_33, zI_34, zI_35, zI_36, zI_37, zI_38, zI_39, zI_40, zI_41, zI_42, zI_43, zI_44, zI_45, zI_46, zI_47, zI_48, zI_49, zI_50, zI_51, zI_52, zI_53, zI_54, zI_55, zI_56, zI_57, zI_58, zI_59, zI_60, zI_61, zI_62, zI_63, zI_64, zI_65, zI_66, zI_67, zI_74, zI_84, zI_85, zI_88, zI_91, zI_93, zI_97, zI_99, zI_100, zI_102, zI_105, zI_117, zI_122, zI_193, zI_202, zI_205, zI_251, zI_255, zI_256, zI_257, zI_258, zI_259, zI_260, zI_640, zI_999, zI_1000, zI_1024, zI_1600, zI_1602, zI_1700, zI_2040, zI_3200, zI_4100, zI_9728, zI_11784, zI_61440, zI_65536, zI_470536, zI_999999, zI_1000000, lt_T, lt_F, le_T, le_F, eq_T, eq_F, neg_1, cn_m1p, cn_m11, nI_add, cn_sub, pk_mul, cn_div, cn_irm, cn_lt, cn_eq, cn_ltm1, cn_m1lt, cn_eqm1, cn_m1eq, cn_ix, cn_inb, cn_ninb, cn_irs, cn_ils, cn_and, cn_or, cn_xor, grd_t, grd_bt, grd_bl, Nat.add_zero, Nat.zero_add, Nat.reduceAdd, Nat.reduceSub, Nat.reduceMul, Nat.reduceLT, Nat.reduceEqDiff, eq_self, true_and, and_true, and_false, false_and, if_true, if_false, and_self, Bool.true_eq_false, Bool.false_eq_true]
theorem isLetter_m : f_M_isLetter N m1 t = some (nI 0, t) := by
  have e : (m1 < nI 97) = True := eq_true (by decide)
  simp (disch := first | omega | decide) only [f_M_isLetter, zI_0, zI_1, zI_2, zI_3, zI_4, zI_5, zI_6, zI_7, zI_8, zI_9, zI_10, zI_11, zI_12, zI_13, zI_14, zI_15, zI_16, zI_17, zI_18, zI_19, zI_20, zI_21, zI_22, zI_23, zI_24, zI_25, zI_26, zI_27, zI_28, zI_29, zI_30, zI_31, zI_32, zI_33, zI_34, zI_35, zI_36, zI_37, zI_38, zI_39, zI_40, zI_41, zI_42, zI_43, zI_44, zI_45, zI_46, zI_47, zI_48, zI_49, zI_50, zI_51, zI_52, zI_53, zI_54, zI_55, zI_56, zI_57, zI_58, zI_59, zI_60, zI_61, zI_62, zI_63, zI_64, zI_65, zI_66, zI_67, zI_74, zI_84, zI_85, zI_88, zI_91, zI_93, zI_97, zI_99, zI_100, zI_102, zI_105, zI_117, zI_122, zI_193, zI_202, zI_205, zI_251, zI_255, zI_256, zI_257, zI_258, zI_259, zI_260, zI_640, zI_999, zI_1000, zI_1024, zI_1600, zI_1602, zI_1700, zI_2040, zI_3200, zI_4100, zI_9728, zI_11784, zI_61440, zI_65536, zI_470536, zI_999999, zI_1000000, e, Nat.reduceAdd, Nat.reduceSub, Nat.reduceMul, Nat.reduceLT, Nat.reduceEqDiff, eq_self, true_and, and_true, and_false, false_and, if_true, if_false, and_self, Bool.true_eq_false, Bool.false_eq_true]
theorem isDigit_n {c : Nat} (hc : c < 256) : f_M_isDigit N (nI c) t = some (nI (if isDi c then 1 else 0), t) := by
  by_cases c1 : c < 48
  · have e : isDi c = false := decide_eq_false (by omega)
    rw [e]
    simp (disch := first | omega | decide) only [f_M_isDigit, zI_0, zI_1, zI_2, zI_3, zI_4, zI_5, zI_6, zI_7, zI_8, zI_9, zI_10, zI_11, zI_12, zI_13, zI_14, zI_15, zI_16, zI_17, zI_18, zI_19, zI_20, zI_21, zI_22, zI_23, zI_24, zI_25, zI_26, zI_27, zI_28, zI_29, zI_30, zI_31, zI_32, zI_33, zI_34, zI_35, zI_36, zI_37, zI_38, zI_39, zI_40, zI_41, zI_42, zI_43, zI_44, zI_45, zI_46, zI_47, zI_48, zI_49, zI_50, zI_51, zI_52, zI_53, zI_54, zI_55, zI_56, zI_57, zI_58, zI_59, zI_60, zI_61, zI_62, zI_63, zI_64, zI_65, zI_66, zI_67, zI_74, zI_84, zI_85, zI_88, zI_91, zI_93, zI_97, zI_99, zI_100, zI_102, zI_105, zI_117, zI_122, zI_193, zI_202, zI_205, zI_251, zI_255, zI_256, zI_257, zI_258, zI_259, zI_260, zI_640, zI_999, zI_1000, zI_1024, zI_1600, zI_1602, zI_1700, zI_2040, zI_3200, zI_4100, zI_9728, zI_11784, zI_61440, zI_65536, zI_470536, zI_999999, zI_1000000, lt_T, lt_F, le_T, le_F, eq_T, eq_F, neg_1, cn_m1p, cn_m11, nI_add, cn_sub, pk_mul, cn_div, cn_irm, cn_lt, cn_eq, cn_ltm1, cn_m1lt, cn_eqm1, cn_m1eq, cn_ix, cn_inb, cn_ninb, cn_irs, cn_ils, cn_and, cn_or, cn_xor, grd_t, grd_bt, grd_bl, Nat.add_zero, Nat.zero_add, Nat.reduceAdd, Nat.reduceSub, Nat.reduceMul, Nat.reduceLT, Nat.reduceEqDiff, eq_self, true_and, and_true, and_false, false_and, if_true, if_false, and_self, Bool.true_eq_false, Bool.false_eq_true]
  · by_cases c2 : 57 < c
    · have e : isDi c = false := decide_eq_false (by omega)
      rw [e]
      simp (disch := first | omega | decide) only [f_M_isDigit, zI_0, zI_1, zI_2, zI_3, zI_4, zI_5, zI_6, zI_7, zI_8, zI_9, zI_10, zI_11, zI_12, zI_13, zI_14, zI_15, zI_16, zI_17, zI_18, zI_19, zI_20, zI_21, zI_22, zI_23, zI_24, zI_25, zI_26, zI_27, zI_28, zI_29, zI_30, zI_31, zI_32, zI_33, zI_34, zI_35, zI_36, zI_37, zI_38, zI_39, zI_40, zI_41, zI_42, zI_43, zI_44, zI_45, zI_46, zI_47, zI_48, zI_49, zI_50, zI_51, zI_52, zI_53, zI_54, zI_55, zI_56, zI_57, zI_58, zI_59, zI_60, zI_61, zI_62, zI_63, zI_64, zI_65, zI_66, zI_67, zI_74, zI_84, zI_85, zI_88, zI_91, zI_93, zI_97, zI_99, zI_100, zI_102, zI_105, zI_117, zI_122, zI_193, zI_202, zI_205, zI_251, zI_255, zI_256, zI_257, zI_258, zI_259, zI_260, zI_640, zI_999, zI_1000, zI_1024, zI_1600, zI_1602, zI_1700, zI_2040, zI_3200, zI_4100, zI_9728, zI_11784, zI_61440, zI_65536, zI_470536, zI_999999, zI_1000000, lt_T, lt_F, le_T, le_F, eq_T, eq_F, neg_1, cn_m1p, cn_m11, nI_add, cn_sub, pk_mul, cn_div, cn_irm, cn_lt, cn_eq, cn_ltm1, cn_m1lt, cn_eqm1, cn_m1eq, cn_ix, cn_inb, cn_ninb, cn_irs, cn_ils, cn_and, cn_or, cn_xor, grd_t, grd_bt, grd_bl, Nat.add_zero, Nat.zero_add, Nat.reduceAdd, Nat.reduceSub, Nat.reduceMul, Nat.reduceLT, Nat.reduceEqDiff, eq_self, true_and, and_true, and_false, false_and, if_true, if_false, and_self, Bool.true_eq_false, Bool.false_eq_true]
    · have e : isDi c = true := decide_eq_true (by omega)
      rw [e]
      simp (disch := first | omega | decide) only [f_M_isDigit, zI_0, zI_1, zI_2, zI_3, zI_4, zI_5, zI_6, zI_7, zI_8, zI_9, zI_10, zI_11, zI_12, zI_13, zI_14, zI_15, zI_16, zI_17, zI_18, zI_19, zI_20, zI_21, zI_22, zI_23, zI_24, zI_25, zI_26, zI_27, zI_28, zI_29, zI_30, zI_31, zI_32, zI_33, zI_34, zI_35, zI_36, zI_37, zI_38, zI_39, zI_40, zI_41, zI_42, zI_43, zI_44, zI_45, zI_46, zI_47, zI_48, zI_49, zI_50, zI_51, zI_52, zI_53, zI_54, zI_55, zI_56, zI_57, zI_58, zI_59, zI_60, zI_61, zI_62, zI_63, zI_64, zI_65, zI_66, zI_67, zI_74, zI_84, zI_85, zI_88, zI_91, zI_93, zI_97, zI_99, zI_100, zI_102, zI_105, zI_117, zI_122, zI_193, zI_202, zI_205, zI_251, zI_255, zI_256, zI_257, zI_258, zI_259, zI_260, zI_640, zI_999, zI_1000, zI_1024, zI_1600, zI_1602, zI_1700, zI_2040, zI_3200, zI_4100, zI_9728, zI_11784, zI_61440, zI_65536, zI_470536, zI_999999, zI_1000000, lt_T, lt_F, le_T, le_F, eq_T, eq_F, neg_1, cn_m1p, cn_m11, nI_add, cn_sub, pk_mul, cn_div, cn_irm, cn_lt, cn_eq, cn_ltm1, cn_m1lt, cn_eqm1, cn_m1eq, cn_ix, cn_inb, cn_ninb, cn_irs, cn_ils, cn_and, cn_or, cn_xor, grd_t, grd_bt, grd_bl, Nat.add_zero, Nat.zero_add, Nat.reduceAdd, Nat.reduceSub, Nat.reduceMul, Nat.reduceLT, Nat.reduceEqDiff, eq_self, true_and, and_true, and_false, false_and, if_true, if_false, and_self, Bool.true_eq_false, Bool.false_eq_true]
theorem isDigit_m : f_M_isDigit N m1 t = some (nI 0, t) := by
  have e : (m1 < nI 48) = True := eq_true (by decide)
  simp (disch := first | omega | decide) only [f_M_isDigit, zI_0, zI_1, zI_2, zI_3, zI_4, zI_5, zI_6, zI_7, zI_8, zI_9, zI_10, zI_11, zI_12, zI_13, zI_14, zI_15, zI_16, zI_17, zI_18, zI_19, zI_20, zI_21, zI_22, zI_23, zI_24, zI_25, zI_26, zI_27, zI_28, zI_29, zI_30, zI_31, zI_32, zI_33, zI_34, zI_35, zI_36, zI_37, zI_38, zI_39, zI_40, zI_41, zI_42, zI_43, zI_44, zI_45, zI_46, zI_47, zI_48, zI_49, zI_50, zI_51, zI_52, zI_53, zI_54, zI_55, zI_56, zI_57, zI_58, zI_59, zI_60, zI_61, zI_62, zI_63, zI_64, zI_65, zI_66, zI_67, zI_74, zI_84, zI_85, zI_88, zI_91, zI_93, zI_97, zI_99, zI_100, zI_102, zI_105, zI_117, zI_122, zI_193, zI_202, zI_205, zI_251, zI_255, zI_256, zI_257, zI_258, zI_259, zI_260, zI_640, zI_999, zI_1000, zI_1024, zI_1600, zI_1602, zI_1700, zI_2040, zI_3200, zI_4100, zI_9728, zI_11784, zI_61440, zI_65536, zI_470536, zI_999999, zI_1000000, e, Nat.reduceAdd, Nat.reduceSub, Nat.reduceMul, Nat.reduceLT, Nat.reduceEqDiff, eq_self, true_and, and_true, and_false, false_and, if_true, if_false, and_self, Bool.true_eq_false, Bool.false_eq_true]
/-- right behind a word or a number, or not -/
theorem ended_n (h : AtL tp n p b t) (hn : n ≤ 1600) : (gI t 1002 0 = gI t 1004 0) = (b = true ∧ skp tp n p = p) := by
  obtain ⟨hp, ⟨e, h2, h3, h4⟩, hq⟩ := h
  have sb := skp_b (tp := tp) hp
  rw [hq, h2]
  cases b with
  | true =>
    rw [h3 rfl, show nI (p + 1) + m1 = nI p from by rw [← nI_add, Int32.add_assoc, show nI 1 + m1 = 0 from rfl, Int32.add_zero], cn_eq (by omega)]
    simp
  | false =>
    have := h4 rfl
    refine propext ⟨fun c => ?_, fun c => by cases c.1⟩
    cases e with
    | zero =>
      rw [show nI 0 + m1 = m1 from rfl, cn_eqm1 (by omega)] at c
      exact c.elim
    | succ e =>
      rw [show nI (e + 1) + m1 = nI e from by rw [← nI_add, Int32.add_assoc, show nI 1 + m1 = 0 from rfl, Int32.add_zero], cn_eq (by omega)] at c
      omega
end WORDS
