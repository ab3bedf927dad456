/-! WHERE A TEXT's CODES ARE PUT -/
theorem pl_ok : isO Sx 9 4 = true ∧ isO Sx 12 5 = true ∧ aln Sx 0 14 = 12 ∧ aln Sx 0 15 = 12 ∧ aln Sx 0 13 = 1602 ∧ aln Sx 3 11 = 10 := by decide +kernel
theorem ck_bd {al : Nat → Bool} : ∀ {cs : List Nat} {ts ts' : List Bool}, ckL al cs ts = some ts' → ∀ c, c ∈ cs → c ≤ 10999
  | [], _, _, _, c, hc => by cases hc
  | x :: cs, ts, ts', h, c, hc => by
    unfold ckL at h
    split at h
    · rename_i t2 h2
      rcases List.mem_cons.mp hc with rfl | hc
      · by_cases c1 : 1000 ≤ c
        · unfold ck1 at h2
          rw [if_pos c1] at h2
          split at h2
          · rename_i h3; exact h3.1
          · cases h2
        · omega
      · exact ck_bd h c hc
    · cases h
theorem cSt_13 {c : Nat} (h : c ≤ 10999) : (cSt c = nI 13) = (c = 40) := by
  refine propext ⟨fun e => ?_, fun e => by rw [e]; rfl⟩
  unfold cSt at e
  split at e
  · rename_i h1
    rw [← zi_nI, zi_eq (by omega)] at e
    omega
  · split at e
    · rename_i h1 h2
      have hw := cW_b (c - 40)
      rw [cn_eq (by omega)] at e
      rcases (show c = 40 ∨ c = 41 ∨ c = 42 ∨ c = 43 ∨ c = 44 ∨ c = 45 ∨ c = 46 ∨ c = 47 ∨ c = 48 by omega) with rfl | rfl | rfl | rfl | rfl | rfl | rfl | rfl | rfl <;> first | rfl | (exact absurd e (by decide))
    · unfold cB at e
      split at e <;> exact absurd e (by decide)
section PLACE
variable {N n p p' o fr sz w bn pg mk : Nat} {tp : Nat → Nat} {b : Bool} {s s' s0 : mS} {L e : List Nat}
/-- a new start of what is reckoned from -/
theorem CX_re (E : CE tp n pg mk s0) (h : CX tp n pg s0 p b o L s) : CE tp n pg mk s ∧ CX tp n pg s p b o L s := by
  obtain ⟨hT, hO, hm, ht⟩ := CE_x E h
  exact ⟨⟨hT, E.2.1, hO, hm⟩, h.1, h.2.1, h.2.2.1, h.2.2.2.1, h.2.2.2.2.1, Fr_r _ _⟩
theorem CE_fr {l : List Nat} (hF : Fr l s s') (hk : ∀ k ∈ [70318, 1, 9999, 71018], k ∉ l) (h : CE tp n pg mk s) : CE tp n pg mk s' :=
  ⟨RxT_fr hF (fun k h => hk k ((by decide : ∀ k ∈ [70318, 1], k ∈ [70318, 1, 9999, 71018]) k h)) h.1, h.2.1, by rw [hF.O (hk _ (by decide))]; exact h.2.2.1, by rw [hF.I 610 18 (hk _ (by decide))]; exact h.2.2.2⟩
theorem CE_mk {l : List Nat} {mk' : Nat} (hF : Fr l s s') (hk : ∀ k ∈ [70318, 1, 9999], k ∉ l) (hm : gI s' 610 18 = nI mk') (h : CE tp n pg mk s) : CE tp n pg mk' s' :=
  ⟨RxT_fr hF (fun k h => hk k ((by decide : ∀ k ∈ [70318, 1], k ∈ [70318, 1, 9999]) k h)) h.1, h.2.1, by rw [hF.O (hk _ (by decide))]; exact h.2.2.1, hm⟩
theorem CX_fr {l : List Nat} (hF : Fr l s s') (hk : ∀ k ∈ kCx 12, k ∉ l) (h : CX tp n 12 s p b o L s) : CX tp n 12 s' p b o L s' :=
  ⟨h.1, TkA_fr hF (fun k h => hk k ((by decide : ∀ k ∈ kAd, k ∈ kCx 12) k h)) h.2.1, by rw [hF.I 612 18 (hk _ (by decide))]; exact h.2.2.1, by rw [hF.I 611 18 (hk _ (by decide))]; exact h.2.2.2.1, PgC_fr hF (hk _ (by decide)) (hk _ (by decide)) h.2.2.2.2.1, Fr_r _ _⟩
theorem hasW_1 {k0 : Nat} (hP : PgC 12 L s) (hL : L.length ≤ 1602) (hj : k0 < L.length) (hc : cSt (L.getD k0 0) = nI 13) : ∀ d k f, k + d = k0 → d < f → mfix f (f_Pg_hasWord_L3 N) (12, nI 13, nI L.length, nI k, s) = some (nI 1, s) := by
  obtain ⟨o1, o2, o3, o4, o5, o6⟩ := pl_ok
  have e1 := hP.1
  intro d
  induction d with
  | zero =>
    intro k f hk hf
    have : k = k0 := by omega
    subst this
    have e2 := (hP.2 k hj).trans hc
    rw [mfix_1 (by omega)]
    simp (disch := first | omega | decide) only [f_Pg_hasWord_L3, o2, o5, e1, e2, zI_0, zI_1, zI_2, zI_3, zI_4, zI_5, zI_6, zI_7, zI_8, zI_9, zI_10, zI_11, zI_12, zI_13, zI_14, zI_15, zI_16, zI_17, zI_18, zI_19, zI_20, zI_21, zI_22, zI_23, zI_24, zI_25, zI_26, zI_27, zI_28, zI_29, zI_30, zI_31, zI_32, zI_33, zI_34, zI_35, zI_36, zI_37, zI_38, zI_39, zI_40, zI_41, zI_42, zI_43, zI_44, zI_45, zI_46, zI_47, zI_48, zI_49, zI_50, zI_51, zI_52, zI_53, zI_54, zI_55, zI_56, zI_57, zI_58, zI_59, zI_60, zI_61, zI_62, zI_63, zI_64, zI_65, zI_66, zI_67, zI_74, zI_84, zI_85, zI_88, zI_91, zI_93, zI_97, zI_99, zI_100, zI_102, zI_105, zI_117, zI_122, zI_193, zI_202, zI_205, zI_251, zI_255, zI_256, zI_257, zI_258, zI_259, zI_260, zI_640, zI_999, zI_1000, zI_1024, zI_1600, zI_1602, zI_1700, zI_2040, zI_3200, zI_4100, zI_9728, zI_11784, zI_61440, zI_65536, zI_470536, zI_999999, zI_1000000, lt_T, lt_F, le_T, le_F, eq_T, eq_F, neg_1, cn_m1p, cn_m11, nI_add, cn_sub, pk_mul, cn_div, cn_irm, cn_lt, cn_eq, cn_ltm1, cn_m1lt, cn_eqm1, cn_m1eq, cn_ix, cn_inb, cn_ninb, cn_irs, cn_ils, cn_and, cn_or, cn_xor, grd_t, grd_bt, grd_bl, Nat.add_zero, Nat.zero_add, Nat.reduceAdd, Nat.reduceSub, Nat.reduceMul, Nat.reduceLT, Nat.reduceEqDiff, eq_self, true_and, and_true, and_false, false_and, if_true, if_false, and_self, Bool.true_eq_false, Bool.false_eq_true]
  | succ d ih =>
    intro k f hk hf
    have e2 := hP.2 k (by omega)
    rw [mfix_1 (by omega)]
    by_cases c : cSt (L.getD k 0) = nI 13
    · have e2 := e2.trans c
      simp (disch := first | omega | decide) only [f_Pg_hasWord_L3, o2, o5, e1, e2, zI_0, zI_1, zI_2, zI_3, zI_4, zI_5, zI_6, zI_7, zI_8, zI_9, zI_10, zI_11, zI_12, zI_13, zI_14, zI_15, zI_16, zI_17, zI_18, zI_19, zI_20, zI_21, zI_22, zI_23, zI_24, zI_25, zI_26, zI_27, zI_28, zI_29, zI_30, zI_31, zI_32, zI_33, zI_34, zI_35, zI_36, zI_37, zI_38, zI_39, zI_40, zI_41, zI_42, zI_43, zI_44, zI_45, zI_46, zI_47, zI_48, zI_49, zI_50, zI_51, zI_52, zI_53, zI_54, zI_55, zI_56, zI_57, zI_58, zI_59, zI_60, zI_61, zI_62, zI_63, zI_64, zI_65, zI_66, zI_67, zI_74, zI_84, zI_85, zI_88, zI_91, zI_93, zI_97, zI_99, zI_100, zI_102, zI_105, zI_117, zI_122, zI_193, zI_202, zI_205, zI_251, zI_255, zI_256, zI_257, zI_258, zI_259, zI_260, zI_640, zI_999, zI_1000, zI_1024, zI_1600, zI_1602, zI_1700, zI_2040, zI_3200, zI_4100, zI_9728, zI_11784, zI_61440, zI_65536, zI_470536, zI_999999, zI_1000000, lt_T, lt_F, le_T, le_F, eq_T, eq_F, neg_1, cn_m1p, cn_m11, nI_add, cn_sub, pk_mul, cn_div, cn_irm, cn_lt, cn_eq, cn_ltm1, cn_m1lt, cn_eqm1, cn_m1eq, cn_ix, cn_inb, cn_ninb, cn_irs, cn_ils, cn_and, cn_or, cn_xor, grd_t, grd_bt, grd_bl, Nat.add_zero, Nat.zero_add, Nat.reduceAdd, Nat.reduceSub, Nat.reduceMul, Nat.reduceLT, Nat.reduceEqDiff, eq_self, true_and, and_true, and_false, false_and, if_true, if_false, and_self, Bool.true_eq_false, Bool.false_eq_true]
    · have q : (cSt (L.getD k 0) = nI 13) = False := eq_false c
      simp (disch := first | omega | decide) only [f_Pg_hasWord_L3, o2, o5, e1, e2, q, zI_0, zI_1, zI_2, zI_3, zI_4, zI_5, zI_6, zI_7, zI_8, zI_9, zI_10, zI_11, zI_12, zI_13, zI_14, zI_15, zI_16, zI_17, zI_18, zI_19, zI_20, zI_21, zI_22, zI_23, zI_24, zI_25, zI_26, zI_27, zI_28, zI_29, zI_30, zI_31, zI_32, zI_33, zI_34, zI_35, zI_36, zI_37, zI_38, zI_39, zI_40, zI_41, zI_42, zI_43, zI_44, zI_45, zI_46, zI_47, zI_48, zI_49, zI_50, zI_51, zI_52, zI_53, zI_54, zI_55, zI_56, zI_57, zI_58, zI_59, zI_60, zI_61, zI_62, zI_63, zI_64, zI_65, zI_66, zI_67, zI_74, zI_84, zI_85, zI_88, zI_91, zI_93, zI_97, zI_99, zI_100, zI_102, zI_105, zI_117, zI_122, zI_193, zI_202, zI_205, zI_251, zI_255, zI_256, zI_257, zI_258, zI_259, zI_260, zI_640, zI_999, zI_1000, zI_1024, zI_1600, zI_1602, zI_1700, zI_2040, zI_3200, zI_4100, zI_9728, zI_11784, zI_61440, zI_65536, zI_470536, zI_999999, zI_1000000, lt_T, lt_F, le_T, le_F, eq_T, eq_F, neg_1, cn_m1p, cn_m11, nI_add, cn_sub, pk_mul, cn_div, cn_irm, cn_lt, cn_eq, cn_ltm1, cn_m1lt, cn_eqm1, cn_m1eq, cn_ix, cn_inb, cn_ninb, cn_irs, cn_ils, cn_and, cn_or, cn_xor, grd_t, grd_bt, grd_bl, Nat.add_zero, Nat.zero_add, Nat.reduceAdd, Nat.reduceSub, Nat.reduceMul, Nat.reduceLT, Nat.reduceEqDiff, eq_self, true_and, and_true, and_false, false_and, if_true, if_false, and_self, Bool.true_eq_false, Bool.false_eq_true]
      exact ih (k + 1) (f - 1) (by omega) (by omega)
theorem hasW_0 (hP : PgC 12 L s) (hL : L.length ≤ 1602) : ∀ d k f, k + d = L.length → d < f → (∀ i, k ≤ i → i < L.length → cSt (L.getD i 0) ≠ nI 13) → mfix f (f_Pg_hasWord_L3 N) (12, nI 13, nI L.length, nI k, s) = some (nI 0, s) := by
  obtain ⟨o1, o2, o3, o4, o5, o6⟩ := pl_ok
  have e1 := hP.1
  intro d
  induction d with
  | zero =>
    intro k f hk hf hc
    rw [mfix_1 (by omega)]
    simp (disch := first | omega | decide) only [f_Pg_hasWord_L3, o2, o5, e1, zI_0, zI_1, zI_2, zI_3, zI_4, zI_5, zI_6, zI_7, zI_8, zI_9, zI_10, zI_11, zI_12, zI_13, zI_14, zI_15, zI_16, zI_17, zI_18, zI_19, zI_20, zI_21, zI_22, zI_23, zI_24, zI_25, zI_26, zI_27, zI_28, zI_29, zI_30, zI_31, zI_32, zI_33, zI_34, zI_35, zI_36, zI_37, zI_38, zI_39, zI_40, zI_41, zI_42, zI_43, zI_44, zI_45, zI_46, zI_47, zI_48, zI_49, zI_50, zI_51, zI_52, zI_53, zI_54, zI_55, zI_56, zI_57, zI_58, zI_59, zI_60, zI_61, zI_62, zI_63, zI_64, zI_65, zI_66, zI_67, zI_74, zI_84, zI_85, zI_88, zI_91, zI_93, zI_97, zI_99, zI_100, zI_102, zI_105, zI_117, zI_122, zI_193, zI_202, zI_205, zI_251, zI_255, zI_256, zI_257, zI_258, zI_259, zI_260, zI_640, zI_999, zI_1000, zI_1024, zI_1600, zI_1602, zI_1700, zI_2040, zI_3200, zI_4100, zI_9728, zI_11784, zI_61440, zI_65536, zI_470536, zI_999999, zI_1000000, lt_T, lt_F, le_T, le_F, eq_T, eq_F, neg_1, cn_m1p, cn_m11, nI_add, cn_sub, pk_mul, cn_div, cn_irm, cn_lt, cn_eq, cn_ltm1, cn_m1lt, cn_eqm1, cn_m1eq, cn_ix, cn_inb, cn_ninb, cn_irs, cn_ils, cn_and, cn_or, cn_xor, grd_t, grd_bt, grd_bl, Nat.add_zero, Nat.zero_add, Nat.reduceAdd, Nat.reduceSub, Nat.reduceMul, Nat.reduceLT, Nat.reduceEqDiff, eq_self, true_and, and_true, and_false, false_and, if_true, if_false, and_self, Bool.true_eq_false, Bool.false_eq_true]
  | succ d ih =>
    intro k f hk hf hc
    have e2 := hP.2 k (by omega)
    rw [mfix_1 (by omega)]
    have q : (cSt (L.getD k 0) = nI 13) = False := eq_false (hc k (Nat.le_refl _) (by omega))
    simp (disch := first | omega | decide) only [f_Pg_hasWord_L3, o2, o5, e1, e2, q, zI_0, zI_1, zI_2, zI_3, zI_4, zI_5, zI_6, zI_7, zI_8, zI_9, zI_10, zI_11, zI_12, zI_13, zI_14, zI_15, zI_16, zI_17, zI_18, zI_19, zI_20, zI_21, zI_22, zI_23, zI_24, zI_25, zI_26, zI_27, zI_28, zI_29, zI_30, zI_31, zI_32, zI_33, zI_34, zI_35, zI_36, zI_37, zI_38, zI_39, zI_40, zI_41, zI_42, zI_43, zI_44, zI_45, zI_46, zI_47, zI_48, zI_49, zI_50, zI_51, zI_52, zI_53, zI_54, zI_55, zI_56, zI_57, zI_58, zI_59, zI_60, zI_61, zI_62, zI_63, zI_64, zI_65, zI_66, zI_67, zI_74, zI_84, zI_85, zI_88, zI_91, zI_93, zI_97, zI_99, zI_100, zI_102, zI_105, zI_117, zI_122, zI_193, zI_202, zI_205, zI_251, zI_255, zI_256, zI_257, zI_258, zI_259, zI_260, zI_640, zI_999, zI_1000, zI_1024, zI_1600, zI_1602, zI_1700, zI_2040, zI_3200, zI_4100, zI_9728, zI_11784, zI_61440, zI_65536, zI_470536, zI_999999, zI_1000000, lt_T, lt_F, le_T, le_F, eq_T, eq_F, neg_1, cn_m1p, cn_m11, nI_add, cn_sub, pk_mul, cn_div, cn_irm, cn_lt, cn_eq, cn_ltm1, cn_m1lt, cn_eqm1, cn_m1eq, cn_ix, cn_inb, cn_ninb, cn_irs, cn_ils, cn_and, cn_or, cn_xor, grd_t, grd_bt, grd_bl, Nat.add_zero, Nat.zero_add, Nat.reduceAdd, Nat.reduceSub, Nat.reduceMul, Nat.reduceLT, Nat.reduceEqDiff, eq_self, true_and, and_true, and_false, false_and, if_true, if_false, and_self, Bool.true_eq_false, Bool.false_eq_true]
    exact ih (k + 1) (f - 1) (by omega) (by omega) (fun i h1 h2 => hc i (by omega) h2)
theorem hasW_t (h1 : gI s 501 12 = nI sz) (hs : sz ≤ 1602) : ∀ d k f, sz ≤ k + d → k ≤ 5000 → d < f → ∃ r, mfix f (f_Pg_hasWord_L3 N) (12, nI 13, nI sz, nI k, s) = some (r, s) := by
  obtain ⟨o1, o2, o3, o4, o5, o6⟩ := pl_ok
  intro d
  induction d with
  | zero =>
    intro k f hk hk2 hf
    refine ⟨nI 0, ?_⟩
    rw [mfix_1 (by omega)]
    simp (disch := first | omega | decide) only [f_Pg_hasWord_L3, o2, o5, h1, zI_0, zI_1, zI_2, zI_3, zI_4, zI_5, zI_6, zI_7, zI_8, zI_9, zI_10, zI_11, zI_12, zI_13, zI_14, zI_15, zI_16, zI_17, zI_18, zI_19, zI_20, zI_21, zI_22, zI_23, zI_24, zI_25, zI_26, zI_27, zI_28, zI_29, zI_30, zI_31, zI_32, zI_33, zI_34, zI_35, zI_36, zI_37, zI_38, zI_39, zI_40, zI_41, zI_42, zI_43, zI_44, zI_45, zI_46, zI_47, zI_48, zI_49, zI_50, zI_51, zI_52, zI_53, zI_54, zI_55, zI_56, zI_57, zI_58, zI_59, zI_60, zI_61, zI_62, zI_63, zI_64, zI_65, zI_66, zI_67, zI_74, zI_84, zI_85, zI_88, zI_91, zI_93, zI_97, zI_99, zI_100, zI_102, zI_105, zI_117, zI_122, zI_193, zI_202, zI_205, zI_251, zI_255, zI_256, zI_257, zI_258, zI_259, zI_260, zI_640, zI_999, zI_1000, zI_1024, zI_1600, zI_1602, zI_1700, zI_2040, zI_3200, zI_4100, zI_9728, zI_11784, zI_61440, zI_65536, zI_470536, zI_999999, zI_1000000, lt_T, lt_F, le_T, le_F, eq_T, eq_F, neg_1, cn_m1p, cn_m11, nI_add, cn_sub, pk_mul, cn_div, cn_irm, cn_lt, cn_eq, cn_ltm1, cn_m1lt, cn_eqm1, cn_m1eq, cn_ix, cn_inb, cn_ninb, cn_irs, cn_ils, cn_and, cn_or, cn_xor, grd_t, grd_bt, grd_bl, Nat.add_zero, Nat.zero_add, Nat.reduceAdd, Nat.reduceSub, Nat.reduceMul, Nat.reduceLT, Nat.reduceEqDiff, eq_self, true_and, and_true, and_false, false_and, if_true, if_false, and_self, Bool.true_eq_false, Bool.false_eq_true]
  | succ d ih =>
    intro k f hk hk2 hf
    rw [mfix_1 (by omega)]
    by_cases c : k < sz
    · by_cases c2 : gA s 13 k = nI 13
      · refine ⟨nI 1, ?_⟩
        simp (disch := first | omega | decide) only [f_Pg_hasWord_L3, o2, o5, h1, c2, zI_0, zI_1, zI_2, zI_3, zI_4, zI_5, zI_6, zI_7, zI_8, zI_9, zI_10, zI_11, zI_12, zI_13, zI_14, zI_15, zI_16, zI_17, zI_18, zI_19, zI_20, zI_21, zI_22, zI_23, zI_24, zI_25, zI_26, zI_27, zI_28, zI_29, zI_30, zI_31, zI_32, zI_33, zI_34, zI_35, zI_36, zI_37, zI_38, zI_39, zI_40, zI_41, zI_42, zI_43, zI_44, zI_45, zI_46, zI_47, zI_48, zI_49, zI_50, zI_51, zI_52, zI_53, zI_54, zI_55, zI_56, zI_57, zI_58, zI_59, zI_60, zI_61, zI_62, zI_63, zI_64, zI_65, zI_66, zI_67, zI_74, zI_84, zI_85, zI_88, zI_91, zI_93, zI_97, zI_99, zI_100, zI_102, zI_105, zI_117, zI_122, zI_193, zI_202, zI_205, zI_251, zI_255, zI_256, zI_257, zI_258, zI_259, zI_260, zI_640, zI_999, zI_1000, zI_1024, zI_1600, zI_1602, zI_1700, zI_2040, zI_3200, zI_4100, zI_9728, zI_11784, zI_61440, zI_65536, zI_470536, zI_999999, zI_1000000, lt_T, lt_F, le_T, le_F, eq_T, eq_F, neg_1, cn_m1p, cn_m11, nI_add, cn_sub, pk_mul, cn_div, cn_irm, cn_lt, cn_eq, cn_ltm1, cn_m1lt, cn_eqm1, cn_m1eq, cn_ix, cn_inb, cn_ninb, cn_irs, cn_ils, cn_and, cn_or, cn_xor, grd_t, grd_bt, grd_bl, Nat.add_zero, Nat.zero_add, Nat.reduceAdd, Nat.reduceSub, Nat.reduceMul, Nat.reduceLT, Nat.reduceEqDiff, eq_self, true_and, and_true, and_false, false_and, if_true, if_false, and_self, Bool.true_eq_false, Bool.false_eq_true]
      · have q : (gA s 13 k = nI 13) = False := eq_false c2
        obtain ⟨r, e⟩ := ih (k + 1) (f - 1) (by omega) (by omega) (by omega)
        refine ⟨r, ?_⟩
        simp (disch := first | omega | decide) only [f_Pg_hasWord_L3, o2, o5, h1, q, zI_0, zI_1, zI_2, zI_3, zI_4, zI_5, zI_6, zI_7, zI_8, zI_9, zI_10, zI_11, zI_12, zI_13, zI_14, zI_15, zI_16, zI_17, zI_18, zI_19, zI_20, zI_21, zI_22, zI_23, zI_24, zI_25, zI_26, zI_27, zI_28, zI_29, zI_30, zI_31, zI_32, zI_33, zI_34, zI_35, zI_36, zI_37, zI_38, zI_39, zI_40, zI_41, zI_42, zI_43, zI_44, zI_45, zI_46, zI_47, zI_48, zI_49, zI_50, zI_51, zI_52, zI_53, zI_54, zI_55, zI_56, zI_57, zI_58, zI_59, zI_60, zI_61, zI_62, zI_63, zI_64, zI_65, zI_66, zI_67, zI_74, zI_84, zI_85, zI_88, zI_91, zI_93, zI_97, zI_99, zI_100, zI_102, zI_105, zI_117, zI_122, zI_193, zI_202, zI_205, zI_251, zI_255, zI_256, zI_257, zI_258, zI_259, zI_260, zI_640, zI_999, zI_1000, zI_1024, zI_1600, zI_1602, zI_1700, zI_2040, zI_3200, zI_4100, zI_9728, zI_11784, zI_61440, zI_65536, zI_470536, zI_999999, zI_1000000, lt_T, lt_F, le_T, le_F, eq_T, eq_F, neg_1, cn_m1p, cn_m11, nI_add, cn_sub, pk_mul, cn_div, cn_irm, cn_lt, cn_eq, cn_ltm1, cn_m1lt, cn_eqm1, cn_m1eq, cn_ix, cn_inb, cn_ninb, cn_irs, cn_ils, cn_and, cn_or, cn_xor, grd_t, grd_bt, grd_bl, Nat.add_zero, Nat.zero_add, Nat.reduceAdd, Nat.reduceSub, Nat.reduceMul, Nat.reduceLT, Nat.reduceEqDiff, eq_self, true_and, and_true, and_false, false_and, if_true, if_false, and_self, Bool.true_eq_false, Bool.false_eq_true]
        exact e
    · refine ⟨nI 0, ?_⟩
      simp (disch := first | omega | decide) only [f_Pg_hasWord_L3, o2, o5, h1, zI_0, zI_1, zI_2, zI_3, zI_4, zI_5, zI_6, zI_7, zI_8, zI_9, zI_10, zI_11, zI_12, zI_13, zI_14, zI_15, zI_16, zI_17, zI_18, zI_19, zI_20, zI_21, zI_22, zI_23, zI_24, zI_25, zI_26, zI_27, zI_28, zI_29, zI_30, zI_31, zI_32, zI_33, zI_34, zI_35, zI_36, zI_37, zI_38, zI_39, zI_40, zI_41, zI_42, zI_43, zI_44, zI_45, zI_46, zI_47, zI_48, zI_49, zI_50, zI_51, zI_52, zI_53, zI_54, zI_55, zI_56, zI_57, zI_58, zI_59, zI_60, zI_61, zI_62, zI_63, zI_64, zI_65, zI_66, zI_67, zI_74, zI_84, zI_85, zI_88, zI_91, zI_93, zI_97, zI_99, zI_100, zI_102, zI_105, zI_117, zI_122, zI_193, zI_202, zI_205, zI_251, zI_255, zI_256, zI_257, zI_258, zI_259, zI_260, zI_640, zI_999, zI_1000, zI_1024, zI_1600, zI_1602, zI_1700, zI_2040, zI_3200, zI_4100, zI_9728, zI_11784, zI_61440, zI_65536, zI_470536, zI_999999, zI_1000000, lt_T, lt_F, le_T, le_F, eq_T, eq_F, neg_1, cn_m1p, cn_m11, nI_add, cn_sub, pk_mul, cn_div, cn_irm, cn_lt, cn_eq, cn_ltm1, cn_m1lt, cn_eqm1, cn_m1eq, cn_ix, cn_inb, cn_ninb, cn_irs, cn_ils, cn_and, cn_or, cn_xor, grd_t, grd_bt, grd_bl, Nat.add_zero, Nat.zero_add, Nat.reduceAdd, Nat.reduceSub, Nat.reduceMul, Nat.reduceLT, Nat.reduceEqDiff, eq_self, true_and, and_true, and_false, false_and, if_true, if_false, and_self, Bool.true_eq_false, Bool.false_eq_true]
theorem place_n (hP : PgC 12 (L ++ e) s) (hL : (L ++ e).length ≤ 1602) (hw : w < 12) (hb : gI s 410 9 = nI bn) (hc : ∀ c, c ∈ e → c ≤ 10999) (hN : 10000 ≤ N) :
    ∃ s', f_Pl_place N 9 (nI w) (nI L.length) s = some s' ∧ gA s' 14 w = nI L.length ∧ gA s' 15 w = nI (L ++ e).length ∧ (∀ i, i ≠ w → gA s' 14 i = gA s 14 i ∧ gA s' 15 i = gA s 15 i) ∧ gI s' 410 9 = nI (if e.elem 40 = true then bn ||| 1 <<< w else bn) ∧ Fr [14, 15, 51009] s s' := by
  obtain ⟨o1, o2, o3, o4, o5, o6⟩ := pl_ok
  have e1 := hP.1
  have ll : (L ++ e).length = L.length + e.length := List.length_append
  have F0 : Fr [14, 15] s (sA (sA s 14 w (nI L.length)) 15 w (nI (L ++ e).length)) := Fr_t (Fr_sA 14 _ _ (by decide)) (Fr_sA 15 _ _ (by decide))
  have hP2 := PgC_fr F0 (by decide) (by decide) hP
  have cells : gA (sA (sA s 14 w (nI L.length)) 15 w (nI (L ++ e).length)) 14 w = nI L.length ∧ gA (sA (sA s 14 w (nI L.length)) 15 w (nI (L ++ e).length)) 15 w = nI (L ++ e).length ∧ ∀ i, i ≠ w → gA (sA (sA s 14 w (nI L.length)) 15 w (nI (L ++ e).length)) 14 i = gA s 14 i ∧ gA (sA (sA s 14 w (nI L.length)) 15 w (nI (L ++ e).length)) 15 i = gA s 15 i :=
    ⟨by rw [gA_ne (by omega), gA_eq rfl], gA_eq rfl, fun i hi => ⟨by rw [gA_ne (by omega), gA_ne (by omega)], by rw [gA_ne (by omega), gA_ne (by omega)]⟩⟩
  have hb2 : gI (sA (sA s 14 w (nI L.length)) 15 w (nI (L ++ e).length)) 410 9 = nI bn := hb
  by_cases c : e.elem 40 = true
  · have hm := List.elem_iff.mp c
    obtain ⟨j, hj, ej⟩ := List.getElem_of_mem hm
    have hasW := hasW_1 (N := N) (k0 := L.length + j) hP2 hL (by omega) (by rw [gd_r, cSt_13 (by rw [List.getD_eq_getElem?_getD, List.getElem?_eq_getElem hj, ej]; decide), List.getD_eq_getElem?_getD, List.getElem?_eq_getElem hj, ej]; rfl) j L.length N rfl (by omega)
    have hasW : f_Pg_hasWord N 12 (nI 13) (nI L.length) (nI (L ++ e).length) (sA (sA s 14 w (nI L.length)) 15 w (nI (L ++ e).length)) = some (nI 1, sA (sA s 14 w (nI L.length)) 15 w (nI (L ++ e).length)) := hasW
    rw [if_pos c]
    refine ⟨sI (sA (sA s 14 w (nI L.length)) 15 w (nI (L ++ e).length)) 410 9 (nI (bn ||| 1 <<< w)), ?_, cells.1, cells.2.1, cells.2.2, by simp (disch := first | omega | decide) only [gI_sI, gI_sA, gI_sL, gI_sQ, gI_sC, gI_sO, gI_sD, gA_sI, gA_sL, gA_sQ, gA_sO, gA_sD, gL_sI, gL_sA, gL_sQ, gL_sC, gL_sO, gL_sD, gQ_sI, gQ_sA, gQ_sL, gQ_sC, gQ_sO, gO_sI, gO_sA, gO_sL, gO_sQ, gO_sC, gO_sO, gO_sD, gA_eq, gA_ne, gQ_eq, gQ_ne, gL_sL, gA_cin, gA_cou, gQ_cin, gQ_cou, Nat.reduceAdd, Nat.reduceSub, Nat.reduceMul, Nat.reduceLT, Nat.reduceEqDiff, eq_self, true_and, and_true, and_false, false_and, if_true, if_false, and_self, Bool.true_eq_false, Bool.false_eq_true], Fr_t (Fr_w F0 (by decide)) (Fr_sI _ _ _ (by decide))⟩
    simp (disch := first | omega | decide) only [f_Pl_place, o1, o2, o3, o4, e1, hasW, hb2, zI_0, zI_1, zI_2, zI_3, zI_4, zI_5, zI_6, zI_7, zI_8, zI_9, zI_10, zI_11, zI_12, zI_13, zI_14, zI_15, zI_16, zI_17, zI_18, zI_19, zI_20, zI_21, zI_22, zI_23, zI_24, zI_25, zI_26, zI_27, zI_28, zI_29, zI_30, zI_31, zI_32, zI_33, zI_34, zI_35, zI_36, zI_37, zI_38, zI_39, zI_40, zI_41, zI_42, zI_43, zI_44, zI_45, zI_46, zI_47, zI_48, zI_49, zI_50, zI_51, zI_52, zI_53, zI_54, zI_55, zI_56, zI_57, zI_58, zI_59, zI_60, zI_61, zI_62, zI_63, zI_64, zI_65, zI_66, zI_67, zI_74, zI_84, zI_85, zI_88, zI_91, zI_93, zI_97, zI_99, zI_100, zI_102, zI_105, zI_117, zI_122, zI_193, zI_202, zI_205, zI_251, zI_255, zI_256, zI_257, zI_258, zI_259, zI_260, zI_640, zI_999, zI_1000, zI_1024, zI_1600, zI_1602, zI_1700, zI_2040, zI_3200, zI_4100, zI_9728, zI_11784, zI_61440, zI_65536, zI_470536, zI_999999, zI_1000000, lt_T, lt_F, le_T, le_F, eq_T, eq_F, neg_1, cn_m1p, cn_m11, nI_add, cn_sub, pk_mul, cn_div, cn_irm, cn_lt, cn_eq, cn_ltm1, cn_m1lt, cn_eqm1, cn_m1eq, cn_ix, cn_inb, cn_ninb, cn_irs, cn_ils, cn_and, cn_or, cn_xor, grd_t, grd_bt, grd_bl, Nat.add_zero, Nat.zero_add, Nat.reduceAdd, Nat.reduceSub, Nat.reduceMul, Nat.reduceLT, Nat.reduceEqDiff, eq_self, true_and, and_true, and_false, false_and, if_true, if_false, and_self, Bool.true_eq_false, Bool.false_eq_true, gI_sI, gI_sA, gI_sL, gI_sQ, gI_sC, gI_sO, gI_sD, gA_sI, gA_sL, gA_sQ, gA_sO, gA_sD, gL_sI, gL_sA, gL_sQ, gL_sC, gL_sO, gL_sD, gQ_sI, gQ_sA, gQ_sL, gQ_sC, gQ_sO, gO_sI, gO_sA, gO_sL, gO_sQ, gO_sC, gO_sO, gO_sD, gA_eq, gA_ne, gQ_eq, gQ_ne, gL_sL, gA_cin, gA_cou, gQ_cin, gQ_cou, Option.bind_some]
  · have hasW := hasW_0 (N := N) hP2 hL e.length L.length N (by omega) (by omega) (fun i h1 h2 h3 => by
      obtain ⟨j, rfl⟩ : ∃ j, i = L.length + j := ⟨i - L.length, by omega⟩
      have hj : j < e.length := by omega
      have hmem := getD_mem hj
      rw [gd_r, cSt_13 (hc _ hmem)] at h3
      rw [h3] at hmem
      exact c (List.elem_iff.mpr hmem))
    have hasW : f_Pg_hasWord N 12 (nI 13) (nI L.length) (nI (L ++ e).length) (sA (sA s 14 w (nI L.length)) 15 w (nI (L ++ e).length)) = some (nI 0, sA (sA s 14 w (nI L.length)) 15 w (nI (L ++ e).length)) := hasW
    rw [if_neg c]
    refine ⟨sA (sA s 14 w (nI L.length)) 15 w (nI (L ++ e).length), ?_, cells.1, cells.2.1, cells.2.2, hb2, Fr_w F0 (by decide)⟩
    simp (disch := first | omega | decide) only [f_Pl_place, o1, o2, o3, o4, e1, hasW, zI_0, zI_1, zI_2, zI_3, zI_4, zI_5, zI_6, zI_7, zI_8, zI_9, zI_10, zI_11, zI_12, zI_13, zI_14, zI_15, zI_16, zI_17, zI_18, zI_19, zI_20, zI_21, zI_22, zI_23, zI_24, zI_25, zI_26, zI_27, zI_28, zI_29, zI_30, zI_31, zI_32, zI_33, zI_34, zI_35, zI_36, zI_37, zI_38, zI_39, zI_40, zI_41, zI_42, zI_43, zI_44, zI_45, zI_46, zI_47, zI_48, zI_49, zI_50, zI_51, zI_52, zI_53, zI_54, zI_55, zI_56, zI_57, zI_58, zI_59, zI_60, zI_61, zI_62, zI_63, zI_64, zI_65, zI_66, zI_67, zI_74, zI_84, zI_85, zI_88, zI_91, zI_93, zI_97, zI_99, zI_100, zI_102, zI_105, zI_117, zI_122, zI_193, zI_202, zI_205, zI_251, zI_255, zI_256, zI_257, zI_258, zI_259, zI_260, zI_640, zI_999, zI_1000, zI_1024, zI_1600, zI_1602, zI_1700, zI_2040, zI_3200, zI_4100, zI_9728, zI_11784, zI_61440, zI_65536, zI_470536, zI_999999, zI_1000000, lt_T, lt_F, le_T, le_F, eq_T, eq_F, neg_1, cn_m1p, cn_m11, nI_add, cn_sub, pk_mul, cn_div, cn_irm, cn_lt, cn_eq, cn_ltm1, cn_m1lt, cn_eqm1, cn_m1eq, cn_ix, cn_inb, cn_ninb, cn_irs, cn_ils, cn_and, cn_or, cn_xor, grd_t, grd_bt, grd_bl, Nat.add_zero, Nat.zero_add, Nat.reduceAdd, Nat.reduceSub, Nat.reduceMul, Nat.reduceLT, Nat.reduceEqDiff, eq_self, true_and, and_true, and_false, false_and, if_true, if_false, and_self, Bool.true_eq_false, Bool.false_eq_true, gI_sI, gI_sA, gI_sL, gI_sQ, gI_sC, gI_sO, gI_sD, gA_sI, gA_sL, gA_sQ, gA_sO, gA_sD, gL_sI, gL_sA, gL_sQ, gL_sC, gL_sO, gL_sD, gQ_sI, gQ_sA, gQ_sL, gQ_sC, gQ_sO, gO_sI, gO_sA, gO_sL, gO_sQ, gO_sC, gO_sO, gO_sD, gA_eq, gA_ne, gQ_eq, gQ_ne, gL_sL, gA_cin, gA_cou, gQ_cin, gQ_cou, Option.bind_some]
theorem place_d (h1 : gI s 501 12 = nI sz) (hs : sz ≤ 1602) (hf : fr ≤ 1602) (hw : w < 12) (hN : 10000 ≤ N) : ∃ s', f_Pl_place N 9 (nI w) (nI fr) s = some s' ∧ Fr [14, 15, 51009] s s' := by
  obtain ⟨o1, o2, o3, o4, o5, o6⟩ := pl_ok
  have F0 : Fr [14, 15] s (sA (sA s 14 w (nI fr)) 15 w (nI sz)) := Fr_t (Fr_sA 14 _ _ (by decide)) (Fr_sA 15 _ _ (by decide))
  obtain ⟨r, hasW⟩ := hasW_t (N := N) (s := sA (sA s 14 w (nI fr)) 15 w (nI sz)) (sz := sz) h1 hs sz fr N (by omega) (by omega) (by omega)
  have hasW : f_Pg_hasWord N 12 (nI 13) (nI fr) (nI sz) (sA (sA s 14 w (nI fr)) 15 w (nI sz)) = some (r, sA (sA s 14 w (nI fr)) 15 w (nI sz)) := hasW
  by_cases c : r = nI 0
  · refine ⟨sA (sA s 14 w (nI fr)) 15 w (nI sz), ?_, Fr_w F0 (by decide)⟩
    simp (disch := first | omega | decide) only [f_Pl_place, o1, o2, o3, o4, h1, hasW, c, zI_0, zI_1, zI_2, zI_3, zI_4, zI_5, zI_6, zI_7, zI_8, zI_9, zI_10, zI_11, zI_12, zI_13, zI_14, zI_15, zI_16, zI_17, zI_18, zI_19, zI_20, zI_21, zI_22, zI_23, zI_24, zI_25, zI_26, zI_27, zI_28, zI_29, zI_30, zI_31, zI_32, zI_33, zI_34, zI_35, zI_36, zI_37, zI_38, zI_39, zI_40, zI_41, zI_42, zI_43, zI_44, zI_45, zI_46, zI_47, zI_48, zI_49, zI_50, zI_51, zI_52, zI_53, zI_54, zI_55, zI_56, zI_57, zI_58, zI_59, zI_60, zI_61, zI_62, zI_63, zI_64, zI_65, zI_66, zI_67, zI_74, zI_84, zI_85, zI_88, zI_91, zI_93, zI_97, zI_99, zI_100, zI_102, zI_105, zI_117, zI_122, zI_193, zI_202, zI_205, zI_251, zI_255, zI_256, zI_257, zI_258, zI_259, zI_260, zI_640, zI_999, zI_1000, zI_1024, zI_1600, zI_1602, zI_1700, zI_2040, zI_3200, zI_4100, zI_9728, zI_11784, zI_61440, zI_65536, zI_470536, zI_999999, zI_1000000, lt_T, lt_F, le_T, le_F, eq_T, eq_F, neg_1, cn_m1p, cn_m11, nI_add, cn_sub, pk_mul, cn_div, cn_irm, cn_lt, cn_eq, cn_ltm1, cn_m1lt, cn_eqm1, cn_m1eq, cn_ix, cn_inb, cn_ninb, cn_irs, cn_ils, cn_and, cn_or, cn_xor, grd_t, grd_bt, grd_bl, Nat.add_zero, Nat.zero_add, Nat.reduceAdd, Nat.reduceSub, Nat.reduceMul, Nat.reduceLT, Nat.reduceEqDiff, eq_self, true_and, and_true, and_false, false_and, if_true, if_false, and_self, Bool.true_eq_false, Bool.false_eq_true, gI_sI, gI_sA, gI_sL, gI_sQ, gI_sC, gI_sO, gI_sD, gA_sI, gA_sL, gA_sQ, gA_sO, gA_sD, gL_sI, gL_sA, gL_sQ, gL_sC, gL_sO, gL_sD, gQ_sI, gQ_sA, gQ_sL, gQ_sC, gQ_sO, gO_sI, gO_sA, gO_sL, gO_sQ, gO_sC, gO_sO, gO_sD, gA_eq, gA_ne, gQ_eq, gQ_ne, gL_sL, gA_cin, gA_cou, gQ_cin, gQ_cou, Option.bind_some]
  · have q : (r = nI 0) = False := eq_false c
    refine ⟨_, ?_, Fr_t (Fr_w F0 (by decide)) (Fr_sI 410 9 (gI (sA (sA s 14 w (nI fr)) 15 w (nI sz)) 410 9 ||| ils (nI 1) (nI w)) (by decide))⟩
    simp (disch := first | omega | decide) only [f_Pl_place, o1, o2, o3, o4, h1, hasW, q, zI_0, zI_1, zI_2, zI_3, zI_4, zI_5, zI_6, zI_7, zI_8, zI_9, zI_10, zI_11, zI_12, zI_13, zI_14, zI_15, zI_16, zI_17, zI_18, zI_19, zI_20, zI_21, zI_22, zI_23, zI_24, zI_25, zI_26, zI_27, zI_28, zI_29, zI_30, zI_31, zI_32, zI_33, zI_34, zI_35, zI_36, zI_37, zI_38, zI_39, zI_40, zI_41, zI_42, zI_43, zI_44, zI_45, zI_46, zI_47, zI_48, zI_49, zI_50, zI_51, zI_52, zI_53, zI_54, zI_55, zI_56, zI_57, zI_58, zI_59, zI_60, zI_61, zI_62, zI_63, zI_64, zI_65, zI_66, zI_67, zI_74, zI_84, zI_85, zI_88, zI_91, zI_93, zI_97, zI_99, zI_100, zI_102, zI_105, zI_117, zI_122, zI_193, zI_202, zI_205, zI_251, zI_255, zI_256, zI_257, zI_258, zI_259, zI_260, zI_640, zI_999, zI_1000, zI_1024, zI_1600, zI_1602, zI_1700, zI_2040, zI_3200, zI_4100, zI_9728, zI_11784, zI_61440, zI_65536, zI_470536, zI_999999, zI_1000000, cn_inb, cn_ix, grd_t, grd_bt, Nat.reduceAdd, Nat.reduceSub, Nat.reduceMul, Nat.reduceLT, Nat.reduceEqDiff, eq_self, true_and, and_true, and_false, false_and, if_true, if_false, and_self, Bool.true_eq_false, Bool.false_eq_true, gI_sI, gI_sA, gI_sL, gI_sQ, gI_sC, gI_sO, gI_sD, gA_sI, gA_sL, gA_sQ, gA_sO, gA_sD, gL_sI, gL_sA, gL_sQ, gL_sC, gL_sO, gL_sD, gQ_sI, gQ_sA, gQ_sL, gQ_sC, gQ_sO, gO_sI, gO_sA, gO_sL, gO_sQ, gO_sC, gO_sO, gO_sD, gA_eq, gA_ne, gQ_eq, gQ_ne, gL_sL, gA_cin, gA_cou, gQ_cin, gQ_cou, Option.bind_some]
end PLACE
