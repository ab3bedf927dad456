/-! NAMES -/
def nmL (tp : Nat → Nat) (q : Nat) : Nat → List Nat
  | 0 => []
  | k + 1 => nmL tp q k ++ [tp (q + k) - 96]
theorem snoc_c : ∀ l : List Nat, l = [] ∨ ∃ l0 x, l = l0 ++ [x]
  | [] => Or.inl rfl
  | a :: l => Or.inr (by
    rcases snoc_c l with rfl | ⟨l0, x, rfl⟩
    · exact ⟨[], a, rfl⟩
    · exact ⟨a :: l0, x, rfl⟩)
theorem vaL_0 {B : Nat} {l : List Nat} (h : ∀ x ∈ l, 1 ≤ x ∧ x < B) (e : vaL B l = 0) : l = [] := by
  rcases snoc_c l with rfl | ⟨l1, y, rfl⟩
  · rfl
  · rw [vaL_snoc] at e
    have := h y (List.mem_append_right _ (List.mem_singleton.mpr rfl))
    omega
theorem vaL_inj {B : Nat} : ∀ (k : Nat) {l l' : List Nat}, l.length ≤ k → (∀ x ∈ l, 1 ≤ x ∧ x < B) → (∀ x ∈ l', 1 ≤ x ∧ x < B) → vaL B l = vaL B l' → l = l' := by
  intro k
  induction k with
  | zero =>
    intro l l' hk h h' e
    have : l = [] := List.length_eq_zero_iff.mp (by omega)
    subst this
    exact (vaL_0 h' e.symm).symm
  | succ k ih =>
    intro l l' hk h h' e
    rcases snoc_c l with rfl | ⟨l0, x, rfl⟩
    · exact (vaL_0 h' e.symm).symm
    · rcases snoc_c l' with rfl | ⟨l1, y, rfl⟩
      · exact vaL_0 h e
      · have hx := h x (List.mem_append_right _ (List.mem_singleton.mpr rfl))
        have hy := h' y (List.mem_append_right _ (List.mem_singleton.mpr rfl))
        rw [vaL_snoc, vaL_snoc] at e
        have e1 : x = y := by
          have := congrArg (· % B) e
          simp only [Nat.mul_add_mod, Nat.mod_eq_of_lt hx.2, Nat.mod_eq_of_lt hy.2] at this
          exact this
        have e2 : vaL B l0 = vaL B l1 := Nat.eq_of_mul_eq_mul_left (show 0 < B by omega) (by omega)
        rw [List.length_append, List.length_singleton] at hk
        have := ih (by omega) (fun z hz => h z (List.mem_append_left _ hz)) (fun z hz => h' z (List.mem_append_left _ hz)) e2
        rw [this, e1]
def NmO (l : List Nat) : Prop := 1 ≤ l.length ∧ l.length ≤ 6 ∧ ∀ x ∈ l, 1 ≤ x ∧ x ≤ 26
theorem nmX_inj1 {l l' : List Nat} (h : NmO l) (h' : NmO l') (hz : l.length ≤ l'.length) (e : nmX l = nmX l') : l = l' := by
  obtain ⟨h1, h2, h3⟩ := h
  obtain ⟨h1', h2', h3'⟩ := h'
  unfold nmX at e
  have e3 : vaL 100 l * 100 ^ (l'.length - l.length) = vaL 100 l' := by
    rw [show 6 - l.length = (l'.length - l.length) + (6 - l'.length) by omega, Nat.pow_add, ← Nat.mul_assoc] at e
    exact Nat.eq_of_mul_eq_mul_right (Nat.pow_pos (by omega)) e
  by_cases c : l.length = l'.length
  · rw [c, Nat.sub_self, Nat.pow_zero, Nat.mul_one] at e3
    exact vaL_inj l.length (Nat.le_refl _) (fun x hx => by have := h3 x hx; omega) (fun x hx => by have := h3' x hx; omega) e3
  · exfalso
    rcases snoc_c l' with rfl | ⟨l1, y, rfl⟩
    · rw [List.length_nil] at h1'; omega
    · have hy := h3' y (List.mem_append_right _ (List.mem_singleton.mpr rfl))
      rw [vaL_snoc] at e3
      obtain ⟨d, hd⟩ : ∃ d, (l1 ++ [y]).length - l.length = d + 1 := ⟨(l1 ++ [y]).length - l.length - 1, by omega⟩
      rw [hd, Nat.pow_succ, ← Nat.mul_assoc] at e3
      omega
theorem nmX_inj {l l' : List Nat} (h : NmO l) (h' : NmO l') (e : nmX l = nmX l') : l = l' := by
  rcases Nat.le_total l.length l'.length with c | c
  · exact nmX_inj1 h h' c e
  · exact (nmX_inj1 h' h c e.symm).symm
theorem va27_inj {l l' : List Nat} (h : NmO l) (h' : NmO l') (e : vaL 27 l = vaL 27 l') : l = l' :=
  vaL_inj l.length (Nat.le_refl _) (fun x hx => by have := h.2.2 x hx; omega) (fun x hx => by have := h'.2.2 x hx; omega) e
theorem vaL_lt {B : Nat} {l : List Nat} (hb : ∀ x ∈ l, x < B) : vaL B l < B ^ l.length := by
  have := va_lt hb l.length (Nat.le_refl _)
  rwa [List.take_length] at this
theorem nmX_lt {l : List Nat} (h : NmO l) : nmX l < 1000000000000 := by
  have h1 := vaL_lt (B := 100) (l := l) (fun x hx => by have := h.2.2 x hx; omega)
  unfold nmX
  have h2 : vaL 100 l * 100 ^ (6 - l.length) < 100 ^ l.length * 100 ^ (6 - l.length) := Nat.mul_lt_mul_of_pos_right h1 (Nat.pow_pos (by omega))
  rw [← Nat.pow_add, show l.length + (6 - l.length) = 6 by have := h.2.1; omega] at h2
  exact h2
theorem va27_lt {l : List Nat} (h : NmO l) : vaL 27 l < 1000000000000 := by
  have h1 := vaL_lt (B := 27) (l := l) (fun x hx => by have := h.2.2 x hx; omega)
  have h2 : 27 ^ l.length ≤ 27 ^ 6 := Nat.pow_le_pow_right (by omega) h.2.1
  exact Nat.lt_of_lt_of_le h1 (Nat.le_trans h2 (by decide))
theorem cmp_lN {a b : Nat} (ha : a < 1000000000000) (hb : b < 1000000000000) : (lg_cmp (lN a) (lN b) = 0) = (a = b) := by
  rw [← zl_lN, ← zl_lN, zc_eq (by omega)]
  exact propext ⟨fun h => by omega, fun h => by omega⟩
section NAMES
variable {N n p q z np : Nat} {tp : Nat → Nat} {b : Bool} {s t : mS} {nm : Nat → List Nat} {l : List Nat}
theorem nmL_len : ∀ k, (nmL tp q k).length = k
  | 0 => rfl
  | k + 1 => by show (nmL tp q k ++ [_]).length = k + 1; rw [List.length_append, nmL_len k]; rfl
theorem nmL_ok : ∀ k, (∀ i, i < k → 97 ≤ tp (q + i) ∧ tp (q + i) ≤ 122) → ∀ x ∈ nmL tp q k, 1 ≤ x ∧ x ≤ 26
  | 0, _, x, hx => by cases hx
  | k + 1, h, x, hx => by
    rcases List.mem_append.mp hx with hx | hx
    · exact nmL_ok k (fun i hi => h i (by omega)) x hx
    · rcases List.mem_singleton.mp hx with rfl
      have := h k (by omega)
      omega
theorem spW_nm : ∀ k, (∀ i, i < k → 97 ≤ tp (q + i) ∧ tp (q + i) ≤ 122) → spW tp q k = vaL 100 (nmL tp q k)
  | 0, _ => rfl
  | k + 1, h => by
    have := h k (by omega)
    rw [spW_s, spW_nm k (fun i hi => h i (by omega)), show nmL tp q (k + 1) = nmL tp q k ++ [tp (q + k) - 96] from rfl, vaL_snoc]
    omega
theorem full_n {v : Nat} : ∀ d k f, k + d = 6 → d < f → mfix f (f_Pl_fullName_L5 N) (lN v, nI k, s) = some (lN (v * 100 ^ d), s) := by
  intro d
  induction d generalizing v with
  | zero =>
    intro k f hk hf
    have : k = 6 := by omega
    subst this
    rw [mfix_1 (by omega), Nat.pow_zero, Nat.mul_one]
    simp (disch := first | omega | decide) only [f_Pl_fullName_L5, zI_0, zI_1, zI_2, zI_3, zI_4, zI_5, zI_6, zI_7, zI_8, zI_9, zI_10, zI_11, zI_12, zI_13, zI_14, zI_15, zI_16, zI_17, zI_18, zI_19, zI_20, zI_21, zI_22, zI_23, zI_24, zI_25, zI_26, zI_27, zI_28, zI_29, zI_30, zI_31, zI_32, zI_33, zI_34, zI_35, zI_36, zI_37, zI_38, zI_39, zI_40, zI_41, zI_42, zI_43, zI_44, zI_45, zI_46, zI_47, zI_48, zI_49, zI_50, zI_51, zI_52, zI_53, zI_54, zI_55, zI_56, zI_57, zI_58, zI_59, zI_60, zI_61, zI_62, zI_63, zI_64, zI_65, zI_66, zI_67, zI_74, zI_84, zI_85, zI_88, zI_91, zI_93, zI_97, zI_99, zI_100, zI_102, zI_105, zI_117, zI_122, zI_193, zI_202, zI_205, zI_251, zI_255, zI_256, zI_257, zI_258, zI_259, zI_260, zI_640, zI_999, zI_1000, zI_1024, zI_1600, zI_1602, zI_1700, zI_2040, zI_3200, zI_4100, zI_9728, zI_11784, zI_61440, zI_65536, zI_470536, zI_999999, zI_1000000, lt_T, lt_F, le_T, le_F, eq_T, eq_F, neg_1, cn_m1p, cn_m11, nI_add, cn_sub, pk_mul, cn_div, cn_irm, cn_lt, cn_eq, cn_ltm1, cn_m1lt, cn_eqm1, cn_m1eq, cn_ix, cn_inb, cn_ninb, cn_irs, cn_ils, cn_and, cn_or, cn_xor, grd_t, grd_bt, grd_bl, Nat.add_zero, Nat.zero_add, Nat.reduceAdd, Nat.reduceSub, Nat.reduceMul, Nat.reduceLT, Nat.reduceEqDiff, eq_self, true_and, and_true, and_false, false_and, if_true, if_false, and_self, Bool.true_eq_false, Bool.false_eq_true]
  | succ d ih =>
    intro k f hk hf
    rw [mfix_1 (by omega)]
    have e := ih (v := v * 100) (k + 1) (f - 1) (by omega) (by omega)
    rw [show v * 100 ^ (d + 1) = v * 100 * 100 ^ d by rw [Nat.pow_succ, Nat.mul_assoc, Nat.mul_comm (100 ^ d)]]
    simp (disch := first | omega | decide) only [f_Pl_fullName_L5, zI_0, zI_1, zI_2, zI_3, zI_4, zI_5, zI_6, zI_7, zI_8, zI_9, zI_10, zI_11, zI_12, zI_13, zI_14, zI_15, zI_16, zI_17, zI_18, zI_19, zI_20, zI_21, zI_22, zI_23, zI_24, zI_25, zI_26, zI_27, zI_28, zI_29, zI_30, zI_31, zI_32, zI_33, zI_34, zI_35, zI_36, zI_37, zI_38, zI_39, zI_40, zI_41, zI_42, zI_43, zI_44, zI_45, zI_46, zI_47, zI_48, zI_49, zI_50, zI_51, zI_52, zI_53, zI_54, zI_55, zI_56, zI_57, zI_58, zI_59, zI_60, zI_61, zI_62, zI_63, zI_64, zI_65, zI_66, zI_67, zI_74, zI_84, zI_85, zI_88, zI_91, zI_93, zI_97, zI_99, zI_100, zI_102, zI_105, zI_117, zI_122, zI_193, zI_202, zI_205, zI_251, zI_255, zI_256, zI_257, zI_258, zI_259, zI_260, zI_640, zI_999, zI_1000, zI_1024, zI_1600, zI_1602, zI_1700, zI_2040, zI_3200, zI_4100, zI_9728, zI_11784, zI_61440, zI_65536, zI_470536, zI_999999, zI_1000000, lt_T, lt_F, le_T, le_F, eq_T, eq_F, neg_1, cn_m1p, cn_m11, nI_add, cn_sub, pk_mul, cn_div, cn_irm, cn_lt, cn_eq, cn_ltm1, cn_m1lt, cn_eqm1, cn_m1eq, cn_ix, cn_inb, cn_ninb, cn_irs, cn_ils, cn_and, cn_or, cn_xor, grd_t, grd_bt, grd_bl, Nat.add_zero, Nat.zero_add, Nat.reduceAdd, Nat.reduceSub, Nat.reduceMul, Nat.reduceLT, Nat.reduceEqDiff, eq_self, true_and, and_true, and_false, false_and, if_true, if_false, and_self, Bool.true_eq_false, Bool.false_eq_true, show (100 : Int64) = lN 100 from rfl, qN_mul]
    exact e
theorem fullName_n (h : NmO l) (hz : l.length = z) (hN : 10000 ≤ N) : f_Pl_fullName N (lN (vaL 100 l)) (nI z) s = some (lN (nmX l), s) := by
  have := full_n (N := N) (s := s) (v := vaL 100 l) (6 - z) z N (by have := h.2.1; omega) (by omega)
  unfold nmX
  rw [hz]
  exact this
theorem hasN_1 {j : Nat} (hj : j < np) (hnp : np ≤ 10) (h1 : gI s 401 9 = nI np) (hc : ∀ p, p < np → gQ s 11 p = lN (nmX (nm p)) ∧ NmO (nm p)) (hl : NmO l) (e : nm j = l) : ∀ d k f, k + d = j → d < f → mfix f (f_Pl_hasName_L10 N) (9, lN (nmX l), nI k, s) = some (nI 1, s) := by
  obtain ⟨o1, o2, o3, o4, o5, o6⟩ := pl_ok
  intro d
  induction d with
  | zero =>
    intro k f hk hf
    have : k = j := by omega
    subst this
    obtain ⟨c1, c2⟩ := hc k hj
    have q := (cmp_lN (nmX_lt c2) (nmX_lt hl)).trans (eq_true (by rw [e]))
    simp only [zI_0] at q
    rw [mfix_1 (by omega)]
    simp (disch := first | omega | decide) only [f_Pl_hasName_L10, o1, o6, h1, c1, q, zI_0, zI_1, zI_2, zI_3, zI_4, zI_5, zI_6, zI_7, zI_8, zI_9, zI_10, zI_11, zI_12, zI_13, zI_14, zI_15, zI_16, zI_17, zI_18, zI_19, zI_20, zI_21, zI_22, zI_23, zI_24, zI_25, zI_26, zI_27, zI_28, zI_29, zI_30, zI_31, zI_32, zI_33, zI_34, zI_35, zI_36, zI_37, zI_38, zI_39, zI_40, zI_41, zI_42, zI_43, zI_44, zI_45, zI_46, zI_47, zI_48, zI_49, zI_50, zI_51, zI_52, zI_53, zI_54, zI_55, zI_56, zI_57, zI_58, zI_59, zI_60, zI_61, zI_62, zI_63, zI_64, zI_65, zI_66, zI_67, zI_74, zI_84, zI_85, zI_88, zI_91, zI_93, zI_97, zI_99, zI_100, zI_102, zI_105, zI_117, zI_122, zI_193, zI_202, zI_205, zI_251, zI_255, zI_256, zI_257, zI_258, zI_259, zI_260, zI_640, zI_999, zI_1000, zI_1024, zI_1600, zI_1602, zI_1700, zI_2040, zI_3200, zI_4100, zI_9728, zI_11784, zI_61440, zI_65536, zI_470536, zI_999999, zI_1000000, lt_T, lt_F, le_T, le_F, eq_T, eq_F, neg_1, cn_m1p, cn_m11, nI_add, cn_sub, pk_mul, cn_div, cn_irm, cn_lt, cn_eq, cn_ltm1, cn_m1lt, cn_eqm1, cn_m1eq, cn_ix, cn_inb, cn_ninb, cn_irs, cn_ils, cn_and, cn_or, cn_xor, grd_t, grd_bt, grd_bl, Nat.add_zero, Nat.zero_add, Nat.reduceAdd, Nat.reduceSub, Nat.reduceMul, Nat.reduceLT, Nat.reduceEqDiff, eq_self, true_and, and_true, and_false, false_and, if_true, if_false, and_self, Bool.true_eq_false, Bool.false_eq_true]
  | succ d ih =>
    intro k f hk hf
    obtain ⟨c1, c2⟩ := hc k (by omega)
    rw [mfix_1 (by omega)]
    by_cases cc : nmX (nm k) = nmX l
    · have q := (cmp_lN (nmX_lt c2) (nmX_lt hl)).trans (eq_true cc)
      simp only [zI_0] at q
      simp (disch := first | omega | decide) only [f_Pl_hasName_L10, o1, o6, h1, c1, q, zI_0, zI_1, zI_2, zI_3, zI_4, zI_5, zI_6, zI_7, zI_8, zI_9, zI_10, zI_11, zI_12, zI_13, zI_14, zI_15, zI_16, zI_17, zI_18, zI_19, zI_20, zI_21, zI_22, zI_23, zI_24, zI_25, zI_26, zI_27, zI_28, zI_29, zI_30, zI_31, zI_32, zI_33, zI_34, zI_35, zI_36, zI_37, zI_38, zI_39, zI_40, zI_41, zI_42, zI_43, zI_44, zI_45, zI_46, zI_47, zI_48, zI_49, zI_50, zI_51, zI_52, zI_53, zI_54, zI_55, zI_56, zI_57, zI_58, zI_59, zI_60, zI_61, zI_62, zI_63, zI_64, zI_65, zI_66, zI_67, zI_74, zI_84, zI_85, zI_88, zI_91, zI_93, zI_97, zI_99, zI_100, zI_102, zI_105, zI_117, zI_122, zI_193, zI_202, zI_205, zI_251, zI_255, zI_256, zI_257, zI_258, zI_259, zI_260, zI_640, zI_999, zI_1000, zI_1024, zI_1600, zI_1602, zI_1700, zI_2040, zI_3200, zI_4100, zI_9728, zI_11784, zI_61440, zI_65536, zI_470536, zI_999999, zI_1000000, lt_T, lt_F, le_T, le_F, eq_T, eq_F, neg_1, cn_m1p, cn_m11, nI_add, cn_sub, pk_mul, cn_div, cn_irm, cn_lt, cn_eq, cn_ltm1, cn_m1lt, cn_eqm1, cn_m1eq, cn_ix, cn_inb, cn_ninb, cn_irs, cn_ils, cn_and, cn_or, cn_xor, grd_t, grd_bt, grd_bl, Nat.add_zero, Nat.zero_add, Nat.reduceAdd, Nat.reduceSub, Nat.reduceMul, Nat.reduceLT, Nat.reduceEqDiff, eq_self, true_and, and_true, and_false, false_and, if_true, if_false, and_self, Bool.true_eq_false, Bool.false_eq_true]
    · have q := (cmp_lN (nmX_lt c2) (nmX_lt hl)).trans (eq_false cc)
      simp only [zI_0] at q
      simp (disch := first | omega | decide) only [f_Pl_hasName_L10, o1, o6, h1, c1, q, zI_0, zI_1, zI_2, zI_3, zI_4, zI_5, zI_6, zI_7, zI_8, zI_9, zI_10, zI_11, zI_12, zI_13, zI_14, zI_15, zI_16, zI_17, zI_18, zI_19, zI_20, zI_21, zI_22, zI_23, zI_24, zI_25, zI_26, zI_27, zI_28, zI_29, zI_30, zI_31, zI_32, zI_33, zI_34, zI_35, zI_36, zI_37, zI_38, zI_39, zI_40, zI_41, zI_42, zI_43, zI_44, zI_45, zI_46, zI_47, zI_48, zI_49, zI_50, zI_51, zI_52, zI_53, zI_54, zI_55, zI_56, zI_57, zI_58, zI_59, zI_60, zI_61, zI_62, zI_63, zI_64, zI_65, zI_66, zI_67, zI_74, zI_84, zI_85, zI_88, zI_91, zI_93, zI_97, zI_99, zI_100, zI_102, zI_105, zI_117, zI_122, zI_193, zI_202, zI_205, zI_251, zI_255, zI_256, zI_257, zI_258, zI_259, zI_260, zI_640, zI_999, zI_1000, zI_1024, zI_1600, zI_1602, zI_1700, zI_2040, zI_3200, zI_4100, zI_9728, zI_11784, zI_61440, zI_65536, zI_470536, zI_999999, zI_1000000, lt_T, lt_F, le_T, le_F, eq_T, eq_F, neg_1, cn_m1p, cn_m11, nI_add, cn_sub, pk_mul, cn_div, cn_irm, cn_lt, cn_eq, cn_ltm1, cn_m1lt, cn_eqm1, cn_m1eq, cn_ix, cn_inb, cn_ninb, cn_irs, cn_ils, cn_and, cn_or, cn_xor, grd_t, grd_bt, grd_bl, Nat.add_zero, Nat.zero_add, Nat.reduceAdd, Nat.reduceSub, Nat.reduceMul, Nat.reduceLT, Nat.reduceEqDiff, eq_self, true_and, and_true, and_false, false_and, if_true, if_false, and_self, Bool.true_eq_false, Bool.false_eq_true]
      exact ih (k + 1) (f - 1) (by omega) (by omega)
theorem hasN_0 (hnp : np ≤ 10) (h1 : gI s 401 9 = nI np) (hc : ∀ p, p < np → gQ s 11 p = lN (nmX (nm p)) ∧ NmO (nm p)) (hl : NmO l) (e : ∀ p, p < np → nm p ≠ l) : ∀ d k f, k + d = np → d < f → mfix f (f_Pl_hasName_L10 N) (9, lN (nmX l), nI k, s) = some (nI 0, s) := by
  obtain ⟨o1, o2, o3, o4, o5, o6⟩ := pl_ok
  intro d
  induction d with
  | zero =>
    intro k f hk hf
    rw [mfix_1 (by omega)]
    simp (disch := first | omega | decide) only [f_Pl_hasName_L10, o1, h1, zI_0, zI_1, zI_2, zI_3, zI_4, zI_5, zI_6, zI_7, zI_8, zI_9, zI_10, zI_11, zI_12, zI_13, zI_14, zI_15, zI_16, zI_17, zI_18, zI_19, zI_20, zI_21, zI_22, zI_23, zI_24, zI_25, zI_26, zI_27, zI_28, zI_29, zI_30, zI_31, zI_32, zI_33, zI_34, zI_35, zI_36, zI_37, zI_38, zI_39, zI_40, zI_41, zI_42, zI_43, zI_44, zI_45, zI_46, zI_47, zI_48, zI_49, zI_50, zI_51, zI_52, zI_53, zI_54, zI_55, zI_56, zI_57, zI_58, zI_59, zI_60, zI_61, zI_62, zI_63, zI_64, zI_65, zI_66, zI_67, zI_74, zI_84, zI_85, zI_88, zI_91, zI_93, zI_97, zI_99, zI_100, zI_102, zI_105, zI_117, zI_122, zI_193, zI_202, zI_205, zI_251, zI_255, zI_256, zI_257, zI_258, zI_259, zI_260, zI_640, zI_999, zI_1000, zI_1024, zI_1600, zI_1602, zI_1700, zI_2040, zI_3200, zI_4100, zI_9728, zI_11784, zI_61440, zI_65536, zI_470536, zI_999999, zI_1000000, lt_T, lt_F, le_T, le_F, eq_T, eq_F, neg_1, cn_m1p, cn_m11, nI_add, cn_sub, pk_mul, cn_div, cn_irm, cn_lt, cn_eq, cn_ltm1, cn_m1lt, cn_eqm1, cn_m1eq, cn_ix, cn_inb, cn_ninb, cn_irs, cn_ils, cn_and, cn_or, cn_xor, grd_t, grd_bt, grd_bl, Nat.add_zero, Nat.zero_add, Nat.reduceAdd, Nat.reduceSub, Nat.reduceMul, Nat.reduceLT, Nat.reduceEqDiff, eq_self, true_and, and_true, and_false, false_and, if_true, if_false, and_self, Bool.true_eq_false, Bool.false_eq_true]
  | succ d ih =>
    intro k f hk hf
    obtain ⟨c1, c2⟩ := hc k (by omega)
    have q := (cmp_lN (nmX_lt c2) (nmX_lt hl)).trans (eq_false (fun h => e k (by omega) (nmX_inj c2 hl h)))
    simp only [zI_0] at q
    rw [mfix_1 (by omega)]
    simp (disch := first | omega | decide) only [f_Pl_hasName_L10, o1, o6, h1, c1, q, zI_0, zI_1, zI_2, zI_3, zI_4, zI_5, zI_6, zI_7, zI_8, zI_9, zI_10, zI_11, zI_12, zI_13, zI_14, zI_15, zI_16, zI_17, zI_18, zI_19, zI_20, zI_21, zI_22, zI_23, zI_24, zI_25, zI_26, zI_27, zI_28, zI_29, zI_30, zI_31, zI_32, zI_33, zI_34, zI_35, zI_36, zI_37, zI_38, zI_39, zI_40, zI_41, zI_42, zI_43, zI_44, zI_45, zI_46, zI_47, zI_48, zI_49, zI_50, zI_51, zI_52, zI_53, zI_54, zI_55, zI_56, zI_57, zI_58, zI_59, zI_60, zI_61, zI_62, zI_63, zI_64, zI_65, zI_66, zI_67, zI_74, zI_84, zI_85, zI_88, zI_91, zI_93, zI_97, zI_99, zI_100, zI_102, zI_105, zI_117, zI_122, zI_193, zI_202, zI_205, zI_251, zI_255, zI_256, zI_257, zI_258, zI_259, zI_260, zI_640, zI_999, zI_1000, zI_1024, zI_1600, zI_1602, zI_1700, zI_2040, zI_3200, zI_4100, zI_9728, zI_11784, zI_61440, zI_65536, zI_470536, zI_999999, zI_1000000, lt_T, lt_F, le_T, le_F, eq_T, eq_F, neg_1, cn_m1p, cn_m11, nI_add, cn_sub, pk_mul, cn_div, cn_irm, cn_lt, cn_eq, cn_ltm1, cn_m1lt, cn_eqm1, cn_m1eq, cn_ix, cn_inb, cn_ninb, cn_irs, cn_ils, cn_and, cn_or, cn_xor, grd_t, grd_bt, grd_bl, Nat.add_zero, Nat.zero_add, Nat.reduceAdd, Nat.reduceSub, Nat.reduceMul, Nat.reduceLT, Nat.reduceEqDiff, eq_self, true_and, and_true, and_false, false_and, if_true, if_false, and_self, Bool.true_eq_false, Bool.false_eq_true]
    exact ih (k + 1) (f - 1) (by omega) (by omega)
theorem addName_n (hnp : np < 10) (h1 : gI s 401 9 = nI np) (h : NmO l) (hz : l.length = z) (hN : 10000 ≤ N) : f_Pl_addName N 9 (lN (vaL 100 l)) (nI z) s = some (sI (sQ s 11 np (lN (nmX l))) 401 9 (nI (np + 1))) := by
  obtain ⟨o1, o2, o3, o4, o5, o6⟩ := pl_ok
  have f := fullName_n (N := N) (s := s) h hz hN
  simp (disch := first | omega | decide) only [f_Pl_addName, o1, o6, h1, f, zI_0, zI_1, zI_2, zI_3, zI_4, zI_5, zI_6, zI_7, zI_8, zI_9, zI_10, zI_11, zI_12, zI_13, zI_14, zI_15, zI_16, zI_17, zI_18, zI_19, zI_20, zI_21, zI_22, zI_23, zI_24, zI_25, zI_26, zI_27, zI_28, zI_29, zI_30, zI_31, zI_32, zI_33, zI_34, zI_35, zI_36, zI_37, zI_38, zI_39, zI_40, zI_41, zI_42, zI_43, zI_44, zI_45, zI_46, zI_47, zI_48, zI_49, zI_50, zI_51, zI_52, zI_53, zI_54, zI_55, zI_56, zI_57, zI_58, zI_59, zI_60, zI_61, zI_62, zI_63, zI_64, zI_65, zI_66, zI_67, zI_74, zI_84, zI_85, zI_88, zI_91, zI_93, zI_97, zI_99, zI_100, zI_102, zI_105, zI_117, zI_122, zI_193, zI_202, zI_205, zI_251, zI_255, zI_256, zI_257, zI_258, zI_259, zI_260, zI_640, zI_999, zI_1000, zI_1024, zI_1600, zI_1602, zI_1700, zI_2040, zI_3200, zI_4100, zI_9728, zI_11784, zI_61440, zI_65536, zI_470536, zI_999999, zI_1000000, lt_T, lt_F, le_T, le_F, eq_T, eq_F, neg_1, cn_m1p, cn_m11, nI_add, cn_sub, pk_mul, cn_div, cn_irm, cn_lt, cn_eq, cn_ltm1, cn_m1lt, cn_eqm1, cn_m1eq, cn_ix, cn_inb, cn_ninb, cn_irs, cn_ils, cn_and, cn_or, cn_xor, grd_t, grd_bt, grd_bl, Nat.add_zero, Nat.zero_add, Nat.reduceAdd, Nat.reduceSub, Nat.reduceMul, Nat.reduceLT, Nat.reduceEqDiff, eq_self, true_and, and_true, and_false, false_and, if_true, if_false, and_self, Bool.true_eq_false, Bool.false_eq_true, gI_sI, gI_sA, gI_sL, gI_sQ, gI_sC, gI_sO, gI_sD, gA_sI, gA_sL, gA_sQ, gA_sO, gA_sD, gL_sI, gL_sA, gL_sQ, gL_sC, gL_sO, gL_sD, gQ_sI, gQ_sA, gQ_sL, gQ_sC, gQ_sO, gO_sI, gO_sA, gO_sL, gO_sQ, gO_sC, gO_sO, gO_sD, gA_eq, gA_ne, gQ_eq, gQ_ne, gL_sL, gA_cin, gA_cou, gQ_cin, gQ_cou, Option.bind_some]
/-- the own words, on the other side -/
def ownG (f : Option (Int32 × mS)) (t : mS) (C : Prop) : Prop := ∃ r, r ≤ 1 ∧ f = some (nI r, t) ∧ (r = 1 ↔ C)
noncomputable def own6 (N o1 o2 o3 o4 o5 o6 : Nat) (G : Int32 × mS → Option (Int32 × mS)) (t : mS) : Option (Int32 × mS) := (f_M_isHere N o1 t).bind fun p1 => if p1.1 = 0 then (f_M_isHere N o2 p1.2).bind fun p2 => if p2.1 = 0 then (f_M_isHere N o3 p2.2).bind fun p3 => if p3.1 = 0 then (f_M_isHere N o4 p3.2).bind fun p4 => if p4.1 = 0 then (f_M_isHere N o5 p4.2).bind fun p5 => if p5.1 = 0 then (f_M_isHere N o6 p5.2).bind fun p6 => if p6.1 = 0 then G (0, p6.2) else G (1, p6.2) else G (1, p5.2) else G (1, p4.2) else G (1, p3.2) else G (1, p2.2) else G (1, p1.2)
theorem own6_n {o1 o2 o3 o4 o5 o6 a1 a2 a3 a4 a5 a6 w : Nat} {C : Prop} {t0 : mS} {G : Int32 × mS → Option (Int32 × mS)} (i1 : f_M_isHere N o1 t0 = some (nI (if w = a1 then 1 else 0), t)) (i2 : f_M_isHere N o2 t = some (nI (if w = a2 then 1 else 0), t)) (i3 : f_M_isHere N o3 t = some (nI (if w = a3 then 1 else 0), t)) (i4 : f_M_isHere N o4 t = some (nI (if w = a4 then 1 else 0), t)) (i5 : f_M_isHere N o5 t = some (nI (if w = a5 then 1 else 0), t)) (i6 : f_M_isHere N o6 t = some (nI (if w = a6 then 1 else 0), t)) (hG : G (nI 1, t) = some (nI 1, t)) (hn : ownG (G (nI 0, t)) t C) : ownG (own6 N o1 o2 o3 o4 o5 o6 G t0) t (w = a1 ∨ w = a2 ∨ w = a3 ∨ w = a4 ∨ w = a5 ∨ w = a6 ∨ C) := by
  obtain ⟨r, r1, r2, r3⟩ := hn
  by_cases c1 : w = a1
  · rw [if_pos c1] at i1
    refine ⟨1, Nat.le_refl _, ?_, ⟨fun _ => Or.inl c1, fun _ => rfl⟩⟩
    simp (disch := first | omega | decide) only [own6, i1, hG, zI_0, zI_1, cn_eq, Nat.reduceAdd, Nat.reduceSub, Nat.reduceMul, Nat.reduceLT, Nat.reduceEqDiff, eq_self, true_and, and_true, and_false, false_and, if_true, if_false, and_self, Bool.true_eq_false, Bool.false_eq_true, Option.bind_some]
  · rw [if_neg c1] at i1
    by_cases c2 : w = a2
    · rw [if_pos c2] at i2
      refine ⟨1, Nat.le_refl _, ?_, ⟨fun _ => Or.inr (Or.inl c2), fun _ => rfl⟩⟩
      simp (disch := first | omega | decide) only [own6, i1, i2, hG, zI_0, zI_1, cn_eq, Nat.reduceAdd, Nat.reduceSub, Nat.reduceMul, Nat.reduceLT, Nat.reduceEqDiff, eq_self, true_and, and_true, and_false, false_and, if_true, if_false, and_self, Bool.true_eq_false, Bool.false_eq_true, Option.bind_some]
    · rw [if_neg c2] at i2
      by_cases c3 : w = a3
      · rw [if_pos c3] at i3
        refine ⟨1, Nat.le_refl _, ?_, ⟨fun _ => Or.inr (Or.inr (Or.inl c3)), fun _ => rfl⟩⟩
        simp (disch := first | omega | decide) only [own6, i1, i2, i3, hG, zI_0, zI_1, cn_eq, Nat.reduceAdd, Nat.reduceSub, Nat.reduceMul, Nat.reduceLT, Nat.reduceEqDiff, eq_self, true_and, and_true, and_false, false_and, if_true, if_false, and_self, Bool.true_eq_false, Bool.false_eq_true, Option.bind_some]
      · rw [if_neg c3] at i3
        by_cases c4 : w = a4
        · rw [if_pos c4] at i4
          refine ⟨1, Nat.le_refl _, ?_, ⟨fun _ => Or.inr (Or.inr (Or.inr (Or.inl c4))), fun _ => rfl⟩⟩
          simp (disch := first | omega | decide) only [own6, i1, i2, i3, i4, hG, zI_0, zI_1, cn_eq, Nat.reduceAdd, Nat.reduceSub, Nat.reduceMul, Nat.reduceLT, Nat.reduceEqDiff, eq_self, true_and, and_true, and_false, false_and, if_true, if_false, and_self, Bool.true_eq_false, Bool.false_eq_true, Option.bind_some]
        · rw [if_neg c4] at i4
          by_cases c5 : w = a5
          · rw [if_pos c5] at i5
            refine ⟨1, Nat.le_refl _, ?_, ⟨fun _ => Or.inr (Or.inr (Or.inr (Or.inr (Or.inl c5)))), fun _ => rfl⟩⟩
            simp (disch := first | omega | decide) only [own6, i1, i2, i3, i4, i5, hG, zI_0, zI_1, cn_eq, Nat.reduceAdd, Nat.reduceSub, Nat.reduceMul, Nat.reduceLT, Nat.reduceEqDiff, eq_self, true_and, and_true, and_false, false_and, if_true, if_false, and_self, Bool.true_eq_false, Bool.false_eq_true, Option.bind_some]
          · rw [if_neg c5] at i5
            by_cases c6 : w = a6
            · rw [if_pos c6] at i6
              refine ⟨1, Nat.le_refl _, ?_, ⟨fun _ => Or.inr (Or.inr (Or.inr (Or.inr (Or.inr (Or.inl c6))))), fun _ => rfl⟩⟩
              simp (disch := first | omega | decide) only [own6, i1, i2, i3, i4, i5, i6, hG, zI_0, zI_1, cn_eq, Nat.reduceAdd, Nat.reduceSub, Nat.reduceMul, Nat.reduceLT, Nat.reduceEqDiff, eq_self, true_and, and_true, and_false, false_and, if_true, if_false, and_self, Bool.true_eq_false, Bool.false_eq_true, Option.bind_some]
            · rw [if_neg c6] at i6
              refine ⟨r, r1, ?_, r3.trans ⟨fun h => Or.inr (Or.inr (Or.inr (Or.inr (Or.inr (Or.inr (h)))))), fun h => ((((((h.resolve_left c1).resolve_left c2).resolve_left c3).resolve_left c4).resolve_left c5).resolve_left c6)⟩⟩
              simp (disch := first | omega | decide) only [own6, i1, i2, i3, i4, i5, i6, r2, zI_0, zI_1, cn_eq, Nat.reduceAdd, Nat.reduceSub, Nat.reduceMul, Nat.reduceLT, Nat.reduceEqDiff, eq_self, true_and, and_true, and_false, false_and, if_true, if_false, and_self, Bool.true_eq_false, Bool.false_eq_true, Option.bind_some]
theorem ow1_j299 : f_M_isOwnHere_j299 N (nI 1, t) = some (nI 1, t) := by
  simp (disch := first | omega | decide) only [f_M_isOwnHere_j299, zI_0, zI_1, cn_eq, Nat.reduceAdd, Nat.reduceSub, Nat.reduceMul, Nat.reduceLT, Nat.reduceEqDiff, eq_self, true_and, and_true, and_false, false_and, if_true, if_false, and_self, Bool.true_eq_false, Bool.false_eq_true]
theorem ow0_j299 {w : Nat} (i27 : f_M_isHere N 27 t = some (nI (if w = 25 then 1 else 0), t)) : ownG (f_M_isOwnHere_j299 N (nI 0, t)) t (w = 25) := by
  by_cases c : w = 25
  · rw [if_pos c] at i27
    refine ⟨1, Nat.le_refl _, ?_, ⟨fun _ => c, fun _ => rfl⟩⟩
    simp (disch := first | omega | decide) only [f_M_isOwnHere_j299, i27, zI_0, zI_1, cn_eq, Nat.reduceAdd, Nat.reduceSub, Nat.reduceMul, Nat.reduceLT, Nat.reduceEqDiff, eq_self, true_and, and_true, and_false, false_and, if_true, if_false, and_self, Bool.true_eq_false, Bool.false_eq_true, Option.bind_some]
  · rw [if_neg c] at i27
    refine ⟨0, Nat.zero_le _, ?_, ⟨fun h => (by cases h), fun h => absurd h c⟩⟩
    simp (disch := first | omega | decide) only [f_M_isOwnHere_j299, i27, zI_0, zI_1, cn_eq, Nat.reduceAdd, Nat.reduceSub, Nat.reduceMul, Nat.reduceLT, Nat.reduceEqDiff, eq_self, true_and, and_true, and_false, false_and, if_true, if_false, and_self, Bool.true_eq_false, Bool.false_eq_true, Option.bind_some]
theorem owe_j223 (x : Int32 × mS) : f_M_isOwnHere_j223 N x = if x.1 = 0 then own6 N 21 22 23 24 25 26 (f_M_isOwnHere_j299 N) x.2 else f_M_isOwnHere_j299 N (1, x.2) := rfl
theorem ow1_j223 : f_M_isOwnHere_j223 N (nI 1, t) = some (nI 1, t) := by
  exact (owe_j223 (nI 1, t)).trans ((if_neg (show ¬ (nI 1 = (0 : Int32)) by decide)).trans ow1_j299)
theorem ow0h_j223 : f_M_isOwnHere_j223 N (nI 0, t) = own6 N 21 22 23 24 25 26 (f_M_isOwnHere_j299 N) t := by
  exact (owe_j223 (nI 0, t)).trans (if_pos (show nI 0 = (0 : Int32) from rfl))
theorem owe_j147 (x : Int32 × mS) : f_M_isOwnHere_j147 N x = if x.1 = 0 then own6 N 15 16 17 18 19 20 (f_M_isOwnHere_j223 N) x.2 else f_M_isOwnHere_j223 N (1, x.2) := rfl
theorem ow1_j147 : f_M_isOwnHere_j147 N (nI 1, t) = some (nI 1, t) := by
  exact (owe_j147 (nI 1, t)).trans ((if_neg (show ¬ (nI 1 = (0 : Int32)) by decide)).trans ow1_j223)
theorem ow0h_j147 : f_M_isOwnHere_j147 N (nI 0, t) = own6 N 15 16 17 18 19 20 (f_M_isOwnHere_j223 N) t := by
  exact (owe_j147 (nI 0, t)).trans (if_pos (show nI 0 = (0 : Int32) from rfl))
theorem owe_j71 (x : Int32 × mS) : f_M_isOwnHere_j71 N x = if x.1 = 0 then own6 N 9 10 11 12 13 14 (f_M_isOwnHere_j147 N) x.2 else f_M_isOwnHere_j147 N (1, x.2) := rfl
theorem ow1_j71 : f_M_isOwnHere_j71 N (nI 1, t) = some (nI 1, t) := by
  exact (owe_j71 (nI 1, t)).trans ((if_neg (show ¬ (nI 1 = (0 : Int32)) by decide)).trans ow1_j147)
theorem ow0h_j71 : f_M_isOwnHere_j71 N (nI 0, t) = own6 N 9 10 11 12 13 14 (f_M_isOwnHere_j147 N) t := by
  exact (owe_j71 (nI 0, t)).trans (if_pos (show nI 0 = (0 : Int32) from rfl))
theorem own_b (h : RB tp n p b t) (hN : 10000 ≤ N) : f_M_isOwnHere N t = some (nI (if 1 ≤ wdA tp n p b ∧ wdA tp n p b ≤ 25 then 1 else 0), lk tp n p t) := by
  have hL := RB_lk h
  have i3 := isHere_b (N := N) h (show 3 ∈ kWo by decide) hN
  have ih : ∀ o ∈ kWo, f_M_isHere N o (lk tp n p t) = some (nI (if wdA tp n p b = woJ o + 1 then 1 else 0), lk tp n p t) := fun o ho => by
    have := isHere_b (N := N) (RL_RB hL) ho hN
    rwa [lk_RL hL] at this
  generalize wdA tp n p b = w at *
  generalize lk tp n p t = t1 at *
  have i3 : f_M_isHere N 3 t = some (nI (if w = 1 then 1 else 0), t1) := i3
  have i4 : f_M_isHere N 4 t1 = some (nI (if w = 2 then 1 else 0), t1) := ih 4 (by decide)
  have i5 : f_M_isHere N 5 t1 = some (nI (if w = 9 then 1 else 0), t1) := ih 5 (by decide)
  have i6 : f_M_isHere N 6 t1 = some (nI (if w = 3 then 1 else 0), t1) := ih 6 (by decide)
  have i7 : f_M_isHere N 7 t1 = some (nI (if w = 4 then 1 else 0), t1) := ih 7 (by decide)
  have i8 : f_M_isHere N 8 t1 = some (nI (if w = 5 then 1 else 0), t1) := ih 8 (by decide)
  have i9 : f_M_isHere N 9 t1 = some (nI (if w = 6 then 1 else 0), t1) := ih 9 (by decide)
  have i10 : f_M_isHere N 10 t1 = some (nI (if w = 7 then 1 else 0), t1) := ih 10 (by decide)
  have i11 : f_M_isHere N 11 t1 = some (nI (if w = 8 then 1 else 0), t1) := ih 11 (by decide)
  have i12 : f_M_isHere N 12 t1 = some (nI (if w = 10 then 1 else 0), t1) := ih 12 (by decide)
  have i13 : f_M_isHere N 13 t1 = some (nI (if w = 11 then 1 else 0), t1) := ih 13 (by decide)
  have i14 : f_M_isHere N 14 t1 = some (nI (if w = 12 then 1 else 0), t1) := ih 14 (by decide)
  have i15 : f_M_isHere N 15 t1 = some (nI (if w = 13 then 1 else 0), t1) := ih 15 (by decide)
  have i16 : f_M_isHere N 16 t1 = some (nI (if w = 14 then 1 else 0), t1) := ih 16 (by decide)
  have i17 : f_M_isHere N 17 t1 = some (nI (if w = 15 then 1 else 0), t1) := ih 17 (by decide)
  have i18 : f_M_isHere N 18 t1 = some (nI (if w = 16 then 1 else 0), t1) := ih 18 (by decide)
  have i19 : f_M_isHere N 19 t1 = some (nI (if w = 17 then 1 else 0), t1) := ih 19 (by decide)
  have i20 : f_M_isHere N 20 t1 = some (nI (if w = 18 then 1 else 0), t1) := ih 20 (by decide)
  have i21 : f_M_isHere N 21 t1 = some (nI (if w = 19 then 1 else 0), t1) := ih 21 (by decide)
  have i22 : f_M_isHere N 22 t1 = some (nI (if w = 20 then 1 else 0), t1) := ih 22 (by decide)
  have i23 : f_M_isHere N 23 t1 = some (nI (if w = 21 then 1 else 0), t1) := ih 23 (by decide)
  have i24 : f_M_isHere N 24 t1 = some (nI (if w = 22 then 1 else 0), t1) := ih 24 (by decide)
  have i25 : f_M_isHere N 25 t1 = some (nI (if w = 23 then 1 else 0), t1) := ih 25 (by decide)
  have i26 : f_M_isHere N 26 t1 = some (nI (if w = 24 then 1 else 0), t1) := ih 26 (by decide)
  have i27 : f_M_isHere N 27 t1 = some (nI (if w = 25 then 1 else 0), t1) := ih 27 (by decide)
  have g4 := ow0_j299 i27
  have g3 := own6_n i21 i22 i23 i24 i25 i26 ow1_j299 g4
  rw [← ow0h_j223] at g3
  have g2 := own6_n i15 i16 i17 i18 i19 i20 ow1_j223 g3
  rw [← ow0h_j147] at g2
  have g1 := own6_n i9 i10 i11 i12 i13 i14 ow1_j147 g2
  rw [← ow0h_j71] at g1
  obtain ⟨r, r1, r2, r3⟩ := own6_n i3 i4 i5 i6 i7 i8 ow1_j71 g1
  have e : r = if 1 ≤ w ∧ w ≤ 25 then 1 else 0 := by
    by_cases c : 1 ≤ w ∧ w ≤ 25
    · rw [if_pos c, r3]; omega
    · rw [if_neg c]
      have : ¬ r = 1 := fun h => by rw [r3] at h; omega
      omega
  rw [← e]
  exact r2
end NAMES
