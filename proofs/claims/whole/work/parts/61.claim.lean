/-! WHAT BOTH SIDES DO WITH A PART, A SUM -/
def ckN (al : Nat → Bool) (e : List Nat) (D : Nat) (x : Bool) : Prop := ∀ ts : List Bool, ts.length + D ≤ 50 → ckL al e ts = some (x :: ts)
def SW (W : List Nat) (B : Nat) : Prop := (W.length = B ∨ ∃ x W', W = x :: W' ∧ 20 ≤ x ∧ x ≤ 24) ∧ ∀ x W', W = x :: W' → 10 ≤ x ∧ x < 10000
theorem SW_br {W : List Nat} {B x : Nat} (h : 20 ≤ x ∧ x ≤ 24) : SW (x :: W) B := ⟨Or.inr ⟨x, W, rfl, h⟩, fun y W' e => by cases e; omega⟩
section CLAIM
variable (N : Nat) (tp : Nat → Nat) (n kd mk pg : Nat) (al : Nat → Bool)
def PsB (p : Nat) (b : Bool) (o k w : Nat) : Prop := ∀ t0 B0 Q C W B t, RT tp n kd t0 p b o C W B t → C.length + W.length ≤ p → B ≤ W.length → (∀ t', BT t0 k w t' → Q t') → rPS N B0 Q (n - p + 5) t
def PsG (p : Nat) (b : Bool) (o : Nat) (e : List Nat) (p' : Nat) (b' : Bool) : Prop := ∀ t0 B0 Q C W B t, RT tp n kd t0 p b o C W B t → C.length + W.length ≤ p → B ≤ W.length → (∀ t', RT tp n kd t0 p' b' o (C ++ e) W B t' → rEP N B0 Q (n - p' + 5) (W.length + 1) t') → rPS N B0 Q (n - p + 5) t
def SmB (p : Nat) (b : Bool) (o k w : Nat) : Prop := ∀ t0 B0 Q C W B t, RT tp n kd t0 p b o C W B t → C.length + W.length ≤ p → B ≤ W.length → SW W B → (∀ t', BT t0 k w t' → Q t') → rPS N B0 Q (n - p + 5) t
def SmG (p : Nat) (b : Bool) (o : Nat) (es pend : List Nat) (p' : Nat) (b' : Bool) : Prop := ∀ t0 B0 Q C W B t, RT tp n kd t0 p b o C W B t → C.length + W.length ≤ p → B ≤ W.length → SW W B → (∀ t', RT tp n kd t0 p' b' o (C ++ es) (pend ++ W) B t' → rGO N B0 Q (n - p' + 5) t') → rPS N B0 Q (n - p + 5) t
def PartR (r o : Nat) (s0 : mS) (p : Nat) (b : Bool) (L : List Nat) (s : mS) : Prop :=
  (∃ k w s', f_Rd_grp N r 3 s = some s' ∧ CD pg s0 k w s' ∧ PsB N tp n kd p b o k w) ∨
  (∃ e p' b' s', f_Rd_grp N r 3 s = some s' ∧ CX tp n pg s0 p' b' o (L ++ e) s' ∧ p < p' ∧ e.length ≤ p' - p ∧ ckN al e (1 + 3 * (6 - o)) false ∧ PsG N tp n kd p b o e p' b')
def PartC (r o : Nat) : Prop := ∀ s0 p b L s, CE tp n pg mk s0 → CX tp n pg s0 p b o L s → L.length ≤ p → PartR N tp n kd pg al r o s0 p b L s
def SumR (r o : Nat) (s0 : mS) (p : Nat) (b : Bool) (L : List Nat) (s : mS) : Prop :=
  (∃ k w s', f_Rd_grp N r 2 s = some s' ∧ CD pg s0 k w s' ∧ SmB N tp n kd p b o k w) ∨
  (∃ es pend p' b' s', f_Rd_grp N r 2 s = some s' ∧ CX tp n pg s0 p' b' o (L ++ (es ++ pend)) s' ∧ p < p' ∧ (es ++ pend).length ≤ p' - p ∧ ckN al (es ++ pend) (3 + 3 * (6 - o)) false ∧ OpL pend ∧ NoOp (kK tp n p' b') ∧ SmG N tp n kd p b o es pend p' b')
def SumC (r o : Nat) : Prop := ∀ s0 p b L s, CE tp n pg mk s0 → CX tp n pg s0 p b o L s → L.length ≤ p → SumR N tp n kd pg al r o s0 p b L s
end CLAIM
theorem ckL_ap2 (al : Nat → Bool) {e f : List Nat} {ts us : List Bool} (h : ckL al e ts = some us) : ckL al (e ++ f) ts = ckL al f us := by rw [ckL_app, h]; rfl
theorem ckL_1 (al : Nat → Bool) {c : Nat} {ts us : List Bool} (h : ck1 al c ts = some us) : ckL al [c] ts = some us := by
  unfold ckL
  rw [h]; rfl
theorem ckN_mono {al : Nat → Bool} {e : List Nat} {D D' : Nat} {x : Bool} (h : ckN al e D x) (hD : D ≤ D') : ckN al e D' x := fun ts ht => h ts (by omega)
/-- two numbers, what joins them -/
theorem ckN_two {al : Nat → Bool} {e f : List Nat} {D D' D2 c : Nat} {x y z : Bool} (h : ckN al e D x) (h2 : ckN al f D2 y) (hD : D ≤ D') (hD2 : D2 + 1 ≤ D') (hc : ∀ ts : List Bool, ts.length + D' ≤ 50 → ck1 al c (y :: x :: ts) = some (z :: ts)) : ckN al (e ++ f ++ [c]) D' z := by
  intro ts ht
  rw [List.append_assoc, ckL_ap2 al (h ts (by omega)), ckL_ap2 al (h2 (x :: ts) (by rw [List.length_cons]; omega))]
  exact ckL_1 al (hc ts ht)
theorem ckN_one {al : Nat → Bool} {e : List Nat} {D D' c : Nat} {x z : Bool} (h : ckN al e D x) (hD : D ≤ D') (hc : ∀ ts : List Bool, ts.length + D' ≤ 50 → ck1 al c (x :: ts) = some (z :: ts)) : ckN al (e ++ [c]) D' z := by
  intro ts ht
  rw [ckL_ap2 al (h ts (by omega))]
  exact ckL_1 al (hc ts ht)
theorem ck1_op (al : Nat → Bool) {c : Nat} (h : 1 ≤ c ∧ c ≤ 6) (ts : List Bool) : ck1 al c (false :: false :: ts) = some (false :: ts) := by
  unfold ck1
  rw [if_neg (by omega), if_neg (by omega), if_neg (by omega), if_neg (by omega), if_neg (by omega), if_neg (by omega), if_neg (by omega), if_neg (by omega), if_pos h]
theorem ck1_cm (al : Nat → Bool) {c : Nat} (h : 7 ≤ c ∧ c ≤ 9) (ts : List Bool) : ck1 al c (false :: false :: ts) = some (true :: ts) := by
  unfold ck1
  rw [if_neg (by omega), if_neg (by omega), if_neg (by omega), if_neg (by omega), if_neg (by omega), if_neg (by omega), if_neg (by omega), if_pos h]
theorem ck1_bo (al : Nat → Bool) {c : Nat} (h : c = 10 ∨ c = 11) (ts : List Bool) : ck1 al c (true :: true :: ts) = some (true :: ts) := by
  unfold ck1
  rw [if_neg (by omega), if_neg (by omega), if_neg (by omega), if_neg (by omega), if_neg (by omega), if_neg (by omega), if_pos h]
section HEAD
variable {N n p o : Nat} {tp : Nat → Nat} {b : Bool} {t t' t0 : mS} {kd mk k w B m c x : Nat} {al : Nat → Bool} {C W e : List Nat} {B0 : Int32} {Q : mS → Prop}
/-- a part's loop looks at what stands there -/
theorem PS_pre (hK : KdA kd mk al) (hh : RT tp n kd t0 p b o C W B t) (hN : 10000 ≤ N) :
    gI t 1005 0 = nI 0 ∧ f_M_look N t = some (chM tp n p, lk tp n p t) ∧ gI (lk tp n p t) 1002 0 = nI (skp tp n p) ∧
    f_M_qWordOf N (nI 9) (nI 11) (lk tp n p t) = some (nI (wqR al 9 11 (wdA tp n p b)) + m1, lk tp n p t) ∧
    f_M_isHere N 51 (lk tp n p t) = some (nI (if wdA tp n p b = 24 then 1 else 0), lk tp n p t) ∧
    f_M_isHere N 52 (lk tp n p t) = some (nI (if wdA tp n p b = 25 then 1 else 0), lk tp n p t) := by
  obtain ⟨e1, e2, e3, e4⟩ := r_eq hh
  obtain ⟨h, hL, g2⟩ := RT_lk hh
  have ll := lk_RL hL
  refine ⟨e2, look_b hh.2.1 hN, g2, ?_, ?_, ?_⟩
  · have qw := qWordOf_b (N := N) (lo := 9) (hi := 11) (by omega) (by omega) hK h.2.2.2.2.2.2 (RL_RB hL) hN
    rwa [ll] at qw
  · have i := isHere_b (N := N) (o := 51) (RL_RB hL) (by decide) hN
    rwa [ll, show woJ 51 + 1 = 24 from by decide] at i
  · have i := isHere_b (N := N) (o := 52) (RL_RB hL) (by decide) hN
    rwa [ll, show woJ 52 + 1 = 25 from by decide] at i
theorem PS_l40 (hK : KdA kd mk al) (hh : RT tp n kd t0 p b o C W B t) (hN : 10000 ≤ N) (g : Int32 × mS → Option mS) (c : kK tp n p b = 40) : f_M_qPartTold_L2 N g (nI 1, t) = (f_M_qOpens N (nI 20) (nI (skp tp n p)) (lk tp n p t)).bind fun p7 => g (nI 1, sI p7 1002 0 (gI p7 1002 0 + nI 1)) := by
  have sg := (chM_sg (b := b) (p := p) (c := 40) ⟨by decide, by decide⟩ (RB_ht hh.2.1)).trans (eq_true c)
  obtain ⟨e2, l, g2, qw, i51, i52⟩ := PS_pre hK hh hN
  generalize lk tp n p t = t1 at *
  generalize chM tp n p = ch at *
  generalize wqR al 9 11 (wdA tp n p b) = w1 at *
  simp (disch := first | omega | decide) only [f_M_qPartTold_L2, e2, l, qw, sg, g2, zI_0, zI_1, zI_2, zI_3, zI_4, zI_5, zI_6, zI_7, zI_8, zI_9, zI_10, zI_11, zI_12, zI_13, zI_14, zI_15, zI_16, zI_17, zI_18, zI_19, zI_20, zI_21, zI_22, zI_23, zI_24, zI_25, zI_26, zI_27, zI_28, zI_29, zI_30, zI_31, zI_32, zI_33, zI_34, zI_35, zI_36, zI_37, zI_38, zI_39, zI_40, zI_41, zI_42, zI_43, zI_44, zI_45, zI_46, zI_47, zI_48, zI_49, zI_50, zI_51, zI_52, zI_53, zI_54, zI_55, zI_56, zI_57, zI_58, zI_59, zI_60, zI_61, zI_62, zI_63, zI_64, zI_65, zI_66, zI_67, zI_74, zI_84, zI_85, zI_88, zI_91, zI_93, zI_97, zI_99, zI_100, zI_102, zI_105, zI_117, zI_122, zI_193, zI_202, zI_205, zI_251, zI_255, zI_256, zI_257, zI_258, zI_259, zI_260, zI_640, zI_999, zI_1000, zI_1024, zI_1600, zI_1602, zI_1700, zI_2040, zI_3200, zI_4100, zI_9728, zI_11784, zI_61440, zI_65536, zI_470536, zI_999999, zI_1000000, lt_T, lt_F, le_T, le_F, eq_T, eq_F, neg_1, cn_m1p, cn_m11, nI_add, cn_sub, pk_mul, cn_div, cn_irm, cn_lt, cn_eq, cn_ltm1, cn_m1lt, cn_eqm1, cn_m1eq, cn_ix, cn_inb, cn_ninb, cn_irs, cn_ils, cn_and, cn_or, cn_xor, grd_t, grd_bt, grd_bl, Nat.add_zero, Nat.zero_add, Nat.reduceAdd, Nat.reduceSub, Nat.reduceMul, Nat.reduceLT, Nat.reduceEqDiff, eq_self, true_and, and_true, and_false, false_and, if_true, if_false, and_self, Bool.true_eq_false, Bool.false_eq_true, Option.bind_some]
theorem PS_lmin (g : Int32 × mS → Option mS) {t1 : mS} {ch v : Int32} (sg : (ch = nI 40) = False) (e2 : gI t 1005 0 = nI 0) (l : f_M_look N t = some (ch, t1)) (qw : f_M_qWordOf N (nI 9) (nI 11) t1 = some (v, t1)) (i51 : f_M_isHere N 51 t1 = some (nI 1, t1)) : f_M_qPartTold_L2 N g (nI 1, t) = f_M_qPartTold_j78 N g (nI 1, t1) := by
  simp (disch := first | omega | decide) only [f_M_qPartTold_L2, e2, l, qw, sg, i51, zI_0, zI_1, zI_2, zI_3, zI_4, zI_5, zI_6, zI_7, zI_8, zI_9, zI_10, zI_11, zI_12, zI_13, zI_14, zI_15, zI_16, zI_17, zI_18, zI_19, zI_20, zI_21, zI_22, zI_23, zI_24, zI_25, zI_26, zI_27, zI_28, zI_29, zI_30, zI_31, zI_32, zI_33, zI_34, zI_35, zI_36, zI_37, zI_38, zI_39, zI_40, zI_41, zI_42, zI_43, zI_44, zI_45, zI_46, zI_47, zI_48, zI_49, zI_50, zI_51, zI_52, zI_53, zI_54, zI_55, zI_56, zI_57, zI_58, zI_59, zI_60, zI_61, zI_62, zI_63, zI_64, zI_65, zI_66, zI_67, zI_74, zI_84, zI_85, zI_88, zI_91, zI_93, zI_97, zI_99, zI_100, zI_102, zI_105, zI_117, zI_122, zI_193, zI_202, zI_205, zI_251, zI_255, zI_256, zI_257, zI_258, zI_259, zI_260, zI_640, zI_999, zI_1000, zI_1024, zI_1600, zI_1602, zI_1700, zI_2040, zI_3200, zI_4100, zI_9728, zI_11784, zI_61440, zI_65536, zI_470536, zI_999999, zI_1000000, lt_T, lt_F, le_T, le_F, eq_T, eq_F, neg_1, cn_m1p, cn_m11, nI_add, cn_sub, pk_mul, cn_div, cn_irm, cn_lt, cn_eq, cn_ltm1, cn_m1lt, cn_eqm1, cn_m1eq, cn_ix, cn_inb, cn_ninb, cn_irs, cn_ils, cn_and, cn_or, cn_xor, grd_t, grd_bt, grd_bl, Nat.add_zero, Nat.zero_add, Nat.reduceAdd, Nat.reduceSub, Nat.reduceMul, Nat.reduceLT, Nat.reduceEqDiff, eq_self, true_and, and_true, and_false, false_and, if_true, if_false, and_self, Bool.true_eq_false, Bool.false_eq_true, Option.bind_some]
theorem PS_lmax (g : Int32 × mS → Option mS) {t1 : mS} {ch v : Int32} (sg : (ch = nI 40) = False) (e2 : gI t 1005 0 = nI 0) (l : f_M_look N t = some (ch, t1)) (qw : f_M_qWordOf N (nI 9) (nI 11) t1 = some (v, t1)) (i51 : f_M_isHere N 51 t1 = some (nI 0, t1)) (i52 : f_M_isHere N 52 t1 = some (nI 1, t1)) : f_M_qPartTold_L2 N g (nI 1, t) = f_M_qPartTold_j78 N g (nI 1, t1) := by
  simp (disch := first | omega | decide) only [f_M_qPartTold_L2, e2, l, qw, sg, i51, i52, zI_0, zI_1, zI_2, zI_3, zI_4, zI_5, zI_6, zI_7, zI_8, zI_9, zI_10, zI_11, zI_12, zI_13, zI_14, zI_15, zI_16, zI_17, zI_18, zI_19, zI_20, zI_21, zI_22, zI_23, zI_24, zI_25, zI_26, zI_27, zI_28, zI_29, zI_30, zI_31, zI_32, zI_33, zI_34, zI_35, zI_36, zI_37, zI_38, zI_39, zI_40, zI_41, zI_42, zI_43, zI_44, zI_45, zI_46, zI_47, zI_48, zI_49, zI_50, zI_51, zI_52, zI_53, zI_54, zI_55, zI_56, zI_57, zI_58, zI_59, zI_60, zI_61, zI_62, zI_63, zI_64, zI_65, zI_66, zI_67, zI_74, zI_84, zI_85, zI_88, zI_91, zI_93, zI_97, zI_99, zI_100, zI_102, zI_105, zI_117, zI_122, zI_193, zI_202, zI_205, zI_251, zI_255, zI_256, zI_257, zI_258, zI_259, zI_260, zI_640, zI_999, zI_1000, zI_1024, zI_1600, zI_1602, zI_1700, zI_2040, zI_3200, zI_4100, zI_9728, zI_11784, zI_61440, zI_65536, zI_470536, zI_999999, zI_1000000, lt_T, lt_F, le_T, le_F, eq_T, eq_F, neg_1, cn_m1p, cn_m11, nI_add, cn_sub, pk_mul, cn_div, cn_irm, cn_lt, cn_eq, cn_ltm1, cn_m1lt, cn_eqm1, cn_m1eq, cn_ix, cn_inb, cn_ninb, cn_irs, cn_ils, cn_and, cn_or, cn_xor, grd_t, grd_bt, grd_bl, Nat.add_zero, Nat.zero_add, Nat.reduceAdd, Nat.reduceSub, Nat.reduceMul, Nat.reduceLT, Nat.reduceEqDiff, eq_self, true_and, and_true, and_false, false_and, if_true, if_false, and_self, Bool.true_eq_false, Bool.false_eq_true, Option.bind_some]
theorem PS_lmm (hK : KdA kd mk al) (hh : RT tp n kd t0 p b o C W B t) (hN : 10000 ≤ N) (g : Int32 × mS → Option mS) (c : kK tp n p b ≠ 40) (c2 : wdA tp n p b = 24 ∨ wdA tp n p b = 25) : f_M_qPartTold_L2 N g (nI 1, t) = f_M_qPartTold_j78 N g (nI 1, lk tp n p t) := by
  have sg := (chM_sg (b := b) (p := p) (c := 40) ⟨by decide, by decide⟩ (RB_ht hh.2.1)).trans (eq_false c)
  obtain ⟨e2, l, g2, qw, i51, i52⟩ := PS_pre hK hh hN
  by_cases c3 : wdA tp n p b = 24
  · rw [if_pos c3] at i51
    exact PS_lmin g sg e2 l qw i51
  · rw [if_neg c3] at i51
    rw [if_pos (c2.resolve_left c3)] at i52
    exact PS_lmax g sg e2 l qw i51 i52
theorem PS_l0 (hK : KdA kd mk al) (hh : RT tp n kd t0 p b o C W B t) (hN : 10000 ≤ N) (g : Int32 × mS → Option mS) (c : kK tp n p b ≠ 40) (c2 : wdA tp n p b ≠ 24) (c3 : wdA tp n p b ≠ 25) (c4 : wqR al 9 11 (wdA tp n p b) = 0) : f_M_qPartTold_L2 N g (nI 1, t) = g (nI 0, lk tp n p t) := by
  have sg := (chM_sg (b := b) (p := p) (c := 40) ⟨by decide, by decide⟩ (RB_ht hh.2.1)).trans (eq_false c)
  obtain ⟨e2, l, g2, qw, i51, i52⟩ := PS_pre hK hh hN
  rw [if_neg c2] at i51
  rw [if_neg c3] at i52
  rw [c4, m1_0] at qw
  generalize lk tp n p t = t1 at *
  generalize chM tp n p = ch at *
  simp (disch := first | omega | decide) only [f_M_qPartTold_L2, e2, l, qw, sg, i51, i52, zI_0, zI_1, zI_2, zI_3, zI_4, zI_5, zI_6, zI_7, zI_8, zI_9, zI_10, zI_11, zI_12, zI_13, zI_14, zI_15, zI_16, zI_17, zI_18, zI_19, zI_20, zI_21, zI_22, zI_23, zI_24, zI_25, zI_26, zI_27, zI_28, zI_29, zI_30, zI_31, zI_32, zI_33, zI_34, zI_35, zI_36, zI_37, zI_38, zI_39, zI_40, zI_41, zI_42, zI_43, zI_44, zI_45, zI_46, zI_47, zI_48, zI_49, zI_50, zI_51, zI_52, zI_53, zI_54, zI_55, zI_56, zI_57, zI_58, zI_59, zI_60, zI_61, zI_62, zI_63, zI_64, zI_65, zI_66, zI_67, zI_74, zI_84, zI_85, zI_88, zI_91, zI_93, zI_97, zI_99, zI_100, zI_102, zI_105, zI_117, zI_122, zI_193, zI_202, zI_205, zI_251, zI_255, zI_256, zI_257, zI_258, zI_259, zI_260, zI_640, zI_999, zI_1000, zI_1024, zI_1600, zI_1602, zI_1700, zI_2040, zI_3200, zI_4100, zI_9728, zI_11784, zI_61440, zI_65536, zI_470536, zI_999999, zI_1000000, lt_T, lt_F, le_T, le_F, eq_T, eq_F, neg_1, cn_m1p, cn_m11, nI_add, cn_sub, pk_mul, cn_div, cn_irm, cn_lt, cn_eq, cn_ltm1, cn_m1lt, cn_eqm1, cn_m1eq, cn_ix, cn_inb, cn_ninb, cn_irs, cn_ils, cn_and, cn_or, cn_xor, grd_t, grd_bt, grd_bl, Nat.add_zero, Nat.zero_add, Nat.reduceAdd, Nat.reduceSub, Nat.reduceMul, Nat.reduceLT, Nat.reduceEqDiff, eq_self, true_and, and_true, and_false, false_and, if_true, if_false, and_self, Bool.true_eq_false, Bool.false_eq_true, Option.bind_some]
theorem PS_lby (hK : KdA kd mk al) (hh : RT tp n kd t0 p b o C W B t) (hN : 10000 ≤ N) (g : Int32 × mS → Option mS) {i : Nat} (c : kK tp n p b ≠ 40) (c2 : wdA tp n p b ≠ 24) (c3 : wdA tp n p b ≠ 25) (c4 : wqR al 9 11 (wdA tp n p b) = i + 1) (hi : i = 9 ∨ i = 10) : f_M_qPartTold_L2 N g (nI 1, t) = (f_M_qOpens N (nI (60 + i - 9)) (nI (skp tp n p)) (lk tp n p t)).bind fun p5 => (f_M_qAsksWord N (nI i) p5).bind fun p6 => g (nI 1, p6) := by
  have sg := (chM_sg (b := b) (p := p) (c := 40) ⟨by decide, by decide⟩ (RB_ht hh.2.1)).trans (eq_false c)
  obtain ⟨e2, l, g2, qw, i51, i52⟩ := PS_pre hK hh hN
  rw [if_neg c2] at i51
  rw [if_neg c3] at i52
  rw [c4, m1_s] at qw
  generalize lk tp n p t = t1 at *
  generalize chM tp n p = ch at *
  simp (disch := first | omega | decide) only [f_M_qPartTold_L2, e2, l, qw, sg, i51, i52, g2, zI_0, zI_1, zI_2, zI_3, zI_4, zI_5, zI_6, zI_7, zI_8, zI_9, zI_10, zI_11, zI_12, zI_13, zI_14, zI_15, zI_16, zI_17, zI_18, zI_19, zI_20, zI_21, zI_22, zI_23, zI_24, zI_25, zI_26, zI_27, zI_28, zI_29, zI_30, zI_31, zI_32, zI_33, zI_34, zI_35, zI_36, zI_37, zI_38, zI_39, zI_40, zI_41, zI_42, zI_43, zI_44, zI_45, zI_46, zI_47, zI_48, zI_49, zI_50, zI_51, zI_52, zI_53, zI_54, zI_55, zI_56, zI_57, zI_58, zI_59, zI_60, zI_61, zI_62, zI_63, zI_64, zI_65, zI_66, zI_67, zI_74, zI_84, zI_85, zI_88, zI_91, zI_93, zI_97, zI_99, zI_100, zI_102, zI_105, zI_117, zI_122, zI_193, zI_202, zI_205, zI_251, zI_255, zI_256, zI_257, zI_258, zI_259, zI_260, zI_640, zI_999, zI_1000, zI_1024, zI_1600, zI_1602, zI_1700, zI_2040, zI_3200, zI_4100, zI_9728, zI_11784, zI_61440, zI_65536, zI_470536, zI_999999, zI_1000000, lt_T, lt_F, le_T, le_F, eq_T, eq_F, neg_1, cn_m1p, cn_m11, nI_add, cn_sub, pk_mul, cn_div, cn_irm, cn_lt, cn_eq, cn_ltm1, cn_m1lt, cn_eqm1, cn_m1eq, cn_ix, cn_inb, cn_ninb, cn_irs, cn_ils, cn_and, cn_or, cn_xor, grd_t, grd_bt, grd_bl, Nat.add_zero, Nat.zero_add, Nat.reduceAdd, Nat.reduceSub, Nat.reduceMul, Nat.reduceLT, Nat.reduceEqDiff, eq_self, true_and, and_true, and_false, false_and, if_true, if_false, and_self, Bool.true_eq_false, Bool.false_eq_true, Option.bind_some]
theorem PS_look (hK : KdA kd mk al) (hh : RT tp n kd t0 p b o C W B t) (hN : 10000 ≤ N) (g : Int32 × mS → Option mS) :
    (kK tp n p b = 40 → f_M_qPartTold_L2 N g (nI 1, t) = (f_M_qOpens N (nI 20) (nI (skp tp n p)) (lk tp n p t)).bind fun p7 => g (nI 1, sI p7 1002 0 (gI p7 1002 0 + nI 1))) ∧
    (kK tp n p b ≠ 40 → wdA tp n p b = 24 ∨ wdA tp n p b = 25 → f_M_qPartTold_L2 N g (nI 1, t) = f_M_qPartTold_j78 N g (nI 1, lk tp n p t)) ∧
    (kK tp n p b ≠ 40 → wdA tp n p b ≠ 24 → wdA tp n p b ≠ 25 → wqR al 9 11 (wdA tp n p b) = 0 → f_M_qPartTold_L2 N g (nI 1, t) = g (nI 0, lk tp n p t)) ∧
    (∀ i, kK tp n p b ≠ 40 → wdA tp n p b ≠ 24 → wdA tp n p b ≠ 25 → wqR al 9 11 (wdA tp n p b) = i + 1 → i = 9 ∨ i = 10 → f_M_qPartTold_L2 N g (nI 1, t) = (f_M_qOpens N (nI (60 + i - 9)) (nI (skp tp n p)) (lk tp n p t)).bind fun p5 => (f_M_qAsksWord N (nI i) p5).bind fun p6 => g (nI 1, p6)) :=
  ⟨PS_l40 hK hh hN g, PS_lmm hK hh hN g, PS_l0 hK hh hN g, fun _ => PS_lby hK hh hN g⟩
/-- a part's end -/
theorem PS_end {p' k15 : Nat} {b' : Bool} {t3 : mS} (hN : 10000 ≤ N) (hw : w + 1 ≤ N) (hm : m ≤ k15) (hmN : m ≤ N) (hk : rEP N B0 Q m (w + 1) t3) : Ok ((f_M_qEndsPart N t3).bind (fun p2 => some p2) |>.bind (kSm N B0 k15)) Q := by
  obtain ⟨t4, f4, r1, r2⟩ := hk N hw
  have f4 : f_M_qEndsPart N t3 = some t4 := f4
  rw [f4, Option.bind_some, Option.bind_some]
  unfold kSm
  simp (disch := first | omega | decide) only [r1, zI_0, zI_1, zI_2, zI_3, zI_4, zI_5, zI_6, zI_7, zI_8, zI_9, zI_10, zI_11, zI_12, zI_13, zI_14, zI_15, zI_16, zI_17, zI_18, zI_19, zI_20, zI_21, zI_22, zI_23, zI_24, zI_25, zI_26, zI_27, zI_28, zI_29, zI_30, zI_31, zI_32, zI_33, zI_34, zI_35, zI_36, zI_37, zI_38, zI_39, zI_40, zI_41, zI_42, zI_43, zI_44, zI_45, zI_46, zI_47, zI_48, zI_49, zI_50, zI_51, zI_52, zI_53, zI_54, zI_55, zI_56, zI_57, zI_58, zI_59, zI_60, zI_61, zI_62, zI_63, zI_64, zI_65, zI_66, zI_67, zI_74, zI_84, zI_85, zI_88, zI_91, zI_93, zI_97, zI_99, zI_100, zI_102, zI_105, zI_117, zI_122, zI_193, zI_202, zI_205, zI_251, zI_255, zI_256, zI_257, zI_258, zI_259, zI_260, zI_640, zI_999, zI_1000, zI_1024, zI_1600, zI_1602, zI_1700, zI_2040, zI_3200, zI_4100, zI_9728, zI_11784, zI_61440, zI_65536, zI_470536, zI_999999, zI_1000000, lt_T, lt_F, le_T, le_F, eq_T, eq_F, neg_1, cn_m1p, cn_m11, nI_add, cn_sub, pk_mul, cn_div, cn_irm, cn_lt, cn_eq, cn_ltm1, cn_m1lt, cn_eqm1, cn_m1eq, cn_ix, cn_inb, cn_ninb, cn_irs, cn_ils, cn_and, cn_or, cn_xor, grd_t, grd_bt, grd_bl, Nat.add_zero, Nat.zero_add, Nat.reduceAdd, Nat.reduceSub, Nat.reduceMul, Nat.reduceLT, Nat.reduceEqDiff, eq_self, true_and, and_true, and_false, false_and, if_true, if_false, and_self, Bool.true_eq_false, Bool.false_eq_true]
  exact r2 N k15 hmN hm
theorem PS_j237 {k15 : Nat} {x : Nat} (hN : 10000 ≤ N) (h : RT tp n kd t0 p b o C W B t) (hC : C.length < 1700) (hw : W.length + 1 ≤ N) (hm : m ≤ k15) (hmN : m ≤ N) (hk : ∀ t', RT tp n kd t0 p b o (C ++ [x]) W B t' → rEP N B0 Q m (W.length + 1) t') : Ok ((f_M_qPartTold_j237 N (nI x, t)).bind (kSm N B0 k15)) Q := by
  obtain ⟨t3, f3, R⟩ := r_code (N := N) (c := x) hC h
  have := PS_end (p' := 0) (b' := false) (k15 := k15) hN hw hm hmN (hk t3 R)
  simp (disch := first | omega | decide) only [f_M_qPartTold_j237, f3, Option.bind_some]
  exact this
theorem PS_j237b {k15 : Nat} {x : Int32} (hN : 10000 ≤ N) (h : BT t0 k w t) (hRC : RCd C t) (hC : C.length < 1650) (hm : 1 ≤ k15) (hQ : ∀ t', BT t0 k w t' → Q t') : Ok ((f_M_qPartTold_j237 N (x, t)).bind (kSm N B0 k15)) Q := by
  obtain ⟨t3, f3, D⟩ := r_codeb (N := N) hC hRC h x
  have e5 := D.1.2.2.1
  have h1 := D.1.1
  have h2 := D.1.2.1
  have f4 : f_M_qEndsPart N t3 = some t3 := by
    unfold f_M_qEndsPart
    rw [mfix_1 (by omega)]
    simp (disch := first | omega | decide) only [f_M_qEndsPart_L0, e5, zI_0, zI_1, zI_2, zI_3, zI_4, zI_5, zI_6, zI_7, zI_8, zI_9, zI_10, zI_11, zI_12, zI_13, zI_14, zI_15, zI_16, zI_17, zI_18, zI_19, zI_20, zI_21, zI_22, zI_23, zI_24, zI_25, zI_26, zI_27, zI_28, zI_29, zI_30, zI_31, zI_32, zI_33, zI_34, zI_35, zI_36, zI_37, zI_38, zI_39, zI_40, zI_41, zI_42, zI_43, zI_44, zI_45, zI_46, zI_47, zI_48, zI_49, zI_50, zI_51, zI_52, zI_53, zI_54, zI_55, zI_56, zI_57, zI_58, zI_59, zI_60, zI_61, zI_62, zI_63, zI_64, zI_65, zI_66, zI_67, zI_74, zI_84, zI_85, zI_88, zI_91, zI_93, zI_97, zI_99, zI_100, zI_102, zI_105, zI_117, zI_122, zI_193, zI_202, zI_205, zI_251, zI_255, zI_256, zI_257, zI_258, zI_259, zI_260, zI_640, zI_999, zI_1000, zI_1024, zI_1600, zI_1602, zI_1700, zI_2040, zI_3200, zI_4100, zI_9728, zI_11784, zI_61440, zI_65536, zI_470536, zI_999999, zI_1000000, lt_T, lt_F, le_T, le_F, eq_T, eq_F, neg_1, cn_m1p, cn_m11, nI_add, cn_sub, pk_mul, cn_div, cn_irm, cn_lt, cn_eq, cn_ltm1, cn_m1lt, cn_eqm1, cn_m1eq, cn_ix, cn_inb, cn_ninb, cn_irs, cn_ils, cn_and, cn_or, cn_xor, grd_t, grd_bt, grd_bl, Nat.add_zero, Nat.zero_add, Nat.reduceAdd, Nat.reduceSub, Nat.reduceMul, Nat.reduceLT, Nat.reduceEqDiff, eq_self, true_and, and_true, and_false, false_and, if_true, if_false, and_self, Bool.true_eq_false, Bool.false_eq_true]
  simp (disch := first | omega | decide) only [f_M_qPartTold_j237, f3, f4, Option.bind_some]
  exact kS_bad hm hN D hQ
/-- a part that is a word or a number or a fault -/
theorem PS_leaf (hK : KdA kd mk al) (hh : RT tp n kd t0 p b o C W B t) (hn : n ≤ 1600) (hl : C.length + W.length ≤ p) (hN : 10000 ≤ N) (k4 : kK tp n p b ≠ 40) (w1 : wdA tp n p b ≠ 24) (w2 : wdA tp n p b ≠ 25) (w3 : wqR al 9 11 (wdA tp n p b) = 0)
    (hA : ∀ (k15 : Nat) t1, n - p + 5 ≤ k15 → RT tp n kd t0 p b o C W B t1 → RL tp n p b t1 → Ok ((f_M_qPartTold_j186 N t1).bind (kSm N B0 k15)) Q) : rPS N B0 Q (n - p + 5) t := by
  intro k2 k15 h1 h2
  rw [mfix_1 (by omega), ((PS_look hK hh hN _).2.2.1 k4 w1 w2 w3), mfix_1 (by omega)]
  obtain ⟨h, hL, g2⟩ := RT_lk hh
  have := hA k15 _ h2 h hL
  simp (disch := first | omega | decide) only [f_M_qPartTold_L2, zI_0, zI_1, zI_2, zI_3, zI_4, zI_5, zI_6, zI_7, zI_8, zI_9, zI_10, zI_11, zI_12, zI_13, zI_14, zI_15, zI_16, zI_17, zI_18, zI_19, zI_20, zI_21, zI_22, zI_23, zI_24, zI_25, zI_26, zI_27, zI_28, zI_29, zI_30, zI_31, zI_32, zI_33, zI_34, zI_35, zI_36, zI_37, zI_38, zI_39, zI_40, zI_41, zI_42, zI_43, zI_44, zI_45, zI_46, zI_47, zI_48, zI_49, zI_50, zI_51, zI_52, zI_53, zI_54, zI_55, zI_56, zI_57, zI_58, zI_59, zI_60, zI_61, zI_62, zI_63, zI_64, zI_65, zI_66, zI_67, zI_74, zI_84, zI_85, zI_88, zI_91, zI_93, zI_97, zI_99, zI_100, zI_102, zI_105, zI_117, zI_122, zI_193, zI_202, zI_205, zI_251, zI_255, zI_256, zI_257, zI_258, zI_259, zI_260, zI_640, zI_999, zI_1000, zI_1024, zI_1600, zI_1602, zI_1700, zI_2040, zI_3200, zI_4100, zI_9728, zI_11784, zI_61440, zI_65536, zI_470536, zI_999999, zI_1000000, lt_T, lt_F, le_T, le_F, eq_T, eq_F, neg_1, cn_m1p, cn_m11, nI_add, cn_sub, pk_mul, cn_div, cn_irm, cn_lt, cn_eq, cn_ltm1, cn_m1lt, cn_eqm1, cn_m1eq, cn_ix, cn_inb, cn_ninb, cn_irs, cn_ils, cn_and, cn_or, cn_xor, grd_t, grd_bt, grd_bl, Nat.add_zero, Nat.zero_add, Nat.reduceAdd, Nat.reduceSub, Nat.reduceMul, Nat.reduceLT, Nat.reduceEqDiff, eq_self, true_and, and_true, and_false, false_and, if_true, if_false, and_self, Bool.true_eq_false, Bool.false_eq_true]
  exact this
end HEAD
