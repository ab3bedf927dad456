/-! WORTH: the numbers that a program comes to, on the one side -/
def cW : Nat → Nat
  | 0 => 13
  | 1 => 9
  | 2 => 10
  | 3 => 3
  | 4 => 11
  | 5 => 12
  | 6 => 14
  | 7 => 15
  | _ => 16
def cB : Nat → Nat
  | 1 => 43
  | 2 => 45
  | 3 => 42
  | 4 => 47
  | 5 => 23
  | 6 => 24
  | 7 => 60
  | 8 => 62
  | 9 => 61
  | 10 => 20
  | 11 => 19
  | 12 => 21
  | 13 => 22
  | 60 => 17
  | 61 => 18
  | _ => 0
def cSt (c : Nat) : Int32 := if 1000 ≤ c then zi (-1 - ((c - 1000 : Nat) : Int)) else if 40 ≤ c ∧ c ≤ 48 then nI (cW (c - 40)) else nI (cB c)
theorem fb_rng (x : Int32) : -2147483648 ≤ x.toInt ∧ x.toInt < 2147483648 := by
  have h1 := Int32.le_toInt x
  have h2 := Int32.toInt_lt x
  omega
theorem fb_bmod {z : Int} (h1 : -2147483648 ≤ z) (h2 : z < 2147483648) : z.bmod (2 ^ 32) = z := by
  rw [Int.bmod_eq_of_le (by omega) (by omega)]
theorem fb_rngL (x : Int64) : -9223372036854775808 ≤ x.toInt ∧ x.toInt < 9223372036854775808 := by
  have h1 := Int64.le_toInt x
  have h2 := Int64.toInt_lt x
  omega
theorem fb_bmodL {z : Int} (h1 : -9223372036854775808 ≤ z) (h2 : z < 9223372036854775808) : z.bmod (2 ^ 64) = z := by
  rw [Int.bmod_eq_of_le (by omega) (by omega)]
theorem cW_b (w : Nat) : cW w < 17 := by unfold cW; split <;> omega
theorem zi_c (n : Nat) : nI n = zi (n : Int) := (zi_nI n).symm
theorem max_z {N : Nat} {a b : Int} (s : mS) (h : -2147483648 ≤ a ∧ a < 2147483648 ∧ -2147483648 ≤ b ∧ b < 2147483648) : f_Math_max N (zi a) (zi b) s = some (zi (if a < b then b else a), s) := by
  simp only [f_Math_max, zi_lt h]
  split <;> rfl
theorem min_z {N : Nat} {a b : Int} (s : mS) (h : -2147483648 ≤ a ∧ a < 2147483648 ∧ -2147483648 ≤ b ∧ b < 2147483648) : f_Math_min N (zi a) (zi b) s = some (zi (if b < a then b else a), s) := by
  simp only [f_Math_min, zi_lt ⟨h.2.2.1, h.2.2.2, h.1, h.2.1⟩]
  split <;> rfl
theorem max_n {N a b : Nat} (s : mS) (h : a < 2147483648 ∧ b < 2147483648) : f_Math_max N (nI a) (nI b) s = some (nI (max a b), s) := by
  simp only [f_Math_max, cn_lt h]
  rw [Nat.max_def]
  split
  · rw [if_pos (by omega)]
  · split
    · rw [show a = b from by omega]
    · rfl
theorem min_n {N a b : Nat} (s : mS) (h : a < 2147483648 ∧ b < 2147483648) : f_Math_min N (nI a) (nI b) s = some (nI (min a b), s) := by
  simp only [f_Math_min, cn_lt ⟨h.2, h.1⟩]
  rw [Nat.min_def]
  split
  · rw [if_neg (by omega)]
  · rw [if_pos (by omega)]
theorem maxL_z {N : Nat} {a b : Int} (s : mS) (h : -9223372036854775808 ≤ a ∧ a < 9223372036854775808 ∧ -9223372036854775808 ≤ b ∧ b < 9223372036854775808) : f_Math_maxL N (zl a) (zl b) s = some (zl (if a < b then b else a), s) := by
  simp only [f_Math_maxL, zc_lt h]
  split <;> rfl
theorem minL_z {N : Nat} {a b : Int} (s : mS) (h : -9223372036854775808 ≤ a ∧ a < 9223372036854775808 ∧ -9223372036854775808 ≤ b ∧ b < 9223372036854775808) : f_Math_minL N (zl a) (zl b) s = some (zl (if b < a then b else a), s) := by
  simp only [f_Math_minL, zc_gt h]
  split <;> rfl
theorem clipI {N : Nat} {v : Int} (s : mS) (h : -2147483648 ≤ v ∧ v < 2147483648) : (f_Math_max N (-1000000) (zi v) s).bind (fun p5 => (f_Math_min N 1000000 p5.1 p5.2).bind fun p6 => some (p6.1, p6.2)) = some (zi (clip v), s) := by
  rw [show (-1000000 : Int32) = zi (-1000000) from rfl, show (1000000 : Int32) = zi 1000000 from rfl, max_z s (by omega), Option.bind_some]
  show (f_Math_min N (zi 1000000) (zi (if -1000000 < v then v else -1000000)) s).bind _ = _
  rw [min_z s (by split <;> omega), Option.bind_some]
  show some (zi _, s) = _
  congr 3
  unfold clip
  split <;> split <;> (try split) <;> omega
theorem clipL {N : Nat} {v : Int} (s : mS) (h : -9223372036854775808 ≤ v ∧ v < 9223372036854775808) : (f_Math_maxL N (-1000000) (zl v) s).bind (fun p5 => (f_Math_minL N 1000000 p5.1 p5.2).bind fun p6 => some ((p6.1).toInt32, p6.2)) = some (zi (clip v), s) := by
  rw [show (-1000000 : Int64) = zl (-1000000) from rfl, show (1000000 : Int64) = zl 1000000 from rfl, maxL_z s (by omega), Option.bind_some]
  show (f_Math_minL N (zl 1000000) (zl (if -1000000 < v then v else -1000000)) s).bind _ = _
  rw [minL_z s (by split <;> omega), Option.bind_some]
  show some ((zl _).toInt32, s) = _
  have e : (if (if -1000000 < v then v else -1000000) < 1000000 then (if -1000000 < v then v else -1000000) else 1000000) = clip v := by
    unfold clip
    split <;> split <;> (try split) <;> omega
  rw [e, zl_i (by have := clip_r v; omega)]
theorem zi_div {a b : Int} (ha : -1000000 ≤ a ∧ a ≤ 1000000) (hb : -1000000 ≤ b ∧ b ≤ 1000000) : zi a / zi b = zi (a.tdiv b) := by
  apply Int32.toInt_inj.mp
  have := tdv_r (b := b) ha
  rw [Int32.toInt_div, zi_t (by omega), zi_t (by omega), zi_t (by omega), fb_bmod (by omega) (by omega)]
theorem zl_div {a b : Int} (ha : -1000000 ≤ a ∧ a ≤ 1000000) (hb : -1000000 ≤ b ∧ b ≤ 1000000) : zl a / zl b = zl (a.tdiv b) := by
  apply Int64.toInt_inj.mp
  have := tdv_r (b := b) ha
  rw [Int64.toInt_div, zl_t (by omega), zl_t (by omega), zl_t (by omega), fb_bmodL (by omega) (by omega)]
theorem neg_xor (x y : Int32) : (x ^^^ y < 0) ↔ ¬ (x < 0 ↔ y < 0) := by
  have e : ∀ z : Int32, z < 0 ↔ z.toBitVec.msb = true := by
    intro z
    rw [Int32.lt_iff_toInt_lt, Int32.toInt_zero]
    show z.toBitVec.toInt < 0 ↔ _
    rw [BitVec.toInt_neg_iff, BitVec.msb_eq_true_iff_two_mul_ge]
  rw [e, e, e, Int32.toBitVec_xor, BitVec.msb_xor]
  cases x.toBitVec.msb <;> cases y.toBitVec.msb <;> decide
theorem floorDiv_z {N : Nat} {a b : Int} (s : mS) (ha : -1000000 ≤ a ∧ a ≤ 1000000) (hb : -1000000 ≤ b ∧ b ≤ 1000000) (h0 : b ≠ 0) : f_Math_floorDiv N (zi a) (zi b) s = some (zi (fdv a b), s) := by
  have e0 : (zi b = 0) = False := by
    rw [show (0 : Int32) = zi 0 from rfl, zi_eq (by omega)]; exact eq_false h0
  have l := tdv_r (b := b) ha
  have m : (zi (a.tdiv b) * zi b = zi a) = (a.tdiv b * b = a) := by
    rw [zi_mul]
    refine zi_eq ?_
    have h2 : (a.tdiv b * b).natAbs ≤ a.natAbs := by
      rw [Int.natAbs_mul, show (a.tdiv b).natAbs = a.natAbs / b.natAbs from Int.natAbs_tdiv a b]; exact Nat.div_mul_le_self _ _
    have := ab_le h2 ha
    omega
  have n : (zi a ^^^ zi b < 0) = ¬ (a < 0 ↔ b < 0) := by
    rw [propext (neg_xor _ _), show (0 : Int32) = zi 0 from rfl, zi_lt (by omega), zi_lt (by omega)]
  simp only [f_Math_floorDiv, e0, decide_false, Bool.not_false, grd_t, zi_div ha hb, n, m]
  rw [show (1 : Int32) = zi 1 from rfl, zi_sub]
  unfold fdv
  rw [if_neg h0]
  by_cases c1 : ¬ (a < 0 ↔ b < 0)
  · by_cases c2 : a.tdiv b * b = a
    · rw [if_pos c1, if_pos c2, if_neg fun h => h.2 c2]
    · rw [if_pos c1, if_neg c2, if_pos ⟨c1, c2⟩]
  · rw [if_neg c1, if_neg fun h => c1 h.1]
theorem zi_tv {t : Bool} {v : Int} (h : TyV t v) : -1000000 ≤ v ∧ v ≤ 1000000 := by
  cases t
  · exact h
  · exact TyV_bn h
theorem joined_n {N c : Nat} {a b : Int} (s : mS) (h : 1 ≤ c ∧ c ≤ 9) (ha : -1000000 ≤ a ∧ a ≤ 1000000) (hb : -1000000 ≤ b ∧ b ≤ 1000000) : f_Su_joined N (nI (cB c)) (zi a) (zi b) s = some (zi (bin c a b), s) := by
  have : c = 1 ∨ c = 2 ∨ c = 3 ∨ c = 4 ∨ c = 5 ∨ c = 6 ∨ c = 7 ∨ c = 8 ∨ c = 9 := by omega
  rcases this with rfl | rfl | rfl | rfl | rfl | rfl | rfl | rfl | rfl
  · refine Eq.trans (b := (f_Math_max N (-1000000) (zi a + zi b) s).bind (fun p5 => (f_Math_min N 1000000 p5.1 p5.2).bind fun p6 => some (p6.1, p6.2))) rfl ?_
    rw [zi_add]
    exact clipI s (by omega)
  · refine Eq.trans (b := (f_Math_max N (-1000000) (zi a - zi b) s).bind (fun p5 => (f_Math_min N 1000000 p5.1 p5.2).bind fun p6 => some (p6.1, p6.2))) rfl ?_
    rw [zi_sub]
    exact clipI s (by omega)
  · refine Eq.trans (b := (f_Math_maxL N (-1000000) ((zi a).toInt64 * (zi b).toInt64) s).bind (fun p5 => (f_Math_minL N 1000000 p5.1 p5.2).bind fun p6 => some ((p6.1).toInt32, p6.2))) rfl ?_
    rw [zi_l (by omega), zi_l (by omega), zl_mul]
    refine clipL s ?_
    have h1 : (a * b).natAbs ≤ (1000000000000 : Int).natAbs := by
      rw [Int.natAbs_mul]; exact Nat.le_trans (Nat.mul_le_mul (show a.natAbs ≤ 1000000 by omega) (show b.natAbs ≤ 1000000 by omega)) (by decide)
    have := ab_le (m := 1000000000000) h1 (by omega)
    omega
  · refine Eq.trans (b := if zi b = 0 then some (0, s) else (f_Math_floorDiv N (zi a) (zi b) s).bind fun p9 => some (p9.1, p9.2)) rfl ?_
    by_cases h0 : b = 0
    · subst h0
      rw [if_pos (show zi 0 = 0 from rfl)]; rfl
    · rw [if_neg (by rw [show (0 : Int32) = zi 0 from rfl, zi_eq (by omega)]; exact h0), floorDiv_z s ha hb h0]
      rfl
  · refine Eq.trans (b := (f_Math_min N (zi a) (zi b) s).bind fun p1 => some (p1.1, p1.2)) rfl ?_
    rw [min_z s (by omega), Option.bind_some]
    show some (zi _, s) = some (zi (if a < b then a else b), s)
    congr 3
    split <;> split <;> omega
  · refine Eq.trans (b := (f_Math_max N (zi a) (zi b) s).bind fun p1 => some (p1.1, p1.2)) rfl ?_
    rw [max_z s (by omega), Option.bind_some]
    show some (zi _, s) = some (zi (if b < a then a else b), s)
    congr 3
    split <;> split <;> omega
  · refine Eq.trans (b := if zi a < zi b then some (1, s) else some (0, s)) rfl ?_
    show _ = some (zi (b01 (decide (a < b))), s)
    have q : (zi a < zi b) = (a < b) := zi_lt (by omega)
    by_cases h0 : a < b
    · rw [if_pos (by rw [q]; exact h0), decide_eq_true h0]; rfl
    · rw [if_neg (by rw [q]; exact h0), decide_eq_false h0]; rfl
  · refine Eq.trans (b := if zi b < zi a then some (1, s) else some (0, s)) rfl ?_
    show _ = some (zi (b01 (decide (b < a))), s)
    have q : (zi b < zi a) = (b < a) := zi_lt (by omega)
    by_cases h0 : b < a
    · rw [if_pos (by rw [q]; exact h0), decide_eq_true h0]; rfl
    · rw [if_neg (by rw [q]; exact h0), decide_eq_false h0]; rfl
  · refine Eq.trans (b := if zi a = zi b then some (1, s) else some (0, s)) rfl ?_
    show _ = some (zi (b01 (decide (a = b))), s)
    have q : (zi a = zi b) = (a = b) := zi_eq (by omega)
    by_cases h0 : a = b
    · rw [if_pos (by rw [q]; exact h0), decide_eq_true h0]; rfl
    · rw [if_neg (by rw [q]; exact h0), decide_eq_false h0]; rfl
theorem joined_b {N c : Nat} {a b : Int} (s : mS) (h : c = 10 ∨ c = 11) (ha : TyV true a) (hb : TyV true b) : f_Su_joined N (nI (cB c)) (zi a) (zi b) s = some (zi (bin c a b), s) := by
  rcases (TyV_b a).mp ha with rfl | rfl <;> rcases (TyV_b b).mp hb with rfl | rfl <;> rcases h with rfl | rfl <;> rfl
/-- the stack -/
def StA (s : mS) : List Int → Prop
  | [] => True
  | v :: st => gA s 28 st.length = zi v ∧ StA s st
theorem StA_fr {s s' : mS} : ∀ {st : List Int}, (∀ i, i < st.length → gA s' 28 i = gA s 28 i) → StA s st → StA s' st
  | [], _, _ => trivial
  | v :: st, h, hS => ⟨by rw [h _ (by rw [List.length_cons]; omega)]; exact hS.1, StA_fr (fun i hi => h i (by rw [List.length_cons]; omega)) hS.2⟩
theorem StA_push {s : mS} {st : List Int} {n : Nat} {v : Int} {x : Int32} (hx : x = zi v) (hn : n = st.length) (hS : StA s st) : StA (sA s 28 n x) (v :: st) := by
  subst hn; subst hx
  exact ⟨gA_eq rfl, StA_fr (fun i hi => gA_ne (by omega)) hS⟩
def GV (s : mS) (g : Nat → Int) (al : Nat → Bool) : Prop := ∀ w, w ≤ 8 → al w = true → gA s 26 (cW w) = zi (g w)
def BN (N : Nat) (s : mS) (gb gn : Int → Int) (al : Nat → Bool) : Prop := (al 9 = true → ∀ v, -1000000 ≤ v ∧ v ≤ 1000000 → f_Su_single N 17 (zi v) s = some (zi (gb v), s)) ∧ (al 10 = true → ∀ v, -1000000 ≤ v ∧ v ≤ 1000000 → f_Su_single N 18 (zi v) s = some (zi (gn v), s))
theorem pg_ok {pg : Nat} (h : pg = 5 ∨ pg = 16) : isO Sx pg 5 = true ∧ aln Sx 0 (pg + 1) = 1602 := by
  rcases h with rfl | rfl <;> decide +kernel
section WORTH
variable {N pg sz to j c : Nat} {k : Nat × Int32 × Int32 × Int32 × mS → Option (Int32 × mS)} {s : mS} {st : List Int} {ts ts' : List Bool} {al : Nat → Bool} {g : Nat → Int} {gb gn : Int → Int}
theorem worth_st (hpg : pg = 5 ∨ pg = 16) (hsz : gI s 501 pg = nI sz) (hj : j < to) (hj2 : j < sz) (hsz2 : sz ≤ 1602) (hto : to ≤ 1602) (hc : gA s (pg + 1) j = cSt c)
    (hck : ck1 al c ts = some ts') (hT : TyS ts st) (hlen : ts.length ≤ 50) (hSt : StA s st) (hGV : GV s g al) (hBN : BN N s gb gn al) :
    ∃ s2, f_Su_worth_L6 N k (pg, nI to, nI st.length, nI j, s) = k (pg, nI to, nI (ev1 g gb gn c st).length, nI (j + 1), s2) ∧ Fr [28] s s2 ∧ StA s2 (ev1 g gb gn c st) := by
  obtain ⟨o1, o2⟩ := pg_ok hpg
  have hl := TyS_len hT
  rcases ck1_cases hck with ⟨h1, h2, h3, rfl⟩ | ⟨rfl, h2, r, rfl, rfl⟩ | ⟨rfl, h2, r, rfl, rfl⟩ | ⟨h1, h2, h3, h4, rfl⟩ | ⟨rfl, h2, rfl⟩ | ⟨rfl, r, rfl, rfl⟩ | ⟨h1, r, rfl, rfl⟩ | ⟨h1, r, rfl, rfl⟩ | ⟨h1, r, rfl, rfl⟩
  · -- a number
    have ec : cSt c = zi (-1 - ((c - 1000 : Nat) : Int)) := if_pos h1
    rw [ec] at hc
    have q1 : (zi (-1 - ((c - 1000 : Nat) : Int)) < nI 17) = True := by
      rw [show nI 17 = zi 17 from rfl, zi_lt (by omega)]; exact eq_true (by omega)
    have q2 : (zi (-1 - ((c - 1000 : Nat) : Int)) < nI 0) = True := by
      rw [show nI 0 = zi 0 from rfl, zi_lt (by omega)]; exact eq_true (by omega)
    have q3 : m1 - zi (-1 - ((c - 1000 : Nat) : Int)) = zi ((c - 1000 : Nat) : Int) := by
      rw [show m1 = zi (-1) from rfl, zi_sub]; exact congrArg zi (by omega)
    rw [ev1_num h1]
    refine ⟨sA s 28 st.length (zi ((c - 1000 : Nat) : Int)), ?_, Fr_sA _ _ _ (by decide), StA_push rfl rfl hSt⟩
    simp (disch := first | omega | decide) only [f_Su_worth_L6, o1, o2, hsz, cn_ix, hc, q1, q2, q3, zI_0, zI_1, zI_2, zI_3, zI_4, zI_5, zI_6, zI_7, zI_8, zI_9, zI_10, zI_11, zI_12, zI_13, zI_14, zI_15, zI_16, zI_17, zI_18, zI_19, zI_20, zI_21, zI_22, zI_23, zI_24, zI_25, zI_26, zI_27, zI_28, zI_29, zI_30, zI_31, zI_32, zI_33, zI_34, zI_35, zI_36, zI_37, zI_38, zI_39, zI_40, zI_41, zI_42, zI_43, zI_44, zI_45, zI_46, zI_47, zI_48, zI_49, zI_50, zI_51, zI_52, zI_53, zI_54, zI_55, zI_56, zI_57, zI_58, zI_59, zI_60, zI_61, zI_62, zI_63, zI_64, zI_65, zI_66, zI_67, zI_74, zI_84, zI_85, zI_88, zI_91, zI_93, zI_97, zI_99, zI_100, zI_102, zI_105, zI_117, zI_122, zI_193, zI_202, zI_205, zI_251, zI_255, zI_256, zI_257, zI_258, zI_259, zI_260, zI_640, zI_999, zI_1000, zI_1024, zI_1600, zI_1602, zI_1700, zI_2040, zI_3200, zI_4100, zI_9728, zI_11784, zI_61440, zI_65536, zI_470536, zI_999999, zI_1000000, lt_T, lt_F, le_T, le_F, eq_T, eq_F, neg_1, cn_m1p, cn_m11, nI_add, cn_sub, pk_mul, cn_div, cn_irm, cn_lt, cn_eq, cn_ltm1, cn_m1lt, cn_eqm1, cn_m1eq, cn_ix, cn_inb, cn_ninb, cn_irs, cn_ils, cn_and, cn_or, cn_xor, grd_t, grd_bt, grd_bl, Nat.add_zero, Nat.zero_add, Nat.reduceAdd, Nat.reduceSub, Nat.reduceMul, Nat.reduceLT, Nat.reduceEqDiff, eq_self, true_and, and_true, and_false, false_and, if_true, if_false, and_self, Bool.true_eq_false, Bool.false_eq_true, List.length_cons]
  · -- by
    obtain ⟨v, st, rfl, hv, hst⟩ := TyS_1 hT
    simp only [List.length_cons] at hl hlen
    have ec : cSt 60 = nI 17 := rfl
    rw [ec] at hc
    have hS1 : gA s 28 st.length = zi v := hSt.1
    have hb := hBN.1 h2 v hv
    rw [show (17 : Int32) = nI 17 from rfl] at hb
    refine ⟨sA s 28 st.length (zi (gb v)), ?_, Fr_sA _ _ _ (by decide), StA_push rfl rfl hSt.2⟩
    simp (disch := first | omega | decide) only [f_Su_worth_L6, f_Su_worth_j84, f_Su_worth_j115, f_Su_isOfOne, o1, o2, hsz, cn_ix, hc, zI_0, zI_1, zI_2, zI_3, zI_4, zI_5, zI_6, zI_7, zI_8, zI_9, zI_10, zI_11, zI_12, zI_13, zI_14, zI_15, zI_16, zI_17, zI_18, zI_19, zI_20, zI_21, zI_22, zI_23, zI_24, zI_25, zI_26, zI_27, zI_28, zI_29, zI_30, zI_31, zI_32, zI_33, zI_34, zI_35, zI_36, zI_37, zI_38, zI_39, zI_40, zI_41, zI_42, zI_43, zI_44, zI_45, zI_46, zI_47, zI_48, zI_49, zI_50, zI_51, zI_52, zI_53, zI_54, zI_55, zI_56, zI_57, zI_58, zI_59, zI_60, zI_61, zI_62, zI_63, zI_64, zI_65, zI_66, zI_67, zI_74, zI_84, zI_85, zI_88, zI_91, zI_93, zI_97, zI_99, zI_100, zI_102, zI_105, zI_117, zI_122, zI_193, zI_202, zI_205, zI_251, zI_255, zI_256, zI_257, zI_258, zI_259, zI_260, zI_640, zI_999, zI_1000, zI_1024, zI_1600, zI_1602, zI_1700, zI_2040, zI_3200, zI_4100, zI_9728, zI_11784, zI_61440, zI_65536, zI_470536, zI_999999, zI_1000000, lt_T, lt_F, le_T, le_F, eq_T, eq_F, neg_1, cn_m1p, cn_m11, nI_add, cn_sub, pk_mul, cn_div, cn_irm, cn_lt, cn_eq, cn_ltm1, cn_m1lt, cn_eqm1, cn_m1eq, cn_ix, cn_inb, cn_ninb, cn_irs, cn_ils, cn_and, cn_or, cn_xor, grd_t, grd_bt, grd_bl, Nat.add_zero, Nat.zero_add, Nat.reduceAdd, Nat.reduceSub, Nat.reduceMul, Nat.reduceLT, Nat.reduceEqDiff, eq_self, true_and, and_true, and_false, false_and, if_true, if_false, and_self, Bool.true_eq_false, Bool.false_eq_true, List.length_cons, Nat.add_sub_cancel, hS1, hb, Option.bind_some]
    rfl
  · -- near
    obtain ⟨v, st, rfl, hv, hst⟩ := TyS_1 hT
    simp only [List.length_cons] at hl hlen
    have ec : cSt 61 = nI 18 := rfl
    rw [ec] at hc
    have hS1 : gA s 28 st.length = zi v := hSt.1
    have hb := hBN.2 h2 v hv
    rw [show (18 : Int32) = nI 18 from rfl] at hb
    refine ⟨sA s 28 st.length (zi (gn v)), ?_, Fr_sA _ _ _ (by decide), StA_push rfl rfl hSt.2⟩
    simp (disch := first | omega | decide) only [f_Su_worth_L6, f_Su_worth_j84, f_Su_worth_j115, f_Su_isOfOne, o1, o2, hsz, cn_ix, hc, zI_0, zI_1, zI_2, zI_3, zI_4, zI_5, zI_6, zI_7, zI_8, zI_9, zI_10, zI_11, zI_12, zI_13, zI_14, zI_15, zI_16, zI_17, zI_18, zI_19, zI_20, zI_21, zI_22, zI_23, zI_24, zI_25, zI_26, zI_27, zI_28, zI_29, zI_30, zI_31, zI_32, zI_33, zI_34, zI_35, zI_36, zI_37, zI_38, zI_39, zI_40, zI_41, zI_42, zI_43, zI_44, zI_45, zI_46, zI_47, zI_48, zI_49, zI_50, zI_51, zI_52, zI_53, zI_54, zI_55, zI_56, zI_57, zI_58, zI_59, zI_60, zI_61, zI_62, zI_63, zI_64, zI_65, zI_66, zI_67, zI_74, zI_84, zI_85, zI_88, zI_91, zI_93, zI_97, zI_99, zI_100, zI_102, zI_105, zI_117, zI_122, zI_193, zI_202, zI_205, zI_251, zI_255, zI_256, zI_257, zI_258, zI_259, zI_260, zI_640, zI_999, zI_1000, zI_1024, zI_1600, zI_1602, zI_1700, zI_2040, zI_3200, zI_4100, zI_9728, zI_11784, zI_61440, zI_65536, zI_470536, zI_999999, zI_1000000, lt_T, lt_F, le_T, le_F, eq_T, eq_F, neg_1, cn_m1p, cn_m11, nI_add, cn_sub, pk_mul, cn_div, cn_irm, cn_lt, cn_eq, cn_ltm1, cn_m1lt, cn_eqm1, cn_m1eq, cn_ix, cn_inb, cn_ninb, cn_irs, cn_ils, cn_and, cn_or, cn_xor, grd_t, grd_bt, grd_bl, Nat.add_zero, Nat.zero_add, Nat.reduceAdd, Nat.reduceSub, Nat.reduceMul, Nat.reduceLT, Nat.reduceEqDiff, eq_self, true_and, and_true, and_false, false_and, if_true, if_false, and_self, Bool.true_eq_false, Bool.false_eq_true, List.length_cons, Nat.add_sub_cancel, hS1, hb, Option.bind_some]
    rfl
  · -- a word
    have ec : cSt c = nI (cW (c - 40)) := by
      unfold cSt; rw [if_neg (by omega), if_pos ⟨h1, h2⟩]
    rw [ec] at hc
    have hw := cW_b (c - 40)
    have hv := hGV (c - 40) (by omega) h3
    rw [ev1_part ⟨h1, h2⟩]
    refine ⟨sA s 28 st.length (zi (g (c - 40))), ?_, Fr_sA _ _ _ (by decide), StA_push rfl rfl hSt⟩
    simp (disch := first | omega | decide) only [f_Su_worth_L6, o1, o2, hsz, cn_ix, hc, hv, zI_0, zI_1, zI_2, zI_3, zI_4, zI_5, zI_6, zI_7, zI_8, zI_9, zI_10, zI_11, zI_12, zI_13, zI_14, zI_15, zI_16, zI_17, zI_18, zI_19, zI_20, zI_21, zI_22, zI_23, zI_24, zI_25, zI_26, zI_27, zI_28, zI_29, zI_30, zI_31, zI_32, zI_33, zI_34, zI_35, zI_36, zI_37, zI_38, zI_39, zI_40, zI_41, zI_42, zI_43, zI_44, zI_45, zI_46, zI_47, zI_48, zI_49, zI_50, zI_51, zI_52, zI_53, zI_54, zI_55, zI_56, zI_57, zI_58, zI_59, zI_60, zI_61, zI_62, zI_63, zI_64, zI_65, zI_66, zI_67, zI_74, zI_84, zI_85, zI_88, zI_91, zI_93, zI_97, zI_99, zI_100, zI_102, zI_105, zI_117, zI_122, zI_193, zI_202, zI_205, zI_251, zI_255, zI_256, zI_257, zI_258, zI_259, zI_260, zI_640, zI_999, zI_1000, zI_1024, zI_1600, zI_1602, zI_1700, zI_2040, zI_3200, zI_4100, zI_9728, zI_11784, zI_61440, zI_65536, zI_470536, zI_999999, zI_1000000, lt_T, lt_F, le_T, le_F, eq_T, eq_F, neg_1, cn_m1p, cn_m11, nI_add, cn_sub, pk_mul, cn_div, cn_irm, cn_lt, cn_eq, cn_ltm1, cn_m1lt, cn_eqm1, cn_m1eq, cn_ix, cn_inb, cn_ninb, cn_irs, cn_ils, cn_and, cn_or, cn_xor, grd_t, grd_bt, grd_bl, Nat.add_zero, Nat.zero_add, Nat.reduceAdd, Nat.reduceSub, Nat.reduceMul, Nat.reduceLT, Nat.reduceEqDiff, eq_self, true_and, and_true, and_false, false_and, if_true, if_false, and_self, Bool.true_eq_false, Bool.false_eq_true, List.length_cons, Nat.not_lt_zero]
  · -- all
    have ec : cSt 13 = nI 22 := rfl
    rw [ec] at hc
    refine ⟨sA s 28 st.length (nI 1), ?_, Fr_sA _ _ _ (by decide), StA_push rfl rfl hSt⟩
    simp (disch := first | omega | decide) only [f_Su_worth_L6, f_Su_worth_j84, o1, o2, hsz, cn_ix, hc, zI_0, zI_1, zI_2, zI_3, zI_4, zI_5, zI_6, zI_7, zI_8, zI_9, zI_10, zI_11, zI_12, zI_13, zI_14, zI_15, zI_16, zI_17, zI_18, zI_19, zI_20, zI_21, zI_22, zI_23, zI_24, zI_25, zI_26, zI_27, zI_28, zI_29, zI_30, zI_31, zI_32, zI_33, zI_34, zI_35, zI_36, zI_37, zI_38, zI_39, zI_40, zI_41, zI_42, zI_43, zI_44, zI_45, zI_46, zI_47, zI_48, zI_49, zI_50, zI_51, zI_52, zI_53, zI_54, zI_55, zI_56, zI_57, zI_58, zI_59, zI_60, zI_61, zI_62, zI_63, zI_64, zI_65, zI_66, zI_67, zI_74, zI_84, zI_85, zI_88, zI_91, zI_93, zI_97, zI_99, zI_100, zI_102, zI_105, zI_117, zI_122, zI_193, zI_202, zI_205, zI_251, zI_255, zI_256, zI_257, zI_258, zI_259, zI_260, zI_640, zI_999, zI_1000, zI_1024, zI_1600, zI_1602, zI_1700, zI_2040, zI_3200, zI_4100, zI_9728, zI_11784, zI_61440, zI_65536, zI_470536, zI_999999, zI_1000000, lt_T, lt_F, le_T, le_F, eq_T, eq_F, neg_1, cn_m1p, cn_m11, nI_add, cn_sub, pk_mul, cn_div, cn_irm, cn_lt, cn_eq, cn_ltm1, cn_m1lt, cn_eqm1, cn_m1eq, cn_ix, cn_inb, cn_ninb, cn_irs, cn_ils, cn_and, cn_or, cn_xor, grd_t, grd_bt, grd_bl, Nat.add_zero, Nat.zero_add, Nat.reduceAdd, Nat.reduceSub, Nat.reduceMul, Nat.reduceLT, Nat.reduceEqDiff, eq_self, true_and, and_true, and_false, false_and, if_true, if_false, and_self, Bool.true_eq_false, Bool.false_eq_true]
    rfl
  · -- not
    obtain ⟨v, st, rfl, hv, hst⟩ := TyS_1 hT
    simp only [List.length_cons] at hl hlen
    have ec : cSt 12 = nI 21 := rfl
    rw [ec] at hc
    have hS1 : gA s 28 st.length = zi v := hSt.1
    have q3 : nI 1 - zi v = zi (1 - v) := zi_sub (a := 1)
    refine ⟨sA s 28 st.length (zi (1 - v)), ?_, Fr_sA _ _ _ (by decide), StA_push rfl rfl hSt.2⟩
    simp (disch := first | omega | decide) only [f_Su_worth_L6, f_Su_worth_j84, f_Su_worth_j115, f_Su_isOfOne, f_Su_single, o1, o2, hsz, cn_ix, hc, zI_0, zI_1, zI_2, zI_3, zI_4, zI_5, zI_6, zI_7, zI_8, zI_9, zI_10, zI_11, zI_12, zI_13, zI_14, zI_15, zI_16, zI_17, zI_18, zI_19, zI_20, zI_21, zI_22, zI_23, zI_24, zI_25, zI_26, zI_27, zI_28, zI_29, zI_30, zI_31, zI_32, zI_33, zI_34, zI_35, zI_36, zI_37, zI_38, zI_39, zI_40, zI_41, zI_42, zI_43, zI_44, zI_45, zI_46, zI_47, zI_48, zI_49, zI_50, zI_51, zI_52, zI_53, zI_54, zI_55, zI_56, zI_57, zI_58, zI_59, zI_60, zI_61, zI_62, zI_63, zI_64, zI_65, zI_66, zI_67, zI_74, zI_84, zI_85, zI_88, zI_91, zI_93, zI_97, zI_99, zI_100, zI_102, zI_105, zI_117, zI_122, zI_193, zI_202, zI_205, zI_251, zI_255, zI_256, zI_257, zI_258, zI_259, zI_260, zI_640, zI_999, zI_1000, zI_1024, zI_1600, zI_1602, zI_1700, zI_2040, zI_3200, zI_4100, zI_9728, zI_11784, zI_61440, zI_65536, zI_470536, zI_999999, zI_1000000, lt_T, lt_F, le_T, le_F, eq_T, eq_F, neg_1, cn_m1p, cn_m11, nI_add, cn_sub, pk_mul, cn_div, cn_irm, cn_lt, cn_eq, cn_ltm1, cn_m1lt, cn_eqm1, cn_m1eq, cn_ix, cn_inb, cn_ninb, cn_irs, cn_ils, cn_and, cn_or, cn_xor, grd_t, grd_bt, grd_bl, Nat.add_zero, Nat.zero_add, Nat.reduceAdd, Nat.reduceSub, Nat.reduceMul, Nat.reduceLT, Nat.reduceEqDiff, eq_self, true_and, and_true, and_false, false_and, if_true, if_false, and_self, Bool.true_eq_false, Bool.false_eq_true, List.length_cons, Nat.add_sub_cancel, hS1, q3, Option.bind_some]
    rfl
  · -- and, or
    obtain ⟨v, w, st, rfl, hv, hw, hst⟩ := TyS_2 hT
    simp only [List.length_cons] at hl hlen
    have ec : cSt c = nI (cB c) := by rcases h1 with rfl | rfl <;> rfl
    have eb : cB c = 20 ∨ cB c = 19 := by rcases h1 with rfl | rfl <;> decide
    rw [ec] at hc
    have hS1 : ∀ i, i = st.length + 1 → gA s 28 i = zi v := fun i e => by rw [e]; exact hSt.1
    have hS2 : ∀ i, i = st.length → gA s 28 i = zi w := fun i e => by rw [e]; exact hSt.2.1
    have hb := joined_b (N := N) s h1 hw hv
    rw [ev1_bin (by omega)]
    refine ⟨sA s 28 st.length (zi (bin c w v)), ?_, Fr_sA _ _ _ (by decide), StA_push rfl rfl hSt.2.2⟩
    simp (disch := first | omega | decide) only [f_Su_worth_L6, f_Su_worth_j84, f_Su_worth_j115, f_Su_worth_j156, f_Su_isOfOne, o1, o2, hsz, cn_ix, hc, zI_0, zI_1, zI_2, zI_3, zI_4, zI_5, zI_6, zI_7, zI_8, zI_9, zI_10, zI_11, zI_12, zI_13, zI_14, zI_15, zI_16, zI_17, zI_18, zI_19, zI_20, zI_21, zI_22, zI_23, zI_24, zI_25, zI_26, zI_27, zI_28, zI_29, zI_30, zI_31, zI_32, zI_33, zI_34, zI_35, zI_36, zI_37, zI_38, zI_39, zI_40, zI_41, zI_42, zI_43, zI_44, zI_45, zI_46, zI_47, zI_48, zI_49, zI_50, zI_51, zI_52, zI_53, zI_54, zI_55, zI_56, zI_57, zI_58, zI_59, zI_60, zI_61, zI_62, zI_63, zI_64, zI_65, zI_66, zI_67, zI_74, zI_84, zI_85, zI_88, zI_91, zI_93, zI_97, zI_99, zI_100, zI_102, zI_105, zI_117, zI_122, zI_193, zI_202, zI_205, zI_251, zI_255, zI_256, zI_257, zI_258, zI_259, zI_260, zI_640, zI_999, zI_1000, zI_1024, zI_1600, zI_1602, zI_1700, zI_2040, zI_3200, zI_4100, zI_9728, zI_11784, zI_61440, zI_65536, zI_470536, zI_999999, zI_1000000, lt_T, lt_F, le_T, le_F, eq_T, eq_F, neg_1, cn_m1p, cn_m11, nI_add, cn_sub, pk_mul, cn_div, cn_irm, cn_lt, cn_eq, cn_ltm1, cn_m1lt, cn_eqm1, cn_m1eq, cn_ix, cn_inb, cn_ninb, cn_irs, cn_ils, cn_and, cn_or, cn_xor, grd_t, grd_bt, grd_bl, Nat.add_zero, Nat.zero_add, Nat.reduceAdd, Nat.reduceSub, Nat.reduceMul, Nat.reduceLT, Nat.reduceEqDiff, eq_self, true_and, and_true, and_false, false_and, if_true, if_false, and_self, Bool.true_eq_false, Bool.false_eq_true, List.length_cons, hS1, hS2, hb, Option.bind_some, show st.length + 1 + 1 - 1 - 1 = st.length from rfl, show st.length + 1 + 1 - 1 = st.length + 1 from rfl, Nat.add_sub_cancel]
  · -- signs
    obtain ⟨v, w, st, rfl, hv, hw, hst⟩ := TyS_2 hT
    simp only [List.length_cons] at hl hlen
    have ec : cSt c = nI (cB c) := by unfold cSt; rw [if_neg (by omega), if_neg (by omega)]
    have eb : cB c = 60 ∨ cB c = 62 ∨ cB c = 61 := by
      have : c = 7 ∨ c = 8 ∨ c = 9 := by omega
      rcases this with rfl | rfl | rfl <;> decide
    rw [ec] at hc
    have hS1 : ∀ i, i = st.length + 1 → gA s 28 i = zi v := fun i e => by rw [e]; exact hSt.1
    have hS2 : ∀ i, i = st.length → gA s 28 i = zi w := fun i e => by rw [e]; exact hSt.2.1
    have hb := joined_n (N := N) s (show 1 ≤ c ∧ c ≤ 9 by omega) (zi_tv hw) (zi_tv hv)
    rw [ev1_bin (by omega)]
    refine ⟨sA s 28 st.length (zi (bin c w v)), ?_, Fr_sA _ _ _ (by decide), StA_push rfl rfl hSt.2.2⟩
    simp (disch := first | omega | decide) only [f_Su_worth_L6, f_Su_worth_j84, f_Su_worth_j115, f_Su_worth_j156, f_Su_isOfOne, o1, o2, hsz, cn_ix, hc, zI_0, zI_1, zI_2, zI_3, zI_4, zI_5, zI_6, zI_7, zI_8, zI_9, zI_10, zI_11, zI_12, zI_13, zI_14, zI_15, zI_16, zI_17, zI_18, zI_19, zI_20, zI_21, zI_22, zI_23, zI_24, zI_25, zI_26, zI_27, zI_28, zI_29, zI_30, zI_31, zI_32, zI_33, zI_34, zI_35, zI_36, zI_37, zI_38, zI_39, zI_40, zI_41, zI_42, zI_43, zI_44, zI_45, zI_46, zI_47, zI_48, zI_49, zI_50, zI_51, zI_52, zI_53, zI_54, zI_55, zI_56, zI_57, zI_58, zI_59, zI_60, zI_61, zI_62, zI_63, zI_64, zI_65, zI_66, zI_67, zI_74, zI_84, zI_85, zI_88, zI_91, zI_93, zI_97, zI_99, zI_100, zI_102, zI_105, zI_117, zI_122, zI_193, zI_202, zI_205, zI_251, zI_255, zI_256, zI_257, zI_258, zI_259, zI_260, zI_640, zI_999, zI_1000, zI_1024, zI_1600, zI_1602, zI_1700, zI_2040, zI_3200, zI_4100, zI_9728, zI_11784, zI_61440, zI_65536, zI_470536, zI_999999, zI_1000000, lt_T, lt_F, le_T, le_F, eq_T, eq_F, neg_1, cn_m1p, cn_m11, nI_add, cn_sub, pk_mul, cn_div, cn_irm, cn_lt, cn_eq, cn_ltm1, cn_m1lt, cn_eqm1, cn_m1eq, cn_ix, cn_inb, cn_ninb, cn_irs, cn_ils, cn_and, cn_or, cn_xor, grd_t, grd_bt, grd_bl, Nat.add_zero, Nat.zero_add, Nat.reduceAdd, Nat.reduceSub, Nat.reduceMul, Nat.reduceLT, Nat.reduceEqDiff, eq_self, true_and, and_true, and_false, false_and, if_true, if_false, and_self, Bool.true_eq_false, Bool.false_eq_true, List.length_cons, hS1, hS2, hb, Option.bind_some, show st.length + 1 + 1 - 1 - 1 = st.length from rfl, show st.length + 1 + 1 - 1 = st.length + 1 from rfl, Nat.add_sub_cancel]
  · -- signs of sums
    obtain ⟨v, w, st, rfl, hv, hw, hst⟩ := TyS_2 hT
    simp only [List.length_cons] at hl hlen
    have ec : cSt c = nI (cB c) := by unfold cSt; rw [if_neg (by omega), if_neg (by omega)]
    have eb : cB c = 43 ∨ cB c = 45 ∨ cB c = 42 ∨ cB c = 47 ∨ cB c = 23 ∨ cB c = 24 := by
      have : c = 1 ∨ c = 2 ∨ c = 3 ∨ c = 4 ∨ c = 5 ∨ c = 6 := by omega
      rcases this with rfl | rfl | rfl | rfl | rfl | rfl <;> decide
    rw [ec] at hc
    have hS1 : ∀ i, i = st.length + 1 → gA s 28 i = zi v := fun i e => by rw [e]; exact hSt.1
    have hS2 : ∀ i, i = st.length → gA s 28 i = zi w := fun i e => by rw [e]; exact hSt.2.1
    have hb := joined_n (N := N) s (show 1 ≤ c ∧ c ≤ 9 by omega) (zi_tv hw) (zi_tv hv)
    rw [ev1_bin (by omega)]
    refine ⟨sA s 28 st.length (zi (bin c w v)), ?_, Fr_sA _ _ _ (by decide), StA_push rfl rfl hSt.2.2⟩
    simp (disch := first | omega | decide) only [f_Su_worth_L6, f_Su_worth_j84, f_Su_worth_j115, f_Su_worth_j156, f_Su_isOfOne, o1, o2, hsz, cn_ix, hc, zI_0, zI_1, zI_2, zI_3, zI_4, zI_5, zI_6, zI_7, zI_8, zI_9, zI_10, zI_11, zI_12, zI_13, zI_14, zI_15, zI_16, zI_17, zI_18, zI_19, zI_20, zI_21, zI_22, zI_23, zI_24, zI_25, zI_26, zI_27, zI_28, zI_29, zI_30, zI_31, zI_32, zI_33, zI_34, zI_35, zI_36, zI_37, zI_38, zI_39, zI_40, zI_41, zI_42, zI_43, zI_44, zI_45, zI_46, zI_47, zI_48, zI_49, zI_50, zI_51, zI_52, zI_53, zI_54, zI_55, zI_56, zI_57, zI_58, zI_59, zI_60, zI_61, zI_62, zI_63, zI_64, zI_65, zI_66, zI_67, zI_74, zI_84, zI_85, zI_88, zI_91, zI_93, zI_97, zI_99, zI_100, zI_102, zI_105, zI_117, zI_122, zI_193, zI_202, zI_205, zI_251, zI_255, zI_256, zI_257, zI_258, zI_259, zI_260, zI_640, zI_999, zI_1000, zI_1024, zI_1600, zI_1602, zI_1700, zI_2040, zI_3200, zI_4100, zI_9728, zI_11784, zI_61440, zI_65536, zI_470536, zI_999999, zI_1000000, lt_T, lt_F, le_T, le_F, eq_T, eq_F, neg_1, cn_m1p, cn_m11, nI_add, cn_sub, pk_mul, cn_div, cn_irm, cn_lt, cn_eq, cn_ltm1, cn_m1lt, cn_eqm1, cn_m1eq, cn_ix, cn_inb, cn_ninb, cn_irs, cn_ils, cn_and, cn_or, cn_xor, grd_t, grd_bt, grd_bl, Nat.add_zero, Nat.zero_add, Nat.reduceAdd, Nat.reduceSub, Nat.reduceMul, Nat.reduceLT, Nat.reduceEqDiff, eq_self, true_and, and_true, and_false, false_and, if_true, if_false, and_self, Bool.true_eq_false, Bool.false_eq_true, List.length_cons, hS1, hS2, hb, Option.bind_some, show st.length + 1 + 1 - 1 - 1 = st.length from rfl, show st.length + 1 + 1 - 1 = st.length + 1 from rfl, Nat.add_sub_cancel]
theorem worth_n {cs : List Nat} {fr : Nat} {b : Bool} (hpg : pg = 5 ∨ pg = 16) (hsz : gI s 501 pg = nI sz) (hsz2 : sz ≤ 1602) (hfr : fr + cs.length ≤ sz) (hcs : ∀ i, i < cs.length → gA s (pg + 1) (fr + i) = cSt (cs.getD i 0))
    (hck : ckL al cs [] = some [b]) (hgb : GB al g gb gn) (hGV : GV s g al) (hBN : ∀ s', Fr [28] s s' → BN N s' gb gn al) (hN : 2000 ≤ N) :
    ∃ s', f_Su_worth N pg (nI fr) (nI (fr + cs.length)) s = some (zi (ev g gb gn cs), s') ∧ Fr [28] s s' := by
  have h : Ok (f_Su_worth N pg (nI fr) (nI (fr + cs.length)) s) (fun r => r.1 = zi (ev g gb gn cs) ∧ Fr [28] s r.2) := by
    unfold f_Su_worth
    refine mfix_dn (fun q x => ∃ i st ts s1, i + q = cs.length ∧ x = (pg, nI (fr + cs.length), nI st.length, nI (fr + i), s1) ∧ Fr [28] s s1 ∧ ckL al (cs.drop i) ts = some [b] ∧ TyS ts st ∧ ts.length ≤ 50 ∧ StA s1 st ∧ evL g gb gn (cs.drop i) st = [ev g gb gn cs]) ?_ N cs.length _ ⟨0, [], [], s, by omega, rfl, Fr_r _ _, hck, trivial, Nat.zero_le _, trivial, (ev_ty hgb hck).2⟩ (by omega)
    rintro k q x ⟨i, st, ts, s1, hi, rfl, hF, hc1, hT, hl, hS, he⟩ hk
    have pk : pg + 1 ∉ [28] := by rcases hpg with rfl | rfl <;> decide
    have pk2 : 10000 + 100 * 501 + pg ∉ [28] := by rcases hpg with rfl | rfl <;> decide
    by_cases c0 : q = 0
    · subst c0
      rw [List.drop_eq_nil_of_le (by omega)] at hc1 he
      cases hc1
      obtain ⟨v, st2, rfl, _, h2⟩ := TyS_1 hT
      cases st2 with
      | cons _ _ => exact h2.elim
      | nil =>
        have he : v = ev g gb gn cs := by injection he
        have e1 : gA s1 28 0 = zi v := hS.1
        simp (disch := first | omega | decide) only [f_Su_worth_L6, f_Su_worth_j201, zI_0, zI_1, zI_2, zI_3, zI_4, zI_5, zI_6, zI_7, zI_8, zI_9, zI_10, zI_11, zI_12, zI_13, zI_14, zI_15, zI_16, zI_17, zI_18, zI_19, zI_20, zI_21, zI_22, zI_23, zI_24, zI_25, zI_26, zI_27, zI_28, zI_29, zI_30, zI_31, zI_32, zI_33, zI_34, zI_35, zI_36, zI_37, zI_38, zI_39, zI_40, zI_41, zI_42, zI_43, zI_44, zI_45, zI_46, zI_47, zI_48, zI_49, zI_50, zI_51, zI_52, zI_53, zI_54, zI_55, zI_56, zI_57, zI_58, zI_59, zI_60, zI_61, zI_62, zI_63, zI_64, zI_65, zI_66, zI_67, zI_74, zI_84, zI_85, zI_88, zI_91, zI_93, zI_97, zI_99, zI_100, zI_102, zI_105, zI_117, zI_122, zI_193, zI_202, zI_205, zI_251, zI_255, zI_256, zI_257, zI_258, zI_259, zI_260, zI_640, zI_999, zI_1000, zI_1024, zI_1600, zI_1602, zI_1700, zI_2040, zI_3200, zI_4100, zI_9728, zI_11784, zI_61440, zI_65536, zI_470536, zI_999999, zI_1000000, lt_T, lt_F, le_T, le_F, eq_T, eq_F, neg_1, cn_m1p, cn_m11, nI_add, cn_sub, pk_mul, cn_div, cn_irm, cn_lt, cn_eq, cn_ltm1, cn_m1lt, cn_eqm1, cn_m1eq, cn_ix, cn_inb, cn_ninb, cn_irs, cn_ils, cn_and, cn_or, cn_xor, grd_t, grd_bt, grd_bl, Nat.add_zero, Nat.zero_add, Nat.reduceAdd, Nat.reduceSub, Nat.reduceMul, Nat.reduceLT, Nat.reduceEqDiff, eq_self, true_and, and_true, and_false, false_and, if_true, if_false, and_self, Bool.true_eq_false, Bool.false_eq_true, List.length_cons, List.length_nil, e1]
        exact Ok_some ⟨by rw [he], hF⟩
    · have ed : cs.drop i = cs.getD i 0 :: cs.drop (i + 1) := by
        rw [List.drop_eq_getElem_cons (by omega), List.getD_eq_getElem?_getD, List.getElem?_eq_getElem (by omega)]; rfl
      rw [ed] at hc1 he
      unfold ckL at hc1
      split at hc1
      · rename_i t2 h2
        have hcc : gA s1 (pg + 1) (fr + i) = cSt (cs.getD i 0) := by rw [hF.A _ _ pk]; exact hcs i (by omega)
        obtain ⟨s2, e1, e2, e3⟩ := worth_st (N := N) (k := k) (to := fr + cs.length) (g := g) (gb := gb) (gn := gn) hpg (show gI s1 501 pg = nI sz by rw [hF.I _ _ pk2]; exact hsz) (show fr + i < fr + cs.length by omega) (by omega) hsz2 (by omega) hcc h2 hT hl hS
          (fun w h3 h4 => by rw [hF.A 26 _ (by decide)]; exact hGV w h3 h4) (hBN s1 hF)
        rw [e1]
        refine hk (q - 1) _ (by omega) ⟨i + 1, _, t2, s2, by omega, rfl, Fr_t hF e2, hc1, ev1_ty hgb h2 hT, ?_, e3, he⟩
        rw [TyS_len (ev1_ty hgb h2 hT)]
        have := ckL_len (al := al) (cs := [cs.getD i 0]) (ts := ts) (ts' := t2) (by unfold ckL; rw [h2]; rfl) hl
        rw [← TyS_len (ev1_ty hgb h2 hT)]; exact this
      · cases hc1
  obtain ⟨x, h1, h2, h3⟩ := h
  exact ⟨x.2, by rw [h1, ← h2], h3⟩
end WORTH
