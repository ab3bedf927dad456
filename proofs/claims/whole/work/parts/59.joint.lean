/-! BOTH SIDES OF A PROGRAM BEING READ -/
theorem gd_l : ∀ {L M : List Nat} {i : Nat}, i < L.length → (L ++ M).getD i 0 = L.getD i 0
  | [], _, _, h => absurd h (Nat.not_lt_zero _)
  | _ :: _, _, 0, _ => rfl
  | _ :: L, M, i + 1, h => gd_l (L := L) (M := M) (i := i) (by rw [List.length_cons] at h; omega)
theorem gd_r : ∀ {L M : List Nat} {i : Nat}, (L ++ M).getD (L.length + i) 0 = M.getD i 0
  | [], M, i => by rw [List.length_nil, Nat.zero_add]; rfl
  | x :: L, M, i => by
    rw [List.length_cons, show L.length + 1 + i = (L.length + i) + 1 by omega]
    exact gd_r (L := L) (M := M) (i := i)
section JOINT
variable {N n p p' o : Nat} {tp : Nat → Nat} {b b' : Bool} {s s' s0 t t' t0 : mS} {kd mk pg c k w B m : Nat} {al : Nat → Bool} {L C W : List Nat}
/-- the one side: what stays -/
def CE (tp : Nat → Nat) (n pg mk : Nat) (s0 : mS) : Prop := RxT tp n s0 ∧ PgO pg ∧ gO s0 = pg ∧ gI s0 610 18 = nI mk
def kCg (pg : Nat) : List Nat := [60100 + pg, pg + 1, 70418, 70518, 70618, 70718, 70818, 260918, 71118]
def kCx (pg : Nat) : List Nat := [60100 + pg, pg + 1, 70418, 70518, 70618, 70718, 70818, 260918, 71118, 71218, 71318]
def PgC (pg : Nat) (L : List Nat) (s : mS) : Prop := gI s 501 pg = nI L.length ∧ ∀ i, i < L.length → gA s (pg + 1) i = cSt (L.getD i 0)
def CX (tp : Nat → Nat) (n pg : Nat) (s0 : mS) (p : Nat) (b : Bool) (o : Nat) (L : List Nat) (s : mS) : Prop := p ≤ n ∧ TkA tp n p b s ∧ gI s 612 18 = nI 0 ∧ gI s 611 18 = nI o ∧ PgC pg L s ∧ Fr (kCg pg) s0 s
def CD (pg : Nat) (s0 : mS) (k w : Nat) (s : mS) : Prop := DPX pg k w s ∧ Fr (kCx pg) s0 s
theorem TkA_fr {l : List Nat} (hF : Fr l s s') (hk : ∀ k ∈ kAd, k ∉ l) (h : TkA tp n p b s) : TkA tp n p b s' := by
  obtain ⟨h1, h2, h3, h4, h5, h6⟩ := h
  exact ⟨by rw [hF.I 605 18 (hk _ (by decide))]; exact h1, by rw [hF.I 606 18 (hk _ (by decide))]; exact h2, by rw [hF.I 607 18 (hk _ (by decide))]; exact h3, by rw [hF.I 608 18 (hk _ (by decide))]; exact h4, by rw [hF.L 609 18 (hk _ (by decide))]; exact h5, by rw [hF.I 604 18 (hk _ (by decide))]; exact h6⟩
theorem PgC_fr {l : List Nat} (hF : Fr l s s') (h1 : 60100 + pg ∉ l) (h2 : pg + 1 ∉ l) (h : PgC pg L s) : PgC pg L s' :=
  ⟨by rw [hF.I 501 pg (by rwa [show 10000 + 100 * 501 + pg = 60100 + pg by omega])]; exact h.1, fun i hi => by rw [hF.A _ i h2]; exact h.2 i hi⟩
theorem CE_x (E : CE tp n pg mk s0) (h : CX tp n pg s0 p b o L s) : RxT tp n s ∧ gO s = pg ∧ gI s 610 18 = nI mk ∧ ∀ i, i < n → tp i < 256 := by
  obtain ⟨e1, e2, e3, e4⟩ := E
  have F := h.2.2.2.2.2
  rcases e2 with rfl | rfl
  · exact ⟨RxT_fr F (by decide) e1, by rw [F.O (by decide)]; exact e3, by rw [F.I 610 18 (by decide)]; exact e4, fun i hi => (e1.2.2 i hi).1⟩
  · exact ⟨RxT_fr F (by decide) e1, by rw [F.O (by decide)]; exact e3, by rw [F.I 610 18 (by decide)]; exact e4, fun i hi => (e1.2.2 i hi).1⟩
theorem kK_le (ht : ∀ i, i < n → tp i < 256) : kK tp n p b ≤ 260 := by
  unfold kK
  split
  · omega
  · have := ht (skp tp n p) (by omega)
    repeat' split
    all_goals omega
theorem CX_sz (h : CX tp n pg s0 p b o L s) (hl : L.length ≤ 1602) (hO : gO s = pg) (hd : DdX k w s') (hF : Fr [71218, 71318, 70518] s s') (hp : PgO pg) : CD pg s0 k w s' := by
  have F := h.2.2.2.2.2
  refine ⟨⟨hd, ?_, L.length, hl, ?_⟩, Fr_t (Fr_w F (by rcases hp with rfl | rfl <;> decide)) (Fr_w hF (by rcases hp with rfl | rfl <;> decide))⟩
  · rw [hF.O (by decide)]; exact hO
  · rw [hF.I 501 pg (by rcases hp with rfl | rfl <;> decide)]; exact h.2.2.2.2.1.1
theorem c_adv (E : CE tp n pg mk s0) (h : CX tp n pg s0 p b o L s) (hN : 10000 ≤ N) : ∃ s', f_Rd_advance N s = some s' ∧ CX tp n pg s0 (kE tp n p) (nbK (kK tp n p b)) o L s' := by
  obtain ⟨hT, hO, hm, ht⟩ := CE_x E h
  obtain ⟨hp, hk, h0, h1, hP, F⟩ := h
  obtain ⟨s', e, T, F2⟩ := advance_n (N := N) (p := kE tp n p) (b := nbK (kK tp n p b)) hT (kE_b hp).2.1 h0 hk.2.2.2.2.2 hk.1 (kK_le ht) rfl hN
  have hp2 := E.2.1
  refine ⟨s', e, (kE_b hp).2.1, T, by rw [F2.I 612 18 (by decide)]; exact h0, by rw [F2.I 611 18 (by decide)]; exact h1, PgC_fr F2 (by rcases hp2 with rfl | rfl <;> decide) (by rcases hp2 with rfl | rfl <;> decide) hP, Fr_t F (Fr_w F2 (by rcases hp2 with rfl | rfl <;> decide))⟩
theorem c_add (E : CE tp n pg mk s0) (h : CX tp n pg s0 p b o L s) (hl : L.length < 1602) {x : Int32} (hx : x = cSt c) : ∃ s', f_Pg_add N pg x s = some s' ∧ CX tp n pg s0 p b o (L ++ [c]) s' := by
  have hp2 := E.2.1
  obtain ⟨hp, hk, h0, h1, hP, F⟩ := h
  obtain ⟨s', e, F2, g, _⟩ := add_n (N := N) hp2 x hP.1 (by omega)
  obtain ⟨g1, g2, g3⟩ := g hl
  refine ⟨s', e, hp, TkA_fr F2 (by rcases hp2 with rfl | rfl <;> decide) hk, by rw [F2.I 612 18 (by rcases hp2 with rfl | rfl <;> decide)]; exact h0, by rw [F2.I 611 18 (by rcases hp2 with rfl | rfl <;> decide)]; exact h1, ⟨by rw [g1, List.length_append]; rfl, fun i hi => ?_⟩, Fr_t F (Fr_w F2 (by rcases hp2 with rfl | rfl <;> decide))⟩
  rw [List.length_append, List.length_singleton] at hi
  by_cases c1 : i < L.length
  · rw [g3 i c1, gd_l c1]; exact hP.2 i c1
  · have : i = L.length + 0 := by omega
    subst this
    rw [gd_r]
    exact g2.trans hx
theorem c_fail (E : CE tp n pg mk s0) (h : CX tp n pg s0 p b o L s) (hl : L.length ≤ 1602) (hk : 0 < k ∧ k < 100) : ∃ s', f_Rd_fail N (nI k) (nI w) s = some s' ∧ CD pg s0 k w s' := by
  obtain ⟨s', e, D, F⟩ := fail_l (N := N) (w := w) h.2.2.1 hk
  exact ⟨s', e, CX_sz h hl (CE_x E h).2.1 D F E.2.1⟩
theorem c_enters (E : CE tp n pg mk s0) (h : CX tp n pg s0 p b o L s) (hl : L.length ≤ 1602) (ho : o ≤ 6) :
    (o < 6 → ∃ s', f_Rd_enters N s = some (nI 1, s') ∧ CX tp n pg s0 p b (o + 1) L s') ∧ (¬ o < 6 → ∃ s', f_Rd_enters N s = some (nI 0, s') ∧ CD pg s0 4 (skp tp n p) s') := by
  have hp2 := E.2.1
  obtain ⟨hT, hO, hm, ht⟩ := CE_x E h
  obtain ⟨hp, hk, h0, h1, hP, F⟩ := h
  obtain ⟨s', e, g1, g⟩ := enters_l (N := N) h0 h1 (by omega) hk.2.1
  refine ⟨fun c => ?_, fun c => ?_⟩
  · rw [if_pos c] at e g
    obtain ⟨F2, g2⟩ := g
    exact ⟨s', e, hp, TkA_fr F2 (by decide) hk, g2, g1, PgC_fr F2 (by rcases hp2 with rfl | rfl <;> decide) (by rcases hp2 with rfl | rfl <;> decide) hP, Fr_t F (Fr_w F2 (by rcases hp2 with rfl | rfl <;> decide))⟩
  · rw [if_neg c] at e g
    obtain ⟨D, F2⟩ := g
    refine ⟨s', e, ⟨D, ?_, L.length, hl, ?_⟩, Fr_t (Fr_w F (by rcases hp2 with rfl | rfl <;> decide)) (Fr_w F2 (by rcases hp2 with rfl | rfl <;> decide))⟩
    · rw [F2.O (by decide)]; exact hO
    · rw [F2.I 501 pg (by rcases hp2 with rfl | rfl <;> decide)]; exact hP.1
theorem c_dec (hp2 : PgO pg) (h : CX tp n pg s0 p b (o + 1) L s) : CX tp n pg s0 p b o L (sI s 611 18 (gI s 611 18 - nI 1)) := by
  obtain ⟨hp, hk, h0, h1, hP, F⟩ := h
  have F2 : Fr [71118] s (sI s 611 18 (gI s 611 18 - nI 1)) := Fr_sI _ _ _ (by decide)
  refine ⟨hp, TkA_fr F2 (by decide) hk, by rw [F2.I 612 18 (by decide)]; exact h0, ?_, PgC_fr F2 (by rcases hp2 with rfl | rfl <;> decide) (by rcases hp2 with rfl | rfl <;> decide) hP, Fr_t F (Fr_w F2 (by rcases hp2 with rfl | rfl <;> decide))⟩
  rw [h1]; simp (disch := first | omega | decide) only [gI_sI, gI_sA, gI_sL, gI_sQ, gI_sC, gI_sO, gI_sD, gA_sI, gA_sL, gA_sQ, gA_sO, gA_sD, gL_sI, gL_sA, gL_sQ, gL_sC, gL_sO, gL_sD, gQ_sI, gQ_sA, gQ_sL, gQ_sC, gQ_sO, gO_sI, gO_sA, gO_sL, gO_sQ, gO_sC, gO_sO, gO_sD, gA_eq, gA_ne, gQ_eq, gQ_ne, gL_sL, gA_cin, gA_cou, gQ_cin, gQ_cou, Nat.reduceAdd, Nat.reduceSub, Nat.reduceMul, Nat.reduceLT, Nat.reduceEqDiff, eq_self, true_and, and_true, and_false, false_and, if_true, if_false, and_self, Bool.true_eq_false, Bool.false_eq_true, cn_sub]; rfl
theorem c_ddec (hp2 : PgO pg) (h : CD pg s0 k w s) (v : Int32) : CD pg s0 k w (sI s 611 18 v) := by
  obtain ⟨⟨h1, h2, sz, h3, h4⟩, F⟩ := h
  have F2 : Fr [71118] s (sI s 611 18 v) := Fr_sI _ _ _ (by decide)
  exact ⟨⟨DdX_fr F2 (by decide) h1, h2, sz, h3, by rw [F2.I 501 pg (by rcases hp2 with rfl | rfl <;> decide)]; exact h4⟩, Fr_t F (Fr_w F2 (by rcases hp2 with rfl | rfl <;> decide))⟩
theorem c_dadd (hp2 : PgO pg) (h : CD pg s0 k w s) (x : Int32) : ∃ s', f_Pg_add N pg x s = some s' ∧ CD pg s0 k w s' := by
  obtain ⟨s', e, D, F⟩ := add_d (N := N) hp2 h.1 x
  exact ⟨s', e, D, Fr_t h.2 (Fr_w F (by intro k hk; unfold kDP at hk; unfold kCx; simp only [List.mem_cons, List.not_mem_nil, or_false] at hk ⊢; omega))⟩
theorem c_dent (hp2 : PgO pg) (h : CD pg s0 k w s) : ∃ s', f_Rd_enters N s = some (nI 0, s') ∧ CD pg s0 k w s' := by
  obtain ⟨s', e, D, F⟩ := enters_d (N := N) h.1.1
  obtain ⟨_, g2, sz, g3, g4⟩ := h.1
  refine ⟨s', e, ⟨D, by rw [F.O (by decide)]; exact g2, sz, g3, by rw [F.I 501 pg (by rcases hp2 with rfl | rfl <;> decide)]; exact g4⟩, Fr_t h.2 (Fr_w F (by rcases hp2 with rfl | rfl <;> decide))⟩
theorem c_expect (E : CE tp n pg mk s0) (h : CX tp n pg s0 p b o L s) (hl : L.length ≤ 1602) (hc : c < 256) :
    (kK tp n p b = c → f_Rd_expect N (nI c) s = some s) ∧ (kK tp n p b ≠ c → ∃ s', f_Rd_expect N (nI c) s = some s' ∧ CD pg s0 1 (skp tp n p) s') := by
  obtain ⟨hT, hO, hm, ht⟩ := CE_x E h
  obtain ⟨e1, e2⟩ := expect_l (N := N) h.2.1.1 (kK_le ht) hc h.2.2.1 h.2.1.2.1
  refine ⟨e1, fun q => ?_⟩
  obtain ⟨s', e, D, F⟩ := e2 q
  exact ⟨s', e, CX_sz h hl hO D F E.2.1⟩
/-- the reference: codes, what waits -/
def SkA : List Nat → mS → Prop
  | [], _ => True
  | w :: W, t => gA t 65 W.length = nI w ∧ SkA W t
def kMg : List Nat := [110200, 110400, 111000, 118800, 119000, 119100, 119200, 64, 65]
def kMq : List Nat := [110200, 110400, 110500, 110600, 111000, 118800, 119000, 119100, 119200, 64, 65]
def RCd (C : List Nat) (t : mS) : Prop := gI t 1088 0 = nI C.length ∧ ∀ i, i < C.length → gA t 64 i = nI (C.getD i 0)
def RWt (W : List Nat) (t : mS) : Prop := gI t 1090 0 = nI W.length ∧ SkA W t
def RT (tp : Nat → Nat) (n kd : Nat) (t0 : mS) (p : Nat) (b : Bool) (o : Nat) (C W : List Nat) (B : Nat) (t : mS) : Prop :=
  Fr kMg t0 t ∧ RB tp n p b t ∧ RCd C t ∧ RWt W t ∧ gI t 1091 0 = nI o ∧ gI t 1092 0 = nI B ∧ gI t 1047 0 = nI kd
def BT (t0 : mS) (k w : Nat) (t : mS) : Prop := BdM k w t ∧ Fr kMq t0 t ∧ ∃ c, c ≤ 1650 ∧ gI t 1088 0 = nI c
theorem SkA_cong : ∀ {W : List Nat}, (∀ i, i < W.length → gA t' 65 i = gA t 65 i) → SkA W t → SkA W t'
  | [], _, _ => trivial
  | w :: W, h, hS => ⟨by rw [h _ (by rw [List.length_cons]; omega)]; exact hS.1, SkA_cong (fun i hi => h i (by rw [List.length_cons]; omega)) hS.2⟩
theorem RCd_fr {l : List Nat} (hF : Fr l t t') (hk : ∀ k ∈ [118800, 64], k ∉ l) (h : RCd C t) : RCd C t' :=
  ⟨by rw [hF.I 1088 0 (hk _ (by decide))]; exact h.1, fun i hi => by rw [hF.A 64 i (hk _ (by decide))]; exact h.2 i hi⟩
theorem RWt_fr {l : List Nat} (hF : Fr l t t') (hk : ∀ k ∈ [119000, 65], k ∉ l) (h : RWt W t) : RWt W t' :=
  ⟨by rw [hF.I 1090 0 (hk _ (by decide))]; exact h.1, SkA_cong (fun i _ => hF.A 65 i (hk _ (by decide))) h.2⟩
/-- another cursor, all else as it was -/
theorem RT_st {l : List Nat} (hF : Fr l t t') (hl : ∀ k ∈ l, k ∈ [110200, 110400, 111000]) (hR : RB tp n p' b' t') (h : RT tp n kd t0 p b o C W B t) : RT tp n kd t0 p' b' o C W B t' := by
  obtain ⟨h1, h2, h3, h4, h5, h6, h7⟩ := h
  have hF := Fr_w hF hl
  exact ⟨Fr_t h1 (Fr_w hF (by decide)), hR, RCd_fr hF (by decide) h3, RWt_fr hF (by decide) h4, by rw [hF.I 1091 0 (by decide)]; exact h5, by rw [hF.I 1092 0 (by decide)]; exact h6, by rw [hF.I 1047 0 (by decide)]; exact h7⟩
theorem RT_lk (h : RT tp n kd t0 p b o C W B t) : RT tp n kd t0 p b o C W B (lk tp n p t) ∧ RL tp n p b (lk tp n p t) ∧ gI (lk tp n p t) 1002 0 = nI (skp tp n p) :=
  ⟨RT_st Fr_lk (by decide) (RL_RB (RB_lk h.2.1)) h, RB_lk h.2.1, (RB_lk h.2.1).2.2.2.2.2⟩
theorem BT_of {l : List Nat} (h : RT tp n kd t0 p b o C W B t) (hc : C.length ≤ 1650) (hF : Fr l t t') (hl : ∀ k ∈ l, k ∈ kMq) (h8 : 118800 ∉ l) (hB : BdM k w t') : BT t0 k w t' := ⟨hB, Fr_t (Fr_w h.1 (by decide)) (Fr_w hF hl), C.length, hc, by rw [hF.I 1088 0 h8]; exact h.2.2.1.1⟩
theorem BT_fr {l : List Nat} (h : BT t0 k w t) (hF : Fr l t t') (hl : ∀ k ∈ l, k ∈ kMq) (h2 : ∀ k ∈ [110500, 110600], k ∉ l) (h8 : 118800 ∉ l) : BT t0 k w t' := by
  obtain ⟨h1, h3, c, h4, h5⟩ := h
  exact ⟨BdM_fr hF h2 h1, Fr_t h3 (Fr_w hF hl), c, h4, by rw [hF.I 1088 0 h8]; exact h5⟩
theorem r_code (hn : C.length < 1700) (h : RT tp n kd t0 p b o C W B t) : ∃ t', f_M_qCode N (nI c) t = some t' ∧ RT tp n kd t0 p b o (C ++ [c]) W B t' := by
  obtain ⟨h1, h2, h3, h4, h5, h6, h7⟩ := h
  have F2 : Fr [64, 118800] t (sI (sA t 64 C.length (nI c)) 1088 0 (nI (C.length + 1))) := Fr_t (Fr_sA 64 _ _ (by decide)) (Fr_sI _ _ _ (by decide))
  refine ⟨sI (sA t 64 C.length (nI c)) 1088 0 (nI (C.length + 1)), ?_, Fr_t h1 (Fr_w F2 (by decide)), RB_fr F2 (by decide) h2, ⟨by rw [List.length_append]; simp (disch := first | omega | decide) only [gI_sI, gI_sA, gI_sL, gI_sQ, gI_sC, gI_sO, gI_sD, gA_sI, gA_sL, gA_sQ, gA_sO, gA_sD, gL_sI, gL_sA, gL_sQ, gL_sC, gL_sO, gL_sD, gQ_sI, gQ_sA, gQ_sL, gQ_sC, gQ_sO, gO_sI, gO_sA, gO_sL, gO_sQ, gO_sC, gO_sO, gO_sD, gA_eq, gA_ne, gQ_eq, gQ_ne, gL_sL, gA_cin, gA_cou, gQ_cin, gQ_cou, Nat.reduceAdd, Nat.reduceSub, Nat.reduceMul, Nat.reduceLT, Nat.reduceEqDiff, eq_self, true_and, and_true, and_false, false_and, if_true, if_false, and_self, Bool.true_eq_false, Bool.false_eq_true]; rfl, fun i hi => ?_⟩, RWt_fr F2 (by decide) h4, by rw [F2.I 1091 0 (by decide)]; exact h5, by rw [F2.I 1092 0 (by decide)]; exact h6, by rw [F2.I 1047 0 (by decide)]; exact h7⟩
  · have e := h3.1
    simp (disch := first | omega | decide) only [f_M_qCode, e, zI_0, zI_1, zI_2, zI_3, zI_4, zI_5, zI_6, zI_7, zI_8, zI_9, zI_10, zI_11, zI_12, zI_13, zI_14, zI_15, zI_16, zI_17, zI_18, zI_19, zI_20, zI_21, zI_22, zI_23, zI_24, zI_25, zI_26, zI_27, zI_28, zI_29, zI_30, zI_31, zI_32, zI_33, zI_34, zI_35, zI_36, zI_37, zI_38, zI_39, zI_40, zI_41, zI_42, zI_43, zI_44, zI_45, zI_46, zI_47, zI_48, zI_49, zI_50, zI_51, zI_52, zI_53, zI_54, zI_55, zI_56, zI_57, zI_58, zI_59, zI_60, zI_61, zI_62, zI_63, zI_64, zI_65, zI_66, zI_67, zI_74, zI_84, zI_85, zI_88, zI_91, zI_93, zI_97, zI_99, zI_100, zI_102, zI_105, zI_117, zI_122, zI_193, zI_202, zI_205, zI_251, zI_255, zI_256, zI_257, zI_258, zI_259, zI_260, zI_640, zI_999, zI_1000, zI_1024, zI_1600, zI_1602, zI_1700, zI_2040, zI_3200, zI_4100, zI_9728, zI_11784, zI_61440, zI_65536, zI_470536, zI_999999, zI_1000000, lt_T, lt_F, le_T, le_F, eq_T, eq_F, neg_1, cn_m1p, cn_m11, nI_add, cn_sub, pk_mul, cn_div, cn_irm, cn_lt, cn_eq, cn_ltm1, cn_m1lt, cn_eqm1, cn_m1eq, cn_ix, cn_inb, cn_ninb, cn_irs, cn_ils, cn_and, cn_or, cn_xor, grd_t, grd_bt, grd_bl, Nat.add_zero, Nat.zero_add, Nat.reduceAdd, Nat.reduceSub, Nat.reduceMul, Nat.reduceLT, Nat.reduceEqDiff, eq_self, true_and, and_true, and_false, false_and, if_true, if_false, and_self, Bool.true_eq_false, Bool.false_eq_true, gI_sI, gI_sA, gI_sL, gI_sQ, gI_sC, gI_sO, gI_sD, gA_sI, gA_sL, gA_sQ, gA_sO, gA_sD, gL_sI, gL_sA, gL_sQ, gL_sC, gL_sO, gL_sD, gQ_sI, gQ_sA, gQ_sL, gQ_sC, gQ_sO, gO_sI, gO_sA, gO_sL, gO_sQ, gO_sC, gO_sO, gO_sD, gA_eq, gA_ne, gQ_eq, gQ_ne, gL_sL, gA_cin, gA_cou, gQ_cin, gQ_cou]
  · rw [List.length_append, List.length_singleton] at hi
    by_cases c1 : i < C.length
    · rw [gA_sI, gA_ne (by omega), gd_l c1]; exact h3.2 i c1
    · have : i = C.length + 0 := by omega
      subst this
      rw [gd_r, gA_sI, gA_eq (by omega)]
      rfl
theorem r_codeb (hn : C.length < 1650) (hC : RCd C t) (h : BT t0 k w t) (x : Int32) : ∃ t', f_M_qCode N x t = some t' ∧ BT t0 k w t' := by
  have F2 : Fr [64, 118800] t (sI (sA t 64 C.length x) 1088 0 (nI (C.length + 1))) := Fr_t (Fr_sA 64 _ _ (by decide)) (Fr_sI _ _ _ (by decide))
  refine ⟨sI (sA t 64 C.length x) 1088 0 (nI (C.length + 1)), ?_, ⟨BdM_fr F2 (by decide) h.1, Fr_t h.2.1 (Fr_w F2 (by decide)), C.length + 1, by omega, by simp (disch := first | omega | decide) only [gI_sI, gI_sA, gI_sL, gI_sQ, gI_sC, gI_sO, gI_sD, gA_sI, gA_sL, gA_sQ, gA_sO, gA_sD, gL_sI, gL_sA, gL_sQ, gL_sC, gL_sO, gL_sD, gQ_sI, gQ_sA, gQ_sL, gQ_sC, gQ_sO, gO_sI, gO_sA, gO_sL, gO_sQ, gO_sC, gO_sO, gO_sD, gA_eq, gA_ne, gQ_eq, gQ_ne, gL_sL, gA_cin, gA_cou, gQ_cin, gQ_cou, Nat.reduceAdd, Nat.reduceSub, Nat.reduceMul, Nat.reduceLT, Nat.reduceEqDiff, eq_self, true_and, and_true, and_false, false_and, if_true, if_false, and_self, Bool.true_eq_false, Bool.false_eq_true]⟩⟩
  have e := hC.1
  simp (disch := first | omega | decide) only [f_M_qCode, e, zI_0, zI_1, zI_2, zI_3, zI_4, zI_5, zI_6, zI_7, zI_8, zI_9, zI_10, zI_11, zI_12, zI_13, zI_14, zI_15, zI_16, zI_17, zI_18, zI_19, zI_20, zI_21, zI_22, zI_23, zI_24, zI_25, zI_26, zI_27, zI_28, zI_29, zI_30, zI_31, zI_32, zI_33, zI_34, zI_35, zI_36, zI_37, zI_38, zI_39, zI_40, zI_41, zI_42, zI_43, zI_44, zI_45, zI_46, zI_47, zI_48, zI_49, zI_50, zI_51, zI_52, zI_53, zI_54, zI_55, zI_56, zI_57, zI_58, zI_59, zI_60, zI_61, zI_62, zI_63, zI_64, zI_65, zI_66, zI_67, zI_74, zI_84, zI_85, zI_88, zI_91, zI_93, zI_97, zI_99, zI_100, zI_102, zI_105, zI_117, zI_122, zI_193, zI_202, zI_205, zI_251, zI_255, zI_256, zI_257, zI_258, zI_259, zI_260, zI_640, zI_999, zI_1000, zI_1024, zI_1600, zI_1602, zI_1700, zI_2040, zI_3200, zI_4100, zI_9728, zI_11784, zI_61440, zI_65536, zI_470536, zI_999999, zI_1000000, lt_T, lt_F, le_T, le_F, eq_T, eq_F, neg_1, cn_m1p, cn_m11, nI_add, cn_sub, pk_mul, cn_div, cn_irm, cn_lt, cn_eq, cn_ltm1, cn_m1lt, cn_eqm1, cn_m1eq, cn_ix, cn_inb, cn_ninb, cn_irs, cn_ils, cn_and, cn_or, cn_xor, grd_t, grd_bt, grd_bl, Nat.add_zero, Nat.zero_add, Nat.reduceAdd, Nat.reduceSub, Nat.reduceMul, Nat.reduceLT, Nat.reduceEqDiff, eq_self, true_and, and_true, and_false, false_and, if_true, if_false, and_self, Bool.true_eq_false, Bool.false_eq_true, gI_sI, gI_sA, gI_sL, gI_sQ, gI_sC, gI_sO, gI_sD, gA_sI, gA_sL, gA_sQ, gA_sO, gA_sD, gL_sI, gL_sA, gL_sQ, gL_sC, gL_sO, gL_sD, gQ_sI, gQ_sA, gQ_sL, gQ_sC, gQ_sO, gO_sI, gO_sA, gO_sL, gO_sQ, gO_sC, gO_sO, gO_sD, gA_eq, gA_ne, gQ_eq, gQ_ne, gL_sL, gA_cin, gA_cou, gQ_cin, gQ_cou]
theorem r_drop (hn : C.length + W.length < 1700) (h : RT tp n kd t0 p b o C (c :: W) B t) : ∃ t', f_M_qDrops N t = some t' ∧ RT tp n kd t0 p b o (C ++ [c]) W B t' := by
  obtain ⟨h1, h2, h3, h4, h5, h6, h7⟩ := h
  have F2 : Fr [119000] t (sI t 1090 0 (nI W.length)) := Fr_sI _ _ _ (by decide)
  obtain ⟨t', e, R⟩ := r_code (N := N) (c := c) (tp := tp) (n := n) (kd := kd) (t0 := t0) (p := p) (b := b) (o := o) (C := C) (W := W) (B := B) (t := sI t 1090 0 (nI W.length)) (by omega) ⟨Fr_t h1 (Fr_w F2 (by decide)), RB_fr F2 (by decide) h2, RCd_fr F2 (by decide) h3, ⟨by simp (disch := first | omega | decide) only [gI_sI, gI_sA, gI_sL, gI_sQ, gI_sC, gI_sO, gI_sD, gA_sI, gA_sL, gA_sQ, gA_sO, gA_sD, gL_sI, gL_sA, gL_sQ, gL_sC, gL_sO, gL_sD, gQ_sI, gQ_sA, gQ_sL, gQ_sC, gQ_sO, gO_sI, gO_sA, gO_sL, gO_sQ, gO_sC, gO_sO, gO_sD, gA_eq, gA_ne, gQ_eq, gQ_ne, gL_sL, gA_cin, gA_cou, gQ_cin, gQ_cou, Nat.reduceAdd, Nat.reduceSub, Nat.reduceMul, Nat.reduceLT, Nat.reduceEqDiff, eq_self, true_and, and_true, and_false, false_and, if_true, if_false, and_self, Bool.true_eq_false, Bool.false_eq_true], SkA_cong (t := t) (fun _ _ => rfl) h4.2.2⟩, by rw [F2.I 1091 0 (by decide)]; exact h5, by rw [F2.I 1092 0 (by decide)]; exact h6, by rw [F2.I 1047 0 (by decide)]; exact h7⟩
  refine ⟨t', ?_, R⟩
  have e0 : gI t 1090 0 = nI (W.length + 1) := h4.1
  have e1 := h4.2.1
  simp (disch := first | omega | decide) only [f_M_qDrops, e0, e1, e, zI_0, zI_1, zI_2, zI_3, zI_4, zI_5, zI_6, zI_7, zI_8, zI_9, zI_10, zI_11, zI_12, zI_13, zI_14, zI_15, zI_16, zI_17, zI_18, zI_19, zI_20, zI_21, zI_22, zI_23, zI_24, zI_25, zI_26, zI_27, zI_28, zI_29, zI_30, zI_31, zI_32, zI_33, zI_34, zI_35, zI_36, zI_37, zI_38, zI_39, zI_40, zI_41, zI_42, zI_43, zI_44, zI_45, zI_46, zI_47, zI_48, zI_49, zI_50, zI_51, zI_52, zI_53, zI_54, zI_55, zI_56, zI_57, zI_58, zI_59, zI_60, zI_61, zI_62, zI_63, zI_64, zI_65, zI_66, zI_67, zI_74, zI_84, zI_85, zI_88, zI_91, zI_93, zI_97, zI_99, zI_100, zI_102, zI_105, zI_117, zI_122, zI_193, zI_202, zI_205, zI_251, zI_255, zI_256, zI_257, zI_258, zI_259, zI_260, zI_640, zI_999, zI_1000, zI_1024, zI_1600, zI_1602, zI_1700, zI_2040, zI_3200, zI_4100, zI_9728, zI_11784, zI_61440, zI_65536, zI_470536, zI_999999, zI_1000000, lt_T, lt_F, le_T, le_F, eq_T, eq_F, neg_1, cn_m1p, cn_m11, nI_add, cn_sub, pk_mul, cn_div, cn_irm, cn_lt, cn_eq, cn_ltm1, cn_m1lt, cn_eqm1, cn_m1eq, cn_ix, cn_inb, cn_ninb, cn_irs, cn_ils, cn_and, cn_or, cn_xor, grd_t, grd_bt, grd_bl, Nat.add_zero, Nat.zero_add, Nat.reduceAdd, Nat.reduceSub, Nat.reduceMul, Nat.reduceLT, Nat.reduceEqDiff, eq_self, true_and, and_true, and_false, false_and, if_true, if_false, and_self, Bool.true_eq_false, Bool.false_eq_true, gI_sI, gI_sA, gI_sL, gI_sQ, gI_sC, gI_sO, gI_sD, gA_sI, gA_sL, gA_sQ, gA_sO, gA_sD, gL_sI, gL_sA, gL_sQ, gL_sC, gL_sO, gL_sD, gQ_sI, gQ_sA, gQ_sL, gQ_sC, gQ_sO, gO_sI, gO_sA, gO_sL, gO_sQ, gO_sC, gO_sO, gO_sD, gA_eq, gA_ne, gQ_eq, gQ_ne, gL_sL, gA_cin, gA_cou, gQ_cin, gQ_cou, Nat.add_sub_cancel, Option.bind_some]
/-- one more opened -/
theorem r_open {x q : Nat} (hn : C.length + W.length < 1650) (ho : o ≤ 6) (h : RT tp n kd t0 p b o C W B t) :
    (o < 6 → ∃ t', f_M_qOpens N (nI x) (nI q) t = some t' ∧ RT tp n kd t0 p b (o + 1) C (x :: W) B t' ∧ Fr [119100, 119000, 65] t t') ∧
    (¬ o < 6 → ∃ t', f_M_qOpens N (nI x) (nI q) t = some t' ∧ BT t0 4 q t' ∧ Fr kAf t t') := by
  have hh := h
  obtain ⟨h1, h2, h3, h4, h5, h6, h7⟩ := h
  have h9 := h2.2.2.1
  refine ⟨fun c => ?_, fun c => ?_⟩
  · have F2 : Fr [119100, 119000, 65] t (sI (sA (sI t 1091 0 (nI (o + 1))) 65 W.length (nI x)) 1090 0 (nI (W.length + 1))) := Fr_t (Fr_sI _ _ _ (by decide)) (Fr_t (Fr_sA 65 _ _ (by decide)) (Fr_sI _ _ _ (by decide)))
    refine ⟨_, ?_, ⟨Fr_t h1 (Fr_w F2 (by decide)), RB_fr F2 (by decide) h2, RCd_fr F2 (by decide) h3, ⟨by rw [List.length_cons]; simp (disch := first | omega | decide) only [gI_sI, gI_sA, gI_sL, gI_sQ, gI_sC, gI_sO, gI_sD, gA_sI, gA_sL, gA_sQ, gA_sO, gA_sD, gL_sI, gL_sA, gL_sQ, gL_sC, gL_sO, gL_sD, gQ_sI, gQ_sA, gQ_sL, gQ_sC, gQ_sO, gO_sI, gO_sA, gO_sL, gO_sQ, gO_sC, gO_sO, gO_sD, gA_eq, gA_ne, gQ_eq, gQ_ne, gL_sL, gA_cin, gA_cou, gQ_cin, gQ_cou, Nat.reduceAdd, Nat.reduceSub, Nat.reduceMul, Nat.reduceLT, Nat.reduceEqDiff, eq_self, true_and, and_true, and_false, false_and, if_true, if_false, and_self, Bool.true_eq_false, Bool.false_eq_true], ?_, SkA_cong (fun i hi => ?_) h4.2⟩, by simp (disch := first | omega | decide) only [gI_sI, gI_sA, gI_sL, gI_sQ, gI_sC, gI_sO, gI_sD, gA_sI, gA_sL, gA_sQ, gA_sO, gA_sD, gL_sI, gL_sA, gL_sQ, gL_sC, gL_sO, gL_sD, gQ_sI, gQ_sA, gQ_sL, gQ_sC, gQ_sO, gO_sI, gO_sA, gO_sL, gO_sQ, gO_sC, gO_sO, gO_sD, gA_eq, gA_ne, gQ_eq, gQ_ne, gL_sL, gA_cin, gA_cou, gQ_cin, gQ_cou, Nat.reduceAdd, Nat.reduceSub, Nat.reduceMul, Nat.reduceLT, Nat.reduceEqDiff, eq_self, true_and, and_true, and_false, false_and, if_true, if_false, and_self, Bool.true_eq_false, Bool.false_eq_true], by rw [F2.I 1092 0 (by decide)]; exact h6, by rw [F2.I 1047 0 (by decide)]; exact h7⟩, F2⟩
    · have e := h4.1
      simp (disch := first | omega | decide) only [f_M_qOpens, h9, h5, e, zI_0, zI_1, zI_2, zI_3, zI_4, zI_5, zI_6, zI_7, zI_8, zI_9, zI_10, zI_11, zI_12, zI_13, zI_14, zI_15, zI_16, zI_17, zI_18, zI_19, zI_20, zI_21, zI_22, zI_23, zI_24, zI_25, zI_26, zI_27, zI_28, zI_29, zI_30, zI_31, zI_32, zI_33, zI_34, zI_35, zI_36, zI_37, zI_38, zI_39, zI_40, zI_41, zI_42, zI_43, zI_44, zI_45, zI_46, zI_47, zI_48, zI_49, zI_50, zI_51, zI_52, zI_53, zI_54, zI_55, zI_56, zI_57, zI_58, zI_59, zI_60, zI_61, zI_62, zI_63, zI_64, zI_65, zI_66, zI_67, zI_74, zI_84, zI_85, zI_88, zI_91, zI_93, zI_97, zI_99, zI_100, zI_102, zI_105, zI_117, zI_122, zI_193, zI_202, zI_205, zI_251, zI_255, zI_256, zI_257, zI_258, zI_259, zI_260, zI_640, zI_999, zI_1000, zI_1024, zI_1600, zI_1602, zI_1700, zI_2040, zI_3200, zI_4100, zI_9728, zI_11784, zI_61440, zI_65536, zI_470536, zI_999999, zI_1000000, lt_T, lt_F, le_T, le_F, eq_T, eq_F, neg_1, cn_m1p, cn_m11, nI_add, cn_sub, pk_mul, cn_div, cn_irm, cn_lt, cn_eq, cn_ltm1, cn_m1lt, cn_eqm1, cn_m1eq, cn_ix, cn_inb, cn_ninb, cn_irs, cn_ils, cn_and, cn_or, cn_xor, grd_t, grd_bt, grd_bl, Nat.add_zero, Nat.zero_add, Nat.reduceAdd, Nat.reduceSub, Nat.reduceMul, Nat.reduceLT, Nat.reduceEqDiff, eq_self, true_and, and_true, and_false, false_and, if_true, if_false, and_self, Bool.true_eq_false, Bool.false_eq_true, gI_sI, gI_sA, gI_sL, gI_sQ, gI_sC, gI_sO, gI_sD, gA_sI, gA_sL, gA_sQ, gA_sO, gA_sD, gL_sI, gL_sA, gL_sQ, gL_sC, gL_sO, gL_sD, gQ_sI, gQ_sA, gQ_sL, gQ_sC, gQ_sO, gO_sI, gO_sA, gO_sL, gO_sQ, gO_sC, gO_sO, gO_sD, gA_eq, gA_ne, gQ_eq, gQ_ne, gL_sL, gA_cin, gA_cou, gQ_cin, gQ_cou]
    · rw [gA_sI, gA_eq rfl]
    · rw [gA_sI, gA_ne (by omega), gA_sI]
  · have hoe : o = 6 := by omega
    obtain ⟨t', f, D, F⟩ := mfail_l (N := N) (t := t) (k := 4) (w := q) h9 (by omega)
    refine ⟨t', ?_, BT_of hh (by omega) F (by decide) (by decide) D, F⟩
    simp (disch := first | omega | decide) only [f_M_qOpens, h9, h5, hoe, f, zI_0, zI_1, zI_2, zI_3, zI_4, zI_5, zI_6, zI_7, zI_8, zI_9, zI_10, zI_11, zI_12, zI_13, zI_14, zI_15, zI_16, zI_17, zI_18, zI_19, zI_20, zI_21, zI_22, zI_23, zI_24, zI_25, zI_26, zI_27, zI_28, zI_29, zI_30, zI_31, zI_32, zI_33, zI_34, zI_35, zI_36, zI_37, zI_38, zI_39, zI_40, zI_41, zI_42, zI_43, zI_44, zI_45, zI_46, zI_47, zI_48, zI_49, zI_50, zI_51, zI_52, zI_53, zI_54, zI_55, zI_56, zI_57, zI_58, zI_59, zI_60, zI_61, zI_62, zI_63, zI_64, zI_65, zI_66, zI_67, zI_74, zI_84, zI_85, zI_88, zI_91, zI_93, zI_97, zI_99, zI_100, zI_102, zI_105, zI_117, zI_122, zI_193, zI_202, zI_205, zI_251, zI_255, zI_256, zI_257, zI_258, zI_259, zI_260, zI_640, zI_999, zI_1000, zI_1024, zI_1600, zI_1602, zI_1700, zI_2040, zI_3200, zI_4100, zI_9728, zI_11784, zI_61440, zI_65536, zI_470536, zI_999999, zI_1000000, lt_T, lt_F, le_T, le_F, eq_T, eq_F, neg_1, cn_m1p, cn_m11, nI_add, cn_sub, pk_mul, cn_div, cn_irm, cn_lt, cn_eq, cn_ltm1, cn_m1lt, cn_eqm1, cn_m1eq, cn_ix, cn_inb, cn_ninb, cn_irs, cn_ils, cn_and, cn_or, cn_xor, grd_t, grd_bt, grd_bl, Nat.add_zero, Nat.zero_add, Nat.reduceAdd, Nat.reduceSub, Nat.reduceMul, Nat.reduceLT, Nat.reduceEqDiff, eq_self, true_and, and_true, and_false, false_and, if_true, if_false, and_self, Bool.true_eq_false, Bool.false_eq_true, Option.bind_some]
theorem r_openb {x : Int32} {q : Int32} (h : BT t0 k w t) : f_M_qOpens N x q t = some t := by
  obtain ⟨⟨h1, h2, h3, h4⟩, _⟩ := h
  simp (disch := first | omega | decide) only [f_M_qOpens, h3, zI_0, zI_1, zI_2, zI_3, zI_4, zI_5, zI_6, zI_7, zI_8, zI_9, zI_10, zI_11, zI_12, zI_13, zI_14, zI_15, zI_16, zI_17, zI_18, zI_19, zI_20, zI_21, zI_22, zI_23, zI_24, zI_25, zI_26, zI_27, zI_28, zI_29, zI_30, zI_31, zI_32, zI_33, zI_34, zI_35, zI_36, zI_37, zI_38, zI_39, zI_40, zI_41, zI_42, zI_43, zI_44, zI_45, zI_46, zI_47, zI_48, zI_49, zI_50, zI_51, zI_52, zI_53, zI_54, zI_55, zI_56, zI_57, zI_58, zI_59, zI_60, zI_61, zI_62, zI_63, zI_64, zI_65, zI_66, zI_67, zI_74, zI_84, zI_85, zI_88, zI_91, zI_93, zI_97, zI_99, zI_100, zI_102, zI_105, zI_117, zI_122, zI_193, zI_202, zI_205, zI_251, zI_255, zI_256, zI_257, zI_258, zI_259, zI_260, zI_640, zI_999, zI_1000, zI_1024, zI_1600, zI_1602, zI_1700, zI_2040, zI_3200, zI_4100, zI_9728, zI_11784, zI_61440, zI_65536, zI_470536, zI_999999, zI_1000000, lt_T, lt_F, le_T, le_F, eq_T, eq_F, neg_1, cn_m1p, cn_m11, nI_add, cn_sub, pk_mul, cn_div, cn_irm, cn_lt, cn_eq, cn_ltm1, cn_m1lt, cn_eqm1, cn_m1eq, cn_ix, cn_inb, cn_ninb, cn_irs, cn_ils, cn_and, cn_or, cn_xor, grd_t, grd_bt, grd_bl, Nat.add_zero, Nat.zero_add, Nat.reduceAdd, Nat.reduceSub, Nat.reduceMul, Nat.reduceLT, Nat.reduceEqDiff, eq_self, true_and, and_true, and_false, false_and, if_true, if_false, and_self, Bool.true_eq_false, Bool.false_eq_true]
theorem r_eq : RT tp n kd t0 p b o C W B t → gI t 1090 0 = nI W.length ∧ gI t 1005 0 = nI 0 ∧ gI t 1092 0 = nI B ∧ gI t 1091 0 = nI o := fun h => ⟨h.2.2.2.1.1, h.2.1.2.2.1, h.2.2.2.2.2.1, h.2.2.2.2.1⟩
/-- the places where the reference's loops come by -/
noncomputable def kG (N : Nat) (B0 : Int32) (k15 : Nat) (p2 : Int32 × mS) : Option mS := if p2.1 = 0 then mfix k15 (f_M_qSums_L15 N) (B0, 0, p2.2) else mfix k15 (f_M_qSums_L15 N) (B0, 1, p2.2)
noncomputable def kSm (N : Nat) (B0 : Int32) (k15 : Nat) (p1 : mS) : Option mS := if (gI p1 1005 0) = 0 then (f_M_qGoesOn N p1).bind (kG N B0 k15) else mfix k15 (f_M_qSums_L15 N) (B0, 0, p1)
def rPS (N : Nat) (B0 : Int32) (Q : mS → Prop) (m : Nat) (t : mS) : Prop := ∀ k2 k15, m ≤ k2 → m ≤ k15 → Ok ((mfix k2 (f_M_qPartTold_L2 N) (nI 1, t)).bind (kSm N B0 k15)) Q
def rGO (N : Nat) (B0 : Int32) (Q : mS → Prop) (m : Nat) (t : mS) : Prop := ∀ kg k15, m ≤ kg → m ≤ k15 → Ok ((mfix kg (f_M_qGoesOn_L0 N) t).bind (kG N B0 k15)) Q
def rEP (N : Nat) (B0 : Int32) (Q : mS → Prop) (m w : Nat) (t : mS) : Prop := ∀ ke, w ≤ ke → Ok (mfix ke (f_M_qEndsPart_L0 N) t) (fun t' => gI t' 1005 0 = nI 0 ∧ rGO N B0 Q m t')
variable {B0 : Int32} {Q : mS → Prop}
theorem EP_drop (hc : 60 ≤ c) (hc2 : c < 10000) (hB : B ≤ W.length) (hn : C.length + W.length < 1600) (h : RT tp n kd t0 p b (o + 1) C (c :: W) B t) (ho : o < 100) (hk : ∀ t', RT tp n kd t0 p b o (C ++ [c]) W B t' → rEP N B0 Q m w t') : rEP N B0 Q m (w + 1) t := by
  intro ke hke
  rw [mfix_1 (by omega)]
  obtain ⟨e1, e2, e3, e4⟩ := r_eq h
  have e1 : gI t 1090 0 = nI (W.length + 1) := e1
  have e5 : gA t 65 W.length = nI c := h.2.2.2.1.2.1
  have F2 : Fr [119100] t (sI t 1091 0 (nI o)) := Fr_sI _ _ _ (by decide)
  obtain ⟨h1, h2, h3, h4, h5, h6, h7⟩ := h
  obtain ⟨t', f, R⟩ := r_drop (N := N) (c := c) (tp := tp) (n := n) (kd := kd) (t0 := t0) (p := p) (b := b) (o := o) (C := C) (W := W) (B := B) (t := sI t 1091 0 (nI o)) (by omega) ⟨Fr_t h1 (Fr_w F2 (by decide)), RB_fr F2 (by decide) h2, RCd_fr F2 (by decide) h3, RWt_fr F2 (by decide) h4, by simp (disch := first | omega | decide) only [gI_sI, gI_sA, gI_sL, gI_sQ, gI_sC, gI_sO, gI_sD, gA_sI, gA_sL, gA_sQ, gA_sO, gA_sD, gL_sI, gL_sA, gL_sQ, gL_sC, gL_sO, gL_sD, gQ_sI, gQ_sA, gQ_sL, gQ_sC, gQ_sO, gO_sI, gO_sA, gO_sL, gO_sQ, gO_sC, gO_sO, gO_sD, gA_eq, gA_ne, gQ_eq, gQ_ne, gL_sL, gA_cin, gA_cou, gQ_cin, gQ_cou, Nat.reduceAdd, Nat.reduceSub, Nat.reduceMul, Nat.reduceLT, Nat.reduceEqDiff, eq_self, true_and, and_true, and_false, false_and, if_true, if_false, and_self, Bool.true_eq_false, Bool.false_eq_true], by rw [F2.I 1092 0 (by decide)]; exact h6, by rw [F2.I 1047 0 (by decide)]; exact h7⟩
  simp (disch := first | omega | decide) only [f_M_qEndsPart_L0, e1, e2, e3, e4, e5, f, zI_0, zI_1, zI_2, zI_3, zI_4, zI_5, zI_6, zI_7, zI_8, zI_9, zI_10, zI_11, zI_12, zI_13, zI_14, zI_15, zI_16, zI_17, zI_18, zI_19, zI_20, zI_21, zI_22, zI_23, zI_24, zI_25, zI_26, zI_27, zI_28, zI_29, zI_30, zI_31, zI_32, zI_33, zI_34, zI_35, zI_36, zI_37, zI_38, zI_39, zI_40, zI_41, zI_42, zI_43, zI_44, zI_45, zI_46, zI_47, zI_48, zI_49, zI_50, zI_51, zI_52, zI_53, zI_54, zI_55, zI_56, zI_57, zI_58, zI_59, zI_60, zI_61, zI_62, zI_63, zI_64, zI_65, zI_66, zI_67, zI_74, zI_84, zI_85, zI_88, zI_91, zI_93, zI_97, zI_99, zI_100, zI_102, zI_105, zI_117, zI_122, zI_193, zI_202, zI_205, zI_251, zI_255, zI_256, zI_257, zI_258, zI_259, zI_260, zI_640, zI_999, zI_1000, zI_1024, zI_1600, zI_1602, zI_1700, zI_2040, zI_3200, zI_4100, zI_9728, zI_11784, zI_61440, zI_65536, zI_470536, zI_999999, zI_1000000, lt_T, lt_F, le_T, le_F, eq_T, eq_F, neg_1, cn_m1p, cn_m11, nI_add, cn_sub, pk_mul, cn_div, cn_irm, cn_lt, cn_eq, cn_ltm1, cn_m1lt, cn_eqm1, cn_m1eq, cn_ix, cn_inb, cn_ninb, cn_irs, cn_ils, cn_and, cn_or, cn_xor, grd_t, grd_bt, grd_bl, Nat.add_zero, Nat.zero_add, Nat.reduceAdd, Nat.reduceSub, Nat.reduceMul, Nat.reduceLT, Nat.reduceEqDiff, eq_self, true_and, and_true, and_false, false_and, if_true, if_false, and_self, Bool.true_eq_false, Bool.false_eq_true, Nat.add_sub_cancel, Option.bind_some]
  exact hk t' R (ke - 1) (by omega)
theorem EP_stop (h : RT tp n kd t0 p b o C W B t) (hB : B ≤ W.length) (hn : W.length < 1600) (hW : W.length = B ∨ ∃ x W', W = x :: W' ∧ x < 60) (hk : rGO N B0 Q m t) : rEP N B0 Q m (w + 1) t := by
  intro ke hke
  rw [mfix_1 (by omega)]
  obtain ⟨e1, e2, e3, e4⟩ := r_eq h
  have fin : Ok (some t) (fun t' => gI t' 1005 0 = nI 0 ∧ rGO N B0 Q m t') := Ok_some ⟨e2, hk⟩
  by_cases c : B < W.length
  · rcases hW with e | ⟨x, W', rfl, hx⟩
    · omega
    · have e5 : gA t 65 W'.length = nI x := h.2.2.2.1.2.1
      rw [List.length_cons] at *
      simp (disch := first | omega | decide) only [f_M_qEndsPart_L0, e1, e2, e3, e5, zI_0, zI_1, zI_2, zI_3, zI_4, zI_5, zI_6, zI_7, zI_8, zI_9, zI_10, zI_11, zI_12, zI_13, zI_14, zI_15, zI_16, zI_17, zI_18, zI_19, zI_20, zI_21, zI_22, zI_23, zI_24, zI_25, zI_26, zI_27, zI_28, zI_29, zI_30, zI_31, zI_32, zI_33, zI_34, zI_35, zI_36, zI_37, zI_38, zI_39, zI_40, zI_41, zI_42, zI_43, zI_44, zI_45, zI_46, zI_47, zI_48, zI_49, zI_50, zI_51, zI_52, zI_53, zI_54, zI_55, zI_56, zI_57, zI_58, zI_59, zI_60, zI_61, zI_62, zI_63, zI_64, zI_65, zI_66, zI_67, zI_74, zI_84, zI_85, zI_88, zI_91, zI_93, zI_97, zI_99, zI_100, zI_102, zI_105, zI_117, zI_122, zI_193, zI_202, zI_205, zI_251, zI_255, zI_256, zI_257, zI_258, zI_259, zI_260, zI_640, zI_999, zI_1000, zI_1024, zI_1600, zI_1602, zI_1700, zI_2040, zI_3200, zI_4100, zI_9728, zI_11784, zI_61440, zI_65536, zI_470536, zI_999999, zI_1000000, lt_T, lt_F, le_T, le_F, eq_T, eq_F, neg_1, cn_m1p, cn_m11, nI_add, cn_sub, pk_mul, cn_div, cn_irm, cn_lt, cn_eq, cn_ltm1, cn_m1lt, cn_eqm1, cn_m1eq, cn_ix, cn_inb, cn_ninb, cn_irs, cn_ils, cn_and, cn_or, cn_xor, grd_t, grd_bt, grd_bl, Nat.add_zero, Nat.zero_add, Nat.reduceAdd, Nat.reduceSub, Nat.reduceMul, Nat.reduceLT, Nat.reduceEqDiff, eq_self, true_and, and_true, and_false, false_and, if_true, if_false, and_self, Bool.true_eq_false, Bool.false_eq_true, Nat.add_sub_cancel]
      exact fin
  · simp (disch := first | omega | decide) only [f_M_qEndsPart_L0, e1, e2, e3, zI_0, zI_1, zI_2, zI_3, zI_4, zI_5, zI_6, zI_7, zI_8, zI_9, zI_10, zI_11, zI_12, zI_13, zI_14, zI_15, zI_16, zI_17, zI_18, zI_19, zI_20, zI_21, zI_22, zI_23, zI_24, zI_25, zI_26, zI_27, zI_28, zI_29, zI_30, zI_31, zI_32, zI_33, zI_34, zI_35, zI_36, zI_37, zI_38, zI_39, zI_40, zI_41, zI_42, zI_43, zI_44, zI_45, zI_46, zI_47, zI_48, zI_49, zI_50, zI_51, zI_52, zI_53, zI_54, zI_55, zI_56, zI_57, zI_58, zI_59, zI_60, zI_61, zI_62, zI_63, zI_64, zI_65, zI_66, zI_67, zI_74, zI_84, zI_85, zI_88, zI_91, zI_93, zI_97, zI_99, zI_100, zI_102, zI_105, zI_117, zI_122, zI_193, zI_202, zI_205, zI_251, zI_255, zI_256, zI_257, zI_258, zI_259, zI_260, zI_640, zI_999, zI_1000, zI_1024, zI_1600, zI_1602, zI_1700, zI_2040, zI_3200, zI_4100, zI_9728, zI_11784, zI_61440, zI_65536, zI_470536, zI_999999, zI_1000000, lt_T, lt_F, le_T, le_F, eq_T, eq_F, neg_1, cn_m1p, cn_m11, nI_add, cn_sub, pk_mul, cn_div, cn_irm, cn_lt, cn_eq, cn_ltm1, cn_m1lt, cn_eqm1, cn_m1eq, cn_ix, cn_inb, cn_ninb, cn_irs, cn_ils, cn_and, cn_or, cn_xor, grd_t, grd_bt, grd_bl, Nat.add_zero, Nat.zero_add, Nat.reduceAdd, Nat.reduceSub, Nat.reduceMul, Nat.reduceLT, Nat.reduceEqDiff, eq_self, true_and, and_true, and_false, false_and, if_true, if_false, and_self, Bool.true_eq_false, Bool.false_eq_true]
    exact fin
theorem L15_bad (hm : 1 ≤ m) (hN : 10000 ≤ N) (h : BT t0 k w t) (hQ : ∀ t', BT t0 k w t' → Q t') : Ok (mfix m (f_M_qSums_L15 N) (B0, 0, t)) Q := by
  rw [mfix_1 (by omega)]
  have e5 := h.1.2.2.1
  have h1 := h.1.1
  have h2 := h.1.2.1
  simp (disch := first | omega | decide) only [f_M_qSums_L15, zI_0, zI_1, zI_2, zI_3, zI_4, zI_5, zI_6, zI_7, zI_8, zI_9, zI_10, zI_11, zI_12, zI_13, zI_14, zI_15, zI_16, zI_17, zI_18, zI_19, zI_20, zI_21, zI_22, zI_23, zI_24, zI_25, zI_26, zI_27, zI_28, zI_29, zI_30, zI_31, zI_32, zI_33, zI_34, zI_35, zI_36, zI_37, zI_38, zI_39, zI_40, zI_41, zI_42, zI_43, zI_44, zI_45, zI_46, zI_47, zI_48, zI_49, zI_50, zI_51, zI_52, zI_53, zI_54, zI_55, zI_56, zI_57, zI_58, zI_59, zI_60, zI_61, zI_62, zI_63, zI_64, zI_65, zI_66, zI_67, zI_74, zI_84, zI_85, zI_88, zI_91, zI_93, zI_97, zI_99, zI_100, zI_102, zI_105, zI_117, zI_122, zI_193, zI_202, zI_205, zI_251, zI_255, zI_256, zI_257, zI_258, zI_259, zI_260, zI_640, zI_999, zI_1000, zI_1024, zI_1600, zI_1602, zI_1700, zI_2040, zI_3200, zI_4100, zI_9728, zI_11784, zI_61440, zI_65536, zI_470536, zI_999999, zI_1000000, lt_T, lt_F, le_T, le_F, eq_T, eq_F, neg_1, cn_m1p, cn_m11, nI_add, cn_sub, pk_mul, cn_div, cn_irm, cn_lt, cn_eq, cn_ltm1, cn_m1lt, cn_eqm1, cn_m1eq, cn_ix, cn_inb, cn_ninb, cn_irs, cn_ils, cn_and, cn_or, cn_xor, grd_t, grd_bt, grd_bl, Nat.add_zero, Nat.zero_add, Nat.reduceAdd, Nat.reduceSub, Nat.reduceMul, Nat.reduceLT, Nat.reduceEqDiff, eq_self, true_and, and_true, and_false, false_and, if_true, if_false, and_self, Bool.true_eq_false, Bool.false_eq_true]
  rw [mfix_1 (by omega)]
  simp (disch := first | omega | decide) only [f_M_qSums_L53, e5, zI_0, zI_1, zI_2, zI_3, zI_4, zI_5, zI_6, zI_7, zI_8, zI_9, zI_10, zI_11, zI_12, zI_13, zI_14, zI_15, zI_16, zI_17, zI_18, zI_19, zI_20, zI_21, zI_22, zI_23, zI_24, zI_25, zI_26, zI_27, zI_28, zI_29, zI_30, zI_31, zI_32, zI_33, zI_34, zI_35, zI_36, zI_37, zI_38, zI_39, zI_40, zI_41, zI_42, zI_43, zI_44, zI_45, zI_46, zI_47, zI_48, zI_49, zI_50, zI_51, zI_52, zI_53, zI_54, zI_55, zI_56, zI_57, zI_58, zI_59, zI_60, zI_61, zI_62, zI_63, zI_64, zI_65, zI_66, zI_67, zI_74, zI_84, zI_85, zI_88, zI_91, zI_93, zI_97, zI_99, zI_100, zI_102, zI_105, zI_117, zI_122, zI_193, zI_202, zI_205, zI_251, zI_255, zI_256, zI_257, zI_258, zI_259, zI_260, zI_640, zI_999, zI_1000, zI_1024, zI_1600, zI_1602, zI_1700, zI_2040, zI_3200, zI_4100, zI_9728, zI_11784, zI_61440, zI_65536, zI_470536, zI_999999, zI_1000000, lt_T, lt_F, le_T, le_F, eq_T, eq_F, neg_1, cn_m1p, cn_m11, nI_add, cn_sub, pk_mul, cn_div, cn_irm, cn_lt, cn_eq, cn_ltm1, cn_m1lt, cn_eqm1, cn_m1eq, cn_ix, cn_inb, cn_ninb, cn_irs, cn_ils, cn_and, cn_or, cn_xor, grd_t, grd_bt, grd_bl, Nat.add_zero, Nat.zero_add, Nat.reduceAdd, Nat.reduceSub, Nat.reduceMul, Nat.reduceLT, Nat.reduceEqDiff, eq_self, true_and, and_true, and_false, false_and, if_true, if_false, and_self, Bool.true_eq_false, Bool.false_eq_true]
  exact Ok_some (hQ _ (BT_fr h (Fr_sI _ _ _ (by decide)) (l := [119200]) (by decide) (by decide) (by decide)))
theorem kS_bad (hm : 1 ≤ m) (hN : 10000 ≤ N) (h : BT t0 k w t) (hQ : ∀ t', BT t0 k w t' → Q t') : Ok (kSm N B0 m t) Q := by
  have e5 := h.1.2.2.1
  have h1 := h.1.1
  have h2 := h.1.2.1
  unfold kSm
  simp (disch := first | omega | decide) only [e5, zI_0, zI_1, zI_2, zI_3, zI_4, zI_5, zI_6, zI_7, zI_8, zI_9, zI_10, zI_11, zI_12, zI_13, zI_14, zI_15, zI_16, zI_17, zI_18, zI_19, zI_20, zI_21, zI_22, zI_23, zI_24, zI_25, zI_26, zI_27, zI_28, zI_29, zI_30, zI_31, zI_32, zI_33, zI_34, zI_35, zI_36, zI_37, zI_38, zI_39, zI_40, zI_41, zI_42, zI_43, zI_44, zI_45, zI_46, zI_47, zI_48, zI_49, zI_50, zI_51, zI_52, zI_53, zI_54, zI_55, zI_56, zI_57, zI_58, zI_59, zI_60, zI_61, zI_62, zI_63, zI_64, zI_65, zI_66, zI_67, zI_74, zI_84, zI_85, zI_88, zI_91, zI_93, zI_97, zI_99, zI_100, zI_102, zI_105, zI_117, zI_122, zI_193, zI_202, zI_205, zI_251, zI_255, zI_256, zI_257, zI_258, zI_259, zI_260, zI_640, zI_999, zI_1000, zI_1024, zI_1600, zI_1602, zI_1700, zI_2040, zI_3200, zI_4100, zI_9728, zI_11784, zI_61440, zI_65536, zI_470536, zI_999999, zI_1000000, lt_T, lt_F, le_T, le_F, eq_T, eq_F, neg_1, cn_m1p, cn_m11, nI_add, cn_sub, pk_mul, cn_div, cn_irm, cn_lt, cn_eq, cn_ltm1, cn_m1lt, cn_eqm1, cn_m1eq, cn_ix, cn_inb, cn_ninb, cn_irs, cn_ils, cn_and, cn_or, cn_xor, grd_t, grd_bt, grd_bl, Nat.add_zero, Nat.zero_add, Nat.reduceAdd, Nat.reduceSub, Nat.reduceMul, Nat.reduceLT, Nat.reduceEqDiff, eq_self, true_and, and_true, and_false, false_and, if_true, if_false, and_self, Bool.true_eq_false, Bool.false_eq_true]
  exact L15_bad hm hN h hQ
theorem kG_bad (hm : 1 ≤ m) (hN : 10000 ≤ N) (h : BT t0 k w t) (hQ : ∀ t', BT t0 k w t' → Q t') : Ok (kG N B0 m (nI 0, t)) Q := by
  unfold kG
  simp (disch := first | omega | decide) only [zI_0, zI_1, zI_2, zI_3, zI_4, zI_5, zI_6, zI_7, zI_8, zI_9, zI_10, zI_11, zI_12, zI_13, zI_14, zI_15, zI_16, zI_17, zI_18, zI_19, zI_20, zI_21, zI_22, zI_23, zI_24, zI_25, zI_26, zI_27, zI_28, zI_29, zI_30, zI_31, zI_32, zI_33, zI_34, zI_35, zI_36, zI_37, zI_38, zI_39, zI_40, zI_41, zI_42, zI_43, zI_44, zI_45, zI_46, zI_47, zI_48, zI_49, zI_50, zI_51, zI_52, zI_53, zI_54, zI_55, zI_56, zI_57, zI_58, zI_59, zI_60, zI_61, zI_62, zI_63, zI_64, zI_65, zI_66, zI_67, zI_74, zI_84, zI_85, zI_88, zI_91, zI_93, zI_97, zI_99, zI_100, zI_102, zI_105, zI_117, zI_122, zI_193, zI_202, zI_205, zI_251, zI_255, zI_256, zI_257, zI_258, zI_259, zI_260, zI_640, zI_999, zI_1000, zI_1024, zI_1600, zI_1602, zI_1700, zI_2040, zI_3200, zI_4100, zI_9728, zI_11784, zI_61440, zI_65536, zI_470536, zI_999999, zI_1000000, lt_T, lt_F, le_T, le_F, eq_T, eq_F, neg_1, cn_m1p, cn_m11, nI_add, cn_sub, pk_mul, cn_div, cn_irm, cn_lt, cn_eq, cn_ltm1, cn_m1lt, cn_eqm1, cn_m1eq, cn_ix, cn_inb, cn_ninb, cn_irs, cn_ils, cn_and, cn_or, cn_xor, grd_t, grd_bt, grd_bl, Nat.add_zero, Nat.zero_add, Nat.reduceAdd, Nat.reduceSub, Nat.reduceMul, Nat.reduceLT, Nat.reduceEqDiff, eq_self, true_and, and_true, and_false, false_and, if_true, if_false, and_self, Bool.true_eq_false, Bool.false_eq_true]
  exact L15_bad hm hN h hQ
/-- a part's loop that finds the fault -/
theorem PS_bad (hm : 1 ≤ m) (hN : 10000 ≤ N) (h : BT t0 k w t) (hQ : ∀ t', BT t0 k w t' → Q t') {x : Int32} {k2 : Nat} (h2 : 1 ≤ k2) : Ok ((mfix k2 (f_M_qPartTold_L2 N) (x, t)).bind (kSm N B0 m)) Q := by
  have e5 := h.1.2.2.1
  have h1 := h.1.1
  have h3 := h.1.2.1
  have j : f_M_qPartTold_j186 N t = some t := by simp (disch := first | omega | decide) only [f_M_qPartTold_j186, e5, zI_0, zI_1, zI_2, zI_3, zI_4, zI_5, zI_6, zI_7, zI_8, zI_9, zI_10, zI_11, zI_12, zI_13, zI_14, zI_15, zI_16, zI_17, zI_18, zI_19, zI_20, zI_21, zI_22, zI_23, zI_24, zI_25, zI_26, zI_27, zI_28, zI_29, zI_30, zI_31, zI_32, zI_33, zI_34, zI_35, zI_36, zI_37, zI_38, zI_39, zI_40, zI_41, zI_42, zI_43, zI_44, zI_45, zI_46, zI_47, zI_48, zI_49, zI_50, zI_51, zI_52, zI_53, zI_54, zI_55, zI_56, zI_57, zI_58, zI_59, zI_60, zI_61, zI_62, zI_63, zI_64, zI_65, zI_66, zI_67, zI_74, zI_84, zI_85, zI_88, zI_91, zI_93, zI_97, zI_99, zI_100, zI_102, zI_105, zI_117, zI_122, zI_193, zI_202, zI_205, zI_251, zI_255, zI_256, zI_257, zI_258, zI_259, zI_260, zI_640, zI_999, zI_1000, zI_1024, zI_1600, zI_1602, zI_1700, zI_2040, zI_3200, zI_4100, zI_9728, zI_11784, zI_61440, zI_65536, zI_470536, zI_999999, zI_1000000, lt_T, lt_F, le_T, le_F, eq_T, eq_F, neg_1, cn_m1p, cn_m11, nI_add, cn_sub, pk_mul, cn_div, cn_irm, cn_lt, cn_eq, cn_ltm1, cn_m1lt, cn_eqm1, cn_m1eq, cn_ix, cn_inb, cn_ninb, cn_irs, cn_ils, cn_and, cn_or, cn_xor, grd_t, grd_bt, grd_bl, Nat.add_zero, Nat.zero_add, Nat.reduceAdd, Nat.reduceSub, Nat.reduceMul, Nat.reduceLT, Nat.reduceEqDiff, eq_self, true_and, and_true, and_false, false_and, if_true, if_false, and_self, Bool.true_eq_false, Bool.false_eq_true]
  rw [mfix_1 (by omega)]
  have e : ∀ k2, f_M_qPartTold_L2 N k2 (x, t) = some t := fun k2 => by
    by_cases c : x = 0
    · simp only [f_M_qPartTold_L2, c, if_true, j]
    · simp (disch := first | omega | decide) only [f_M_qPartTold_L2, c, if_false, e5, zI_0, zI_1, zI_2, zI_3, zI_4, zI_5, zI_6, zI_7, zI_8, zI_9, zI_10, zI_11, zI_12, zI_13, zI_14, zI_15, zI_16, zI_17, zI_18, zI_19, zI_20, zI_21, zI_22, zI_23, zI_24, zI_25, zI_26, zI_27, zI_28, zI_29, zI_30, zI_31, zI_32, zI_33, zI_34, zI_35, zI_36, zI_37, zI_38, zI_39, zI_40, zI_41, zI_42, zI_43, zI_44, zI_45, zI_46, zI_47, zI_48, zI_49, zI_50, zI_51, zI_52, zI_53, zI_54, zI_55, zI_56, zI_57, zI_58, zI_59, zI_60, zI_61, zI_62, zI_63, zI_64, zI_65, zI_66, zI_67, zI_74, zI_84, zI_85, zI_88, zI_91, zI_93, zI_97, zI_99, zI_100, zI_102, zI_105, zI_117, zI_122, zI_193, zI_202, zI_205, zI_251, zI_255, zI_256, zI_257, zI_258, zI_259, zI_260, zI_640, zI_999, zI_1000, zI_1024, zI_1600, zI_1602, zI_1700, zI_2040, zI_3200, zI_4100, zI_9728, zI_11784, zI_61440, zI_65536, zI_470536, zI_999999, zI_1000000, lt_T, lt_F, le_T, le_F, eq_T, eq_F, neg_1, cn_m1p, cn_m11, nI_add, cn_sub, pk_mul, cn_div, cn_irm, cn_lt, cn_eq, cn_ltm1, cn_m1lt, cn_eqm1, cn_m1eq, cn_ix, cn_inb, cn_ninb, cn_irs, cn_ils, cn_and, cn_or, cn_xor, grd_t, grd_bt, grd_bl, Nat.add_zero, Nat.zero_add, Nat.reduceAdd, Nat.reduceSub, Nat.reduceMul, Nat.reduceLT, Nat.reduceEqDiff, eq_self, true_and, and_true, and_false, false_and, if_true, if_false, and_self, Bool.true_eq_false, Bool.false_eq_true, j, ite_self]
  rw [e]
  exact kS_bad hm hN h hQ
end JOINT
