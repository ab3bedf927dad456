/-! ROUNDS on the one side: orders, walks, nights -/
def XC (A : pL) (w : Nat) (s : mS) : Prop := ∃ fr sz, gI s 501 5 = nI sz ∧ sz ≤ 1602 ∧ fr + (pC A w).length ≤ sz ∧ gA s 7 w = nI fr ∧ gA s 8 w = nI (fr + (pC A w).length) ∧ ∀ i, i < (pC A w).length → gA s 6 (fr + i) = cSt ((pC A w).getD i 0)
def XP (A : pL) (s : mS) : Prop := gI s 400 2 = nI (pD A) ∧ gI s 401 2 = nI (pP A) ∧ gI s 402 2 = nI (pS A) ∧ gI s 403 2 = nI (pI A) ∧ (∀ p, p < pP A → XC A p s) ∧ (0 < pD A → XC A 10 s ∧ XC A 11 s) ∧ ∃ bn, gI s 410 2 = nI bn ∧ bn < 4096 ∧ ∀ p, p < pP A → bn.testBit p = (pC A p).elem 40
def kXP : List Nat := [50002, 50102, 50202, 50302, 51002, 60105, 6, 7, 8]
theorem XC_fr {A : pL} {w : Nat} {l : List Nat} {s s' : mS} (hF : Fr l s s') (hk : ∀ k ∈ kXP, k ∉ l) (h : XC A w s) : XC A w s' := by
  obtain ⟨fr, sz, h1, h2, h3, h4, h5, h6⟩ := h
  refine ⟨fr, sz, ?_, h2, h3, ?_, ?_, fun i hi => ?_⟩
  · rw [hF.I 501 5 (hk _ (by decide))]; exact h1
  · rw [hF.A 7 _ (hk _ (by decide))]; exact h4
  · rw [hF.A 8 _ (hk _ (by decide))]; exact h5
  · rw [hF.A 6 _ (hk _ (by decide))]; exact h6 i hi
theorem XP_fr {A : pL} {l : List Nat} {s s' : mS} (hF : Fr l s s') (hk : ∀ k ∈ kXP, k ∉ l) (h : XP A s) : XP A s' := by
  obtain ⟨h1, h2, h3, h4, h5, h6, bn, h7, h8⟩ := h
  refine ⟨?_, ?_, ?_, ?_, fun p hp => XC_fr hF hk (h5 p hp), fun h0 => ⟨XC_fr hF hk (h6 h0).1, XC_fr hF hk (h6 h0).2⟩, bn, ?_, h8⟩
  · rw [hF.I 400 2 (hk _ (by decide))]; exact h1
  · rw [hF.I 401 2 (hk _ (by decide))]; exact h2
  · rw [hF.I 402 2 (hk _ (by decide))]; exact h3
  · rw [hF.I 403 2 (hk _ (by decide))]; exact h4
  · rw [hF.I 410 2 (hk _ (by decide))]; exact h7
def gT (n : Nat) (pt : Nat → Nat) (d : Nat) : Nat → Int
  | 0 => n
  | 1 => d
  | 2 => pt d
  | _ => 0
def ptH (H : hL) (d : Nat) : Nat := if d < 24 then H.1 (28 + d) else 0
def oStep (A : pL) (pt : Nat → Nat) (n p d acc : Nat) : Nat := if ev (gT n pt d) nog nog (pC A p) ≠ 0 then acc ||| 1 <<< d else acc
def ordN (A : pL) (pt : Nat → Nat) (n p : Nat) : Nat := itN (oStep A pt n p) (pD A) 0
def ordS (A : pL) (H : hL) (p : Nat) : Nat := ordN A (ptH H) (H.1 0) p
def willS (A : pL) (H : hL) (p : Nat) : Bool := decide (ev (gv A H 0 p) nog nog (pC A 10) ≠ 0)
def hset (H : hL) (i v : Nat) : hL := (fU H.1 i v, H.2)
def swS (H : hL) (d : Nat) : hL := hset (hset H 2 (H.1 2 ^^^ 1 <<< d)) (4 + d) (min 99 (H.1 (4 + d) + 1))
def wkS (A : pL) (ord d : Nat) (x : Nat × hL) : Nat × hL := if ord.testBit d = true ∧ jm A x.2 d = false then (x.1 + 1, swS x.2 d) else x
def walkS (A : pL) (p : Nat) (H : hL) : Nat × hL := itN (wkS A (ordS A H p)) (pD A) (0, H)
def kpS (H : hL) (p t : Nat) : hL := (fU H.1 3 (H.1 3 + 1), fU H.2 (H.1 3) (H.1 0, p, t))
def trS (H : hL) (p : Nat) : hL := hset H (52 + p) (min 99 (H.1 (52 + p) + 1))
def nStep (A : pL) (aw : Int32) (p : Nat) (x : Nat × hL) : Nat × hL := if nI p = aw ∨ willS A x.2 p = false then (x.1, hset x.2 (52 + p) 0) else (x.1 + 1, trS (kpS (walkS A p x.2).2 p (walkS A p x.2).1) p)
def clN (v : Int) : Nat := if v < 0 then 0 else if 99 < v then 99 else v.toNat
def cdS (A : pL) (d : Nat) (H : hL) : hL := hset H 1 (min 999999 (H.1 1 + clN (ev (gv A H d 0) nog nog (pC A 11))))
def coldS (A : pL) (H : hL) : hL := itN (cdS A) (pD A) H
def nigS (A : pL) (aw : Int32) (H : hL) : Nat × hL := itN (nStep A aw) (pP A) (0, H)
def passS (A : pL) (aw : Int32) (H : hL) : Nat × hL := ((nigS A aw H).1, hset (coldS A (nigS A aw H).2) 0 (min 999 ((coldS A (nigS A aw H).2).1 0 + 1)))
theorem hs_n {H : hL} {i j v : Nat} (h : j ≠ i) : (hset H i v).1 j = H.1 j := if_neg h
theorem hs_e {H : hL} {i j v : Nat} (h : j = i) : (hset H i v).1 j = v := if_pos h
theorem kp_n {H : hL} {j p t : Nat} (h : j ≠ 3) : (kpS H p t).1 j = H.1 j := if_neg h
theorem kp_3 {H : hL} {p t : Nat} : (kpS H p t).1 3 = H.1 3 + 1 := fU_s H.1 3 (H.1 3 + 1)
theorem sw_n {H : hL} {j d : Nat} (h : j ≠ 2 ∧ j ≠ 4 + d) : (swS H d).1 j = H.1 j := by
  unfold swS; rw [hs_n h.2, hs_n h.1]
theorem pt_set {H : hL} {i v : Nat} (h : i < 28 ∨ 52 ≤ i) : ptH (hset H i v) = ptH H := by
  funext d
  unfold ptH hset
  by_cases c : d < 24
  · rw [if_pos c, if_pos c]; exact fU_n (by omega)
  · rw [if_neg c, if_neg c]
theorem pt_kp {H : hL} {p t : Nat} : ptH (kpS H p t) = ptH H := by
  funext d
  unfold ptH kpS
  by_cases c : d < 24
  · rw [if_pos c, if_pos c]; exact fU_n (by omega)
  · rw [if_neg c, if_neg c]
theorem pt_sw {H : hL} {d : Nat} (h : d < 24) : ptH (swS H d) = ptH H := by
  unfold swS; rw [pt_set (by omega), pt_set (by omega)]
theorem ev_cong {g g' : Nat → Int} {gb gn : Int → Int} : ∀ {cs : List Nat} {st : List Int}, (∀ c, c ∈ cs → 40 ≤ c → c < 60 → g (c - 40) = g' (c - 40)) → (∀ c, c ∈ cs → c < 62 ∨ 1000 ≤ c) → evL g gb gn cs st = evL g' gb gn cs st
  | [], _, _, _ => rfl
  | c :: cs, st, h, h2 => by
    have e : ev1 g gb gn c st = ev1 g' gb gn c st := by
      by_cases c1 : 40 ≤ c ∧ c < 60
      · unfold ev1
        rw [if_neg (by omega), if_neg (by omega), if_neg (by omega), if_pos c1.1, if_neg (by omega), if_neg (by omega), if_neg (by omega), if_pos c1.1, h c (List.mem_cons_self) c1.1 c1.2]
      · have := h2 c List.mem_cons_self
        unfold ev1
        by_cases c2 : 1000 ≤ c
        · rw [if_pos c2, if_pos c2]
        · by_cases c3 : c = 60
          · rw [if_neg c2, if_neg c2, if_pos c3, if_pos c3]
          · by_cases c4 : c = 61
            · rw [if_neg c2, if_neg c2, if_neg c3, if_neg c3, if_pos c4, if_pos c4]
            · have c5 : ¬ 40 ≤ c := by omega
              rw [if_neg c2, if_neg c2, if_neg c3, if_neg c3, if_neg c4, if_neg c4, if_neg c5, if_neg c5]
    show evL g gb gn cs (ev1 g gb gn c st) = evL g' gb gn cs (ev1 g' gb gn c st)
    rw [e]
    exact ev_cong (fun c hc => h c (List.mem_cons_of_mem _ hc)) (fun c hc => h2 c (List.mem_cons_of_mem _ hc))
theorem ck_al {al : Nat → Bool} : ∀ {cs : List Nat} {ts ts' : List Bool}, ckL al cs ts = some ts' → ∀ c, c ∈ cs → (40 ≤ c → c < 60 → al (c - 40) = true) ∧ (c < 62 ∨ 1000 ≤ c)
  | [], _, _, _, _, h => absurd h (List.not_mem_nil)
  | c :: cs, ts, ts', h, x, hx => by
    unfold ckL at h
    split at h
    · rename_i t2 h2
      rcases List.mem_cons.mp hx with rfl | hx
      · rcases ck1_cases h2 with ⟨h1, h2, h3, rfl⟩ | ⟨rfl, h2, r, rfl, rfl⟩ | ⟨rfl, h2, r, rfl, rfl⟩ | ⟨h1, h2, h3, h4, rfl⟩ | ⟨rfl, h2, rfl⟩ | ⟨rfl, r, rfl, rfl⟩ | ⟨h1, r, rfl, rfl⟩ | ⟨h1, r, rfl, rfl⟩ | ⟨h1, r, rfl, rfl⟩
        · exact ⟨fun _ _ => by omega, by omega⟩
        · exact ⟨fun _ _ => by omega, by omega⟩
        · exact ⟨fun _ _ => by omega, by omega⟩
        · exact ⟨fun _ _ => h3, by omega⟩
        · exact ⟨fun _ _ => by omega, by omega⟩
        · exact ⟨fun _ _ => by omega, by omega⟩
        · exact ⟨fun _ _ => by omega, by omega⟩
        · exact ⟨fun _ _ => by omega, by omega⟩
        · exact ⟨fun _ _ => by omega, by omega⟩
      · exact ck_al h x hx
    · cases h
theorem ev_al {al : Nat → Bool} {g g' : Nat → Int} {gb gn : Int → Int} {cs : List Nat} {ts : List Bool} (hc : ckL al cs [] = some ts) (h : ∀ w, al w = true → g w = g' w) : ev g gb gn cs = ev g' gb gn cs := by
  unfold ev
  rw [ev_cong (fun c hc1 h1 h2 => h _ ((ck_al hc c hc1).1 h1 h2)) fun c hc1 => (ck_al hc c hc1).2]
theorem ev_T {A : pL} {H : hL} {cs : List Nat} {ts : List Bool} {d p : Nat} (hc : ckL alT cs [] = some ts) (hd : d < 24) : ev (gv A H d p) nog nog cs = ev (gT (H.1 0) (ptH H) d) nog nog cs := by
  refine ev_al hc fun w hw => ?_
  have hw := of_decide_eq_true hw
  have : w = 0 ∨ w = 1 ∨ w = 2 := by omega
  rcases this with rfl | rfl | rfl
  · rfl
  · rfl
  · show ((H.1 (28 + d) : Nat) : Int) = ((ptH H d : Nat) : Int)
    unfold ptH; rw [if_pos hd]
theorem ordN_night {A : pL} {pt : Nat → Nat} {n n' p : Nat} {ts : List Bool} (hc : ckL alT (pC A p) [] = some ts) (h : (pC A p).elem 40 = false) : ordN A pt n p = ordN A pt n' p := by
  have h40 : 40 ∉ pC A p := by
    intro c
    rw [List.elem_eq_true_of_mem c] at h
    cases h
  refine itN_cong _ fun d acc _ => ?_
  have e : ev (gT n pt d) nog nog (pC A p) = ev (gT n' pt d) nog nog (pC A p) := by
    unfold ev
    rw [ev_cong (g' := gT n' pt d) (fun c hc1 h1 h2 => ?_) fun c hc1 => (ck_al hc c hc1).2]
    have hw := of_decide_eq_true ((ck_al hc c hc1).1 h1 h2)
    have : c - 40 = 0 ∨ c - 40 = 1 ∨ c - 40 = 2 := by omega
    rcases this with e | e | e
    · exact absurd ((show c = 40 by omega) ▸ hc1) h40
    · rw [e]; rfl
    · rw [e]; rfl
  unfold oStep
  rw [e]
theorem ordN_lt (A : pL) (pt : Nat → Nat) (n p : Nat) : ordN A pt n p < 2 ^ pD A := by
  refine itN_inv (fun i x => x < 2 ^ i) (by decide) (fun i x hx => ?_) _
  show (if _ then _ else _) < _
  have h2 : x < 2 ^ (i + 1) := Nat.lt_trans hx (Nat.pow_lt_pow_right (by omega) (by omega))
  split
  · exact Nat.or_lt_two_pow h2 (by rw [Nat.shiftLeft_eq, Nat.one_mul]; exact Nat.pow_lt_pow_right (by omega) (by omega))
  · exact h2
/-- what is known of orders -/
def XO (A : pL) (pt : Nat → Nat) (s : mS) : Prop := ∀ k, k < 640 → gA s 31 k = nI 0 ∨ ∃ key, key ≤ 999 ∧ gA s 31 k = nI (key + 1) ∧ gA s 30 k = nI (ordN A pt key (k % 10))
theorem XO_fr {A : pL} {pt : Nat → Nat} {l : List Nat} {s s' : mS} (hF : Fr l s s') (h1 : 30 ∉ l) (h2 : 31 ∉ l) (h : XO A pt s) : XO A pt s' := by
  intro k hk
  rw [hF.A _ _ h1, hF.A _ _ h2]; exact h k hk
theorem GV_mono {s : mS} {g : Nat → Int} {al al' : Nat → Bool} (h : GV s g al) (hm : ∀ w, al' w = true → al w = true) : GV s g al' := fun w hw h2 => h w hw (hm w h2)
section ROUNDS
variable {N o d p : Nat} {A : pL} {H : hL} {s : mS}
theorem worthP {w : Nat} {al : Nat → Bool} {g : Nat → Int} {b : Bool} (hC : XC A w s) (hck : ckL al (pC A w) [] = some [b]) (hgb : GB al g nog nog) (hGV : GV s g al) (h9 : al 9 = false) (h10 : al 10 = false) (hN : 2000 ≤ N) :
    ∃ s', f_Su_worth N 5 (gA s 7 w) (gA s 8 w) s = some (zi (ev g nog nog (pC A w)), s') ∧ Fr [28] s s' := by
  obtain ⟨fr, sz, h1, h2, h3, h4, h5, h6⟩ := hC
  rw [h4, h5]
  exact worth_n (Or.inl rfl) h1 h2 h3 h6 hck hgb hGV (fun s' _ => ⟨fun c => (by rw [h9] at c; cases c), fun c => (by rw [h10] at c; cases c)⟩) hN
theorem tv_ne {t : Bool} {v : Int} (h : TyV t v) : (zi v = nI 0) = (v = 0) := by
  have := zi_tv h
  rw [show nI 0 = zi 0 from rfl, zi_eq (by omega)]
theorem order_j {key : Nat} (ho : HO o) (hA : WA A) (hB : HB A H) (hP : XP A s) (hR : HR o H s) (hO : XO A (ptH H) s) (hp : p < pP A) (hk : key ≤ 999) (hke : ordN A (ptH H) key p = ordN A (ptH H) (H.1 0) p) (hN : 2000 ≤ N) :
    ∃ s', f_Ro_orderOf_j34 N (o, nI p, nI key, s) = some (nI (ordS A H p), s') ∧ Fr [26, 28, 30, 31] s s' ∧ XO A (ptH H) s' := by
  have hp10 : p < 10 := Nat.lt_of_lt_of_le hp hA.2.1
  have hD := hA.1
  have ok : o + 1 ∉ [26, 28] := by rcases ho with rfl | rfl | rfl <;> decide
  have hck := hA.2.2.2.2.2.1 p hp
  have hm : (key % 64 * 10 + p) % 10 = p := by omega
  have hs : key % 64 * 10 + p < 640 := by omega
  have hol : ordN A (ptH H) (H.1 0) p < 16777216 := Nat.lt_of_lt_of_le (ordN_lt _ _ _ _) (pw_le hD)
  by_cases c : gA s 31 (key % 64 * 10 + p) = nI (key + 1)
  · refine ⟨s, ?_, Fr_r _ _, hO⟩
    rcases hO _ hs with h0 | ⟨key', hk', h1, h2⟩
    · rw [h0, cn_eq (by omega)] at c; omega
    · rw [h1, cn_eq (by omega)] at c
      have : key' = key := by omega
      subst this
      rw [hm, hke] at h2
      simp (disch := first | omega | decide) only [f_Ro_orderOf_j34, zI_0, zI_1, zI_2, zI_3, zI_4, zI_5, zI_6, zI_7, zI_8, zI_9, zI_10, zI_11, zI_12, zI_13, zI_14, zI_15, zI_16, zI_17, zI_18, zI_19, zI_20, zI_21, zI_22, zI_23, zI_24, zI_25, zI_26, zI_27, zI_28, zI_29, zI_30, zI_31, zI_32, zI_33, zI_34, zI_35, zI_36, zI_37, zI_38, zI_39, zI_40, zI_41, zI_42, zI_43, zI_44, zI_45, zI_46, zI_47, zI_48, zI_49, zI_50, zI_51, zI_52, zI_53, zI_54, zI_55, zI_56, zI_57, zI_58, zI_59, zI_60, zI_61, zI_62, zI_63, zI_64, zI_65, zI_66, zI_67, zI_74, zI_84, zI_85, zI_88, zI_91, zI_93, zI_97, zI_99, zI_100, zI_102, zI_105, zI_117, zI_122, zI_193, zI_202, zI_205, zI_251, zI_255, zI_256, zI_257, zI_258, zI_259, zI_260, zI_640, zI_999, zI_1000, zI_1024, zI_1600, zI_1602, zI_1700, zI_2040, zI_3200, zI_4100, zI_9728, zI_11784, zI_61440, zI_65536, zI_470536, zI_999999, zI_1000000, lt_T, lt_F, le_T, le_F, eq_T, eq_F, neg_1, cn_m1p, cn_m11, nI_add, cn_sub, pk_mul, cn_div, cn_irm, cn_lt, cn_eq, cn_ltm1, cn_m1lt, cn_eqm1, cn_m1eq, cn_ix, cn_inb, cn_ninb, cn_irs, cn_ils, cn_and, cn_or, cn_xor, grd_t, grd_bt, grd_bl, Nat.add_zero, Nat.zero_add, Nat.reduceAdd, Nat.reduceSub, Nat.reduceMul, Nat.reduceLT, Nat.reduceEqDiff, eq_self, true_and, and_true, and_false, false_and, if_true, if_false, and_self, Bool.true_eq_false, Bool.false_eq_true, h1, h2]
      rfl
  · have hl : Ok (mfix N (f_Ro_orderOf_L76 N) (o, nI p, nI key, nI (key % 64 * 10 + p), nI 0, nI 0, s)) (fun r => r.1 = nI (ordS A H p) ∧ Fr [26, 28, 30, 31] s r.2 ∧ XO A (ptH H) r.2) := by
      refine mfix_up (fun i x => ∃ s1, x = (o, nI p, nI key, nI (key % 64 * 10 + p), nI (itN (oStep A (ptH H) (H.1 0) p) i 0), nI i, s1) ∧ Fr [26, 28] s s1) (pD A) ?_ ?_ N 0 _ ⟨s, rfl, Fr_r _ _⟩ (Nat.zero_le _) (by omega)
      · rintro i k x hi ⟨s1, rfl, hF⟩ hk2
        have hP1 := XP_fr hF (by decide) hP
        obtain ⟨s2, e2, F2, G2⟩ := standAt_n (N := N) 0 ho hA hB (HR_fr hF ok hR) (show i < 24 by omega)
        have hP2 := XP_fr F2 (by decide) hP1
        obtain ⟨s3, e3, F3⟩ := worthP (N := N) (hP2.2.2.2.2.1 p hp) hck (gv_ty hA hB (show i < 24 by omega) (by omega) _) (GV_mono G2 fun w hw => by have := of_decide_eq_true hw; exact decide_eq_true (by omega)) rfl rfl hN
        have hne := tv_ne (ev_ty (gv_ty (p := 0) hA hB (show i < 24 by omega) (by omega) alT) hck).1
        rw [ev_T hck (show i < 24 by omega)] at e3 hne
        have Fn : Fr [26, 28] s s3 := Fr_t hF (Fr_t (Fr_w F2 (by decide)) (Fr_w F3 (by decide)))
        by_cases c2 : ev (gT (H.1 0) (ptH H) i) nog nog (pC A p) = 0
        · simp (disch := first | omega | decide) only [f_Ro_orderOf_L76, hP1.1, hP1.2.2.1, e2, e3, zI_0, zI_1, zI_2, zI_3, zI_4, zI_5, zI_6, zI_7, zI_8, zI_9, zI_10, zI_11, zI_12, zI_13, zI_14, zI_15, zI_16, zI_17, zI_18, zI_19, zI_20, zI_21, zI_22, zI_23, zI_24, zI_25, zI_26, zI_27, zI_28, zI_29, zI_30, zI_31, zI_32, zI_33, zI_34, zI_35, zI_36, zI_37, zI_38, zI_39, zI_40, zI_41, zI_42, zI_43, zI_44, zI_45, zI_46, zI_47, zI_48, zI_49, zI_50, zI_51, zI_52, zI_53, zI_54, zI_55, zI_56, zI_57, zI_58, zI_59, zI_60, zI_61, zI_62, zI_63, zI_64, zI_65, zI_66, zI_67, zI_74, zI_84, zI_85, zI_88, zI_91, zI_93, zI_97, zI_99, zI_100, zI_102, zI_105, zI_117, zI_122, zI_193, zI_202, zI_205, zI_251, zI_255, zI_256, zI_257, zI_258, zI_259, zI_260, zI_640, zI_999, zI_1000, zI_1024, zI_1600, zI_1602, zI_1700, zI_2040, zI_3200, zI_4100, zI_9728, zI_11784, zI_61440, zI_65536, zI_470536, zI_999999, zI_1000000, lt_T, lt_F, le_T, le_F, eq_T, eq_F, neg_1, cn_m1p, cn_m11, nI_add, cn_sub, pk_mul, cn_div, cn_irm, cn_lt, cn_eq, cn_ltm1, cn_m1lt, cn_eqm1, cn_m1eq, cn_ix, cn_inb, cn_ninb, cn_irs, cn_ils, cn_and, cn_or, cn_xor, grd_t, grd_bt, grd_bl, Nat.add_zero, Nat.zero_add, Nat.reduceAdd, Nat.reduceSub, Nat.reduceMul, Nat.reduceLT, Nat.reduceEqDiff, eq_self, true_and, and_true, and_false, false_and, if_true, if_false, and_self, Bool.true_eq_false, Bool.false_eq_true, Option.bind_some, hne, c2]
          exact hk2 _ ⟨s3, by rw [itN_s, oStep, if_neg (fun h => h c2)], Fn⟩
        · simp (disch := first | omega | decide) only [f_Ro_orderOf_L76, hP1.1, hP1.2.2.1, e2, e3, zI_0, zI_1, zI_2, zI_3, zI_4, zI_5, zI_6, zI_7, zI_8, zI_9, zI_10, zI_11, zI_12, zI_13, zI_14, zI_15, zI_16, zI_17, zI_18, zI_19, zI_20, zI_21, zI_22, zI_23, zI_24, zI_25, zI_26, zI_27, zI_28, zI_29, zI_30, zI_31, zI_32, zI_33, zI_34, zI_35, zI_36, zI_37, zI_38, zI_39, zI_40, zI_41, zI_42, zI_43, zI_44, zI_45, zI_46, zI_47, zI_48, zI_49, zI_50, zI_51, zI_52, zI_53, zI_54, zI_55, zI_56, zI_57, zI_58, zI_59, zI_60, zI_61, zI_62, zI_63, zI_64, zI_65, zI_66, zI_67, zI_74, zI_84, zI_85, zI_88, zI_91, zI_93, zI_97, zI_99, zI_100, zI_102, zI_105, zI_117, zI_122, zI_193, zI_202, zI_205, zI_251, zI_255, zI_256, zI_257, zI_258, zI_259, zI_260, zI_640, zI_999, zI_1000, zI_1024, zI_1600, zI_1602, zI_1700, zI_2040, zI_3200, zI_4100, zI_9728, zI_11784, zI_61440, zI_65536, zI_470536, zI_999999, zI_1000000, lt_T, lt_F, le_T, le_F, eq_T, eq_F, neg_1, cn_m1p, cn_m11, nI_add, cn_sub, pk_mul, cn_div, cn_irm, cn_lt, cn_eq, cn_ltm1, cn_m1lt, cn_eqm1, cn_m1eq, cn_ix, cn_inb, cn_ninb, cn_irs, cn_ils, cn_and, cn_or, cn_xor, grd_t, grd_bt, grd_bl, Nat.add_zero, Nat.zero_add, Nat.reduceAdd, Nat.reduceSub, Nat.reduceMul, Nat.reduceLT, Nat.reduceEqDiff, eq_self, true_and, and_true, and_false, false_and, if_true, if_false, and_self, Bool.true_eq_false, Bool.false_eq_true, Option.bind_some, hne, c2, cn_ils]
          exact hk2 _ ⟨s3, by rw [itN_s, oStep, if_pos c2], Fn⟩
      · rintro k x ⟨s1, rfl, hF⟩
        have hP1 := XP_fr hF (by decide) hP
        simp (disch := first | omega | decide) only [f_Ro_orderOf_L76, hP1.1, zI_0, zI_1, zI_2, zI_3, zI_4, zI_5, zI_6, zI_7, zI_8, zI_9, zI_10, zI_11, zI_12, zI_13, zI_14, zI_15, zI_16, zI_17, zI_18, zI_19, zI_20, zI_21, zI_22, zI_23, zI_24, zI_25, zI_26, zI_27, zI_28, zI_29, zI_30, zI_31, zI_32, zI_33, zI_34, zI_35, zI_36, zI_37, zI_38, zI_39, zI_40, zI_41, zI_42, zI_43, zI_44, zI_45, zI_46, zI_47, zI_48, zI_49, zI_50, zI_51, zI_52, zI_53, zI_54, zI_55, zI_56, zI_57, zI_58, zI_59, zI_60, zI_61, zI_62, zI_63, zI_64, zI_65, zI_66, zI_67, zI_74, zI_84, zI_85, zI_88, zI_91, zI_93, zI_97, zI_99, zI_100, zI_102, zI_105, zI_117, zI_122, zI_193, zI_202, zI_205, zI_251, zI_255, zI_256, zI_257, zI_258, zI_259, zI_260, zI_640, zI_999, zI_1000, zI_1024, zI_1600, zI_1602, zI_1700, zI_2040, zI_3200, zI_4100, zI_9728, zI_11784, zI_61440, zI_65536, zI_470536, zI_999999, zI_1000000, lt_T, lt_F, le_T, le_F, eq_T, eq_F, neg_1, cn_m1p, cn_m11, nI_add, cn_sub, pk_mul, cn_div, cn_irm, cn_lt, cn_eq, cn_ltm1, cn_m1lt, cn_eqm1, cn_m1eq, cn_ix, cn_inb, cn_ninb, cn_irs, cn_ils, cn_and, cn_or, cn_xor, grd_t, grd_bt, grd_bl, Nat.add_zero, Nat.zero_add, Nat.reduceAdd, Nat.reduceSub, Nat.reduceMul, Nat.reduceLT, Nat.reduceEqDiff, eq_self, true_and, and_true, and_false, false_and, if_true, if_false, and_self, Bool.true_eq_false, Bool.false_eq_true]
        refine Ok_some ⟨rfl, Fr_t (Fr_w hF (by decide)) (Fr_t (Fr_sA _ _ _ (by decide)) (Fr_sA _ _ _ (by decide))), fun k2 h2 => ?_⟩
        by_cases c3 : k2 = key % 64 * 10 + p
        · subst c3
          refine Or.inr ⟨key, hk, gA_eq rfl, ?_⟩
          rw [gA_ne (by omega), gA_eq rfl, hm, hke]; rfl
        · rw [gA_ne (by omega), gA_ne (by omega), gA_ne (by omega), gA_ne (by omega), hF.A _ _ (by decide), hF.A _ _ (by decide)]
          exact hO k2 h2
    obtain ⟨x, h1, h2, h3, h4⟩ := hl
    refine ⟨x.2, ?_, h3, h4⟩
    simp (disch := first | omega | decide) only [f_Ro_orderOf_j34, zI_0, zI_1, zI_2, zI_3, zI_4, zI_5, zI_6, zI_7, zI_8, zI_9, zI_10, zI_11, zI_12, zI_13, zI_14, zI_15, zI_16, zI_17, zI_18, zI_19, zI_20, zI_21, zI_22, zI_23, zI_24, zI_25, zI_26, zI_27, zI_28, zI_29, zI_30, zI_31, zI_32, zI_33, zI_34, zI_35, zI_36, zI_37, zI_38, zI_39, zI_40, zI_41, zI_42, zI_43, zI_44, zI_45, zI_46, zI_47, zI_48, zI_49, zI_50, zI_51, zI_52, zI_53, zI_54, zI_55, zI_56, zI_57, zI_58, zI_59, zI_60, zI_61, zI_62, zI_63, zI_64, zI_65, zI_66, zI_67, zI_74, zI_84, zI_85, zI_88, zI_91, zI_93, zI_97, zI_99, zI_100, zI_102, zI_105, zI_117, zI_122, zI_193, zI_202, zI_205, zI_251, zI_255, zI_256, zI_257, zI_258, zI_259, zI_260, zI_640, zI_999, zI_1000, zI_1024, zI_1600, zI_1602, zI_1700, zI_2040, zI_3200, zI_4100, zI_9728, zI_11784, zI_61440, zI_65536, zI_470536, zI_999999, zI_1000000, lt_T, lt_F, le_T, le_F, eq_T, eq_F, neg_1, cn_m1p, cn_m11, nI_add, cn_sub, pk_mul, cn_div, cn_irm, cn_lt, cn_eq, cn_ltm1, cn_m1lt, cn_eqm1, cn_m1eq, cn_ix, cn_inb, cn_ninb, cn_irs, cn_ils, cn_and, cn_or, cn_xor, grd_t, grd_bt, grd_bl, Nat.add_zero, Nat.zero_add, Nat.reduceAdd, Nat.reduceSub, Nat.reduceMul, Nat.reduceLT, Nat.reduceEqDiff, eq_self, true_and, and_true, and_false, false_and, if_true, if_false, and_self, Bool.true_eq_false, Bool.false_eq_true, c]
    rw [h1, ← h2]
theorem orderOf_n (ho : HO o) (hA : WA A) (hB : HB A H) (hP : XP A s) (hR : HR o H s) (hO : XO A (ptH H) s) (hp : p < pP A) (hN : 2000 ≤ N) :
    ∃ s', f_Ro_orderOf N o (nI p) s = some (nI (ordS A H p), s') ∧ Fr [26, 28, 30, 31] s s' ∧ XO A (ptH H) s' := by
  obtain ⟨o1, o2⟩ := ho_ok ho
  obtain ⟨bn, hb1, hb2, hb3⟩ := hP.2.2.2.2.2.2
  have hp10 : p < 10 := Nat.lt_of_lt_of_le hp hA.2.1
  have hbp := hb3 p hp
  have h0 := hB.1
  have r0 := hR.1 0 (by omega)
  have hbit := bit_ne bn p
  by_cases c : bn.testBit p = false
  · obtain ⟨s', e, F, X⟩ := order_j (N := N) (key := 0) ho hA hB hP hR hO hp (by omega) (ordN_night (hA.2.2.2.2.2.1 p hp) (by rw [← hbp]; exact c)) hN
    refine ⟨s', ?_, F, X⟩
    simp (disch := first | omega | decide) only [f_Ro_orderOf, f_Ro_orderOf_j19, hb1, zI_0, zI_1, zI_2, zI_3, zI_4, zI_5, zI_6, zI_7, zI_8, zI_9, zI_10, zI_11, zI_12, zI_13, zI_14, zI_15, zI_16, zI_17, zI_18, zI_19, zI_20, zI_21, zI_22, zI_23, zI_24, zI_25, zI_26, zI_27, zI_28, zI_29, zI_30, zI_31, zI_32, zI_33, zI_34, zI_35, zI_36, zI_37, zI_38, zI_39, zI_40, zI_41, zI_42, zI_43, zI_44, zI_45, zI_46, zI_47, zI_48, zI_49, zI_50, zI_51, zI_52, zI_53, zI_54, zI_55, zI_56, zI_57, zI_58, zI_59, zI_60, zI_61, zI_62, zI_63, zI_64, zI_65, zI_66, zI_67, zI_74, zI_84, zI_85, zI_88, zI_91, zI_93, zI_97, zI_99, zI_100, zI_102, zI_105, zI_117, zI_122, zI_193, zI_202, zI_205, zI_251, zI_255, zI_256, zI_257, zI_258, zI_259, zI_260, zI_640, zI_999, zI_1000, zI_1024, zI_1600, zI_1602, zI_1700, zI_2040, zI_3200, zI_4100, zI_9728, zI_11784, zI_61440, zI_65536, zI_470536, zI_999999, zI_1000000, lt_T, lt_F, le_T, le_F, eq_T, eq_F, neg_1, cn_m1p, cn_m11, nI_add, cn_sub, pk_mul, cn_div, cn_irm, cn_lt, cn_eq, cn_ltm1, cn_m1lt, cn_eqm1, cn_m1eq, cn_ix, cn_inb, cn_ninb, cn_irs, cn_ils, cn_and, cn_or, cn_xor, grd_t, grd_bt, grd_bl, Nat.add_zero, Nat.zero_add, Nat.reduceAdd, Nat.reduceSub, Nat.reduceMul, Nat.reduceLT, Nat.reduceEqDiff, eq_self, true_and, and_true, and_false, false_and, if_true, if_false, and_self, Bool.true_eq_false, Bool.false_eq_true, hbit, c, e]
  · obtain ⟨s', e, F, X⟩ := order_j (N := N) (key := H.1 0) ho hA hB hP hR hO hp (by omega) rfl hN
    refine ⟨s', ?_, F, X⟩
    simp (disch := first | omega | decide) only [f_Ro_orderOf, f_Ro_orderOf_j19, hb1, zI_0, zI_1, zI_2, zI_3, zI_4, zI_5, zI_6, zI_7, zI_8, zI_9, zI_10, zI_11, zI_12, zI_13, zI_14, zI_15, zI_16, zI_17, zI_18, zI_19, zI_20, zI_21, zI_22, zI_23, zI_24, zI_25, zI_26, zI_27, zI_28, zI_29, zI_30, zI_31, zI_32, zI_33, zI_34, zI_35, zI_36, zI_37, zI_38, zI_39, zI_40, zI_41, zI_42, zI_43, zI_44, zI_45, zI_46, zI_47, zI_48, zI_49, zI_50, zI_51, zI_52, zI_53, zI_54, zI_55, zI_56, zI_57, zI_58, zI_59, zI_60, zI_61, zI_62, zI_63, zI_64, zI_65, zI_66, zI_67, zI_74, zI_84, zI_85, zI_88, zI_91, zI_93, zI_97, zI_99, zI_100, zI_102, zI_105, zI_117, zI_122, zI_193, zI_202, zI_205, zI_251, zI_255, zI_256, zI_257, zI_258, zI_259, zI_260, zI_640, zI_999, zI_1000, zI_1024, zI_1600, zI_1602, zI_1700, zI_2040, zI_3200, zI_4100, zI_9728, zI_11784, zI_61440, zI_65536, zI_470536, zI_999999, zI_1000000, lt_T, lt_F, le_T, le_F, eq_T, eq_F, neg_1, cn_m1p, cn_m11, nI_add, cn_sub, pk_mul, cn_div, cn_irm, cn_lt, cn_eq, cn_ltm1, cn_m1lt, cn_eqm1, cn_m1eq, cn_ix, cn_inb, cn_ninb, cn_irs, cn_ils, cn_and, cn_or, cn_xor, grd_t, grd_bt, grd_bl, Nat.add_zero, Nat.zero_add, Nat.reduceAdd, Nat.reduceSub, Nat.reduceMul, Nat.reduceLT, Nat.reduceEqDiff, eq_self, true_and, and_true, and_false, false_and, if_true, if_false, and_self, Bool.true_eq_false, Bool.false_eq_true, hbit, c, o1, o2, r0, e]
theorem isWilling_n (ho : HO o) (hA : WA A) (hB : HB A H) (hP : XP A s) (hR : HR o H s) (hp : p < pP A) (hN : 2000 ≤ N) :
    ∃ s', f_Ro_isWilling N o (nI p) s = some (nI (if willS A H p then 1 else 0), s') ∧ Fr [26, 28] s s' := by
  have hp10 : p < 10 := Nat.lt_of_lt_of_le hp hA.2.1
  have hD0 : 0 < pD A := by
    by_cases c : pD A = 0
    · have := hA.2.2.2.2.1 c; omega
    · omega
  obtain ⟨s2, e2, F2, G2⟩ := standWith_n (N := N) ho hA hB hR hp10
  have hP2 := XP_fr F2 (by decide) hP
  have hck := (hA.2.2.2.2.2.2.1 hD0).1
  obtain ⟨s3, e3, F3⟩ := worthP (N := N) (hP2.2.2.2.2.2.1 hD0).1 hck (gv_ty hA hB (show 0 < 24 by omega) hp10 _) G2 (by decide) (by decide) hN
  have hne := tv_ne (ev_ty (gv_ty hA hB (show 0 < 24 by omega) hp10 alW) hck).1
  refine ⟨s3, ?_, Fr_t (Fr_w F2 (by decide)) (Fr_w F3 (by decide))⟩
  unfold willS
  by_cases c : ev (gv A H 0 p) nog nog (pC A 10) = 0
  · rw [decide_eq_false (fun h => h c)]
    have hz := hne.trans (eq_true c)
    simp (disch := first | omega | decide) only [f_Ro_isWilling, e2, e3, zI_0, zI_1, zI_2, zI_3, zI_4, zI_5, zI_6, zI_7, zI_8, zI_9, zI_10, zI_11, zI_12, zI_13, zI_14, zI_15, zI_16, zI_17, zI_18, zI_19, zI_20, zI_21, zI_22, zI_23, zI_24, zI_25, zI_26, zI_27, zI_28, zI_29, zI_30, zI_31, zI_32, zI_33, zI_34, zI_35, zI_36, zI_37, zI_38, zI_39, zI_40, zI_41, zI_42, zI_43, zI_44, zI_45, zI_46, zI_47, zI_48, zI_49, zI_50, zI_51, zI_52, zI_53, zI_54, zI_55, zI_56, zI_57, zI_58, zI_59, zI_60, zI_61, zI_62, zI_63, zI_64, zI_65, zI_66, zI_67, zI_74, zI_84, zI_85, zI_88, zI_91, zI_93, zI_97, zI_99, zI_100, zI_102, zI_105, zI_117, zI_122, zI_193, zI_202, zI_205, zI_251, zI_255, zI_256, zI_257, zI_258, zI_259, zI_260, zI_640, zI_999, zI_1000, zI_1024, zI_1600, zI_1602, zI_1700, zI_2040, zI_3200, zI_4100, zI_9728, zI_11784, zI_61440, zI_65536, zI_470536, zI_999999, zI_1000000, lt_T, lt_F, le_T, le_F, eq_T, eq_F, neg_1, cn_m1p, cn_m11, nI_add, cn_sub, pk_mul, cn_div, cn_irm, cn_lt, cn_eq, cn_ltm1, cn_m1lt, cn_eqm1, cn_m1eq, cn_ix, cn_inb, cn_ninb, cn_irs, cn_ils, cn_and, cn_or, cn_xor, grd_t, grd_bt, grd_bl, Nat.add_zero, Nat.zero_add, Nat.reduceAdd, Nat.reduceSub, Nat.reduceMul, Nat.reduceLT, Nat.reduceEqDiff, eq_self, true_and, and_true, and_false, false_and, if_true, if_false, and_self, Bool.true_eq_false, Bool.false_eq_true, Option.bind_some, hz]
  · rw [decide_eq_true c]
    have hz := hne.trans (eq_false c)
    simp (disch := first | omega | decide) only [f_Ro_isWilling, e2, e3, zI_0, zI_1, zI_2, zI_3, zI_4, zI_5, zI_6, zI_7, zI_8, zI_9, zI_10, zI_11, zI_12, zI_13, zI_14, zI_15, zI_16, zI_17, zI_18, zI_19, zI_20, zI_21, zI_22, zI_23, zI_24, zI_25, zI_26, zI_27, zI_28, zI_29, zI_30, zI_31, zI_32, zI_33, zI_34, zI_35, zI_36, zI_37, zI_38, zI_39, zI_40, zI_41, zI_42, zI_43, zI_44, zI_45, zI_46, zI_47, zI_48, zI_49, zI_50, zI_51, zI_52, zI_53, zI_54, zI_55, zI_56, zI_57, zI_58, zI_59, zI_60, zI_61, zI_62, zI_63, zI_64, zI_65, zI_66, zI_67, zI_74, zI_84, zI_85, zI_88, zI_91, zI_93, zI_97, zI_99, zI_100, zI_102, zI_105, zI_117, zI_122, zI_193, zI_202, zI_205, zI_251, zI_255, zI_256, zI_257, zI_258, zI_259, zI_260, zI_640, zI_999, zI_1000, zI_1024, zI_1600, zI_1602, zI_1700, zI_2040, zI_3200, zI_4100, zI_9728, zI_11784, zI_61440, zI_65536, zI_470536, zI_999999, zI_1000000, lt_T, lt_F, le_T, le_F, eq_T, eq_F, neg_1, cn_m1p, cn_m11, nI_add, cn_sub, pk_mul, cn_div, cn_irm, cn_lt, cn_eq, cn_ltm1, cn_m1lt, cn_eqm1, cn_m1eq, cn_ix, cn_inb, cn_ninb, cn_irs, cn_ils, cn_and, cn_or, cn_xor, grd_t, grd_bt, grd_bl, Nat.add_zero, Nat.zero_add, Nat.reduceAdd, Nat.reduceSub, Nat.reduceMul, Nat.reduceLT, Nat.reduceEqDiff, eq_self, true_and, and_true, and_false, false_and, if_true, if_false, and_self, Bool.true_eq_false, Bool.false_eq_true, Option.bind_some, hz]
end ROUNDS
/-! walks and nights -/
theorem HB_set {A : pL} {H : hL} {i v : Nat} (h : HB A H) (hv : (i = 0 ∧ v ≤ 999) ∨ (i = 1 ∧ v ≤ 999999) ∨ (i = 2 ∧ v < 2 ^ pD A) ∨ (4 ≤ i ∧ i < 28 ∧ v ≤ 99) ∨ (28 ≤ i ∧ i < 52 ∧ v ≤ 9) ∨ (52 ≤ i ∧ v ≤ 99)) : HB A (hset H i v) := by
  obtain ⟨h0, h1, h2, h3, h4, h5, h6, h7⟩ := h
  have g : ∀ j, (hset H i v).1 j = if j = i then v else H.1 j := fun j => rfl
  refine ⟨?_, ?_, ?_, ?_, fun d hd => ?_, fun d hd => ?_, fun p hp => ?_, fun j hj => ?_⟩
  · rw [g]; split <;> omega
  · rw [g]; split <;> omega
  · rw [g]; split
    · rcases hv with h | h | h | h | h | h
      · omega
      · omega
      · exact h.2
      · omega
      · omega
      · omega
    · exact h2
  · rw [g]; split <;> omega
  · have := h4 d hd
    rw [g]; split <;> omega
  · have := h5 d hd
    rw [g]; split <;> omega
  · have := h6 p hp
    rw [g]; split <;> omega
  · rw [g, if_neg (by omega)] at hj
    exact h7 j hj
theorem HB_sw {A : pL} {H : hL} {d : Nat} (hA : WA A) (h : HB A H) (hd : d < pD A) : HB A (swS H d) := by
  have hD := hA.1
  have h4 := h.2.2.2.2.1 d (by omega)
  unfold swS
  refine HB_set (HB_set h (Or.inr (Or.inr (Or.inl ⟨rfl, ?_⟩)))) (Or.inr (Or.inr (Or.inr (Or.inl ⟨by omega, by omega, by omega⟩))))
  refine Nat.xor_lt_two_pow h.2.2.1 ?_
  rw [Nat.shiftLeft_eq, Nat.one_mul]; exact Nat.pow_lt_pow_right (by omega) hd
theorem HB_kp {A : pL} {H : hL} {p t : Nat} (h : HB A H) (hw : H.1 3 < 20000) (hp : p ≤ 9) (ht : t ≤ 24) : HB A (kpS H p t) := by
  obtain ⟨h0, h1, h2, h3, h4, h5, h6, h7⟩ := h
  have g : ∀ j, (kpS H p t).1 j = if j = 3 then H.1 3 + 1 else H.1 j := fun j => rfl
  refine ⟨?_, ?_, ?_, ?_, fun d hd => ?_, fun d hd => ?_, fun p hp => ?_, fun j hj => ?_⟩
  · rw [g, if_neg (by omega)]; exact h0
  · rw [g, if_neg (by omega)]; exact h1
  · rw [g, if_neg (by omega)]; exact h2
  · rw [g, if_pos rfl]; omega
  · rw [g, if_neg (by omega)]; exact h4 d hd
  · rw [g, if_neg (by omega)]; exact h5 d hd
  · rw [g, if_neg (by omega)]; exact h6 p hp
  · rw [g, if_pos rfl] at hj
    show (fU H.2 (H.1 3) (H.1 0, p, t) j).1 ≤ 999 ∧ _
    by_cases e : j = H.1 3
    · rw [show (kpS H p t).2 j = (H.1 0, p, t) from fU_e e, fU_e e]; exact ⟨h0, hp, ht⟩
    · rw [show (kpS H p t).2 j = H.2 j from fU_n e, fU_n e]; exact h7 j (by omega)
section NIGHTS
variable {N o d p : Nat} {A : pL} {H : hL} {s : mS}
theorem swing_n (ho : HO o) (hA : WA A) (hB : HB A H) (hR : HR o H s) (hd : d < pD A) :
    ∃ s', f_Ha_swing N o (nI d) (nI (pS A)) s = some (zi (b01 (!jm A H d)), s') ∧ HR o (if jm A H d then H else swS H d) s' ∧ Fr [o + 1] s s' := by
  obtain ⟨o1, o2⟩ := ho_ok ho
  have hD := hA.1
  have e1 := isJammed_n (N := N) ho hA hB hR (show d < 24 by omega)
  cases c : jm A H d
  · rw [c] at e1
    have r2 := hR.1 2 (by omega)
    have r4 := hR.1 (4 + d) (by omega)
    have h2 := HB_op hA hB
    have h4 := hB.2.2.2.2.1 d (by omega)
    refine ⟨sA (sA s (o + 1) 2 (nI (H.1 2 ^^^ 1 <<< d))) (o + 1) (4 + d) (nI (min 99 (H.1 (4 + d) + 1))), ?_, ?_, Fr_t (Fr_sA (o + 1) _ _ (by simp)) (Fr_sA (o + 1) _ _ (by simp))⟩
    · simp (disch := first | omega | decide) only [f_Ha_swing, o1, o2, e1, b01, zI_0, zI_1, zI_2, zI_3, zI_4, zI_5, zI_6, zI_7, zI_8, zI_9, zI_10, zI_11, zI_12, zI_13, zI_14, zI_15, zI_16, zI_17, zI_18, zI_19, zI_20, zI_21, zI_22, zI_23, zI_24, zI_25, zI_26, zI_27, zI_28, zI_29, zI_30, zI_31, zI_32, zI_33, zI_34, zI_35, zI_36, zI_37, zI_38, zI_39, zI_40, zI_41, zI_42, zI_43, zI_44, zI_45, zI_46, zI_47, zI_48, zI_49, zI_50, zI_51, zI_52, zI_53, zI_54, zI_55, zI_56, zI_57, zI_58, zI_59, zI_60, zI_61, zI_62, zI_63, zI_64, zI_65, zI_66, zI_67, zI_74, zI_84, zI_85, zI_88, zI_91, zI_93, zI_97, zI_99, zI_100, zI_102, zI_105, zI_117, zI_122, zI_193, zI_202, zI_205, zI_251, zI_255, zI_256, zI_257, zI_258, zI_259, zI_260, zI_640, zI_999, zI_1000, zI_1024, zI_1600, zI_1602, zI_1700, zI_2040, zI_3200, zI_4100, zI_9728, zI_11784, zI_61440, zI_65536, zI_470536, zI_999999, zI_1000000, lt_T, lt_F, le_T, le_F, eq_T, eq_F, neg_1, cn_m1p, cn_m11, nI_add, cn_sub, pk_mul, cn_div, cn_irm, cn_lt, cn_eq, cn_ltm1, cn_m1lt, cn_eqm1, cn_m1eq, cn_ix, cn_inb, cn_ninb, cn_irs, cn_ils, cn_and, cn_or, cn_xor, grd_t, grd_bt, grd_bl, Nat.add_zero, Nat.zero_add, Nat.reduceAdd, Nat.reduceSub, Nat.reduceMul, Nat.reduceLT, Nat.reduceEqDiff, eq_self, true_and, and_true, and_false, false_and, if_true, if_false, and_self, Bool.true_eq_false, Bool.false_eq_true, Option.bind_some, r2, r4, gA_eq, gA_ne, show zi 0 = nI 0 from rfl, min_n, Bool.not_false]
      rfl
    · exact HR_set (HR_set hR (by omega) (by omega) rfl rfl) (by omega) (by omega) rfl rfl
  · rw [c] at e1
    refine ⟨s, ?_, hR, Fr_r _ _⟩
    simp (disch := first | omega | decide) only [f_Ha_swing, o1, o2, e1, b01, zI_0, zI_1, zI_2, zI_3, zI_4, zI_5, zI_6, zI_7, zI_8, zI_9, zI_10, zI_11, zI_12, zI_13, zI_14, zI_15, zI_16, zI_17, zI_18, zI_19, zI_20, zI_21, zI_22, zI_23, zI_24, zI_25, zI_26, zI_27, zI_28, zI_29, zI_30, zI_31, zI_32, zI_33, zI_34, zI_35, zI_36, zI_37, zI_38, zI_39, zI_40, zI_41, zI_42, zI_43, zI_44, zI_45, zI_46, zI_47, zI_48, zI_49, zI_50, zI_51, zI_52, zI_53, zI_54, zI_55, zI_56, zI_57, zI_58, zI_59, zI_60, zI_61, zI_62, zI_63, zI_64, zI_65, zI_66, zI_67, zI_74, zI_84, zI_85, zI_88, zI_91, zI_93, zI_97, zI_99, zI_100, zI_102, zI_105, zI_117, zI_122, zI_193, zI_202, zI_205, zI_251, zI_255, zI_256, zI_257, zI_258, zI_259, zI_260, zI_640, zI_999, zI_1000, zI_1024, zI_1600, zI_1602, zI_1700, zI_2040, zI_3200, zI_4100, zI_9728, zI_11784, zI_61440, zI_65536, zI_470536, zI_999999, zI_1000000, lt_T, lt_F, le_T, le_F, eq_T, eq_F, neg_1, cn_m1p, cn_m11, nI_add, cn_sub, pk_mul, cn_div, cn_irm, cn_lt, cn_eq, cn_ltm1, cn_m1lt, cn_eqm1, cn_m1eq, cn_ix, cn_inb, cn_ninb, cn_irs, cn_ils, cn_and, cn_or, cn_xor, grd_t, grd_bt, grd_bl, Nat.add_zero, Nat.zero_add, Nat.reduceAdd, Nat.reduceSub, Nat.reduceMul, Nat.reduceLT, Nat.reduceEqDiff, eq_self, true_and, and_true, and_false, false_and, if_true, if_false, and_self, Bool.true_eq_false, Bool.false_eq_true, Option.bind_some, show zi 1 = nI 1 from rfl, Bool.not_true]
    rfl
theorem walk_n (ho : HO o) (hA : WA A) (hB : HB A H) (hP : XP A s) (hR : HR o H s) (hO : XO A (ptH H) s) (hp : p < pP A) (hN : 2000 ≤ N) :
    ∃ s', f_Ro_walk N o (nI p) s = some (nI (walkS A p H).1, s') ∧ HR o (walkS A p H).2 s' ∧ Fr [26, 28, 30, 31, o + 1] s s' ∧ XO A (ptH H) s' ∧ HB A (walkS A p H).2 ∧ ptH (walkS A p H).2 = ptH H ∧ (walkS A p H).1 ≤ 24 ∧ (walkS A p H).2.1 0 = H.1 0 ∧ (walkS A p H).2.1 3 = H.1 3 := by
  have hD := hA.1
  have ok : o + 1 ∉ [26, 28, 30, 31] := by rcases ho with rfl | rfl | rfl <;> decide
  obtain ⟨s1, e1, F1, X1⟩ := orderOf_n (N := N) ho hA hB hP hR hO hp hN
  have hol : ordS A H p < 16777216 := Nat.lt_of_lt_of_le (ordN_lt _ _ _ _) (pw_le hD)
  have inv : ∀ i, i ≤ pD A → HB A (itN (wkS A (ordS A H p)) i (0, H)).2 ∧ ptH (itN (wkS A (ordS A H p)) i (0, H)).2 = ptH H ∧ (itN (wkS A (ordS A H p)) i (0, H)).1 ≤ i ∧ (itN (wkS A (ordS A H p)) i (0, H)).2.1 0 = H.1 0 ∧ (itN (wkS A (ordS A H p)) i (0, H)).2.1 3 = H.1 3 := by
    refine itN_invL (fun i (x : Nat × hL) => HB A x.2 ∧ ptH x.2 = ptH H ∧ x.1 ≤ i ∧ x.2.1 0 = H.1 0 ∧ x.2.1 3 = H.1 3) ⟨hB, rfl, Nat.le_refl _, rfl, rfl⟩ fun i x hi hx => ?_
    unfold wkS
    split
    · refine ⟨HB_sw hA hx.1 hi, (pt_sw (by omega)).trans hx.2.1, Nat.succ_le_succ hx.2.2.1, ?_, ?_⟩
      · rw [sw_n (by omega)]; exact hx.2.2.2.1
      · rw [sw_n (by omega)]; exact hx.2.2.2.2
    · exact ⟨hx.1, hx.2.1, by omega, hx.2.2.2⟩
  have hl : Ok (mfix N (f_Ro_walk_L13 N) (o, nI (ordS A H p), nI 0, nI 0, s1)) (fun r => r.1 = nI (walkS A p H).1 ∧ HR o (walkS A p H).2 r.2 ∧ Fr [o + 1] s1 r.2) := by
    refine mfix_up (fun i x => ∃ s2, x = (o, nI (ordS A H p), nI (itN (wkS A (ordS A H p)) i (0, H)).1, nI i, s2) ∧ HR o (itN (wkS A (ordS A H p)) i (0, H)).2 s2 ∧ Fr [o + 1] s1 s2) (pD A) ?_ ?_ N 0 _ ⟨s1, rfl, HR_fr F1 ok hR, Fr_r _ _⟩ (Nat.zero_le _) (by omega)
    · rintro i k x hi ⟨s2, rfl, hR2, F2⟩ hk
      obtain ⟨o1, o2⟩ := ho_ok ho
      obtain ⟨hB2, hpt, hn, hz, hz3⟩ := inv i (by omega)
      have hP2 : XP A s2 := XP_fr (Fr_t (Fr_w F1 (m := [26, 28, 30, 31, o + 1]) (by intro k hk; simp at hk ⊢; omega)) (Fr_w F2 (by intro k hk; simp at hk ⊢; omega))) (by rcases ho with rfl | rfl | rfl <;> decide) hP
      have hbit := bit_ne (ordS A H p) i
      by_cases c : (ordS A H p).testBit i = false
      · simp (disch := first | omega | decide) only [f_Ro_walk_L13, hP2.1, zI_0, zI_1, zI_2, zI_3, zI_4, zI_5, zI_6, zI_7, zI_8, zI_9, zI_10, zI_11, zI_12, zI_13, zI_14, zI_15, zI_16, zI_17, zI_18, zI_19, zI_20, zI_21, zI_22, zI_23, zI_24, zI_25, zI_26, zI_27, zI_28, zI_29, zI_30, zI_31, zI_32, zI_33, zI_34, zI_35, zI_36, zI_37, zI_38, zI_39, zI_40, zI_41, zI_42, zI_43, zI_44, zI_45, zI_46, zI_47, zI_48, zI_49, zI_50, zI_51, zI_52, zI_53, zI_54, zI_55, zI_56, zI_57, zI_58, zI_59, zI_60, zI_61, zI_62, zI_63, zI_64, zI_65, zI_66, zI_67, zI_74, zI_84, zI_85, zI_88, zI_91, zI_93, zI_97, zI_99, zI_100, zI_102, zI_105, zI_117, zI_122, zI_193, zI_202, zI_205, zI_251, zI_255, zI_256, zI_257, zI_258, zI_259, zI_260, zI_640, zI_999, zI_1000, zI_1024, zI_1600, zI_1602, zI_1700, zI_2040, zI_3200, zI_4100, zI_9728, zI_11784, zI_61440, zI_65536, zI_470536, zI_999999, zI_1000000, lt_T, lt_F, le_T, le_F, eq_T, eq_F, neg_1, cn_m1p, cn_m11, nI_add, cn_sub, pk_mul, cn_div, cn_irm, cn_lt, cn_eq, cn_ltm1, cn_m1lt, cn_eqm1, cn_m1eq, cn_ix, cn_inb, cn_ninb, cn_irs, cn_ils, cn_and, cn_or, cn_xor, grd_t, grd_bt, grd_bl, Nat.add_zero, Nat.zero_add, Nat.reduceAdd, Nat.reduceSub, Nat.reduceMul, Nat.reduceLT, Nat.reduceEqDiff, eq_self, true_and, and_true, and_false, false_and, if_true, if_false, and_self, Bool.true_eq_false, Bool.false_eq_true, hbit, c]
        refine hk _ ⟨s2, ?_, ?_, F2⟩
        · rw [itN_s, wkS, if_neg (by rw [c]; simp)]
        · rw [itN_s, wkS, if_neg (by rw [c]; simp)]; exact hR2
      · obtain ⟨s3, e3, R3, F3⟩ := swing_n (N := N) ho hA hB2 hR2 hi
        have c' : (ordS A H p).testBit i = true := by cases h : (ordS A H p).testBit i; exact absurd h c; rfl
        cases hj : jm A (itN (wkS A (ordS A H p)) i (0, H)).2 i
        · rw [hj] at e3 R3
          simp (disch := first | omega | decide) only [f_Ro_walk_L13, hP2.1, hP2.2.2.1, zI_0, zI_1, zI_2, zI_3, zI_4, zI_5, zI_6, zI_7, zI_8, zI_9, zI_10, zI_11, zI_12, zI_13, zI_14, zI_15, zI_16, zI_17, zI_18, zI_19, zI_20, zI_21, zI_22, zI_23, zI_24, zI_25, zI_26, zI_27, zI_28, zI_29, zI_30, zI_31, zI_32, zI_33, zI_34, zI_35, zI_36, zI_37, zI_38, zI_39, zI_40, zI_41, zI_42, zI_43, zI_44, zI_45, zI_46, zI_47, zI_48, zI_49, zI_50, zI_51, zI_52, zI_53, zI_54, zI_55, zI_56, zI_57, zI_58, zI_59, zI_60, zI_61, zI_62, zI_63, zI_64, zI_65, zI_66, zI_67, zI_74, zI_84, zI_85, zI_88, zI_91, zI_93, zI_97, zI_99, zI_100, zI_102, zI_105, zI_117, zI_122, zI_193, zI_202, zI_205, zI_251, zI_255, zI_256, zI_257, zI_258, zI_259, zI_260, zI_640, zI_999, zI_1000, zI_1024, zI_1600, zI_1602, zI_1700, zI_2040, zI_3200, zI_4100, zI_9728, zI_11784, zI_61440, zI_65536, zI_470536, zI_999999, zI_1000000, lt_T, lt_F, le_T, le_F, eq_T, eq_F, neg_1, cn_m1p, cn_m11, nI_add, cn_sub, pk_mul, cn_div, cn_irm, cn_lt, cn_eq, cn_ltm1, cn_m1lt, cn_eqm1, cn_m1eq, cn_ix, cn_inb, cn_ninb, cn_irs, cn_ils, cn_and, cn_or, cn_xor, grd_t, grd_bt, grd_bl, Nat.add_zero, Nat.zero_add, Nat.reduceAdd, Nat.reduceSub, Nat.reduceMul, Nat.reduceLT, Nat.reduceEqDiff, eq_self, true_and, and_true, and_false, false_and, if_true, if_false, and_self, Bool.true_eq_false, Bool.false_eq_true, hbit, c', o1, e3, Option.bind_some, b01, show zi 1 = nI 1 from rfl, Bool.not_false]
          refine hk _ ⟨s3, ?_, ?_, Fr_t F2 F3⟩
          · rw [itN_s, wkS, if_pos ⟨c', hj⟩]
          · rw [itN_s, wkS, if_pos ⟨c', hj⟩]; exact R3
        · rw [hj] at e3 R3
          simp (disch := first | omega | decide) only [f_Ro_walk_L13, hP2.1, hP2.2.2.1, zI_0, zI_1, zI_2, zI_3, zI_4, zI_5, zI_6, zI_7, zI_8, zI_9, zI_10, zI_11, zI_12, zI_13, zI_14, zI_15, zI_16, zI_17, zI_18, zI_19, zI_20, zI_21, zI_22, zI_23, zI_24, zI_25, zI_26, zI_27, zI_28, zI_29, zI_30, zI_31, zI_32, zI_33, zI_34, zI_35, zI_36, zI_37, zI_38, zI_39, zI_40, zI_41, zI_42, zI_43, zI_44, zI_45, zI_46, zI_47, zI_48, zI_49, zI_50, zI_51, zI_52, zI_53, zI_54, zI_55, zI_56, zI_57, zI_58, zI_59, zI_60, zI_61, zI_62, zI_63, zI_64, zI_65, zI_66, zI_67, zI_74, zI_84, zI_85, zI_88, zI_91, zI_93, zI_97, zI_99, zI_100, zI_102, zI_105, zI_117, zI_122, zI_193, zI_202, zI_205, zI_251, zI_255, zI_256, zI_257, zI_258, zI_259, zI_260, zI_640, zI_999, zI_1000, zI_1024, zI_1600, zI_1602, zI_1700, zI_2040, zI_3200, zI_4100, zI_9728, zI_11784, zI_61440, zI_65536, zI_470536, zI_999999, zI_1000000, lt_T, lt_F, le_T, le_F, eq_T, eq_F, neg_1, cn_m1p, cn_m11, nI_add, cn_sub, pk_mul, cn_div, cn_irm, cn_lt, cn_eq, cn_ltm1, cn_m1lt, cn_eqm1, cn_m1eq, cn_ix, cn_inb, cn_ninb, cn_irs, cn_ils, cn_and, cn_or, cn_xor, grd_t, grd_bt, grd_bl, Nat.add_zero, Nat.zero_add, Nat.reduceAdd, Nat.reduceSub, Nat.reduceMul, Nat.reduceLT, Nat.reduceEqDiff, eq_self, true_and, and_true, and_false, false_and, if_true, if_false, and_self, Bool.true_eq_false, Bool.false_eq_true, hbit, c', o1, e3, Option.bind_some, b01, show zi 0 = nI 0 from rfl, Bool.not_true]
          refine hk _ ⟨s3, ?_, ?_, Fr_t F2 F3⟩
          · rw [itN_s, wkS, if_neg (by rw [hj]; simp)]
          · rw [itN_s, wkS, if_neg (by rw [hj]; simp)]; exact R3
    · rintro k x ⟨s2, rfl, hR2, F2⟩
      have hP2 : XP A s2 := XP_fr (Fr_t (Fr_w F1 (m := [26, 28, 30, 31, o + 1]) (by intro k hk; simp at hk ⊢; omega)) (Fr_w F2 (by intro k hk; simp at hk ⊢; omega))) (by rcases ho with rfl | rfl | rfl <;> decide) hP
      simp (disch := first | omega | decide) only [f_Ro_walk_L13, hP2.1, zI_0, zI_1, zI_2, zI_3, zI_4, zI_5, zI_6, zI_7, zI_8, zI_9, zI_10, zI_11, zI_12, zI_13, zI_14, zI_15, zI_16, zI_17, zI_18, zI_19, zI_20, zI_21, zI_22, zI_23, zI_24, zI_25, zI_26, zI_27, zI_28, zI_29, zI_30, zI_31, zI_32, zI_33, zI_34, zI_35, zI_36, zI_37, zI_38, zI_39, zI_40, zI_41, zI_42, zI_43, zI_44, zI_45, zI_46, zI_47, zI_48, zI_49, zI_50, zI_51, zI_52, zI_53, zI_54, zI_55, zI_56, zI_57, zI_58, zI_59, zI_60, zI_61, zI_62, zI_63, zI_64, zI_65, zI_66, zI_67, zI_74, zI_84, zI_85, zI_88, zI_91, zI_93, zI_97, zI_99, zI_100, zI_102, zI_105, zI_117, zI_122, zI_193, zI_202, zI_205, zI_251, zI_255, zI_256, zI_257, zI_258, zI_259, zI_260, zI_640, zI_999, zI_1000, zI_1024, zI_1600, zI_1602, zI_1700, zI_2040, zI_3200, zI_4100, zI_9728, zI_11784, zI_61440, zI_65536, zI_470536, zI_999999, zI_1000000, lt_T, lt_F, le_T, le_F, eq_T, eq_F, neg_1, cn_m1p, cn_m11, nI_add, cn_sub, pk_mul, cn_div, cn_irm, cn_lt, cn_eq, cn_ltm1, cn_m1lt, cn_eqm1, cn_m1eq, cn_ix, cn_inb, cn_ninb, cn_irs, cn_ils, cn_and, cn_or, cn_xor, grd_t, grd_bt, grd_bl, Nat.add_zero, Nat.zero_add, Nat.reduceAdd, Nat.reduceSub, Nat.reduceMul, Nat.reduceLT, Nat.reduceEqDiff, eq_self, true_and, and_true, and_false, false_and, if_true, if_false, and_self, Bool.true_eq_false, Bool.false_eq_true]
      exact Ok_some ⟨rfl, hR2, F2⟩
  obtain ⟨x, h1, h2, h3, h4⟩ := hl
  obtain ⟨i1, i2, i3, i4, i5⟩ := inv _ (Nat.le_refl _)
  refine ⟨x.2, ?_, h3, Fr_t (Fr_w F1 (by intro k hk; simp at hk ⊢; omega)) (Fr_w h4 (by intro k hk; simp at hk ⊢; omega)), XO_fr h4 (by rcases ho with rfl | rfl | rfl <;> decide) (by rcases ho with rfl | rfl | rfl <;> decide) X1, i1, i2, by unfold walkS; omega, i4, i5⟩
  simp (disch := first | omega | decide) only [f_Ro_walk, e1, zI_0, zI_1, zI_2, zI_3, zI_4, zI_5, zI_6, zI_7, zI_8, zI_9, zI_10, zI_11, zI_12, zI_13, zI_14, zI_15, zI_16, zI_17, zI_18, zI_19, zI_20, zI_21, zI_22, zI_23, zI_24, zI_25, zI_26, zI_27, zI_28, zI_29, zI_30, zI_31, zI_32, zI_33, zI_34, zI_35, zI_36, zI_37, zI_38, zI_39, zI_40, zI_41, zI_42, zI_43, zI_44, zI_45, zI_46, zI_47, zI_48, zI_49, zI_50, zI_51, zI_52, zI_53, zI_54, zI_55, zI_56, zI_57, zI_58, zI_59, zI_60, zI_61, zI_62, zI_63, zI_64, zI_65, zI_66, zI_67, zI_74, zI_84, zI_85, zI_88, zI_91, zI_93, zI_97, zI_99, zI_100, zI_102, zI_105, zI_117, zI_122, zI_193, zI_202, zI_205, zI_251, zI_255, zI_256, zI_257, zI_258, zI_259, zI_260, zI_640, zI_999, zI_1000, zI_1024, zI_1600, zI_1602, zI_1700, zI_2040, zI_3200, zI_4100, zI_9728, zI_11784, zI_61440, zI_65536, zI_470536, zI_999999, zI_1000000, lt_T, lt_F, le_T, le_F, eq_T, eq_F, neg_1, cn_m1p, cn_m11, nI_add, cn_sub, pk_mul, cn_div, cn_irm, cn_lt, cn_eq, cn_ltm1, cn_m1lt, cn_eqm1, cn_m1eq, cn_ix, cn_inb, cn_ninb, cn_irs, cn_ils, cn_and, cn_or, cn_xor, grd_t, grd_bt, grd_bl, Nat.add_zero, Nat.zero_add, Nat.reduceAdd, Nat.reduceSub, Nat.reduceMul, Nat.reduceLT, Nat.reduceEqDiff, eq_self, true_and, and_true, and_false, false_and, if_true, if_false, and_self, Bool.true_eq_false, Bool.false_eq_true, Option.bind_some]
  rw [h1, ← h2]
theorem keepWalk_n {t : Nat} (ho : HO o) (hA : WA A) (hB : HB A H) (hR : HR o H s) (hp : p ≤ 9) (ht : t ≤ 24) :
    ∃ s', f_Ha_keepWalk N o (nI p) (nI t) s = some s' ∧ HR o (kpS H p t) s' ∧ Fr [o + 1] s s' := by
  obtain ⟨o1, o2⟩ := ho_ok ho
  have r0 := hR.1 0 (by omega)
  have r3 := hR.1 3 (by omega)
  have h0 := hB.1
  have h3 := hB.2.2.2.1
  refine ⟨sA (sA s (o + 1) (62 + H.1 3 % 40) (nI ((H.1 0 * 10 + p) * 25 + t))) (o + 1) 3 (nI (H.1 3 + 1)), ?_, ⟨fun i hi => ?_, fun i hi h2 => ?_⟩, Fr_t (Fr_sA (o + 1) _ _ (by simp)) (Fr_sA (o + 1) _ _ (by simp))⟩
  · simp (disch := first | omega | decide) only [f_Ha_keepWalk, o1, o2, zI_0, zI_1, zI_2, zI_3, zI_4, zI_5, zI_6, zI_7, zI_8, zI_9, zI_10, zI_11, zI_12, zI_13, zI_14, zI_15, zI_16, zI_17, zI_18, zI_19, zI_20, zI_21, zI_22, zI_23, zI_24, zI_25, zI_26, zI_27, zI_28, zI_29, zI_30, zI_31, zI_32, zI_33, zI_34, zI_35, zI_36, zI_37, zI_38, zI_39, zI_40, zI_41, zI_42, zI_43, zI_44, zI_45, zI_46, zI_47, zI_48, zI_49, zI_50, zI_51, zI_52, zI_53, zI_54, zI_55, zI_56, zI_57, zI_58, zI_59, zI_60, zI_61, zI_62, zI_63, zI_64, zI_65, zI_66, zI_67, zI_74, zI_84, zI_85, zI_88, zI_91, zI_93, zI_97, zI_99, zI_100, zI_102, zI_105, zI_117, zI_122, zI_193, zI_202, zI_205, zI_251, zI_255, zI_256, zI_257, zI_258, zI_259, zI_260, zI_640, zI_999, zI_1000, zI_1024, zI_1600, zI_1602, zI_1700, zI_2040, zI_3200, zI_4100, zI_9728, zI_11784, zI_61440, zI_65536, zI_470536, zI_999999, zI_1000000, lt_T, lt_F, le_T, le_F, eq_T, eq_F, neg_1, cn_m1p, cn_m11, nI_add, cn_sub, pk_mul, cn_div, cn_irm, cn_lt, cn_eq, cn_ltm1, cn_m1lt, cn_eqm1, cn_m1eq, cn_ix, cn_inb, cn_ninb, cn_irs, cn_ils, cn_and, cn_or, cn_xor, grd_t, grd_bt, grd_bl, Nat.add_zero, Nat.zero_add, Nat.reduceAdd, Nat.reduceSub, Nat.reduceMul, Nat.reduceLT, Nat.reduceEqDiff, eq_self, true_and, and_true, and_false, false_and, if_true, if_false, and_self, Bool.true_eq_false, Bool.false_eq_true, r0, r3, gA_ne]
  · show _ = nI (fU H.1 3 (H.1 3 + 1) i)
    by_cases e : i = 3
    · rw [gA_eq e, fU_e e]
    · rw [gA_ne (by omega), gA_ne (by omega), fU_n e]; exact hR.1 i hi
  · have e3 : (kpS H p t).1 3 = H.1 3 + 1 := kp_3
    rw [e3] at hi h2
    show _ = nI (enc (fU H.2 (H.1 3) (H.1 0, p, t) i))
    rw [gA_ne (by omega)]
    by_cases e : i = H.1 3
    · rw [fU_e e, gA_eq (by rw [e])]; rfl
    · rw [fU_n e, gA_ne (by omega)]; exact hR.2 i (by omega) (by omega)
theorem clN_le (v : Int) : clN v ≤ 99 := by
  unfold clN; split
  · omega
  · split <;> omega
theorem clN_n {v : Int} (h : -1000000 ≤ v ∧ v ≤ 1000000) (s : mS) : (f_Math_min N 99 (zi v) s).bind (fun p3 => f_Math_max N 0 p3.1 p3.2) = some (nI (clN v), s) := by
  rw [show (99 : Int32) = zi 99 from rfl, min_z s (by omega), Option.bind_some]
  show f_Math_max N 0 (zi (if v < 99 then v else 99)) s = _
  rw [show (0 : Int32) = zi 0 from rfl, max_z s (by split <;> omega), ← zi_nI]
  have e : (if 0 < (if v < 99 then v else 99) then (if v < 99 then v else 99) else 0) = ((clN v : Nat) : Int) := by
    unfold clN
    split <;> split <;> (try split) <;> (try split) <;> omega
  rw [e]
theorem cdS_f {i : Nat} {H0 : hL} (hB : HB A H) (hp : ptH H = ptH H0) (h0 : H.1 0 = H0.1 0) (h3 : H.1 3 = H0.1 3) : HB A (cdS A i H) ∧ ptH (cdS A i H) = ptH H0 ∧ (cdS A i H).1 0 = H0.1 0 ∧ (cdS A i H).1 3 = H0.1 3 := by
  refine ⟨HB_set hB (Or.inr (Or.inl ⟨rfl, by omega⟩)), (pt_set (by omega)).trans hp, ?_, ?_⟩
  · unfold cdS; rw [hs_n (by omega)]; exact h0
  · unfold cdS; rw [hs_n (by omega)]; exact h3
theorem coldS_f (hB : HB A H) (n : Nat) : HB A (itN (cdS A) n H) ∧ ptH (itN (cdS A) n H) = ptH H ∧ (itN (cdS A) n H).1 0 = H.1 0 ∧ (itN (cdS A) n H).1 3 = H.1 3 :=
  itN_inv (fun _ (x : hL) => HB A x ∧ ptH x = ptH H ∧ x.1 0 = H.1 0 ∧ x.1 3 = H.1 3) ⟨hB, rfl, rfl, rfl⟩ (fun _ _ hx => cdS_f hx.1 hx.2.1 hx.2.2.1 hx.2.2.2) n
theorem comeCold_n (ho : HO o) (hA : WA A) (hB : HB A H) (hP : XP A s) (hR : HR o H s) (hN : 2000 ≤ N) :
    ∃ s', f_Ro_comeCold N o s = some s' ∧ HR o (coldS A H) s' ∧ Fr [26, 28, o + 1] s s' := by
  have hD := hA.1
  have ok : o + 1 ∉ [26, 28] := by rcases ho with rfl | rfl | rfl <;> decide
  obtain ⟨o1, o2⟩ := ho_ok ho
  have hl : Ok (mfix N (f_Ro_comeCold_L2 N) (o, nI 0, s)) (fun r => HR o (coldS A H) r ∧ Fr [26, 28, o + 1] s r) := by
    refine mfix_up (fun i x => ∃ s2, x = (o, nI i, s2) ∧ HR o (itN (cdS A) i H) s2 ∧ Fr [26, 28, o + 1] s s2) (pD A) ?_ ?_ N 0 _ ⟨s, rfl, hR, Fr_r _ _⟩ (Nat.zero_le _) (by omega)
    · rintro i k x hi ⟨s2, rfl, hR2, F2⟩ hk
      obtain ⟨hB2, hpt, hz, hz3⟩ := coldS_f hB i
      have hP2 : XP A s2 := XP_fr F2 (by rcases ho with rfl | rfl | rfl <;> decide) hP
      have hck := (hA.2.2.2.2.2.2.1 (by omega)).2
      have hgb := gv_ty (p := 0) hA hB2 (show i < 24 by omega) (by omega) alC
      obtain ⟨s3, e3, F3, G3⟩ := standAt_n (N := N) 0 ho hA hB2 hR2 (show i < 24 by omega)
      obtain ⟨s4, e4, F4⟩ := worthP (N := N) ((XP_fr F3 (by decide) hP2).2.2.2.2.2.1 (by omega)).2 hck hgb (GV_mono G3 fun w hw => by have := of_decide_eq_true hw; exact decide_eq_true (by omega)) rfl rfl hN
      have hv := zi_tv (ev_ty hgb hck).1
      have F5 : Fr [26, 28] s2 s4 := Fr_t (Fr_w F3 (by decide)) (Fr_w F4 (by decide))
      have R4 := HR_fr F5 ok hR2
      have r1 := R4.1 1 (by omega)
      have h1 := hB2.2.1
      have hc := clN_le (ev (gv A (itN (cdS A) i H) i 0) nog nog (pC A 11))
      have e5 := clN_n (N := N) hv s4
      rw [Option.bind_eq_some_iff] at e5
      obtain ⟨p5, e5, e6⟩ := e5
      simp only [zI_0, zI_99] at e5 e6
      simp (disch := first | omega | decide) only [f_Ro_comeCold_L2, hP2.1, hP2.2.2.1, o1, o2, zI_0, zI_1, zI_2, zI_3, zI_4, zI_5, zI_6, zI_7, zI_8, zI_9, zI_10, zI_11, zI_12, zI_13, zI_14, zI_15, zI_16, zI_17, zI_18, zI_19, zI_20, zI_21, zI_22, zI_23, zI_24, zI_25, zI_26, zI_27, zI_28, zI_29, zI_30, zI_31, zI_32, zI_33, zI_34, zI_35, zI_36, zI_37, zI_38, zI_39, zI_40, zI_41, zI_42, zI_43, zI_44, zI_45, zI_46, zI_47, zI_48, zI_49, zI_50, zI_51, zI_52, zI_53, zI_54, zI_55, zI_56, zI_57, zI_58, zI_59, zI_60, zI_61, zI_62, zI_63, zI_64, zI_65, zI_66, zI_67, zI_74, zI_84, zI_85, zI_88, zI_91, zI_93, zI_97, zI_99, zI_100, zI_102, zI_105, zI_117, zI_122, zI_193, zI_202, zI_205, zI_251, zI_255, zI_256, zI_257, zI_258, zI_259, zI_260, zI_640, zI_999, zI_1000, zI_1024, zI_1600, zI_1602, zI_1700, zI_2040, zI_3200, zI_4100, zI_9728, zI_11784, zI_61440, zI_65536, zI_470536, zI_999999, zI_1000000, lt_T, lt_F, le_T, le_F, eq_T, eq_F, neg_1, cn_m1p, cn_m11, nI_add, cn_sub, pk_mul, cn_div, cn_irm, cn_lt, cn_eq, cn_ltm1, cn_m1lt, cn_eqm1, cn_m1eq, cn_ix, cn_inb, cn_ninb, cn_irs, cn_ils, cn_and, cn_or, cn_xor, grd_t, grd_bt, grd_bl, Nat.add_zero, Nat.zero_add, Nat.reduceAdd, Nat.reduceSub, Nat.reduceMul, Nat.reduceLT, Nat.reduceEqDiff, eq_self, true_and, and_true, and_false, false_and, if_true, if_false, and_self, Bool.true_eq_false, Bool.false_eq_true, e3, e4, e5, e6, r1, min_n, Option.bind_some]
      refine hk _ ⟨_, rfl, ?_, Fr_t F2 (Fr_t (Fr_w F5 (by intro k hk; simp at hk ⊢; omega)) (Fr_sA (o + 1) _ _ (by simp)))⟩
      rw [itN_s]
      exact HR_set R4 (by omega) (by omega) rfl rfl
    · rintro k x ⟨s2, rfl, hR2, F2⟩
      have hP2 : XP A s2 := XP_fr F2 (by rcases ho with rfl | rfl | rfl <;> decide) hP
      simp (disch := first | omega | decide) only [f_Ro_comeCold_L2, hP2.1, zI_0, zI_1, zI_2, zI_3, zI_4, zI_5, zI_6, zI_7, zI_8, zI_9, zI_10, zI_11, zI_12, zI_13, zI_14, zI_15, zI_16, zI_17, zI_18, zI_19, zI_20, zI_21, zI_22, zI_23, zI_24, zI_25, zI_26, zI_27, zI_28, zI_29, zI_30, zI_31, zI_32, zI_33, zI_34, zI_35, zI_36, zI_37, zI_38, zI_39, zI_40, zI_41, zI_42, zI_43, zI_44, zI_45, zI_46, zI_47, zI_48, zI_49, zI_50, zI_51, zI_52, zI_53, zI_54, zI_55, zI_56, zI_57, zI_58, zI_59, zI_60, zI_61, zI_62, zI_63, zI_64, zI_65, zI_66, zI_67, zI_74, zI_84, zI_85, zI_88, zI_91, zI_93, zI_97, zI_99, zI_100, zI_102, zI_105, zI_117, zI_122, zI_193, zI_202, zI_205, zI_251, zI_255, zI_256, zI_257, zI_258, zI_259, zI_260, zI_640, zI_999, zI_1000, zI_1024, zI_1600, zI_1602, zI_1700, zI_2040, zI_3200, zI_4100, zI_9728, zI_11784, zI_61440, zI_65536, zI_470536, zI_999999, zI_1000000, lt_T, lt_F, le_T, le_F, eq_T, eq_F, neg_1, cn_m1p, cn_m11, nI_add, cn_sub, pk_mul, cn_div, cn_irm, cn_lt, cn_eq, cn_ltm1, cn_m1lt, cn_eqm1, cn_m1eq, cn_ix, cn_inb, cn_ninb, cn_irs, cn_ils, cn_and, cn_or, cn_xor, grd_t, grd_bt, grd_bl, Nat.add_zero, Nat.zero_add, Nat.reduceAdd, Nat.reduceSub, Nat.reduceMul, Nat.reduceLT, Nat.reduceEqDiff, eq_self, true_and, and_true, and_false, false_and, if_true, if_false, and_self, Bool.true_eq_false, Bool.false_eq_true]
      exact Ok_some ⟨hR2, F2⟩
  obtain ⟨x, h1, h2, h3⟩ := hl
  exact ⟨x, h1, h2, h3⟩
theorem nStep_f {aw : Int32} {i : Nat} {x : Nat × hL} {H0 : hL} (hA : WA A) (hi : i < pP A) (hB : HB A x.2) (hp : ptH x.2 = ptH H0) (h0 : x.2.1 0 = H0.1 0) (h3 : x.2.1 3 ≤ H0.1 3 + i) (hw : H0.1 3 ≤ 10000) (hn : x.1 ≤ i) :
    HB A (nStep A aw i x).2 ∧ ptH (nStep A aw i x).2 = ptH H0 ∧ (nStep A aw i x).2.1 0 = H0.1 0 ∧ (nStep A aw i x).2.1 3 ≤ H0.1 3 + (i + 1) ∧ (nStep A aw i x).1 ≤ i + 1 := by
  have hp10 := hA.2.1
  have hD := hA.1
  unfold nStep
  split
  · refine ⟨HB_set hB (by omega), (pt_set (by omega)).trans hp, ?_, ?_, by show x.1 ≤ _; omega⟩
    · rw [hs_n (by omega)]; exact h0
    · rw [hs_n (by omega)]; omega
  · have inv : HB A (walkS A i x.2).2 ∧ ptH (walkS A i x.2).2 = ptH x.2 ∧ (walkS A i x.2).1 ≤ pD A ∧ (walkS A i x.2).2.1 0 = x.2.1 0 ∧ (walkS A i x.2).2.1 3 = x.2.1 3 := by
      unfold walkS
      refine itN_invL (D := pD A) (a := (0, x.2)) (fun j (y : Nat × hL) => HB A y.2 ∧ ptH y.2 = ptH x.2 ∧ y.1 ≤ j ∧ y.2.1 0 = x.2.1 0 ∧ y.2.1 3 = x.2.1 3) ⟨hB, rfl, Nat.zero_le _, rfl, rfl⟩ (fun j y hj hy => ?_) _ (Nat.le_refl _)
      unfold wkS
      split
      · refine ⟨HB_sw hA hy.1 hj, (pt_sw (by omega)).trans hy.2.1, Nat.succ_le_succ hy.2.2.1, ?_, ?_⟩
        · rw [sw_n (by omega)]; exact hy.2.2.2.1
        · rw [sw_n (by omega)]; exact hy.2.2.2.2
      · exact ⟨hy.1, hy.2.1, by omega, hy.2.2.2⟩
    obtain ⟨i1, i2, i3, i4, i5⟩ := inv
    have hk := HB_kp (p := i) (t := (walkS A i x.2).1) i1 (by omega) (by omega) (by omega)
    have ht := hk.2.2.2.2.2.2.1 i (by omega)
    refine ⟨HB_set hk (by omega), (pt_set (by omega)).trans (pt_kp.trans (i2.trans hp)), ?_, ?_, Nat.succ_le_succ hn⟩
    · show (trS (kpS (walkS A i x.2).2 i (walkS A i x.2).1) i).1 0 = _
      unfold trS
      rw [hs_n (by omega), kp_n (by omega), i4]; exact h0
    · show (trS (kpS (walkS A i x.2).2 i (walkS A i x.2).1) i).1 3 ≤ _
      unfold trS
      rw [hs_n (by omega), kp_3, i5]; omega
theorem nigS_f {aw : Int32} (hA : WA A) (hB : HB A H) (hw : H.1 3 ≤ 10000) : ∀ i, i ≤ pP A → HB A (itN (nStep A aw) i (0, H)).2 ∧ ptH (itN (nStep A aw) i (0, H)).2 = ptH H ∧ (itN (nStep A aw) i (0, H)).2.1 0 = H.1 0 ∧ (itN (nStep A aw) i (0, H)).2.1 3 ≤ H.1 3 + i ∧ (itN (nStep A aw) i (0, H)).1 ≤ i :=
  itN_invL (fun i (x : Nat × hL) => HB A x.2 ∧ ptH x.2 = ptH H ∧ x.2.1 0 = H.1 0 ∧ x.2.1 3 ≤ H.1 3 + i ∧ x.1 ≤ i) ⟨hB, rfl, rfl, Nat.le_refl _, Nat.le_refl _⟩ fun i x hi hx => nStep_f hA hi hx.1 hx.2.1 hx.2.2.1 hx.2.2.2.1 hw hx.2.2.2.2
theorem passS_f {aw : Int32} (hA : WA A) (hB : HB A H) (hw : H.1 3 ≤ 10 * H.1 0) (h0 : H.1 0 ≤ 998) :
    HB A (passS A aw H).2 ∧ ptH (passS A aw H).2 = ptH H ∧ (passS A aw H).2.1 0 = H.1 0 + 1 ∧ (passS A aw H).2.1 3 ≤ 10 * (passS A aw H).2.1 0 ∧ (passS A aw H).1 ≤ 10 := by
  have hp10 := hA.2.1
  obtain ⟨a1, a2, a3, a4, a5⟩ := nigS_f (aw := aw) hA hB (by omega) _ (Nat.le_refl _)
  obtain ⟨b1, b2, b3, b4⟩ := coldS_f (A := A) a1 (pD A)
  have e0 : (passS A aw H).2.1 0 = H.1 0 + 1 := by
    show (hset _ 0 _).1 0 = _
    rw [hs_e rfl]
    show min 999 ((itN (cdS A) (pD A) (itN (nStep A aw) (pP A) (0, H)).2).1 0 + 1) = _
    rw [b3, a3]; omega
  refine ⟨HB_set b1 (by omega), (pt_set (by omega)).trans (b2.trans a2), e0, ?_, ?_⟩
  · rw [e0]
    show (hset _ 0 _).1 3 ≤ _
    rw [hs_n (by omega)]
    show (itN (cdS A) (pD A) (itN (nStep A aw) (pP A) (0, H)).2).1 3 ≤ _
    rw [b4]; omega
  · show (itN (nStep A aw) (pP A) (0, H)).1 ≤ 10
    omega
theorem pass_n {aw : Int32} (ho : HO o) (hA : WA A) (hB : HB A H) (hw : H.1 3 ≤ 10 * H.1 0) (h0 : H.1 0 ≤ 998) (hP : XP A s) (hR : HR o H s) (hO : XO A (ptH H) s) (hN : 2000 ≤ N) :
    ∃ s', f_Ro_pass N o aw s = some (nI (passS A aw H).1, s') ∧ HR o (passS A aw H).2 s' ∧ Fr [26, 28, 30, 31, o + 1] s s' ∧ XO A (ptH H) s' := by
  have hp10 := hA.2.1
  obtain ⟨o1, o2⟩ := ho_ok ho
  have kk : ∀ k ∈ kXP, k ∉ [26, 28, 30, 31, o + 1] := by rcases ho with rfl | rfl | rfl <;> decide
  have inv := nigS_f (aw := aw) hA hB (by omega)
  have hl : Ok (mfix N (f_Ro_pass_L5 N) (o, aw, nI 0, nI 0, s)) (fun r => r.1 = nI (passS A aw H).1 ∧ HR o (passS A aw H).2 r.2 ∧ Fr [26, 28, 30, 31, o + 1] s r.2 ∧ XO A (ptH H) r.2) := by
    refine mfix_up (fun i x => ∃ s2, x = (o, aw, nI (itN (nStep A aw) i (0, H)).1, nI i, s2) ∧ HR o (itN (nStep A aw) i (0, H)).2 s2 ∧ Fr [26, 28, 30, 31, o + 1] s s2 ∧ XO A (ptH H) s2) (pP A) ?_ ?_ N 0 _ ⟨s, rfl, hR, Fr_r _ _, hO⟩ (Nat.zero_le _) (by omega)
    · rintro i k x hi ⟨s2, rfl, hR2, F2, X2⟩ hk
      obtain ⟨hB2, hpt, hz, hz3, hn⟩ := inv i (by omega)
      have hP2 : XP A s2 := XP_fr F2 kk hP
      generalize hy : itN (nStep A aw) i (0, H) = y at *
      have hr0 : ∀ s4, HR o y.2 s4 → HR o (hset y.2 (52 + i) 0) (sA s4 (o + 1) (52 + i) (nI 0)) := fun s4 h => HR_set h (by omega) (by omega) rfl rfl
      by_cases c : nI i = aw
      · simp (disch := first | omega | decide) only [f_Ro_pass_L5, f_Ro_pass_j71, hP2.2.1, o1, o2, lt_T, c, zI_0, zI_1, zI_2, zI_3, zI_4, zI_5, zI_6, zI_7, zI_8, zI_9, zI_10, zI_11, zI_12, zI_13, zI_14, zI_15, zI_16, zI_17, zI_18, zI_19, zI_20, zI_21, zI_22, zI_23, zI_24, zI_25, zI_26, zI_27, zI_28, zI_29, zI_30, zI_31, zI_32, zI_33, zI_34, zI_35, zI_36, zI_37, zI_38, zI_39, zI_40, zI_41, zI_42, zI_43, zI_44, zI_45, zI_46, zI_47, zI_48, zI_49, zI_50, zI_51, zI_52, zI_53, zI_54, zI_55, zI_56, zI_57, zI_58, zI_59, zI_60, zI_61, zI_62, zI_63, zI_64, zI_65, zI_66, zI_67, zI_74, zI_84, zI_85, zI_88, zI_91, zI_93, zI_97, zI_99, zI_100, zI_102, zI_105, zI_117, zI_122, zI_193, zI_202, zI_205, zI_251, zI_255, zI_256, zI_257, zI_258, zI_259, zI_260, zI_640, zI_999, zI_1000, zI_1024, zI_1600, zI_1602, zI_1700, zI_2040, zI_3200, zI_4100, zI_9728, zI_11784, zI_61440, zI_65536, zI_470536, zI_999999, zI_1000000, Nat.reduceAdd, Nat.reduceSub, Nat.reduceMul, Nat.reduceLT, Nat.reduceEqDiff, eq_self, true_and, and_true, and_false, false_and, if_true, if_false, and_self, Bool.true_eq_false, Bool.false_eq_true]
        subst c
        simp (disch := first | omega | decide) only [zI_0, zI_1, zI_2, zI_3, zI_4, zI_5, zI_6, zI_7, zI_8, zI_9, zI_10, zI_11, zI_12, zI_13, zI_14, zI_15, zI_16, zI_17, zI_18, zI_19, zI_20, zI_21, zI_22, zI_23, zI_24, zI_25, zI_26, zI_27, zI_28, zI_29, zI_30, zI_31, zI_32, zI_33, zI_34, zI_35, zI_36, zI_37, zI_38, zI_39, zI_40, zI_41, zI_42, zI_43, zI_44, zI_45, zI_46, zI_47, zI_48, zI_49, zI_50, zI_51, zI_52, zI_53, zI_54, zI_55, zI_56, zI_57, zI_58, zI_59, zI_60, zI_61, zI_62, zI_63, zI_64, zI_65, zI_66, zI_67, zI_74, zI_84, zI_85, zI_88, zI_91, zI_93, zI_97, zI_99, zI_100, zI_102, zI_105, zI_117, zI_122, zI_193, zI_202, zI_205, zI_251, zI_255, zI_256, zI_257, zI_258, zI_259, zI_260, zI_640, zI_999, zI_1000, zI_1024, zI_1600, zI_1602, zI_1700, zI_2040, zI_3200, zI_4100, zI_9728, zI_11784, zI_61440, zI_65536, zI_470536, zI_999999, zI_1000000, lt_T, lt_F, le_T, le_F, eq_T, eq_F, neg_1, cn_m1p, cn_m11, nI_add, cn_sub, pk_mul, cn_div, cn_irm, cn_lt, cn_eq, cn_ltm1, cn_m1lt, cn_eqm1, cn_m1eq, cn_ix, cn_inb, cn_ninb, cn_irs, cn_ils, cn_and, cn_or, cn_xor, grd_t, grd_bt, grd_bl, Nat.add_zero, Nat.zero_add, Nat.reduceAdd, Nat.reduceSub, Nat.reduceMul, Nat.reduceLT, Nat.reduceEqDiff, eq_self, true_and, and_true, and_false, false_and, if_true, if_false, and_self, Bool.true_eq_false, Bool.false_eq_true, o1, o2]
        refine hk _ ⟨sA s2 (o + 1) (52 + i) (nI 0), ?_, ?_, Fr_t F2 (Fr_sA (o + 1) _ _ (by simp)), XO_fr (l := [o + 1]) (Fr_sA (o + 1) _ _ (by simp)) (by rcases ho with rfl | rfl | rfl <;> decide) (by rcases ho with rfl | rfl | rfl <;> decide) X2⟩
        · rw [itN_s, hy, nStep, if_pos (Or.inl rfl)]
        · rw [itN_s, hy, nStep, if_pos (Or.inl rfl)]; exact hr0 _ hR2
      · obtain ⟨s3, e3, F3⟩ := isWilling_n (N := N) ho hA hB2 hP2 hR2 hi hN
        have F3' : Fr [26, 28, 30, 31, o + 1] s2 s3 := Fr_w F3 (by intro k hk; simp at hk ⊢; omega)
        have R3 := HR_fr F3 (by rcases ho with rfl | rfl | rfl <;> decide) hR2
        have X3 := XO_fr F3 (by decide) (by decide) X2
        cases hwl : willS A y.2 i
        · rw [hwl] at e3
          simp (disch := first | omega | decide) only [f_Ro_pass_L5, f_Ro_pass_j71, hP2.2.1, o1, o2, c, e3, zI_0, zI_1, zI_2, zI_3, zI_4, zI_5, zI_6, zI_7, zI_8, zI_9, zI_10, zI_11, zI_12, zI_13, zI_14, zI_15, zI_16, zI_17, zI_18, zI_19, zI_20, zI_21, zI_22, zI_23, zI_24, zI_25, zI_26, zI_27, zI_28, zI_29, zI_30, zI_31, zI_32, zI_33, zI_34, zI_35, zI_36, zI_37, zI_38, zI_39, zI_40, zI_41, zI_42, zI_43, zI_44, zI_45, zI_46, zI_47, zI_48, zI_49, zI_50, zI_51, zI_52, zI_53, zI_54, zI_55, zI_56, zI_57, zI_58, zI_59, zI_60, zI_61, zI_62, zI_63, zI_64, zI_65, zI_66, zI_67, zI_74, zI_84, zI_85, zI_88, zI_91, zI_93, zI_97, zI_99, zI_100, zI_102, zI_105, zI_117, zI_122, zI_193, zI_202, zI_205, zI_251, zI_255, zI_256, zI_257, zI_258, zI_259, zI_260, zI_640, zI_999, zI_1000, zI_1024, zI_1600, zI_1602, zI_1700, zI_2040, zI_3200, zI_4100, zI_9728, zI_11784, zI_61440, zI_65536, zI_470536, zI_999999, zI_1000000, lt_T, lt_F, le_T, le_F, eq_T, eq_F, neg_1, cn_m1p, cn_m11, nI_add, cn_sub, pk_mul, cn_div, cn_irm, cn_lt, cn_eq, cn_ltm1, cn_m1lt, cn_eqm1, cn_m1eq, cn_ix, cn_inb, cn_ninb, cn_irs, cn_ils, cn_and, cn_or, cn_xor, grd_t, grd_bt, grd_bl, Nat.add_zero, Nat.zero_add, Nat.reduceAdd, Nat.reduceSub, Nat.reduceMul, Nat.reduceLT, Nat.reduceEqDiff, eq_self, true_and, and_true, and_false, false_and, if_true, if_false, and_self, Bool.true_eq_false, Bool.false_eq_true, Option.bind_some]
          refine hk _ ⟨sA s3 (o + 1) (52 + i) (nI 0), ?_, ?_, Fr_t F2 (Fr_t F3' (Fr_sA (o + 1) _ _ (by simp))), XO_fr (l := [o + 1]) (Fr_sA (o + 1) _ _ (by simp)) (by rcases ho with rfl | rfl | rfl <;> decide) (by rcases ho with rfl | rfl | rfl <;> decide) X3⟩
          · rw [itN_s, hy, nStep, if_pos (Or.inr hwl)]
          · rw [itN_s, hy, nStep, if_pos (Or.inr hwl)]; exact hr0 _ R3
        · rw [hwl] at e3
          have P3 := XP_fr F3' kk hP2
          obtain ⟨s4, e4, R4, F4, X4, B4, pt4, n4, z4, w4⟩ := walk_n (N := N) ho hA hB2 P3 R3 (by rw [hpt]; exact X3) hi hN
          obtain ⟨s5, e5, R5, F5⟩ := keepWalk_n (N := N) (p := i) (t := (walkS A i y.2).1) ho hA B4 R4 (by omega) n4
          have B5 := HB_kp (p := i) (t := (walkS A i y.2).1) B4 (by omega) (by omega) n4
          have r5 := R5.1 (52 + i) (by omega)
          have t5 := B5.2.2.2.2.2.2.1 i (by omega)
          have cn : ¬ (nI i = aw ∨ willS A y.2 i = false) := by rw [hwl]; simp [c]
          simp (disch := first | omega | decide) only [f_Ro_pass_L5, f_Ro_pass_j71, hP2.2.1, o1, o2, c, e3, e4, e5, r5, min_n, zI_0, zI_1, zI_2, zI_3, zI_4, zI_5, zI_6, zI_7, zI_8, zI_9, zI_10, zI_11, zI_12, zI_13, zI_14, zI_15, zI_16, zI_17, zI_18, zI_19, zI_20, zI_21, zI_22, zI_23, zI_24, zI_25, zI_26, zI_27, zI_28, zI_29, zI_30, zI_31, zI_32, zI_33, zI_34, zI_35, zI_36, zI_37, zI_38, zI_39, zI_40, zI_41, zI_42, zI_43, zI_44, zI_45, zI_46, zI_47, zI_48, zI_49, zI_50, zI_51, zI_52, zI_53, zI_54, zI_55, zI_56, zI_57, zI_58, zI_59, zI_60, zI_61, zI_62, zI_63, zI_64, zI_65, zI_66, zI_67, zI_74, zI_84, zI_85, zI_88, zI_91, zI_93, zI_97, zI_99, zI_100, zI_102, zI_105, zI_117, zI_122, zI_193, zI_202, zI_205, zI_251, zI_255, zI_256, zI_257, zI_258, zI_259, zI_260, zI_640, zI_999, zI_1000, zI_1024, zI_1600, zI_1602, zI_1700, zI_2040, zI_3200, zI_4100, zI_9728, zI_11784, zI_61440, zI_65536, zI_470536, zI_999999, zI_1000000, lt_T, lt_F, le_T, le_F, eq_T, eq_F, neg_1, cn_m1p, cn_m11, nI_add, cn_sub, pk_mul, cn_div, cn_irm, cn_lt, cn_eq, cn_ltm1, cn_m1lt, cn_eqm1, cn_m1eq, cn_ix, cn_inb, cn_ninb, cn_irs, cn_ils, cn_and, cn_or, cn_xor, grd_t, grd_bt, grd_bl, Nat.add_zero, Nat.zero_add, Nat.reduceAdd, Nat.reduceSub, Nat.reduceMul, Nat.reduceLT, Nat.reduceEqDiff, eq_self, true_and, and_true, and_false, false_and, if_true, if_false, and_self, Bool.true_eq_false, Bool.false_eq_true, Option.bind_some]
          refine hk _ ⟨sA s5 (o + 1) (52 + i) (nI (min 99 ((kpS (walkS A i y.2).2 i (walkS A i y.2).1).1 (52 + i) + 1))), ?_, ?_, Fr_t F2 (Fr_t F3' (Fr_t F4 (Fr_t (Fr_w F5 (by intro k hk; simp at hk ⊢; omega)) (Fr_sA (o + 1) _ _ (by simp))))), ?_⟩
          · rw [itN_s, hy, nStep, if_neg cn]
          · rw [itN_s, hy, nStep, if_neg cn]
            exact HR_set R5 (by omega) (by omega) rfl rfl
          · rw [hpt] at X4
            exact XO_fr (l := [o + 1]) (Fr_t F5 (Fr_sA (o + 1) _ _ (by simp))) (by rcases ho with rfl | rfl | rfl <;> decide) (by rcases ho with rfl | rfl | rfl <;> decide) X4
    · rintro k x ⟨s2, rfl, hR2, F2, X2⟩
      obtain ⟨hB2, hpt, hz, hz3, hn⟩ := inv _ (Nat.le_refl _)
      have hP2 : XP A s2 := XP_fr F2 kk hP
      obtain ⟨s3, e3, R3, F3⟩ := comeCold_n (N := N) ho hA hB2 hP2 hR2 hN
      obtain ⟨b1, b2, b3, b4⟩ := coldS_f (A := A) hB2 (pD A)
      have r0 := R3.1 0 (by omega)
      have l0 : (coldS A (itN (nStep A aw) (pP A) (0, H)).2).1 0 ≤ 999 := b1.1
      simp (disch := first | omega | decide) only [f_Ro_pass_L5, hP2.2.1, o1, o2, e3, r0, min_n, zI_0, zI_1, zI_2, zI_3, zI_4, zI_5, zI_6, zI_7, zI_8, zI_9, zI_10, zI_11, zI_12, zI_13, zI_14, zI_15, zI_16, zI_17, zI_18, zI_19, zI_20, zI_21, zI_22, zI_23, zI_24, zI_25, zI_26, zI_27, zI_28, zI_29, zI_30, zI_31, zI_32, zI_33, zI_34, zI_35, zI_36, zI_37, zI_38, zI_39, zI_40, zI_41, zI_42, zI_43, zI_44, zI_45, zI_46, zI_47, zI_48, zI_49, zI_50, zI_51, zI_52, zI_53, zI_54, zI_55, zI_56, zI_57, zI_58, zI_59, zI_60, zI_61, zI_62, zI_63, zI_64, zI_65, zI_66, zI_67, zI_74, zI_84, zI_85, zI_88, zI_91, zI_93, zI_97, zI_99, zI_100, zI_102, zI_105, zI_117, zI_122, zI_193, zI_202, zI_205, zI_251, zI_255, zI_256, zI_257, zI_258, zI_259, zI_260, zI_640, zI_999, zI_1000, zI_1024, zI_1600, zI_1602, zI_1700, zI_2040, zI_3200, zI_4100, zI_9728, zI_11784, zI_61440, zI_65536, zI_470536, zI_999999, zI_1000000, lt_T, lt_F, le_T, le_F, eq_T, eq_F, neg_1, cn_m1p, cn_m11, nI_add, cn_sub, pk_mul, cn_div, cn_irm, cn_lt, cn_eq, cn_ltm1, cn_m1lt, cn_eqm1, cn_m1eq, cn_ix, cn_inb, cn_ninb, cn_irs, cn_ils, cn_and, cn_or, cn_xor, grd_t, grd_bt, grd_bl, Nat.add_zero, Nat.zero_add, Nat.reduceAdd, Nat.reduceSub, Nat.reduceMul, Nat.reduceLT, Nat.reduceEqDiff, eq_self, true_and, and_true, and_false, false_and, if_true, if_false, and_self, Bool.true_eq_false, Bool.false_eq_true, Option.bind_some]
      refine Ok_some ⟨rfl, HR_set R3 (by omega) (by omega) rfl rfl, Fr_t F2 (Fr_t (Fr_w F3 (by intro k hk; simp at hk ⊢; omega)) (Fr_sA (o + 1) _ _ (by simp))), XO_fr (l := [26, 28, o + 1]) (Fr_t F3 (Fr_sA (o + 1) _ _ (by simp))) (by rcases ho with rfl | rfl | rfl <;> decide) (by rcases ho with rfl | rfl | rfl <;> decide) X2⟩
  obtain ⟨x, h1, h2, h3, h4, h5⟩ := hl
  exact ⟨x.2, by unfold f_Ro_pass; rw [show (0 : Int32) = nI 0 from rfl, h1, ← h2], h3, h4, h5⟩
end NIGHTS
