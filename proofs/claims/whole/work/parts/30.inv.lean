/-! WHAT HOLDS BETWEEN THE CALLS -/
def HRF (H : hL) (f : Nat → Int32) : Prop := (∀ i, i < 62 → f i = nI (H.1 i)) ∧ ∀ i, i < H.1 3 → H.1 3 ≤ i + 40 → f (62 + i % 40) = nI (enc (H.2 i))
theorem HRF_HR {o : Nat} {H : hL} {s : mS} : HR o H s ↔ HRF H (gA s (o + 1)) := Iff.rfl
theorem HRF_cong {H : hL} {f g : Nat → Int32} (h : ∀ i, i < 102 → f i = g i) (hf : HRF H f) : HRF H g :=
  ⟨fun i hi => by rw [← h i (by omega)]; exact hf.1 i hi, fun i hi h2 => by rw [← h _ (by omega)]; exact hf.2 i hi h2⟩
def MRF (A : pL) (H : hL) (f : Nat → Int32) : Prop := f 0 = nI (H.1 0) ∧ f 1 = nI (H.1 1) ∧ (∀ d, d < pD A → f (2 + 3 * d) = zi (b01 ((H.1 2).testBit d)) ∧ f (3 + 3 * d) = nI (H.1 (4 + d)) ∧ f (4 + 3 * d) = nI (H.1 (28 + d))) ∧ ∀ p, p < 10 → f (74 + p) = nI (H.1 (52 + p))
def MKF (H : hL) (f : Nat → Int32) : Prop := f 84 = nI (min 40 (H.1 3)) ∧ ∀ k, k < min 40 (H.1 3) → f (85 + 3 * k) = nI (H.2 (H.1 3 - min 40 (H.1 3) + k)).1 ∧ f (86 + 3 * k) = nI (H.2 (H.1 3 - min 40 (H.1 3) + k)).2.1 ∧ f (87 + 3 * k) = nI (H.2 (H.1 3 - min 40 (H.1 3) + k)).2.2
theorem MRF_MRow {A : pL} {H : hL} {s : mS} : MRow A H s ↔ MRF A H (gA s 34) := Iff.rfl
theorem MKF_MK {H : hL} {s : mS} : MK H s ↔ MKF H (gA s 34) := Iff.rfl
theorem MRF_cong {A : pL} {H : hL} {f g : Nat → Int32} (hD : pD A ≤ 24) (h : ∀ i, i < 84 → f i = g i) (hf : MRF A H f) : MRF A H g := by
  obtain ⟨h1, h2, h3, h4⟩ := hf
  refine ⟨?_, ?_, fun d hd => ?_, fun p hp => ?_⟩
  · rw [← h 0 (by omega)]; exact h1
  · rw [← h 1 (by omega)]; exact h2
  · rw [← h _ (by omega), ← h _ (by omega), ← h _ (by omega)]; exact h3 d hd
  · rw [← h _ (by omega)]; exact h4 p hp
theorem MKF_cong {H : hL} {f g : Nat → Int32} (h : ∀ i, 84 ≤ i → i < 205 → f i = g i) (hf : MKF H f) : MKF H g := by
  refine ⟨?_, fun k hk => ?_⟩
  · rw [← h _ (by omega) (by omega)]; exact hf.1
  · rw [← h _ (by omega) (by omega), ← h _ (by omega) (by omega), ← h _ (by omega) (by omega)]; exact hf.2 k hk
/-- names as numbers -/
def vaL (b : Nat) (l : List Nat) : Nat := l.foldl (fun v x => b * v + x) 0
def nmX (l : List Nat) : Nat := vaL 100 l * 100 ^ (6 - l.length)
def XNm (A : pL) (s : mS) : Prop := ∀ p, p < pP A → gQ s 4 p = lN (nmX (pNm A p))
/-- the words' letters lie in these -/
def kWo : List Nat := [3, 4, 5, 6, 7, 8, 9, 10, 11, 12, 13, 14, 15, 16, 17, 18, 19, 20, 21, 22, 23, 24, 25, 26, 27, 41, 42, 43, 44, 45, 46, 47, 48, 49, 50, 51, 52, 53, 54, 55, 56, 57, 58, 59, 60, 61, 62, 63]
def kWd : List Nat := [5029, 3, 4, 5, 6, 7, 8, 9, 10, 11, 12, 13, 14, 15, 16, 17, 18, 19, 20, 21, 22, 23, 24, 25, 26, 27, 41, 42, 43, 44, 45, 46, 47, 48, 49, 50, 51, 52, 53, 54, 55, 56, 57, 58, 59, 60, 61, 62, 63]
def MWd (t : mS) : Prop := ∀ o, o ∈ kWo → ∀ i, gA t o i = gA m0 o i
def MNm (A : pL) (t : mS) : Prop := (∀ p, p < pP A → gQ t 29 (10 + p) = lN (vaL 27 (pNm A p))) ∧ MWd t
def nitS (A : pL) (j : Nat) (H : hL) : hL := itN (fun _ h => (passS A m1 h).2) j H
def XAh (A : pL) (H : hL) (s : mS) : Prop := gI s 105 32 = m1 ∨ ∃ n, n ≤ 60 ∧ H.1 0 + n ≤ 999 ∧ gI s 105 32 = nI n ∧ (∀ j, j ≤ n → gA s 35 j = nI ((nitS A j H).1 2) ∧ gA s 36 j = nI ((nitS A j H).1 1)) ∧ HR 33 (nitS A n H) s
/-- what a set of porters changes; the doors that were seen -/
def chS (A : pL) (H : hL) (c : Nat) : Nat := itN (fun p acc => if c.testBit p then acc ^^^ ordS A H p else acc) (pP A) 0
def sOp (se : Nat × (Nat → Nat × Bool)) : Nat := itN (fun k acc => if (se.2 k).2 then acc ||| 1 <<< (se.2 k).1 else acc) se.1 0
def sSh (se : Nat × (Nat → Nat × Bool)) : Nat := itN (fun k acc => if (se.2 k).2 then acc else acc ||| 1 <<< (se.2 k).1) se.1 0
def fitS (A : pL) (H : hL) (se : Nat × (Nat → Nat × Bool)) (c : Nat) : Bool := decide ((H.1 2 ^^^ chS A H c) &&& sOp se = sOp se) && decide ((H.1 2 ^^^ chS A H c) &&& sSh se = 0)
def cntN (p : Nat → Bool) : Nat → Nat
  | 0 => 0
  | n + 1 => cntN p n + (if p n then 1 else 0)
def XRk (A : pL) (H : hL) (se : Nat × (Nat → Nat × Bool)) (s : mS) : Prop := gI s 804 37 = nI (2 ^ pP A) ∧ (∀ c, c < 2 ^ pP A → gA s 38 c = nI (chS A H c)) ∧ gI s 806 37 = nI (cntN (fitS A H se) (2 ^ pP A)) ∧ ∀ c, c < 2 ^ pP A → fitS A H se c = true → gA s 39 (cntN (fitS A H se) c) = nI c
def WS (A : pL) (se : Nat × (Nat → Nat × Bool)) : Prop := se.1 ≤ 24 ∧ ∀ k, k < se.1 → (se.2 k).1 < pD A
def XSe (A : pL) (H : hL) (se : Nat × (Nat → Nat × Bool)) (s : mS) : Prop := gI s 808 37 = nI se.1 ∧ gI s 809 37 = nI (sOp se) ∧ gI s 810 37 = nI (sSh se) ∧ (gI s 803 37 = nI 0 ∨ (gI s 803 37 = nI 1 ∧ XRk A H se s))
def WPa (A : pL) (pa : Nat × (Nat → hL)) : Prop := pa.1 ≤ 20 ∧ ∀ k, k < pa.1 → HB A (pa.2 k) ∧ (pa.2 k).1 3 ≤ 10 * (pa.2 k).1 0
def XPa (pa : Nat × (Nat → hL)) (s : mS) : Prop := gI s 302 23 = nI pa.1 ∧ ∃ nx, nx < 20 ∧ gI s 301 23 = nI nx ∧ ∀ k, k < pa.1 → HRF (pa.2 k) (fun i => gA s 24 ((nx + 19 - k) % 20 * 102 + i))
def MPa (A : pL) (pa : Nat × (Nat → hL)) (t : mS) : Prop := gI t 1061 0 = nI pa.1 ∧ ∃ ne, ne < 20 ∧ gI t 1062 0 = nI ne ∧ ∀ k, k < pa.1 → MRF A (pa.2 k) (fun i => gA t 40 (205 * ((ne + 20 - k) % 20) + i)) ∧ MKF (pa.2 k) (fun i => gA t 40 (205 * ((ne + 20 - k) % 20) + i))
def MSe (se : Nat × (Nat → Nat × Bool)) (t : mS) : Prop := gI t 1055 0 = nI se.1 ∧ ∀ k, k < se.1 → gA t 37 (2 * k) = nI (se.2 k).1 ∧ gA t 37 (2 * k + 1) = zi (b01 (se.2 k).2)
/-- the tape, refusals, the image, the seed, the fault: on both sides -/
def RTp (s t : mS) : Prop := ∃ (n : Nat) (tp : Nat → Nat), n ≤ 1600 ∧ gI s 1 0 = nI n ∧ gI t 1001 0 = nI n ∧ ∀ i, i < n → tp i < 256 ∧ gA s 1 i = nI (tp i) ∧ gA t 1 i = nI (tp i)
def RRf (s t : mS) : Prop := ∀ k, k < 6 → gA s 41 k = gA t 2 k
def RIm (s t : mS) : Prop := ∃ n, n ≤ 88 ∧ gI s 14 0 = nI n ∧ gI t 1098 0 = nI n ∧ ∀ i, i < n → gA s 40 i = gA t 67 i
def RSd (s t : mS) : Prop := ∃ x, x < 2147483648 ∧ gI s 16 0 = nI x ∧ gL t 1063 0 = lN x
def RFt (s t : mS) : Prop := gI s 612 18 = gI t 1007 0 ∧ gI s 613 18 = gI t 1008 0
def IVX (A : pL) (H : hL) (pa : Nat × (Nat → hL)) (se : Nat × (Nat → Nat × Bool)) (s : mS) : Prop := XP A s ∧ XNm A s ∧ HR 19 H s ∧ XO A (ptH H) s ∧ XAh A H s ∧ XSe A H se s ∧ XPa pa s
def IVM (A : pL) (H : hL) (pa : Nat × (Nat → hL)) (se : Nat × (Nat → Nat × Bool)) (t : mS) : Prop := MP A t ∧ MNm A t ∧ MX A H none t ∧ MSe se t ∧ MPa A pa t ∧ gI t 1046 0 = nI (if 0 < pD A then 1 else 0)
def IVR (s t : mS) : Prop := RTp s t ∧ RRf s t ∧ RIm s t ∧ RSd s t ∧ RFt s t
def IVW (A : pL) (H : hL) (pa : Nat × (Nat → hL)) (se : Nat × (Nat → Nat × Bool)) : Prop := WA A ∧ HB A H ∧ H.1 3 ≤ 10 * H.1 0 ∧ WPa A pa ∧ WS A se
def Inv (s t : mS) : Prop := ∃ A H pa se, IVW A H pa se ∧ IVX A H pa se s ∧ IVM A H pa se t ∧ IVR s t
def kXs : List Nat := [26, 28, 30, 31]
def kMs : List Nat := [114700, 119400, 5066, 114900, 115000, 115200, 115900, 35, 36, 38, 39]
section INV
variable {A : pL} {H : hL} {pa : Nat × (Nat → hL)} {se : Nat × (Nat → Nat × Bool)} {s s' t t' : mS} {l m : List Nat}
theorem XNm_fr (hF : Fr l s s') (hk : 5004 ∉ l) (h : XNm A s) : XNm A s' := fun p hp => by rw [hF.Q _ _ hk]; exact h p hp
theorem MNm_fr (hF : Fr l s s') (hk : ∀ k ∈ kWd, k ∉ l) (h : MNm A s) : MNm A s' :=
  ⟨fun p hp => by rw [hF.Q 29 _ (hk _ (by decide))]; exact h.1 p hp, fun o ho i => by rw [hF.A o i (hk _ (List.mem_cons_of_mem _ ho))]; exact h.2 o ho i⟩
theorem XAh_fr (hF : Fr l s s') (hk : ∀ k ∈ [20532, 34, 35, 36], k ∉ l) (h : XAh A H s) : XAh A H s' := by
  rcases h with h | ⟨n, h1, h2, h3, h4, h5⟩
  · left; rw [hF.I 105 32 (hk _ (by decide))]; exact h
  · refine Or.inr ⟨n, h1, h2, ?_, fun j hj => ?_, HR_fr hF (hk _ (by decide)) h5⟩
    · rw [hF.I 105 32 (hk _ (by decide))]; exact h3
    · rw [hF.A 35 _ (hk _ (by decide)), hF.A 36 _ (hk _ (by decide))]; exact h4 j hj
theorem XRk_fr (hF : Fr l s s') (hk : ∀ k ∈ [90437, 90637, 38, 39], k ∉ l) (h : XRk A H se s) : XRk A H se s' := by
  obtain ⟨h1, h2, h3, h4⟩ := h
  refine ⟨?_, fun c hc => ?_, ?_, fun c hc hf => ?_⟩
  · rw [hF.I 804 37 (hk _ (by decide))]; exact h1
  · rw [hF.A 38 _ (hk _ (by decide))]; exact h2 c hc
  · rw [hF.I 806 37 (hk _ (by decide))]; exact h3
  · rw [hF.A 39 _ (hk _ (by decide))]; exact h4 c hc hf
theorem XSe_fr (hF : Fr l s s') (hk : ∀ k ∈ [90837, 90937, 91037, 90337, 90437, 90637, 38, 39], k ∉ l) (h : XSe A H se s) : XSe A H se s' := by
  obtain ⟨h1, h2, h3, h4⟩ := h
  refine ⟨?_, ?_, ?_, ?_⟩
  · rw [hF.I 808 37 (hk _ (by decide))]; exact h1
  · rw [hF.I 809 37 (hk _ (by decide))]; exact h2
  · rw [hF.I 810 37 (hk _ (by decide))]; exact h3
  · rw [hF.I 803 37 (hk _ (by decide))]
    rcases h4 with h | ⟨h, g⟩
    · exact Or.inl h
    · exact Or.inr ⟨h, XRk_fr hF (fun k hk2 => hk k (by simp only [List.mem_cons, List.not_mem_nil, or_false] at hk2 ⊢; omega)) g⟩
theorem XPa_fr (hF : Fr l s s') (hk : ∀ k ∈ [40223, 40123, 24], k ∉ l) (h : XPa pa s) : XPa pa s' := by
  obtain ⟨h1, nx, h2, h3, h4⟩ := h
  refine ⟨?_, nx, h2, ?_, fun k hk2 => HRF_cong (fun i _ => (hF.A 24 _ (hk _ (by decide))).symm) (h4 k hk2)⟩
  · rw [hF.I 302 23 (hk _ (by decide))]; exact h1
  · rw [hF.I 301 23 (hk _ (by decide))]; exact h3
theorem MPa_fr (hA : WA A) (hF : Fr l s s') (hk : ∀ k ∈ [116100, 116200, 40], k ∉ l) (h : MPa A pa s) : MPa A pa s' := by
  obtain ⟨h1, ne, h2, h3, h4⟩ := h
  refine ⟨?_, ne, h2, ?_, fun k hk2 => ⟨MRF_cong hA.1 (fun i _ => (hF.A 40 _ (hk _ (by decide))).symm) (h4 k hk2).1, MKF_cong (fun i _ _ => (hF.A 40 _ (hk _ (by decide))).symm) (h4 k hk2).2⟩⟩
  · rw [hF.I 1061 0 (hk _ (by decide))]; exact h1
  · rw [hF.I 1062 0 (hk _ (by decide))]; exact h3
theorem MSe_fr (hF : Fr l s s') (hk : ∀ k ∈ [115500, 37], k ∉ l) (h : MSe se s) : MSe se s' := by
  refine ⟨?_, fun k hk2 => ?_⟩
  · rw [hF.I 1055 0 (hk _ (by decide))]; exact h.1
  · rw [hF.A 37 _ (hk _ (by decide)), hF.A 37 _ (hk _ (by decide))]; exact h.2 k hk2
theorem RTp_fr (hF : Fr l s s') (hG : Fr m t t') (hk : ∀ k ∈ [10100, 1], k ∉ l) (hk2 : ∀ k ∈ [110100, 1], k ∉ m) (h : RTp s t) : RTp s' t' := by
  obtain ⟨n, tp, h1, h2, h3, h4⟩ := h
  refine ⟨n, tp, h1, ?_, ?_, fun i hi => ?_⟩
  · rw [hF.I 1 0 (hk _ (by decide))]; exact h2
  · rw [hG.I 1001 0 (hk2 _ (by decide))]; exact h3
  · rw [hF.A 1 _ (hk _ (by decide)), hG.A 1 _ (hk2 _ (by decide))]; exact h4 i hi
theorem RRf_fr (hF : Fr l s s') (hG : Fr m t t') (hk : 41 ∉ l) (hk2 : 2 ∉ m) (h : RRf s t) : RRf s' t' := fun k hk3 => by
  rw [hF.A _ _ hk, hG.A _ _ hk2]; exact h k hk3
theorem RIm_fr (hF : Fr l s s') (hG : Fr m t t') (hk : ∀ k ∈ [11400, 40], k ∉ l) (hk2 : ∀ k ∈ [119800, 67], k ∉ m) (h : RIm s t) : RIm s' t' := by
  obtain ⟨n, h1, h2, h3, h4⟩ := h
  refine ⟨n, h1, ?_, ?_, fun i hi => ?_⟩
  · rw [hF.I 14 0 (hk _ (by decide))]; exact h2
  · rw [hG.I 1098 0 (hk2 _ (by decide))]; exact h3
  · rw [hF.A 40 _ (hk _ (by decide)), hG.A 67 _ (hk2 _ (by decide))]; exact h4 i hi
theorem RSd_fr (hF : Fr l s s') (hG : Fr m t t') (hk : 11600 ∉ l) (hk2 : 306300 ∉ m) (h : RSd s t) : RSd s' t' := by
  obtain ⟨x, h1, h2, h3⟩ := h
  exact ⟨x, h1, by rw [hF.I 16 0 hk]; exact h2, by rw [hG.L 1063 0 hk2]; exact h3⟩
theorem RFt_fr (hF : Fr l s s') (hG : Fr m t t') (hk : ∀ k ∈ [71218, 71318], k ∉ l) (hk2 : ∀ k ∈ [110700, 110800], k ∉ m) (h : RFt s t) : RFt s' t' := by
  refine ⟨?_, ?_⟩
  · rw [hF.I 612 18 (hk _ (by decide)), hG.I 1007 0 (hk2 _ (by decide))]; exact h.1
  · rw [hF.I 613 18 (hk _ (by decide)), hG.I 1008 0 (hk2 _ (by decide))]; exact h.2
def kR : List Nat := [10100, 1, 41, 11400, 40, 11600, 71218, 71318]
def kR2 : List Nat := [110100, 1, 2, 119800, 67, 306300, 110700, 110800]
theorem IVR_fr (hF : Fr l s s') (hG : Fr m t t') (hk : ∀ k ∈ kR, k ∉ l) (hk2 : ∀ k ∈ kR2, k ∉ m) (h : IVR s t) : IVR s' t' :=
  ⟨RTp_fr hF hG (fun k h => hk k (by unfold kR; simp only [List.mem_cons, List.not_mem_nil, or_false] at h ⊢; omega)) (fun k h => hk2 k (by unfold kR2; simp only [List.mem_cons, List.not_mem_nil, or_false] at h ⊢; omega)) h.1,
   RRf_fr hF hG (hk _ (by decide)) (hk2 _ (by decide)) h.2.1,
   RIm_fr hF hG (fun k h => hk k (by unfold kR; simp only [List.mem_cons, List.not_mem_nil, or_false] at h ⊢; omega)) (fun k h => hk2 k (by unfold kR2; simp only [List.mem_cons, List.not_mem_nil, or_false] at h ⊢; omega)) h.2.2.1,
   RSd_fr hF hG (hk _ (by decide)) (hk2 _ (by decide)) h.2.2.2.1,
   RFt_fr hF hG (fun k h => hk k (by unfold kR; simp only [List.mem_cons, List.not_mem_nil, or_false] at h ⊢; omega)) (fun k h => hk2 k (by unfold kR2; simp only [List.mem_cons, List.not_mem_nil, or_false] at h ⊢; omega)) h.2.2.2.2⟩
def kIX : List Nat := [50002, 50102, 50202, 50302, 51002, 60105, 6, 7, 8, 5004, 20, 20532, 34, 35, 36, 90837, 90937, 91037, 90337, 90437, 90637, 38, 39, 40223, 40123, 24]
theorem IVX_fr (hF : Fr l s s') (hk : ∀ k ∈ kIX, k ∉ l) (hO : XO A (ptH H) s') (h : IVX A H pa se s) : IVX A H pa se s' := by
  obtain ⟨h1, h2, h3, h4, h5, h6, h7⟩ := h
  refine ⟨XP_fr hF (fun k h => hk k ?_) h1, XNm_fr hF (hk _ (by decide)) h2, HR_fr hF (hk _ (by decide)) h3, hO, XAh_fr hF (fun k h => hk k ?_) h5, XSe_fr hF (fun k h => hk k ?_) h6, XPa_fr hF (fun k h => hk k ?_) h7⟩
  · unfold kIX; unfold kXP at h; simp only [List.mem_cons, List.not_mem_nil, or_false] at h ⊢; omega
  · unfold kIX; simp only [List.mem_cons, List.not_mem_nil, or_false] at h ⊢; omega
  · unfold kIX; simp only [List.mem_cons, List.not_mem_nil, or_false] at h ⊢; omega
  · unfold kIX; simp only [List.mem_cons, List.not_mem_nil, or_false] at h ⊢; omega
def kIM : List Nat := [28, 31, 32, 33, 34, 115300, 115500, 37, 116100, 116200, 40, 114600, 5029, 3, 4, 5, 6, 7, 8, 9, 10, 11, 12, 13, 14, 15, 16, 17, 18, 19, 20, 21, 22, 23, 24, 25, 26, 27, 41, 42, 43, 44, 45, 46, 47, 48, 49, 50, 51, 52, 53, 54, 55, 56, 57, 58, 59, 60, 61, 62, 63]
theorem IVM_fr (hA : WA A) (hF : Fr l t t') (hk : ∀ k ∈ kIM, k ∉ l) (h : IVM A H pa se t) : IVM A H pa se t' := by
  obtain ⟨h1, h2, h3, h4, h5, h6⟩ := h
  refine ⟨MP_fr hF (fun k h => hk k ?_) h1, MNm_fr hF (fun k h => hk k ((by decide : ∀ k ∈ kWd, k ∈ kIM) k h)) h2, MX_fr hF (hk _ (by decide)) (hk _ (by decide)) h3, MSe_fr hF (fun k h => hk k ?_) h4, MPa_fr hA hF (fun k h => hk k ?_) h5, by rw [hF.I 1046 0 (hk _ (by decide))]; exact h6⟩
  · unfold kIM; unfold kMP at h; simp only [List.mem_cons, List.not_mem_nil, or_false] at h ⊢; omega
  · unfold kIM; simp only [List.mem_cons, List.not_mem_nil, or_false] at h ⊢; omega
  · unfold kIM; simp only [List.mem_cons, List.not_mem_nil, or_false] at h ⊢; omega
/-- asked alone: nothing but what is reckoned on the way has changed -/
theorem Inv_q (hW : IVW A H pa se) (hX : IVX A H pa se s) (hM : IVM A H pa se t) (hR : IVR s t) (hF : Fr kXs s s') (hO : XO A (ptH H) s') (hG : Fr kMs t t') : Inv s' t' :=
  ⟨A, H, pa, se, hW, IVX_fr hF (by decide) hO hX, IVM_fr hW.1 hG (by decide) hM, IVR_fr hF hG (by decide) (by decide) hR⟩
end INV
/-! arguments -/
theorem arg_z (a : Int32) : ∃ v : Int, -2147483648 ≤ v ∧ v < 2147483648 ∧ a = zi v := ⟨a.toInt, (fb_rng a).1, (fb_rng a).2, (Int32.ofInt_toInt a).symm⟩
section ARGS
variable {N n : Nat} {v : Int} {s : mS}
theorem isIn_z {a b c : Int} (ha : -2147483648 ≤ a ∧ a < 2147483648) (hb : -2147483648 ≤ b ∧ b < 2147483648) (hc : -2147483648 ≤ c ∧ c < 2147483648) : f_M_isIn N (zl a) (zl b) (zl c) s = some (nI (if b ≤ a ∧ a ≤ c then 1 else 0), s) := by
  have q1 : (lg_cmp (zl a) (zl b) < 0) = (a < b) := zc_lt (by omega)
  have q2 : (0 < lg_cmp (zl a) (zl c)) = (c < a) := zc_gt (by omega)
  simp only [f_M_isIn, q1, q2]
  by_cases c1 : a < b
  · rw [if_pos c1, if_neg (by omega)]; rfl
  · rw [if_neg c1]
    by_cases c2 : c < a
    · rw [if_pos c2, if_neg (by omega)]; rfl
    · rw [if_neg c2, if_pos (by omega)]; rfl
theorem isIn_n (hv : -2147483648 ≤ v ∧ v < 2147483648) (hn : n < 1000000) : f_M_isIn N (zi v).toInt64 0 ((nI n - 1)).toInt64 s = some (nI (if 0 ≤ v ∧ v < n then 1 else 0), s) := by
  have e : nI n - 1 = zi ((n : Int) - 1) := by rw [← zi_nI]; exact zi_sub (b := 1)
  rw [e, zi_l hv, zi_l (by omega), show (0 : Int64) = zl 0 from rfl, isIn_z hv (by omega) (by omega)]
  congr 3
  by_cases c : 0 ≤ v ∧ v < (n : Int)
  · rw [if_pos c, if_pos (by omega)]
  · rw [if_neg c, if_neg (by omega)]
theorem isb_n (c : Prop) [Decidable c] : isb (nI (if c then 1 else 0)) = true := by
  by_cases h : c
  · rw [if_pos h]; rfl
  · rw [if_neg h]; rfl
theorem zi_n_lt (hv : -2147483648 ≤ v ∧ v < 2147483648) (hn : n < 1000000) : (zi v < nI n) = (v < n) := by
  rw [← zi_nI, zi_lt (by omega)]
theorem n_zi_lt (hv : -2147483648 ≤ v ∧ v < 2147483648) (hn : n < 1000000) : (nI n < zi v) = ((n : Int) < v) := by
  rw [← zi_nI, zi_lt (by omega)]
theorem zi_n_eq (hv : -2147483648 ≤ v ∧ v < 2147483648) (hn : n < 1000000) : (zi v = nI n) = (v = n) := by
  rw [← zi_nI, zi_eq (by omega)]
end ARGS
section ARGS2
variable {N : Nat} {v : Int} {A : pL} {s : mS}
theorem xIsPorter_n (hA : WA A) (hP : XP A s) (hv : -2147483648 ≤ v ∧ v < 2147483648) : f_X_isPorter N (zi v) s = some (nI (if 0 ≤ v ∧ v < pP A then 1 else 0), s) := by
  have := hA.2.1
  simp (disch := first | omega | decide) only [f_X_isPorter, hP.2.1, zI_0, zI_1, zI_2, zI_3, zI_4, zI_5, zI_6, zI_7, zI_8, zI_9, zI_10, zI_11, zI_12, zI_13, zI_14, zI_15, zI_16, zI_17, zI_18, zI_19, zI_20, zI_21, zI_22, zI_23, zI_24, zI_25, zI_26, zI_27, zI_28, zI_29, zI_30, zI_31, zI_32, zI_33, zI_34, zI_35, zI_36, zI_37, zI_38, zI_39, zI_40, zI_41, zI_42, zI_43, zI_44, zI_45, zI_46, zI_47, zI_48, zI_49, zI_50, zI_51, zI_52, zI_53, zI_54, zI_55, zI_56, zI_57, zI_58, zI_59, zI_60, zI_61, zI_62, zI_63, zI_64, zI_65, zI_66, zI_67, zI_74, zI_84, zI_85, zI_88, zI_91, zI_93, zI_97, zI_99, zI_100, zI_102, zI_105, zI_117, zI_122, zI_193, zI_202, zI_205, zI_251, zI_255, zI_256, zI_257, zI_258, zI_259, zI_260, zI_640, zI_999, zI_1000, zI_1024, zI_1600, zI_1602, zI_1700, zI_2040, zI_3200, zI_4100, zI_9728, zI_11784, zI_61440, zI_65536, zI_470536, zI_999999, zI_1000000, zi_n_lt]
  by_cases c1 : v < 0
  · rw [if_pos (show v < ((0 : Nat) : Int) from c1), if_neg (by omega)]
  · rw [if_neg (show ¬ v < ((0 : Nat) : Int) from c1)]
    by_cases c2 : v < (pP A : Int)
    · rw [if_pos c2, if_pos (by omega)]
    · rw [if_neg c2, if_neg (by omega)]
theorem xIsDoor_n (hA : WA A) (hP : XP A s) (hv : -2147483648 ≤ v ∧ v < 2147483648) : f_X_isDoor N (zi v) s = some (nI (if 0 ≤ v ∧ v < pD A then 1 else 0), s) := by
  have := hA.1
  simp (disch := first | omega | decide) only [f_X_isDoor, hP.1, zI_0, zI_1, zI_2, zI_3, zI_4, zI_5, zI_6, zI_7, zI_8, zI_9, zI_10, zI_11, zI_12, zI_13, zI_14, zI_15, zI_16, zI_17, zI_18, zI_19, zI_20, zI_21, zI_22, zI_23, zI_24, zI_25, zI_26, zI_27, zI_28, zI_29, zI_30, zI_31, zI_32, zI_33, zI_34, zI_35, zI_36, zI_37, zI_38, zI_39, zI_40, zI_41, zI_42, zI_43, zI_44, zI_45, zI_46, zI_47, zI_48, zI_49, zI_50, zI_51, zI_52, zI_53, zI_54, zI_55, zI_56, zI_57, zI_58, zI_59, zI_60, zI_61, zI_62, zI_63, zI_64, zI_65, zI_66, zI_67, zI_74, zI_84, zI_85, zI_88, zI_91, zI_93, zI_97, zI_99, zI_100, zI_102, zI_105, zI_117, zI_122, zI_193, zI_202, zI_205, zI_251, zI_255, zI_256, zI_257, zI_258, zI_259, zI_260, zI_640, zI_999, zI_1000, zI_1024, zI_1600, zI_1602, zI_1700, zI_2040, zI_3200, zI_4100, zI_9728, zI_11784, zI_61440, zI_65536, zI_470536, zI_999999, zI_1000000, zi_n_lt]
  by_cases c1 : v < 0
  · rw [if_pos (show v < ((0 : Nat) : Int) from c1), if_neg (by omega)]
  · rw [if_neg (show ¬ v < ((0 : Nat) : Int) from c1)]
    by_cases c2 : v < (pD A : Int)
    · rw [if_pos c2, if_pos (by omega)]
    · rw [if_neg c2, if_neg (by omega)]
theorem mIsPorter_n (hA : WA A) (hP : MP A s) (hv : -2147483648 ≤ v ∧ v < 2147483648) : f_M_isPorter N (zi v).toInt64 s = some (nI (if 0 ≤ v ∧ v < pP A then 1 else 0), s) := by
  have := hA.2.1
  simp (disch := first | omega | decide) only [f_M_isPorter, f_M_porterMany, hP.2.1, Option.bind_some, isIn_n hv (show pP A < 1000000 by omega), isb_n, grd_t]
theorem mIsDoor_n (hA : WA A) (hP : MP A s) (hv : -2147483648 ≤ v ∧ v < 2147483648) : f_M_isDoor N (zi v).toInt64 s = some (nI (if 0 ≤ v ∧ v < pD A then 1 else 0), s) := by
  have := hA.1
  simp (disch := first | omega | decide) only [f_M_isDoor, f_M_doorMany, hP.1, Option.bind_some, isIn_n hv (show pD A < 1000000 by omega), isb_n, grd_t]
end ARGS2
