/-! fields and arrays -/
theorem mV_fv (B tS : Nat) (R0 : Nat → Nat → Option Nat) (oF : Nat) (s : mS) (a b o : Nat) : mV B tS (fv mKd R0 oF s a b o) = mFv (Rf R0 oF s) (mAd B tS) s a b o := by
  unfold fv mFv
  generalize mKd a b = z
  match z with
  | 0 => rfl
  | 1 => rfl
  | 2 => cases Rf R0 oF s (100 * a + b) o <;> rfl
  | k + 3 => rfl
theorem mEnt_congr {dA : Nat → ClassId} {S : mW} {R R' : Nat → Nat → Option Nat} {ad : Nat → Nat} {s s' : mS} {o : Nat} (h1 : ∀ f, gI s' f o = gI s f o) (h2 : ∀ f, gL s' f o = gL s f o) (h3 : ∀ ci k, S o = .inl ci → k < mN ci → R' (100 * ci + k) o = R (100 * ci + k) o) (h4 : ∀ i, gA s' o i = gA s o i) (h5 : ∀ i, gQ s' o i = gQ s o i) : mEnt dA S R' ad s' o = mEnt dA S R ad s o := by
  unfold mEnt
  split
  · rename_i ci hci
    congr 2
    apply List.map_congr_left
    intro k hk
    unfold mFv
    rw [h1, h2, h3 ci k hci (List.mem_range.mp hk)]
  · congr 3
    have e4 : (fun j => gA s' o j) = fun j => gA s o j := funext h4
    have e5 : (fun j => gQ s' o j) = fun j => gQ s o j := funext h5
    rw [e4, e5]
theorem mEnt_obj {dA : Nat → ClassId} {S : mW} {R : Nat → Nat → Option Nat} {ad : Nat → Nat} {s : mS} {o ci : Nat} (h : S o = .inl ci) : mEnt dA S R ad s o = .inr (ci, (List.range (mN ci)).map fun k => mFv R ad s ci k o) := by unfold mEnt; rw [h]
theorem mEnt_arr {dA : Nat → ClassId} {S : mW} {R : Nat → Nat → Option Nat} {ad : Nat → Nat} {s : mS} {o t N : Nat} (h : S o = .inr (t, N)) (ht : t ≠ 3) : mEnt dA S R ad s o = .inl (dA t, N, .inl fun j => gA s o j) := by unfold mEnt; rw [h]; simp [ht]
theorem mEnt_arrL {dA : Nat → ClassId} {S : mW} {R : Nat → Nat → Option Nat} {ad : Nat → Nat} {s : mS} {o N : Nat} (h : S o = .inr (3, N)) : mEnt dA S R ad s o = .inl (dA 3, N, .inr (.inl fun j => gQ s o j)) := by unfold mEnt; rw [h]; simp
theorem map_range_set {α : Type} (f g : Nat → α) (N b : Nat) (x : α) (hb : b < N) (h1 : g b = x) (h2 : ∀ k, k < N → k ≠ b → g k = f k) : (List.range N).map g = ((List.range N).map f).set b x := by
  apply List.ext_getElem?
  intro j
  by_cases hj : j < N
  · rw [List.getElem?_map, List.getElem?_range hj]
    by_cases e : j = b
    · subst e
      rw [List.getElem?_set_self (by simpa using hj), ← h1]; rfl
    · rw [List.getElem?_set_ne (Ne.symm e), List.getElem?_map, List.getElem?_range hj]
      show some (g j) = some (f j)
      rw [h2 j hj e]
  · rw [List.getElem?_eq_none (by simp; omega), List.getElem?_eq_none (by simp; omega)]
theorem mTy_at (dA : Nat → ClassId) : (mTy dA)[0]? = some (dA 0, .int) ∧ (mTy dA)[1]? = some (dA 1, .char) ∧ (mTy dA)[2]? = some (dA 2, .boolean) ∧ (mTy dA)[3]? = some (dA 3, .long) := ⟨rfl, rfl, rfl, rfl⟩
section HEAP
variable {S : mW} {R0 : Nat → Nat → Option Nat} {oF n d : Nat} {q : mI} {fin : Option Value × mS} {l : Launch} {B tS : Nat} {D : va_G} {dA : Nat → ClassId} {p : Program} {e : Env} {s0 : State} {m : MethodId} {args : Array Value} {below : List Frame} {meth : Method} {c : Code} {pc : Nat} {loc : mL} {r : List Value} {s : mS}
theorem Wv_getfield (hc : mCtx q l B tS n D dA p e s0 m args meth c) (hw : mOF S oF n) {a b o idx i : Nat} (hS : S o = .inl a) (hf : (idx, a, b, i) ∈ mFl (mOw q)) (hd : decode (mBy q) pc = .ok (.getfield idx, 3)) (k : Wv S R0 oF n d q fin l B tS D dA p e s0 m args below meth c (pc + 3) loc (fv mKd R0 oF s a b o :: r) s) : Wv S R0 oF n d q fin l B tS D dA p e s0 m args below meth c pc loc (.ref o :: r) s := fun H ls locs hP hl hS1 => by
  obtain ⟨qc, h1, h2, h3⟩ := mFl_ok _ _ hf
  dsimp only at h1 h2 h3
  have ho : o < n := hw.1 o a hS (mcl_lt h1)
  have hk := k H ls locs hP hl hS1
  rw [List.map_cons, mV_fv] at hk
  exact va_get (D := D) (ci := a) (v := mFv (Rf R0 oF s) (mAd B tS) s a b o) (C := qc.1) (T := qc.2.1) (N := qc.2.2) hc.1 hc.2.1 hc.2.2.2.2.2.1 (cls_ok h1).1 hc.2.2.2.2.1 hc.2.2.2.2.2.2.2.1 hP o (by rw [mWs_at ho, mEnt_obj hS]) h1 b h2 (hc.2.2.2.2.2.1 _ h3) (fun x hx => by rw [(fld_ok h1 h2).2.1] at hx; exact hx) (by rw [List.getElem?_map, mN_of h1, List.getElem?_range h2]; rfl) hd hk
/-- any put: the world behind it is given -/
theorem Wv_put (hc : mCtx q l B tS n D dA p e s0 m args meth c) (hw : mOF S oF n) {a b o idx i : Nat} {v : Value} {s' : mS} (hS : S o = .inl a) (hf : (idx, a, b, i) ∈ mFl (mOw q)) (hfin : ∀ qc, mcl[a]? = some qc → (qc.2.1 b).2.2.2 = false) (hd : decode (mBy q) pc = .ok (.putfield idx, 3))
    (hn : ∀ qc, mcl[a]? = some qc → b < qc.2.2 → narrow (mFT (qc.2.1 b).2.2.1) (mV B tS v) = mV B tS v ∧ fits (mFT (qc.2.1 b).2.2.1) (mV B tS v) = true)
    (h1' : ∀ N, mN a = N → b < N → (List.range N).map (fun k => mFv (Rf R0 oF s') (mAd B tS) s' a k o) = ((List.range N).map fun k => mFv (Rf R0 oF s) (mAd B tS) s a k o).set b (mV B tS v))
    (h2' : ∀ j, j < n → j ≠ o → mEnt dA S (Rf R0 oF s') (mAd B tS) s' j = mEnt dA S (Rf R0 oF s) (mAd B tS) s j)
    (k : Wv S R0 oF n d q fin l B tS D dA p e s0 m args below meth c (pc + 3) loc r s') : Wv S R0 oF n d q fin l B tS D dA p e s0 m args below meth c pc loc (v :: .ref o :: r) s := fun H ls locs hP hl hS1 => by
  obtain ⟨qc, h1, h2, h3⟩ := mFl_ok _ _ hf
  dsimp only at h1 h2 h3
  have ho : o < n := hw.1 o a hS (mcl_lt h1)
  have hN := mN_of h1
  refine va_put (D := D) (ci := a) (v := mV B tS v) (C := qc.1) (T := qc.2.1) (N := qc.2.2) (ty := mFT (qc.2.1 b).2.2.1) hc.1 hc.2.1 hc.2.2.2.2.2.1 (cls_ok h1).1 (fun k => mFT (qc.2.1 k).2.2.1) (cls_ok h1).2.1 (cls_ok h1).2.2.1 hc.2.2.2.2.1 hc.2.2.2.2.2.2.2.1 hP (mWs_D hw.2.2.1) hS1 o (fs := (List.range (mN a)).map fun k => mFv (Rf R0 oF s) (mAd B tS) s a k o) (by rw [mWs_at ho, mEnt_obj hS]) h1 b h2 (hc.2.2.2.2.2.1 _ h3) (fun x hx => by rw [(fld_ok h1 h2).2.1] at hx; exact hx) (hfin qc h1) (fld_ok h1 h2).1 (hn qc h1 h2).1 (hn qc h1 h2).2 (by rw [List.length_map, List.length_range, hN]; exact h2) hd (fun H1 locs1 hP1 hD1 hS2 => ?_)
  rw [mWs_set ho (by rw [mEnt_obj hS, h1' (mN a) rfl (by rw [hN]; exact h2)]) h2'] at hP1
  exact k H1 ls locs1 hP1 hl hS2
theorem okK_int {a b : Nat} {ty : FieldType} (h : okK a b ty = true) (hk : mKd a b = 0) : ty = .int := by
  unfold okK at h; rw [hk] at h; exact of_decide_eq_true h
theorem okK_long {a b : Nat} {ty : FieldType} (h : okK a b ty = true) (hk : mKd a b = 1) : ty = .long := by
  unfold okK at h; rw [hk] at h; exact of_decide_eq_true h
theorem okK_ref {a b : Nat} {ty : FieldType} (h : okK a b ty = true) (hk : mKd a b = 2) : ty.isReference = true := by
  unfold okK at h; rw [hk] at h; exact h
theorem okK_bool {a b : Nat} {ty : FieldType} (h : okK a b ty = true) (hk : mKd a b = 3) : ty = .boolean := by
  unfold okK at h; rw [hk] at h; exact of_decide_eq_true h
theorem Rf_sI {f o : Nat} {x : Int32} : Rf R0 oF (sI s f o x) = Rf R0 oF s := rfl
theorem Rf_sL {f o : Nat} {x : Int64} : Rf R0 oF (sL s f o x) = Rf R0 oF s := rfl
theorem Rf_sA {f o : Nat} {x : Int32} : Rf R0 oF (sA s f o x) = Rf R0 oF s := rfl
theorem Rf_sQ {f o : Nat} {x : Int64} : Rf R0 oF (sQ s f o x) = Rf R0 oF s := rfl
theorem mFv_int {R : Nat → Nat → Option Nat} {ad : Nat → Nat} {a k o : Nat} (h : mKd a k = 0 ∨ mKd a k = 3) : mFv R ad s a k o = .int (gI s (100 * a + k) o) := by
  unfold mFv; rcases h with h | h <;> rw [h] <;> rfl
theorem Wv_putI (hc : mCtx q l B tS n D dA p e s0 m args meth c) (hw : mOF S oF n) {a b o idx i : Nat} {x : Int32} (hS : S o = .inl a) (hf : (idx, a, b, i) ∈ mFl (mOw q)) (hfin : ∀ qc, mcl[a]? = some qc → (qc.2.1 b).2.2.2 = false) (hd : decode (mBy q) pc = .ok (.putfield idx, 3)) (hkd : mKd a b = 0 ∨ (mKd a b = 3 ∧ isb x = true)) (k : Wv S R0 oF n d q fin l B tS D dA p e s0 m args below meth c (pc + 3) loc r (sI s (100 * a + b) o x)) : Wv S R0 oF n d q fin l B tS D dA p e s0 m args below meth c pc loc (.int x :: .ref o :: r) s := by
  have hk2 : mKd a b = 0 ∨ mKd a b = 3 := hkd.elim Or.inl (fun h => Or.inr h.1)
  refine Wv_put hc hw (v := .int x) hS hf hfin hd (fun qc h1 h2 => ?_) (fun N _ hb => ?_) (fun j hj hne => ?_) k
  · rcases hkd with h | ⟨h, hb⟩
    · rw [okK_int (fld_ok h1 h2).2.2.1 h]; exact ⟨rfl, rfl⟩
    · rw [okK_bool (fld_ok h1 h2).2.2.1 h]
      have hz : mV B tS (.int x) = .int x := rfl
      rw [hz]
      refine ⟨isb_spec hb, ?_⟩
      have := fits_narrow_boolean x
      rwa [isb_spec hb] at this
  · refine map_range_set _ _ N b _ hb ?_ (fun k hk hne => ?_)
    · show mFv _ _ _ _ _ _ = _
      rw [mFv_int hk2]; exact congrArg Value.int (up2_self _ _ _ _)
    · unfold mFv
      have e1 : gI (sI s (100 * a + b) o x) (100 * a + k) o = gI s (100 * a + k) o := up2_ne1 _ _ (by omega)
      rw [e1]; rfl
  · exact mEnt_congr (fun f => up2_ne2 _ _ hne) (fun f => rfl) (fun ci k _ _ => rfl) (fun i => rfl) (fun i => rfl)
theorem Wv_putL (hc : mCtx q l B tS n D dA p e s0 m args meth c) (hw : mOF S oF n) {a b o idx i : Nat} {x : Int64} (hS : S o = .inl a) (hf : (idx, a, b, i) ∈ mFl (mOw q)) (hfin : ∀ qc, mcl[a]? = some qc → (qc.2.1 b).2.2.2 = false) (hd : decode (mBy q) pc = .ok (.putfield idx, 3)) (hkd : mKd a b = 1) (k : Wv S R0 oF n d q fin l B tS D dA p e s0 m args below meth c (pc + 3) loc r (sL s (100 * a + b) o x)) : Wv S R0 oF n d q fin l B tS D dA p e s0 m args below meth c pc loc (.long x :: .ref o :: r) s := by
  refine Wv_put hc hw (v := .long x) hS hf hfin hd (fun qc h1 h2 => ?_) (fun N _ hb => ?_) (fun j hj hne => ?_) k
  · rw [okK_long (fld_ok h1 h2).2.2.1 hkd]; exact ⟨rfl, rfl⟩
  · refine map_range_set _ _ N b _ hb ?_ (fun k hk hne => ?_)
    · show mFv _ _ _ _ _ _ = _
      unfold mFv; rw [hkd]; exact congrArg Value.long (up2_self _ _ _ _)
    · unfold mFv
      have e1 : gL (sL s (100 * a + b) o x) (100 * a + k) o = gL s (100 * a + k) o := up2_ne1 _ _ (by omega)
      rw [e1]; rfl
  · exact mEnt_congr (fun f => rfl) (fun f => up2_ne2 _ _ hne) (fun ci k _ _ => rfl) (fun i => rfl) (fun i => rfl)
theorem Rf_sO_ne {f o x : Nat} (h : f ≠ oF) : Rf R0 oF (sO s x) f o = Rf R0 oF s f o := by
  unfold Rf
  cases hb : Nat.beq f oF
  · rfl
  · exact absurd (Nat.eq_of_beq_eq_true hb) h
theorem Wv_putO (hc : mCtx q l B tS n D dA p e s0 m args meth c) (hw : mOF S oF n) {a b o x idx i : Nat} (hS : S o = .inl a) (hf : (idx, a, b, i) ∈ mFl (mOw q)) (hfin : ∀ qc, mcl[a]? = some qc → (qc.2.1 b).2.2.2 = false) (hd : decode (mBy q) pc = .ok (.putfield idx, 3)) (hkd : mKd a b = 2) (he : 100 * a + b = oF) (k : Wv S R0 oF n d q fin l B tS D dA p e s0 m args below meth c (pc + 3) loc r (sO s x)) : Wv S R0 oF n d q fin l B tS D dA p e s0 m args below meth c pc loc (.ref x :: .ref o :: r) s := by
  obtain ⟨qc, g1, g2, -⟩ := mFl_ok _ _ hf
  dsimp only at g1 g2
  have hb99 : b < 99 := (fld_ok g1 g2).2.2.2
  have hdiv : oF / 100 = a := by omega
  refine Wv_put hc hw (v := .ref x) hS hf hfin hd (fun qc h1 h2 => ?_) (fun N _ hb => ?_) (fun j hj hne => ?_) k
  · have hr := okK_ref (fld_ok h1 h2).2.2.1 hkd
    show narrow _ (.ref _) = .ref _ ∧ fits _ (.ref _) = true
    cases hty : mFT (qc.2.1 b).2.2.1 <;> rw [hty] at hr <;> first | exact absurd hr (by decide) | exact ⟨rfl, rfl⟩ | (simp [FieldType.isReference] at hr)
  · refine map_range_set _ _ N b _ hb ?_ (fun k hk hne => ?_)
    · show mFv _ _ _ _ _ _ = _
      unfold mFv; rw [hkd]
      have : Rf R0 oF (sO s x) (100 * a + b) o = some x := by
        unfold Rf; rw [he, show Nat.beq oF oF = true from Nat.beq_refl oF]; rfl
      rw [this]; rfl
    · unfold mFv
      rw [Rf_sO_ne (by omega)]; rfl
  · refine mEnt_congr (fun f => rfl) (fun f => rfl) (fun ci k hci hk => ?_) (fun i => rfl) (fun i => rfl)
    refine Rf_sO_ne fun h => hne ?_
    have hk99 : k < 100 := by
      unfold mN at hk
      cases hm : mcl[ci]? with
      | none => rw [hm] at hk; exact absurd hk (Nat.not_lt_zero _)
      | some qc => rw [hm] at hk; have := (fld_ok hm hk).2.2.2; omega
    have : ci = a := by omega
    subst this
    exact hw.2.2.2 j o (by rw [hdiv]; exact hci) (by rw [hdiv]; exact hS)
theorem arr_lt {S : mW} {oF n o t N : Nat} (hw : mOF S oF n) (h : S o = .inr (t, N)) : o < n ∧ N < 2 ^ 31 ∧ t < 4 := ⟨(hw.2.1 o _ h).2.1, (hw.2.1 o _ h).2.2, (hw.2.1 o _ h).1⟩
theorem Wv_iald (hc : mCtx q l B tS n D dA p e s0 m args meth c) (hw : mOF S oF n) {o : Nat} {j : Int32} (hi : inb j (aln S 0 o) = true) (hd : decode (mBy q) pc = .ok (.iaload, 1)) (k : Wv S R0 oF n d q fin l B tS D dA p e s0 m args below meth c (pc + 1) loc (.int (gA s o (ix j)) :: r) s) : Wv S R0 oF n d q fin l B tS D dA p e s0 m args below meth c pc loc (.int j :: .ref o :: r) s := fun H ls locs hP hl hS1 =>
  va_iald (D := D) (cA := dA 0) (n := aln S 0 o) (f := fun i => gA s o i) hc.1 hc.2.1 hc.2.2.2.2.2.2.2.1 hP o 0 (by rw [mWs_at (arr_lt hw (aln_spec rfl (inb_pos hi))).1, mEnt_arr (aln_spec rfl (inb_pos hi)) (by decide)]) (by rfl) (inb_spec hi) hd (k H ls locs hP hl hS1)
theorem Wv_cald (hc : mCtx q l B tS n D dA p e s0 m args meth c) (hw : mOF S oF n) {o : Nat} {j : Int32} (hi : inb j (aln S 1 o) = true) (hd : decode (mBy q) pc = .ok (.caload, 1)) (k : Wv S R0 oF n d q fin l B tS D dA p e s0 m args below meth c (pc + 1) loc (.int (gA s o (ix j)) :: r) s) : Wv S R0 oF n d q fin l B tS D dA p e s0 m args below meth c pc loc (.int j :: .ref o :: r) s := fun H ls locs hP hl hS1 =>
  va_cald (D := D) (cA := dA 1) (n := aln S 1 o) (f := fun i => gA s o i) hc.1 hc.2.1 hc.2.2.2.2.2.2.2.1 hP o 1 (by rw [mWs_at (arr_lt hw (aln_spec rfl (inb_pos hi))).1, mEnt_arr (aln_spec rfl (inb_pos hi)) (by decide)]) (by rfl) (inb_spec hi) hd (k H ls locs hP hl hS1)
theorem Wv_zald (hc : mCtx q l B tS n D dA p e s0 m args meth c) (hw : mOF S oF n) {o : Nat} {j : Int32} (hi : inb j (aln S 2 o) = true) (hd : decode (mBy q) pc = .ok (.baload, 1)) (k : Wv S R0 oF n d q fin l B tS D dA p e s0 m args below meth c (pc + 1) loc (.int (gA s o (ix j)) :: r) s) : Wv S R0 oF n d q fin l B tS D dA p e s0 m args below meth c pc loc (.int j :: .ref o :: r) s := fun H ls locs hP hl hS1 =>
  va_zald (D := D) (cA := dA 2) (n := aln S 2 o) (f := fun i => gA s o i) hc.1 hc.2.1 hc.2.2.2.2.2.2.2.1 hP o 2 (by rw [mWs_at (arr_lt hw (aln_spec rfl (inb_pos hi))).1, mEnt_arr (aln_spec rfl (inb_pos hi)) (by decide)]) (by rfl) (inb_spec hi) hd (k H ls locs hP hl hS1)
theorem Wv_lald (hc : mCtx q l B tS n D dA p e s0 m args meth c) (hw : mOF S oF n) {o : Nat} {j : Int32} (hi : inb j (aln S 3 o) = true) (hd : decode (mBy q) pc = .ok (.laload, 1)) (k : Wv S R0 oF n d q fin l B tS D dA p e s0 m args below meth c (pc + 1) loc (.long (gQ s o (ix j)) :: r) s) : Wv S R0 oF n d q fin l B tS D dA p e s0 m args below meth c pc loc (.int j :: .ref o :: r) s := fun H ls locs hP hl hS1 =>
  va_lald (D := D) (cA := dA 3) (n := aln S 3 o) (f := fun i => gQ s o i) hc.1 hc.2.1 hc.2.2.2.2.2.2.2.1 hP o 3 (by rw [mWs_at (arr_lt hw (aln_spec rfl (inb_pos hi))).1, mEnt_arrL (aln_spec rfl (inb_pos hi))]) (by rfl) (inb_spec hi) hd (k H ls locs hP hl hS1)
theorem Wv_alen (hc : mCtx q l B tS n D dA p e s0 m args meth c) (hw : mOF S oF n) {o : Nat} (hi : isA S o = true) (hd : decode (mBy q) pc = .ok (.arraylength, 1)) (k : Wv S R0 oF n d q fin l B tS D dA p e s0 m args below meth c (pc + 1) loc (.int (Int32.ofNat (alA S o)) :: r) s) : Wv S R0 oF n d q fin l B tS D dA p e s0 m args below meth c pc loc (.ref o :: r) s := fun H ls locs hP hl hS1 => by
  have hk := k H ls locs hP hl hS1
  unfold isA at hi
  split at hi
  · cases hi
  · rename_i x hx
    obtain ⟨t, N⟩ := x
    have hlt := arr_lt hw hx
    have hAl : alA S o = N := by unfold alA; rw [hx]
    rw [hAl] at hk
    have ht : (mTy dA)[t]? = some (dA t, ((mTy dA).getD t (dA 0, .int)).2) := by
      match t, hlt.2.2 with
      | 0, _ => rfl
      | 1, _ => rfl
      | 2, _ => rfl
      | 3, _ => rfl
    exact va_alen (D := D) (cA := dA t) (x := (N, if t = 3 then .inr (.inl fun j => gQ s o j) else .inl fun j => gA s o j)) hc.1 hc.2.1 hc.2.2.2.2.2.2.2.1 hP o t (by rw [mWs_at hlt.1]; unfold mEnt; rw [hx]) ht (v := Int32.ofNat N) rfl hd hk
/-- any store into an array -/
theorem mWs_arr {S : mW} {R R' : Nat → Nat → Option Nat} {o N t : Nat} {s s' : mS} {x : va_E} (ho : o < n) (h1 : mEnt dA S R' (mAd B tS) s' o = x) (h2 : ∀ j, j ≠ o → mEnt dA S R' (mAd B tS) s' j = mEnt dA S R (mAd B tS) s j) : (mWs dA S R (mAd B tS) n s).set o (mAd B tS o, x) = mWs dA S R' (mAd B tS) n s' := mWs_set ho h1 fun j _ hne => h2 j hne
theorem Wv_iast (hc : mCtx q l B tS n D dA p e s0 m args meth c) (hw : mOF S oF n) {o : Nat} {j x : Int32} (hi : inb j (aln S 0 o) = true) (hd : decode (mBy q) pc = .ok (.iastore, 1)) (k : Wv S R0 oF n d q fin l B tS D dA p e s0 m args below meth c (pc + 1) loc r (sA s o (ix j) x)) : Wv S R0 oF n d q fin l B tS D dA p e s0 m args below meth c pc loc (.int x :: .int j :: .ref o :: r) s := fun H ls locs hP hl hS1 => by
  have hs := aln_spec (N := aln S 0 o) rfl (inb_pos hi)
  have ho := (arr_lt hw hs).1
  refine va_iast (D := D) (cA := dA 0) (n := aln S 0 o) (f := fun i => gA s o i) hc.1 hc.2.1 hc.2.2.2.2.2.2.2.1 hP (mWs_D hw.2.2.1) hS1 o 0 (by rw [mWs_at ho, mEnt_arr hs (by decide)]) (by rfl) (inb_spec hi) hd (fun H1 locs1 hP1 hD1 hS2 => ?_)
  rw [mWs_set (s := s) (R := Rf R0 oF s) (s' := sA s o (ix j) x) (R' := Rf R0 oF (sA s o (ix j) x)) ho (by
    rw [mEnt_arr hs (by decide)]
    congr 4
    funext i
    by_cases hq : i = ix j
    · subst hq; rw [show gA (sA s o (ix j) x) o (ix j) = x from up2_self _ _ _ _]; simp [upd, ix]
    · rw [show gA (sA s o (ix j) x) o i = gA s o i from up2_ne2 _ _ hq]; unfold ix at hq; simp [upd, hq])
    (fun i hi9 hne => mEnt_congr (fun f => rfl) (fun f => rfl) (fun _ _ _ _ => rfl) (fun i => up2_ne1 _ _ hne) (fun i => rfl))] at hP1
  exact k H1 ls locs1 hP1 hl hS2
theorem Wv_zast (hc : mCtx q l B tS n D dA p e s0 m args meth c) (hw : mOF S oF n) {o : Nat} {j x : Int32} (hi : inb j (aln S 2 o) = true) (hx : isb x = true) (hd : decode (mBy q) pc = .ok (.bastore, 1)) (k : Wv S R0 oF n d q fin l B tS D dA p e s0 m args below meth c (pc + 1) loc r (sA s o (ix j) x)) : Wv S R0 oF n d q fin l B tS D dA p e s0 m args below meth c pc loc (.int x :: .int j :: .ref o :: r) s := fun H ls locs hP hl hS1 => by
  have hs := aln_spec (N := aln S 2 o) rfl (inb_pos hi)
  have ho := (arr_lt hw hs).1
  have hnx : vp_nar .boolean x = x := by unfold vp_nar; rw [isb_spec hx]
  refine va_zast (D := D) (cA := dA 2) (n := aln S 2 o) (f := fun i => gA s o i) hc.1 hc.2.1 hc.2.2.2.2.2.2.2.1 hP (mWs_D hw.2.2.1) hS1 o 2 (by rw [mWs_at ho, mEnt_arr hs (by decide)]) (by rfl) (inb_spec hi) hd (fun H1 locs1 hP1 hD1 hS2 => ?_)
  rw [hnx] at hP1
  rw [mWs_set (s := s) (R := Rf R0 oF s) (s' := sA s o (ix j) x) (R' := Rf R0 oF (sA s o (ix j) x)) ho (by
    rw [mEnt_arr hs (by decide)]
    congr 4
    funext i
    by_cases hq : i = ix j
    · subst hq; rw [show gA (sA s o (ix j) x) o (ix j) = x from up2_self _ _ _ _]; simp [upd, ix]
    · rw [show gA (sA s o (ix j) x) o i = gA s o i from up2_ne2 _ _ hq]; unfold ix at hq; simp [upd, hq])
    (fun i hi9 hne => mEnt_congr (fun f => rfl) (fun f => rfl) (fun _ _ _ _ => rfl) (fun i => up2_ne1 _ _ hne) (fun i => rfl))] at hP1
  exact k H1 ls locs1 hP1 hl hS2
theorem Wv_last (hc : mCtx q l B tS n D dA p e s0 m args meth c) (hw : mOF S oF n) {o : Nat} {j : Int32} {x : Int64} (hi : inb j (aln S 3 o) = true) (hd : decode (mBy q) pc = .ok (.lastore, 1)) (k : Wv S R0 oF n d q fin l B tS D dA p e s0 m args below meth c (pc + 1) loc r (sQ s o (ix j) x)) : Wv S R0 oF n d q fin l B tS D dA p e s0 m args below meth c pc loc (.long x :: .int j :: .ref o :: r) s := fun H ls locs hP hl hS1 => by
  have hs := aln_spec (N := aln S 3 o) rfl (inb_pos hi)
  have ho := (arr_lt hw hs).1
  refine va_last (D := D) (cA := dA 3) (n := aln S 3 o) (f := fun i => gQ s o i) hc.1 hc.2.1 hc.2.2.2.2.2.2.2.1 hP (mWs_D hw.2.2.1) hS1 o 3 (by rw [mWs_at ho, mEnt_arrL hs]) (by rfl) (inb_spec hi) hd (fun H1 locs1 hP1 hD1 hS2 => ?_)
  rw [mWs_set (s := s) (R := Rf R0 oF s) (s' := sQ s o (ix j) x) (R' := Rf R0 oF (sQ s o (ix j) x)) ho (by
    rw [mEnt_arrL hs]
    congr 5
    funext i
    by_cases hq : i = ix j
    · subst hq; rw [show gQ (sQ s o (ix j) x) o (ix j) = x from up2_self _ _ _ _]; simp [vp_updL, ix]
    · rw [show gQ (sQ s o (ix j) x) o i = gQ s o i from up2_ne2 _ _ hq]; unfold ix at hq; simp [vp_updL, hq])
    (fun i hi9 hne => mEnt_congr (fun f => rfl) (fun f => rfl) (fun _ _ _ _ => rfl) (fun i => rfl) (fun i => up2_ne1 _ _ hne))] at hP1
  exact k H1 ls locs1 hP1 hl hS2
theorem Wv_getstatic (hc : mCtx q l B tS n D dA p e s0 m args meth c) (hw : mOF S oF n) (hown : mC (mOw q) = "PorterDoors$Reader") (hd : decode (mBy q) pc = .ok (.getstatic 169, 3)) (k : Wv S R0 oF n d q fin l B tS D dA p e s0 m args below meth c (pc + 3) loc (.ref 999999 :: r) s) : Wv S R0 oF n d q fin l B tS D dA p e s0 m args below meth c pc loc r s := fun H ls locs hP hl hS1 =>
  va_getsN (v := .ref tS) (A := mOwn B n) (own := "PorterDoors$Reader") hc.1 hc.2.1 hc.2.2.2.2.2.2.2.2.1.1 hS1 (by rw [← hown]; exact hc.2.2.2.2.1) (va_Nw.use rfl hc.2.2.2.2.2.2.2.2.2.1.1) (fun x hx => hx) hd (k H ls locs hP hl hS1)
theorem Wv_spl (hc : mCtx q l B tS n D dA p e s0 m args meth c) (hw : mOF S oF n) {j : Int32} (hi : inb j 31 = true) (hd : decode (mBy q) pc = .ok (.laload, 1)) (k : Wv S R0 oF n d q fin l B tS D dA p e s0 m args below meth c (pc + 1) loc (.long (mSpl (ix j)) :: r) s) : Wv S R0 oF n d q fin l B tS D dA p e s0 m args below meth c pc loc (.int j :: .ref 999999 :: r) s := fun H ls locs hP hl hS1 =>
  va_tl (t := tS) (A := mOwn B n) hc.1 hc.2.1 hc.2.2.2.2.2.2.2.2.1.2 hS1 (inb_spec hi) rfl hd (k H ls locs hP hl hS1)
theorem Wv_spll (hc : mCtx q l B tS n D dA p e s0 m args meth c) (hw : mOF S oF n) (hd : decode (mBy q) pc = .ok (.arraylength, 1)) (k : Wv S R0 oF n d q fin l B tS D dA p e s0 m args below meth c (pc + 1) loc (.int (Int32.ofNat 31) :: r) s) : Wv S R0 oF n d q fin l B tS D dA p e s0 m args below meth c pc loc (.ref 999999 :: r) s := fun H ls locs hP hl hS1 =>
  va_tlen (t := tS) (A := mOwn B n) hc.1 hc.2.1 hc.2.2.2.2.2.2.2.2.1.2 hS1 rfl hd (k H ls locs hP hl hS1)
end HEAP
