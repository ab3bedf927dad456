/-! copies, calls, returns -/
theorem good_GoodIn {ws : List Cond} (h : ∀ w ∈ ws, w ∈ lw_good) : GoodIn lw_good ws := fun w hw => ⟨h w hw, good_of_word (good_in w (h w hw))⟩
theorem mT_in {y : Nat} {q : mI} (h : mT[y]? = some q) : okT q := mT_ok q (List.mem_of_getElem? h)
theorem okB_spec {q : mI} (h : okB q = true) : mC (mOw q) = q.1.cls ∧ plainFor q.1 = true ∧ (q.1.cls ≠ "java/lang/invoke/MethodHandle" ∧ q.1.cls ≠ "java/lang/invoke/VarHandle") ∧ (parseMethodDescriptor q.1.desc).map (fun d => d.parameters.length) = some (mNp q) ∧ mMx q ≤ 40 := by
  simp only [okB, Bool.and_eq_true, decide_eq_true_eq] at h
  exact ⟨h.1, h.2.1, h.2.2.1, h.2.2.2.1, Nat.le_of_ble_eq_true h.2.2.2.2⟩
theorem cats_sum (B tS : Nat) : ∀ r : List Value, ((r.map (mV B tS)).map fun v => v.category).sum = cats r
  | [] => rfl
  | v :: r => by
    rw [List.map_cons, List.map_cons, List.sum_cons, cats_sum B tS r, mV_cat, cats]
    cases h : c1 v
    · rw [c1_cat2.mp h]; show 2 + cats r = cats r + 2; omega
    · rw [c1_cat.mp h]; show 1 + cats r = cats r + 1; omega
noncomputable def okCp (own idx : Nat) : Bool := (Nat.beq own 4 && Nat.beq idx 81) || ((Nat.beq own 5 && Nat.beq idx 19) || ((Nat.beq own 2 && Nat.beq idx 24) || (Nat.beq own 3 && Nat.beq idx 25)))
theorem okCp_spec {own idx : Nat} (h : okCp own idx = true) : Cond.methodLink (mC own) idx arraycopyName ∈ lw_tbl := by
  simp only [okCp, Bool.or_eq_true, Bool.and_eq_true] at h
  rcases h with h | h | h | h <;> rw [Nat.eq_of_beq_eq_true h.1, Nat.eq_of_beq_eq_true h.2]
  · exact w_cp_Pl_81
  · exact w_cp_Pg_19
  · exact w_cp_Ha_24
  · exact w_cp_Pa_25
theorem good_w {w : Cond} (h : w ∈ lw_tbl) (hg : goodWord w = true) : w ∈ lw_good := List.mem_filter.mpr ⟨h, hg⟩
section CALLS
variable {S : mW} {R0 : Nat → Nat → Option Nat} {oF n d : Nat} {q : mI} {fin : Option Value × mS} {l : Launch} {B tS : Nat} {D : va_G} {dA : Nat → ClassId} {p : Program} {e : Env} {s0 : State} {m : MethodId} {args : Array Value} {below : List Frame} {meth : Method} {c : Code} {pc : Nat} {loc : mL} {r : List Value} {s : mS}
theorem Wv_cpI (hc : mCtx q l B tS n D dA p e s0 m args meth c) (hw : mOF S oF n) {idx o0 o1 : Nat} {sp dp k1 : Int32} (hd1 : 1 ≤ d) (ho : okCp (mOw q) idx = true) (hr : cats r ≤ 8) (h1 : ¬ k1 < 0) (h2 : ¬ sp < 0) (h3 : ¬ dp < 0) (h4 : ix sp + ix k1 ≤ aln S 0 o0) (h5 : ix dp + ix k1 ≤ aln S 0 o1) (hz0 : S o0 = .inr (0, aln S 0 o0)) (hz1 : S o1 = .inr (0, aln S 0 o1)) (hd : decode (mBy q) pc = .ok (.invokestatic idx, 3)) (k : Wv S R0 oF n d q fin l B tS D dA p e s0 m args below meth c (pc + 3) loc r (sC s o0 (ix sp) o1 (ix dp) (ix k1))) : Wv S R0 oF n d q fin l B tS D dA p e s0 m args below meth c pc loc (.int k1 :: .int dp :: .ref o1 :: .int sp :: .ref o0 :: r) s := fun H ls locs hP hl hS1 => by
  have e0 := (arr_lt hw hz0).1
  have e1 := (arr_lt hw hz1).1
  have hs := hz1
  have hroom : (((r.map (mV B tS)).map fun v => v.category).sum + (nativeFrameWords "java/lang/System" "arraycopy" 5 + 11)) ≤ (mRm d).locals := by
    rw [cats_sum]
    show _ ≤ 70 * d
    have : nativeFrameWords "java/lang/System" "arraycopy" 5 ≤ 40 := by decide +kernel
    omega
  refine va_copyi (D := D) (a := mAd B tS o1) (a0 := mAd B tS o0) (c0 := dA 0) (c1 := dA 0) (n0 := aln S 0 o0) (n1 := aln S 0 o1) (f := fun i => gA s o0 i) (g := fun i => gA s o1 i) (ty := .int) hc.1 hc.2.1 (by rw [hc.2.2.2.1, hl.1]) hc.2.2.2.2.1 (hc.2.2.2.2.2.1 _ (good_w (okCp_spec ho) rfl)) (hc.2.2.2.2.2.1 _ (good_w w_cp_native rfl)) (hc.2.2.2.2.2.1 _ (good_w w_cp_static rfl)) (hc.2.2.2.2.2.1 _ (good_w w_cp_init rfl)) hc.2.2.2.2.2.2.2.1 hP (mWs_D hw.2.2.1) hS1 o0 o1 0 0 (by rw [mWs_at e0]; rw [mEnt_arr hz0 (by decide)]) (by rw [mWs_at e1]; rw [mEnt_arr hz1 (by decide)]) (by rfl) (by rfl) (by decide) h2 h3 h1 h4 h5 (fun i _ => rfl) hd1 hroom hd (fun H1 locs1 hP1 hD1 hS2 => ?_)
  rw [mWs_set (s := s) (R := Rf R0 oF s) (s' := sC s o0 (ix sp) o1 (ix dp) (ix k1)) (R' := Rf R0 oF (sC s o0 (ix sp) o1 (ix dp) (ix k1))) e1 (by
    rw [mEnt_arr hz1 (by decide)]
    congr 4
    funext i
    show cp2 _ _ _ _ _ _ _ _ = va_cpy _ _ _ _ _ _
    unfold cp2 va_cpy ix
    simp only [true_and]
    rfl)
    (fun i hi9 hne => mEnt_congr (fun f => rfl) (fun f => rfl) (fun _ _ _ _ => rfl) (fun i => by show cp2 _ _ _ _ _ _ _ _ = _; unfold cp2; rw [if_neg (fun h => hne h.1)]; rfl) (fun i => rfl))] at hP1
  exact k H1 ls locs1 hP1 hl hS2
theorem Wv_cpL (hc : mCtx q l B tS n D dA p e s0 m args meth c) (hw : mOF S oF n) {idx o0 o1 : Nat} {sp dp k1 : Int32} (hd1 : 1 ≤ d) (ho : okCp (mOw q) idx = true) (hr : cats r ≤ 8) (h1 : ¬ k1 < 0) (h2 : ¬ sp < 0) (h3 : ¬ dp < 0) (h4 : ix sp + ix k1 ≤ aln S 3 o0) (h5 : ix dp + ix k1 ≤ aln S 3 o1) (hz0 : S o0 = .inr (3, aln S 3 o0)) (hz1 : S o1 = .inr (3, aln S 3 o1)) (hd : decode (mBy q) pc = .ok (.invokestatic idx, 3)) (k : Wv S R0 oF n d q fin l B tS D dA p e s0 m args below meth c (pc + 3) loc r (sD s o0 (ix sp) o1 (ix dp) (ix k1))) : Wv S R0 oF n d q fin l B tS D dA p e s0 m args below meth c pc loc (.int k1 :: .int dp :: .ref o1 :: .int sp :: .ref o0 :: r) s := fun H ls locs hP hl hS1 => by
  have e0 := (arr_lt hw hz0).1
  have e1 := (arr_lt hw hz1).1
  have hs := hz1
  have hroom : (((r.map (mV B tS)).map fun v => v.category).sum + (nativeFrameWords "java/lang/System" "arraycopy" 5 + 11)) ≤ (mRm d).locals := by
    rw [cats_sum]
    show _ ≤ 70 * d
    have : nativeFrameWords "java/lang/System" "arraycopy" 5 ≤ 40 := by decide +kernel
    omega
  refine va_copyl (D := D) (a := mAd B tS o1) (a0 := mAd B tS o0) (c0 := dA 3) (c1 := dA 3) (n0 := aln S 3 o0) (n1 := aln S 3 o1) (f := fun i => gQ s o0 i) (g := fun i => gQ s o1 i) (ty := .long) hc.1 hc.2.1 (by rw [hc.2.2.2.1, hl.1]) hc.2.2.2.2.1 (hc.2.2.2.2.2.1 _ (good_w (okCp_spec ho) rfl)) (hc.2.2.2.2.2.1 _ (good_w w_cp_native rfl)) (hc.2.2.2.2.2.1 _ (good_w w_cp_static rfl)) (hc.2.2.2.2.2.1 _ (good_w w_cp_init rfl)) hc.2.2.2.2.2.2.2.1 hP (mWs_D hw.2.2.1) hS1 o0 o1 3 3 (by rw [mWs_at e0]; rw [mEnt_arrL hz0]) (by rw [mWs_at e1]; rw [mEnt_arrL hz1]) (by rfl) (by rfl) (by decide) h2 h3 h1 h4 h5 (fun i _ => rfl) hd1 hroom hd (fun H1 locs1 hP1 hD1 hS2 => ?_)
  rw [mWs_set (s := s) (R := Rf R0 oF s) (s' := sD s o0 (ix sp) o1 (ix dp) (ix k1)) (R' := Rf R0 oF (sD s o0 (ix sp) o1 (ix dp) (ix k1))) e1 (by
    rw [mEnt_arrL hz1]
    congr 5
    funext i
    show cp2 _ _ _ _ _ _ _ _ = va_cpy _ _ _ _ _ _
    unfold cp2 va_cpy ix
    simp only [true_and]
    rfl)
    (fun i hi9 hne => mEnt_congr (fun f => rfl) (fun f => rfl) (fun _ _ _ _ => rfl) (fun i => rfl) (fun i => by show cp2 _ _ _ _ _ _ _ _ = _; unfold cp2; rw [if_neg (fun h => hne h.1)]; rfl))] at hP1
  exact k H1 ls locs1 hP1 hl hS2
theorem mPc_blind {vs : List Value} : FrameBlind (mPc S R0 oF n vs s B tS D dA) := fun a U g mk h => by
  obtain ⟨h1, h2, h3, h4, h5⟩ := h
  exact ⟨h1, h2, va_K.moved (u := U) (U := U.calling g mk a) (Vm.Alike.refl U.vm) h3, mSP_moved (u := U) (U := U.calling g mk a) (Vm.Alike.refl U.vm) h4, mNW_same (s := U) (U := U.calling g mk a) rfl h5⟩
theorem mPc_at (hc : mCtx q l B tS n D dA p e s0 m args meth c) (hw : mOF S oF n) {H : Heap} {locs : List Loc} {vs : List Value} (hP : va_P D mcl (mWs dA S (Rf R0 oF s) (mAd B tS) n s) H) (hS1 : va_S (mOwn B n) s0.heap H locs) (U : State) (hU : U.heap = H) (hW : s0.WarmedH U.vm) : mPc S R0 oF n vs s B tS D dA (vs.map (mV B tS)).toArray U := by
  refine ⟨rfl, by rw [hU]; exact hP, va_K.moved hW.alike hc.2.2.2.2.2.2.2.1, ?_, mNW_warm hW hc.2.2.2.2.2.2.2.2.2.1⟩
  rw [hU]
  exact mSP_moved hW.alike (mSP_kept hc.2.2.2.2.2.2.2.2.1 hS1.2.1)
/-- behind a call -/
theorem Wv_back {vs : List Value} {rv : Option Value} {s1 : mS} {H : Heap} {ls : Array Slot} {locs : List Loc} {st0 : List Value} {a : Array Value} (hr : va_Run p l e (mRm d) s0 m args below meth c H locs 0 0 0 0 (F0 m pc ls st0) (r.map (mV B tS)) (mQc S R0 oF n (rv, s1) B tS D dA a) (mOwn B n)) (hl : lv_has ls (mMx q) (mLo B tS loc)) (hS : va_S (mOwn B n) s0.heap H locs) (k : Wv S R0 oF n d q fin l B tS D dA p e s0 m args below meth c (pc + 3) loc (psh rv r) s1) :
    W p l e (mRm d) s0 m args below meth c H locs 0 0 (MQ below (mQc S R0 oF n fin B tS D dA) args s0 0 0 (mOwn B n)) (F0 m pc ls st0) := by
  intro T hT X
  obtain ⟨v, st₀, t, T', L, h0, X', hL, e1, e2, ⟨hv, hp, hz, hk⟩, st⟩ := hr T hT X
  obtain rfl := Outcome.returned.inj hv
  rw [h0] at hz hk
  obtain ⟨t2, a1, b1⟩ := k T'.heap ls (locs ++ L) (by rw [e1]; exact hp) hl
    ⟨Nat.le_trans hS.1 (by rw [e1]; exact hz), fun q h1 h2 => by rw [e1, hk q (Nat.lt_of_lt_of_le h1 hS.1) h2]; exact hS.2.1 q h1 h2, fun q hq => by
      rcases List.mem_append.mp hq with h | h
      · exact hS.2.2 q h
      · exact hL q h⟩ T' rfl X'
  refine ⟨t2, st t2 ?_, b1⟩
  have e9 : (psh rv r).map (mV B tS) = (rv.map (mV B tS)).toList ++ r.map (mV B tS) := by cases rv <;> rfl
  rw [e9] at a1
  exact a1
theorem mRoom {q9 : mI} {dy : Nat} (h : mMx q9 ≤ 40) (hd : dy + 1 ≤ d) : (mRm dy).frames + 1 ≤ (mRm d).frames ∧ 8 + (mMx q9 + 11) + (mRm dy).locals ≤ (mRm d).locals := ⟨hd, by show 8 + (mMx q9 + 11) + 70 * dy ≤ 70 * d; omega⟩
theorem Wv_virt (hc : mCtx q l B tS n D dA p e s0 m args meth c) (hw : mOF S oF n) {idx i y dy o : Nat} {vs : List Value} {rv : Option Value} {s1 : mS} {qy : mI} (hy : mT[y]? = some qy) (hfg : mFg qy = 1) (hml : (idx, y, i) ∈ mMl (mOw q)) (hM : MetM S R0 oF n dy y (.ref o :: vs) s rv s1) (hdy : dy + 1 ≤ d) (hS : S o = .inl (mOw qy)) (hlen : vs.length = mNp qy) (hr : cats r ≤ 8) (hd : decode (mBy q) pc = .ok (.invokevirtual idx, 3)) (k : Wv S R0 oF n d q fin l B tS D dA p e s0 m args below meth c (pc + 3) loc (psh rv r) s1) (hcl : mOw qy < 11) : Wv S R0 oF n d q fin l B tS D dA p e s0 m args below meth c pc loc (vs.reverse ++ .ref o :: r) s := fun H ls locs hP hl hS1 => by
  obtain ⟨hco, hin, hg, hb⟩ := mT_in hy
  obtain ⟨hC, hpl, hno, hnp, hmx⟩ := okB_spec hb
  unfold okG at hg
  rw [hfg] at hg
  obtain ⟨q9, hq9, hlk⟩ := mMl_ok _ _ hml
  cases hy.symm.trans hq9
  have ho : o < n := hw.1 o _ hS hcl
  have hrun := va_runV (p := p) (l := l) (e := e) (R := mRm d) (s := s0) (m := m) (args := args) (below := below) (meth := meth) (c := c) (H := H) (locs := locs) (cells := 0) (slots := 0) (mc := 0) (ms := 0) (g := F0 m pc ls ((vs.reverse ++ .ref o :: r).map (mV B tS))) (rest := r.map (mV B tS)) (Ts := lw_good) (own := mC (mOw q)) (C := (mNm qy).cls) (b := mAd B tS o) (As := vs.map (mV B tS)) ⟨hc.1, hc.2.1, hc.2.2.2.1, hc.2.2.2.2.1, hc.2.2.2.2.2.1⟩ (hM l B tS D dA qy hy)
    (cwV (C := (mNm qy).cls) (mNp qy) hc.2.2.2.2.2.1 (good_GoodIn (fun w hw9 => by
      rcases List.mem_append.mp hw9 with h | h
      · simp only [List.mem_cons, List.not_mem_nil, or_false] at h
        rcases h with rfl | rfl | rfl | rfl
        · exact hlk
        · exact hg.1
        · exact hg.2
        · exact hin
      · rcases List.mem_cons.mp h with rfl | h
        · exact hco
        · exact h)) rfl rfl rfl ⟨rfl, hno.1, hno.2, hnp⟩ (mRoom hmx hdy))
    ⟨mPc_blind, by
      obtain ⟨qc, hqc⟩ := mcl_of hcl
      have := va_recv (ws := mWs dA S (Rf R0 oF s) (mAd B tS) n s) hc.2.2.2.2.2.2.2.1 hP hqc (a := mAd B tS o) (q0 := o) (by rw [mWs_at ho, mEnt_obj hS])
      rw [← (cls_ok hqc).2.2.2, hC] at this
      exact this, fun U hU hW => mPc_at (vs := .ref o :: vs) hc hw hP hS1 U hU hW⟩
    rfl (by rw [List.length_map]; exact hlen) hl.1 (by rw [List.map_append, List.map_reverse]; rfl) (lv_room (by rw [cats_sum]; exact hr)) hd ⟨Nat.le_refl _, Nat.le_refl _⟩
  exact Wv_back (vs := vs) hrun hl hS1 k
theorem Wv_stat (hc : mCtx q l B tS n D dA p e s0 m args meth c) (hw : mOF S oF n) {idx i y dy : Nat} {vs : List Value} {rv : Option Value} {s1 : mS} {qy : mI} (hy : mT[y]? = some qy) (hfg : mFg qy = 0) (hml : (idx, y, i) ∈ mMl (mOw q)) (hM : MetM S R0 oF n dy y vs s rv s1) (hdy : dy + 1 ≤ d) (hlen : vs.length = mNp qy) (hr : cats r ≤ 8) (hd : decode (mBy q) pc = .ok (.invokestatic idx, 3)) (k : Wv S R0 oF n d q fin l B tS D dA p e s0 m args below meth c (pc + 3) loc (psh rv r) s1) : Wv S R0 oF n d q fin l B tS D dA p e s0 m args below meth c pc loc (vs.reverse ++ r) s := fun H ls locs hP hl hS1 => by
  obtain ⟨hco, hin, hg, hb⟩ := mT_in hy
  obtain ⟨hC, hpl, hno, hnp, hmx⟩ := okB_spec hb
  unfold okG at hg
  rw [hfg] at hg
  obtain ⟨q9, hq9, hlk⟩ := mMl_ok _ _ hml
  cases hy.symm.trans hq9
  have hrun := va_runS (p := p) (l := l) (e := e) (R := mRm d) (s := s0) (m := m) (args := args) (below := below) (meth := meth) (c := c) (H := H) (locs := locs) (cells := 0) (slots := 0) (mc := 0) (ms := 0) (g := F0 m pc ls ((vs.reverse ++ r).map (mV B tS))) (rest := r.map (mV B tS)) (Ts := lw_good) (own := mC (mOw q)) (As := vs.map (mV B tS)) ⟨hc.1, hc.2.1, hc.2.2.2.1, hc.2.2.2.2.1, hc.2.2.2.2.2.1⟩ (hM l B tS D dA qy hy)
    (va_cwS (mNp qy) hc.2.2.2.2.2.1 (good_GoodIn (fun w hw9 => by
      rcases List.mem_append.mp hw9 with h | h
      · simp only [List.mem_cons, List.not_mem_nil, or_false] at h
        rcases h with rfl | rfl | rfl
        · exact hlk
        · exact hg
        · exact hin
      · rcases List.mem_cons.mp h with rfl | h
        · exact hco
        · exact h)) rfl rfl rfl ⟨hno.1, hno.2, hnp⟩ (mRoom hmx hdy))
    ⟨mPc_blind, fun U hU hW => mPc_at (vs := vs) hc hw hP hS1 U hU hW⟩
    rfl (by rw [List.length_map]; exact hlen) hl.1 (by rw [List.map_append, List.map_reverse]) (lv_room (by rw [cats_sum]; exact hr)) hd ⟨Nat.le_refl _, Nat.le_refl _⟩
  exact Wv_back (vs := vs) hrun hl hS1 k
theorem Wv_iret (hc : mCtx q l B tS n D dA p e s0 m args meth c) (hw : mOF S oF n) {x : Int32} (hr : mRt q = some .int) (hf : fin = (some (.int x), s)) (hd : decode (mBy q) pc = .ok (.ireturn, 1)) : Wv S R0 oF n d q fin l B tS D dA p e s0 m args below meth c pc loc [.int x] s := fun H ls locs hP hl hS1 => by
  subst hf
  exact W.iret (v := x) hc.1 hc.2.1 (by rw [hc.2.2.1, hr]) (fun t ht hW => ⟨rfl, by rw [ht]; exact hP, hS1.F ht⟩) hS1.2.2 hd hc.2.2.2.2.2.2.1
theorem Wv_zret (hc : mCtx q l B tS n D dA p e s0 m args meth c) (hw : mOF S oF n) {x : Int32} (hr : mRt q = some .boolean) (hb : isb x = true) (hf : fin = (some (.int x), s)) (hd : decode (mBy q) pc = .ok (.ireturn, 1)) : Wv S R0 oF n d q fin l B tS D dA p e s0 m args below meth c pc loc [.int x] s := fun H ls locs hP hl hS1 => by
  subst hf
  exact W.zret (v := x) hc.1 hc.2.1 (by rw [hc.2.2.1, hr]) (isb_spec hb) (fun t ht hW => ⟨rfl, by rw [ht]; exact hP, hS1.F ht⟩) hS1.2.2 hd hc.2.2.2.2.2.2.1
theorem Wv_lret (hc : mCtx q l B tS n D dA p e s0 m args meth c) (hw : mOF S oF n) {x : Int64} (hr : mRt q = some .long) (hf : fin = (some (.long x), s)) (hd : decode (mBy q) pc = .ok (.lreturn, 1)) : Wv S R0 oF n d q fin l B tS D dA p e s0 m args below meth c pc loc [.long x] s := fun H ls locs hP hl hS1 => by
  subst hf
  exact W.lret (v := x) hc.1 hc.2.1 (by rw [hc.2.2.1, hr]) (fun t ht hW => ⟨rfl, by rw [ht]; exact hP, hS1.F ht⟩) hS1.2.2 hd hc.2.2.2.2.2.2.1
theorem Wv_vret (hc : mCtx q l B tS n D dA p e s0 m args meth c) (hw : mOF S oF n) (hr : mRt q = none) (hf : fin = (none, s)) (hd : decode (mBy q) pc = .ok (.return_, 1)) : Wv S R0 oF n d q fin l B tS D dA p e s0 m args below meth c pc loc [] s := fun H ls locs hP hl hS1 => by
  subst hf
  exact W.vret hc.1 hc.2.1 (by rw [hc.2.2.1, hr]) (fun t ht hW => ⟨rfl, by rw [ht]; exact hP, hS1.F ht⟩) hS1.2.2 hd hc.2.2.2.2.2.2.1
end CALLS
