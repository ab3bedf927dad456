/-! what a method stands in, and one instruction after the other -/
noncomputable def mSplL : List Int64 := [415151819, 161518200518, 1601091420, 15160514, 1920090606, 2301121119, 3151204, 91212, 2021181419, 142113020518, 31512152118, 202118140504, 230815, 1409070820, 151605140504, 2009180504, 100113130504, 225, 14050118, 1518, 11404, 141520, 11212, 130914, 130124, 609181920, 12011920, 1506200514, 2015200112, 13151920, 1205011920]
noncomputable def mSpl (j : Nat) : Int64 := mSplL.getD j 0
noncomputable def mNestM : List Cond := [.methodLinkNest "PorterDoors" 19 ⟨"PorterDoors$Plan", "<init>", "()V"⟩ "PorterDoors", .methodLinkNest "PorterDoors$Plan" 37 ⟨"PorterDoors$Program", "<init>", "()V"⟩ "PorterDoors", .methodLinkNest "PorterDoors" 29 ⟨"PorterDoors$Program", "<init>", "()V"⟩ "PorterDoors", .methodLinkNest "PorterDoors" 45 ⟨"PorterDoors$Hall", "<init>", "()V"⟩ "PorterDoors", .methodLinkNest "PorterDoors" 55 ⟨"PorterDoors$Past", "<init>", "()V"⟩ "PorterDoors", .methodLinkNest "PorterDoors" 62 ⟨"PorterDoors$Sums", "<init>", "()V"⟩ "PorterDoors", .methodLinkNest "PorterDoors$Ahead" 11 ⟨"PorterDoors$Hall", "<init>", "()V"⟩ "PorterDoors"]
abbrev mSpW : Cond := .fieldLinkNest "PorterDoors$Reader" 169 "PorterDoors$Words" "SPELLED" "[J" "PorterDoors"
noncomputable def mNW (U : State) : Prop := va_Nw mSpW U ∧ ∀ w ∈ mNestM, va_Nw w U
noncomputable def mSP (tS B n : Nat) (U : State) (H : Heap) : Prop := va_Z "PorterDoors$Words" "SPELLED" "[J" (.ref tS) (mOwn B n) U H ∧ va_T .long tS 31 (fun j => .long (mSpl j)) (mOwn B n) U H
noncomputable def mKM (D : va_G) (dA : Nat → ClassId) (U : State) : Prop := va_K D mcl (mTy dA) U
theorem mNW_warm {s U : State} (hW : s.WarmedH U.vm) (h : mNW s) : mNW U := by
  refine ⟨va_Nw.warmF hW h.1, fun w hw => ?_⟩
  have := h.2 w hw
  simp only [mNestM, List.mem_cons, List.not_mem_nil, or_false] at hw
  rcases hw with rfl | rfl | rfl | rfl | rfl | rfl | rfl <;> exact va_Nw.warmM hW this
theorem mNW_same {s U : State} (hv : s.vm = U.vm) (h : mNW s) : mNW U := by
  refine ⟨va_Nw.same rfl hv h.1, fun w hw => ?_⟩
  have := h.2 w hw
  simp only [mNestM, List.mem_cons, List.not_mem_nil, or_false] at hw
  rcases hw with rfl | rfl | rfl | rfl | rfl | rfl | rfl <;> exact va_Nw.same rfl hv this
theorem mSP_moved {tS B n : Nat} {u U : State} {H : Heap} (hvm : u.vm.Alike U.vm) (h : mSP tS B n u H) : mSP tS B n U H := ⟨h.1.moved hvm, h.2.moved hvm⟩
theorem mSP_kept {tS B n : Nat} {U : State} {H H1 : Heap} (h : mSP tS B n U H) (hq : ∀ a : Nat, a < H.size → ¬ mOwn B n a → H1[a]? = H[a]?) : mSP tS B n U H1 := ⟨h.1.kept hq, h.2.kept hq⟩
noncomputable def mRm (d : Nat) : Room := { frames := d, cells := 0, slots := 0, locals := 70 * d }
noncomputable def mWd (q : mI) : List Cond := Cond.code (mNm q) (mBy q) (mMx q) (mRt q) :: lw_good
noncomputable def mCtx (q : mI) (l : Launch) (B tS n : Nat) (D : va_G) (dA : Nat → ClassId) (p : Program) (e : Env) (s0 : State) (m : MethodId) (args : Array Value) (meth : Method) (c : Code) : Prop :=
  p.tables.exec = Jvm.exec ∧ c.code = mBy q ∧ meth.sig.returnType = mRt q ∧ c.maxLocals = mMx q ∧ s0.vm.findClass (mC (mOw q)) = some m.cls ∧ (∀ w ∈ lw_good, w.before args s0 = true) ∧ meth.locks = false ∧ mKM D dA s0 ∧ mSP tS B n s0 s0.heap ∧ mNW s0 ∧ q ∈ mT
noncomputable def mLo (B tS : Nat) (loc : mL) : mL := loc.map fun x => (x.1, mV B tS x.2)
noncomputable def mQc (S : mW) (R0 : Nat → Nat → Option Nat) (oF n : Nat) (fin : Option Value × mS) (B tS : Nat) (D : va_G) (dA : Nat → ClassId) : Array Value → State → Outcome → State → Prop := fun _ st o t =>
  o = .returned (fin.1.map (mV B tS)) ∧ va_P D mcl (mWs dA S (Rf R0 oF fin.2) (mAd B tS) n fin.2) t.heap ∧ va_F (mOwn B n) st t
noncomputable def mPc (S : mW) (R0 : Nat → Nat → Option Nat) (oF n : Nat) (vs : List Value) (s : mS) (B tS : Nat) (D : va_G) (dA : Nat → ClassId) : Array Value → State → Prop := va_Pc (vs.map (mV B tS)) fun U => va_P D mcl (mWs dA S (Rf R0 oF s) (mAd B tS) n s) U.heap ∧ mKM D dA U ∧ mSP tS B n U U.heap ∧ mNW U
/-- method y, from s with the arguments vs, answers r and leaves s1 -/
noncomputable def MetM (S : mW) (R0 : Nat → Nat → Option Nat) (oF n d y : Nat) (vs : List Value) (s : mS) (r : Option Value) (s1 : mS) : Prop :=
  ∀ (l : Launch) (B tS : Nat) (D : va_G) (dA : Nat → ClassId) (q : mI), mT[y]? = some q → Met l (mNm q) (mWd q) (mRm d) (mPc S R0 oF n vs s B tS D dA) (mQc S R0 oF n (r, s1) B tS D dA) 0 0 (mOwn B n)
/-- from here the machine comes to the method's end -/
noncomputable def Wv (S : mW) (R0 : Nat → Nat → Option Nat) (oF n d : Nat) (q : mI) (fin : Option Value × mS) (l : Launch) (B tS : Nat) (D : va_G) (dA : Nat → ClassId) (p : Program) (e : Env) (s0 : State) (m : MethodId) (args : Array Value) (below : List Frame) (meth : Method) (c : Code) (pc : Nat) (loc : mL) (st : List Value) (s : mS) : Prop :=
  ∀ (H : Heap) (ls : Array Slot) (locs : List Loc), va_P D mcl (mWs dA S (Rf R0 oF s) (mAd B tS) n s) H → lv_has ls (mMx q) (mLo B tS loc) → va_S (mOwn B n) s0.heap H locs →
    W p l e (mRm d) s0 m args below meth c H locs 0 0 (MQ below (mQc S R0 oF n fin B tS D dA) args s0 0 0 (mOwn B n)) (F0 m pc ls (st.map (mV B tS)))
theorem alk_mem {α : Type} {k : Nat} {v : α} : ∀ {l : List (Nat × α)}, alk k l = some v → (k, v) ∈ l
  | [], h => by cases h
  | q :: l, h => by
    unfold alk at h
    split at h
    · rename_i hb
      have e := Nat.eq_of_beq_eq_true hb
      cases h
      exact List.mem_cons.mpr (Or.inl (by rw [← e]))
    · exact List.mem_cons_of_mem _ (alk_mem h)
theorem mLo_at {B tS nL k : Nat} {loc : mL} {ls : Array Slot} {v : Value} (h : lv_has ls nL (mLo B tS loc)) (hk : alk k loc = some v) : ls[k]? = some (.val (mV B tS v)) :=
  h.2.2 (k, mV B tS v) (List.mem_map.mpr ⟨(k, v), alk_mem hk, rfl⟩)
theorem c1_cat {v : Value} : c1 v = true ↔ v.category = 1 := by cases v <;> simp [c1, Value.category]
theorem c1_cat2 {v : Value} : c1 v = false ↔ v.category = 2 := by cases v <;> simp [c1, Value.category]
theorem mV_cat (B tS : Nat) (v : Value) : (mV B tS v).category = v.category := by cases v <;> rfl
theorem mV_c1 (B tS : Nat) (v : Value) : c1 (mV B tS v) = c1 v := by cases v <;> rfl
theorem fl1_eq (i : Nat) : ∀ l : List (Nat × Value), l.filter (fun q => !(q.1 == i) && !(q.1 + 1 == i && q.2.category == 2)) = fl1 i l
  | [] => rfl
  | q :: l => by
    rw [List.filter_cons, fl1_eq i l, fl1]
    cases h1 : Nat.beq q.1 i
    · have e1 : (q.1 == i) = false := by rw [beq_eq_false_iff_ne]; exact Nat.ne_of_beq_eq_false h1
      cases h2 : Nat.beq (q.1 + 1) i
      · have e2 : (q.1 + 1 == i) = false := by rw [beq_eq_false_iff_ne]; exact Nat.ne_of_beq_eq_false h2
        simp [e1, e2]
      · have e2 : (q.1 + 1 == i) = true := by rw [beq_iff_eq]; exact Nat.eq_of_beq_eq_true h2
        cases h3 : c1 q.2
        · simp [e1, e2, c1_cat2.mp h3]
        · simp [e1, e2, c1_cat.mp h3]
    · have e1 : (q.1 == i) = true := by rw [beq_iff_eq]; exact Nat.eq_of_beq_eq_true h1
      simp [e1]
theorem fl2_eq (i : Nat) : ∀ l : List (Nat × Value), l.filter (fun q => !(q.1 == i) && (!(q.1 == i + 1) && !(q.1 + 1 == i && q.2.category == 2))) = fl2 i l
  | [] => rfl
  | q :: l => by
    rw [List.filter_cons, fl2_eq i l, fl2]
    cases h1 : Nat.beq q.1 i
    · have e1 : (q.1 == i) = false := by rw [beq_eq_false_iff_ne]; exact Nat.ne_of_beq_eq_false h1
      cases h0 : Nat.beq q.1 (i + 1)
      · have e0 : (q.1 == i + 1) = false := by rw [beq_eq_false_iff_ne]; exact Nat.ne_of_beq_eq_false h0
        cases h2 : Nat.beq (q.1 + 1) i
        · have e2 : (q.1 + 1 == i) = false := by rw [beq_eq_false_iff_ne]; exact Nat.ne_of_beq_eq_false h2
          simp [e1, e0, e2]
        · have e2 : (q.1 + 1 == i) = true := by rw [beq_iff_eq]; exact Nat.eq_of_beq_eq_true h2
          cases h3 : c1 q.2
          · simp [e1, e2, e0, c1_cat2.mp h3]
          · simp [e1, e2, e0, c1_cat.mp h3]
      · have e0 : (q.1 == i + 1) = true := by rw [beq_iff_eq]; exact Nat.eq_of_beq_eq_true h0
        simp [e1, e0]
    · have e1 : (q.1 == i) = true := by rw [beq_iff_eq]; exact Nat.eq_of_beq_eq_true h1
      simp [e1]
theorem fl1_map (B tS i : Nat) : ∀ l : mL, mLo B tS (fl1 i l) = fl1 i (mLo B tS l)
  | [] => rfl
  | q :: l => by
    have ih := fl1_map B tS i l
    show _ = fl1 i ((q.1, mV B tS q.2) :: mLo B tS l)
    simp only [fl1]
    cases Nat.beq q.1 i
    · cases Nat.beq (q.1 + 1) i
      · show (_, _) :: mLo B tS (fl1 i l) = _
        rw [ih]
      · simp only [mV_c1]
        cases c1 q.2
        · exact ih
        · show (_, _) :: mLo B tS (fl1 i l) = _
          rw [ih]
    · exact ih
theorem fl2_map (B tS i : Nat) : ∀ l : mL, mLo B tS (fl2 i l) = fl2 i (mLo B tS l)
  | [] => rfl
  | q :: l => by
    have ih := fl2_map B tS i l
    show _ = fl2 i ((q.1, mV B tS q.2) :: mLo B tS l)
    simp only [fl2]
    cases Nat.beq q.1 i
    · cases Nat.beq q.1 (i + 1)
      · cases Nat.beq (q.1 + 1) i
        · show (_, _) :: mLo B tS (fl2 i l) = _
          rw [ih]
        · simp only [mV_c1]
          cases c1 q.2
          · exact ih
          · show (_, _) :: mLo B tS (fl2 i l) = _
            rw [ih]
      · exact ih
    · exact ih
