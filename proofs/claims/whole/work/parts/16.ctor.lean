/-! CONSTRUCTORS: rows of instructions over a heap that grows -/
abbrev cS : Type := mW × (Nat → Nat → Option Nat) × Nat × Nat × mS
noncomputable def cNew (c : cS) (ci : Nat) : cS := (fun o => if o = c.2.2.1 then .inl ci else c.1 o, fun f o => if o = c.2.2.1 then none else c.2.1 f o, c.2.2.1 + 1, c.2.2.2.1 + mN ci, (fun f o => if o = c.2.2.1 then 0 else c.2.2.2.2.1 f o, c.2.2.2.2.2.1, fun f o => if o = c.2.2.1 then 0 else c.2.2.2.2.2.2.1 f o, c.2.2.2.2.2.2.2))
noncomputable def cArr (c : cS) (t N : Nat) : cS := (fun o => if o = c.2.2.1 then .inr (t, N) else c.1 o, c.2.1, c.2.2.1 + 1, c.2.2.2.1 + N, (c.2.2.2.2.1, fun o i => if o = c.2.2.1 then 0 else c.2.2.2.2.2.1 o i, c.2.2.2.2.2.2.1, fun o i => if o = c.2.2.1 then 0 else c.2.2.2.2.2.2.2.1 o i, c.2.2.2.2.2.2.2.2))
noncomputable def cSet (c : cS) (s : mS) : cS := (c.1, c.2.1, c.2.2.1, c.2.2.2.1, s)
noncomputable def cRef (c : cS) (f o x : Nat) : cS := (c.1, up2 c.2.1 f o (some x), c.2.2.1, c.2.2.2.1, c.2.2.2.2)
noncomputable def ich (x : Int32) : Bool := decide (narrow .char (.int x) = .int x)
noncomputable def isRf (as : List Value) : Bool := match as with
  | .ref _ :: _ => true
  | _ => false
noncomputable def mxY (y : Nat) : Nat := match mT[y]? with
  | some q => mMx q
  | none => 0
noncomputable def evc (run : Nat → List Value → cS → Option cS) : List mO → mL → List Value → cS → Option cS
  | [], _, _, _ => none
  | (i, a, b, _, _) :: ops, loc, st, c => match i with
    | .aload_n k => lr1 loc k.val fun x => evc run ops loc (.ref x :: st) c
    | .iconst n => evc run ops loc (.int (Int32.ofInt n) :: st) c
    | .bipush n => evc run ops loc (.int (Int8.ofInt n).toInt32 :: st) c
    | .sipush n => evc run ops loc (.int (Int16.ofInt n).toInt32 :: st) c
    | .lconst n => evc run ops loc (.long (Int64.ofNat n.val) :: st) c
    | .dup => pc1 st fun w r => evc run ops loc (w :: w :: r) c
    | .new _ => grd (Nat.blt c.2.2.1 999999) (evc run ops loc (.ref c.2.2.1 :: st) (cNew c a))
    | .newarray _ => pi1 st fun x r => grd (!decide (x < 0)) (grd (Nat.blt c.2.2.1 999999) (grd (Nat.ble (ix x) 10000) (evc run ops loc (.ref c.2.2.1 :: r) (cArr c a (ix x)))))
    | .getfield _ => pr1 st fun o r => grd (isO c.1 o a) (grd (Nat.blt o c.2.2.1) (grd (Nat.beq (mKd a b) 2) (evc run ops loc (rfv (c.2.1 (100 * a + b) o) :: r) c)))
    | .putfield _ => (match mKd a b with
      | 1 => plr st fun x o r => grd (isO c.1 o a) (grd (Nat.blt o c.2.2.1) (evc run ops loc r (cSet c (sL c.2.2.2.2 (100 * a + b) o x))))
      | 2 => prr st fun x o r => grd (isO c.1 o a) (grd (Nat.blt o c.2.2.1) (grd (Nat.blt x 999999) (evc run ops loc r (cRef c (100 * a + b) o x))))
      | 3 => pir st fun x o r => grd (isO c.1 o a) (grd (Nat.blt o c.2.2.1) (grd (isb x) (evc run ops loc r (cSet c (sI c.2.2.2.2 (100 * a + b) o x)))))
      | _ => pir st fun x o r => grd (isO c.1 o a) (grd (Nat.blt o c.2.2.1) (evc run ops loc r (cSet c (sI c.2.2.2.2 (100 * a + b) o x)))))
    | .castore => piir st fun x j o r => grd (inb j (aln c.1 1 o)) (grd (Nat.blt o c.2.2.1) (grd (ich x) (evc run ops loc r (cSet c (sA c.2.2.2.2 o (ix j) x)))))
    | .invokespecial _ => (match Nat.beq a 9998 with
      | true => pr1 st fun _ r => grd (Nat.ble (cats r) 8) (evc run ops loc r c)
      | false => popN b st [] fun as r => grd (isRf as) (grd (Nat.ble (cats r) 8) ((run a as c).bind fun c' => evc run ops loc r c')))
    | .return_ => rv0 st (some c)
    | _ => none
noncomputable def runC (code : Nat → List mO) : Nat → Nat → List Value → cS → Option cS
  | 0, _, _, _ => none
  | d + 1, y, vs, c => grd (Nat.ble (cats vs) (mxY y)) (evc (runC code d) (code y) (mArgs 0 vs) [] c)
theorem evc_mono {run : Nat → List Value → cS → Option cS} (hr : ∀ y vs c c', run y vs c = some c' → c.2.2.1 ≤ c'.2.2.1 ∧ c.2.2.2.1 ≤ c'.2.2.2.1) : ∀ (ops : List mO) (loc : mL) (st : List Value) (c c' : cS), evc run ops loc st c = some c' → c.2.2.1 ≤ c'.2.2.1 ∧ c.2.2.2.1 ≤ c'.2.2.2.1 := by
  intro ops
  induction ops with
  | nil => intro loc st c c' h; cases h
  | cons op ops ih =>
    intro loc st c c' h
    obtain ⟨i, a, b, v, ts⟩ := op
    cases i with
    | aload_n k => rw [evc] at h; obtain ⟨x, -, h⟩ := lr1_some h; exact ih _ _ _ _ h
    | iconst k => rw [evc] at h; exact ih _ _ _ _ h
    | bipush k => rw [evc] at h; exact ih _ _ _ _ h
    | sipush k => rw [evc] at h; exact ih _ _ _ _ h
    | lconst k => rw [evc] at h; exact ih _ _ _ _ h
    | dup => rw [evc] at h; obtain ⟨w, r, -, -, h⟩ := pc1_some h; exact ih _ _ _ _ h
    | new k =>
      rw [evc] at h; obtain ⟨-, h⟩ := grd_some h
      have := ih _ _ _ _ h
      exact ⟨Nat.le_trans (Nat.le_succ _) this.1, Nat.le_trans (Nat.le_add_right _ _) this.2⟩
    | newarray k =>
      rw [evc] at h; obtain ⟨x, r, -, h⟩ := pi1_some h
      obtain ⟨-, h⟩ := grd_some h; obtain ⟨-, h⟩ := grd_some h; obtain ⟨-, h⟩ := grd_some h
      have := ih _ _ _ _ h
      exact ⟨Nat.le_trans (Nat.le_succ _) this.1, Nat.le_trans (Nat.le_add_right _ _) this.2⟩
    | getfield k =>
      rw [evc] at h; obtain ⟨o, r, -, h⟩ := pr1_some h
      obtain ⟨-, h⟩ := grd_some h; obtain ⟨-, h⟩ := grd_some h; obtain ⟨-, h⟩ := grd_some h
      exact ih _ _ _ _ h
    | putfield k =>
      rw [evc] at h
      split at h
      · obtain ⟨x, o, r, -, h⟩ := plr_some h; obtain ⟨-, h⟩ := grd_some h; obtain ⟨-, h⟩ := grd_some h; have := ih _ _ _ _ h; exact this
      · obtain ⟨x, o, r, -, h⟩ := prr_some h; obtain ⟨-, h⟩ := grd_some h; obtain ⟨-, h⟩ := grd_some h; obtain ⟨-, h⟩ := grd_some h; have := ih _ _ _ _ h; exact this
      · obtain ⟨x, o, r, -, h⟩ := pir_some h; obtain ⟨-, h⟩ := grd_some h; obtain ⟨-, h⟩ := grd_some h; obtain ⟨-, h⟩ := grd_some h; have := ih _ _ _ _ h; exact this
      · obtain ⟨x, o, r, -, h⟩ := pir_some h; obtain ⟨-, h⟩ := grd_some h; obtain ⟨-, h⟩ := grd_some h; have := ih _ _ _ _ h; exact this
    | castore =>
      rw [evc] at h; obtain ⟨x, j, o, r, -, h⟩ := piir_some h
      obtain ⟨-, h⟩ := grd_some h; obtain ⟨-, h⟩ := grd_some h; obtain ⟨-, h⟩ := grd_some h
      have := ih _ _ _ _ h; exact this
    | invokespecial k =>
      rw [evc] at h
      split at h
      · obtain ⟨o, r, -, h⟩ := pr1_some h; obtain ⟨-, h⟩ := grd_some h; exact ih _ _ _ _ h
      · obtain ⟨pre, r, -, -, h⟩ := popN_some h
        obtain ⟨-, h⟩ := grd_some h; obtain ⟨-, h⟩ := grd_some h
        obtain ⟨c1, h1, h⟩ := Option.bind_eq_some_iff.mp h
        have g1 := hr _ _ _ _ h1
        have g2 := ih _ _ _ _ h
        exact ⟨Nat.le_trans g1.1 g2.1, Nat.le_trans g1.2 g2.2⟩
    | return_ => rw [evc] at h; obtain ⟨-, h⟩ := rv0_some h; cases h; exact ⟨Nat.le_refl _, Nat.le_refl _⟩
    | _ => exact absurd (show none = some c' from h) (fun e => by cases e)
theorem runC_mono {code : Nat → List mO} : ∀ (d y : Nat) (vs : List Value) (c c' : cS), runC code d y vs c = some c' → c.2.2.1 ≤ c'.2.2.1 ∧ c.2.2.2.1 ≤ c'.2.2.2.1
  | 0, _, _, _, _, h => by cases h
  | d + 1, y, vs, c, c', h => evc_mono (runC_mono d) _ _ _ _ _ (grd_some h).2
noncomputable def cRm (d cells slots : Nat) : Room := { frames := d, cells := cells, slots := slots, locals := 70 * d }
noncomputable def cWs (dA : Nat → ClassId) (B tS : Nat) (c : cS) : va_W := mWs dA c.1 c.2.1 (mAd B tS) c.2.2.1 c.2.2.2.2
noncomputable def cFr (B : Nat) : Nat → Prop := fun q => B ≤ q
noncomputable def cCtx (q : mI) (l : Launch) (B : Nat) (D : va_G) (dA : Nat → ClassId) (p : Program) (e : Env) (s0 : State) (m : MethodId) (args : Array Value) (meth : Method) (c9 : Code) : Prop :=
  p.tables.exec = Jvm.exec ∧ c9.code = mBy q ∧ meth.sig.returnType = mRt q ∧ c9.maxLocals = mMx q ∧ s0.vm.findClass (mC (mOw q)) = some m.cls ∧ (∀ w ∈ lw_good, w.before args s0 = true) ∧ meth.locks = false ∧ mKM D dA s0 ∧ mNW s0 ∧ q ∈ mT ∧ meth.name = "<init>" ∧ B ≤ s0.heap.size
noncomputable def cQc (fin : cS) (B tS : Nat) (D : va_G) (dA : Nat → ClassId) : Array Value → State → Outcome → State → Prop := fun _ st o t =>
  o = .returned none ∧ va_P D mcl (cWs dA B tS fin) t.heap ∧ t.heap.size = B + fin.2.2.1 ∧ va_F (cFr B) st t
noncomputable def cPc (vs : List Value) (c : cS) (B tS : Nat) (D : va_G) (dA : Nat → ClassId) : Array Value → State → Prop := va_Pc (vs.map (mV B tS)) fun U => va_P D mcl (cWs dA B tS c) U.heap ∧ U.heap.size = B + c.2.2.1 ∧ mKM D dA U ∧ mNW U
noncomputable def MetC (d y : Nat) (vs : List Value) (c c1 : cS) : Prop :=
  ∀ (l : Launch) (B tS : Nat) (D : va_G) (dA : Nat → ClassId) (q : mI), mT[y]? = some q → Met l (mNm q) (mWd q) (cRm d (c1.2.2.1 - c.2.2.1) (c1.2.2.2.1 - c.2.2.2.1)) (cPc vs c B tS D dA) (cQc c1 B tS D dA) (c1.2.2.1 - c.2.2.1) (c1.2.2.2.1 - c.2.2.2.1) (cFr B)
noncomputable def Wc (d : Nat) (q : mI) (fin : cS) (n0 sl0 : Nat) (l : Launch) (B tS : Nat) (D : va_G) (dA : Nat → ClassId) (p : Program) (e : Env) (s0 : State) (m : MethodId) (args : Array Value) (below : List Frame) (meth : Method) (c9 : Code) (pc : Nat) (loc : mL) (st : List Value) (c : cS) : Prop :=
  n0 ≤ c.2.2.1 → sl0 ≤ c.2.2.2.1 → ∀ (H : Heap) (ls : Array Slot) (locs : List Loc), va_P D mcl (cWs dA B tS c) H → H.size = B + c.2.2.1 → lv_has ls (mMx q) (mLo B tS loc) → va_S (cFr B) s0.heap H locs →
    W p l e (cRm d (fin.2.2.1 - n0) (fin.2.2.2.1 - sl0)) s0 m args below meth c9 H locs (c.2.2.1 - n0) (c.2.2.2.1 - sl0) (MQ below (cQc fin B tS D dA) args s0 (fin.2.2.1 - n0) (fin.2.2.2.1 - sl0) (cFr B)) (F0 m pc ls (st.map (mV B tS)))
section CTOR
variable {d n0 sl0 : Nat} {q : mI} {fin : cS} {l : Launch} {B tS : Nat} {D : va_G} {dA : Nat → ClassId} {p : Program} {e : Env} {s0 : State} {m : MethodId} {args : Array Value} {below : List Frame} {meth : Method} {c9 : Code} {pc : Nat} {loc : mL} {r : List Value} {c : cS}
theorem cD (hn : c.2.2.1 ≤ 999999) : va_D (cFr B) (cWs dA B tS c) := (mWs_D hn).weaken fun _ _ _ h => h.1
theorem Wc_aload (hc : cCtx q l B D dA p e s0 m args meth c9) {k9 : Fin 4} {x : Nat} (hd : decode (mBy q) pc = .ok (.aload_n k9, 1)) (hk : alk k9.val loc = some (.ref x)) (k : Wc d q fin n0 sl0 l B tS D dA p e s0 m args below meth c9 (pc + 1) loc (.ref x :: r) c) : Wc d q fin n0 sl0 l B tS D dA p e s0 m args below meth c9 pc loc (r) c := fun h1 h2 H ls locs hP hz hl hS => lv_aload_n hc.1 hc.2.1 hd rfl (mLo_at hl hk) (k h1 h2 H ls locs hP hz hl hS)
theorem Wc_iconst (hc : cCtx q l B D dA p e s0 m args meth c9) {n9 : Int} (hd : decode (mBy q) pc = .ok (.iconst n9, 1)) (k : Wc d q fin n0 sl0 l B tS D dA p e s0 m args below meth c9 (pc + 1) loc (.int (Int32.ofInt n9) :: r) c) : Wc d q fin n0 sl0 l B tS D dA p e s0 m args below meth c9 pc loc (r) c := fun h1 h2 H ls locs hP hz hl hS => lv_iconst hc.1 hc.2.1 hd rfl (k h1 h2 H ls locs hP hz hl hS)
theorem Wc_bipush (hc : cCtx q l B D dA p e s0 m args meth c9) {n9 : Int} (hd : decode (mBy q) pc = .ok (.bipush n9, 2)) (k : Wc d q fin n0 sl0 l B tS D dA p e s0 m args below meth c9 (pc + 2) loc (.int (Int8.ofInt n9).toInt32 :: r) c) : Wc d q fin n0 sl0 l B tS D dA p e s0 m args below meth c9 pc loc (r) c := fun h1 h2 H ls locs hP hz hl hS => lv_bipush hc.1 hc.2.1 hd rfl (k h1 h2 H ls locs hP hz hl hS)
theorem Wc_sipush (hc : cCtx q l B D dA p e s0 m args meth c9) {n9 : Int} (hd : decode (mBy q) pc = .ok (.sipush n9, 3)) (k : Wc d q fin n0 sl0 l B tS D dA p e s0 m args below meth c9 (pc + 3) loc (.int (Int16.ofInt n9).toInt32 :: r) c) : Wc d q fin n0 sl0 l B tS D dA p e s0 m args below meth c9 pc loc (r) c := fun h1 h2 H ls locs hP hz hl hS => lv_sipush hc.1 hc.2.1 hd rfl (k h1 h2 H ls locs hP hz hl hS)
theorem Wc_lconst (hc : cCtx q l B D dA p e s0 m args meth c9) {n9 : Fin 2} (hd : decode (mBy q) pc = .ok (.lconst n9, 1)) (k : Wc d q fin n0 sl0 l B tS D dA p e s0 m args below meth c9 (pc + 1) loc (.long (Int64.ofNat n9.val) :: r) c) : Wc d q fin n0 sl0 l B tS D dA p e s0 m args below meth c9 pc loc (r) c := fun h1 h2 H ls locs hP hz hl hS => lv_lconst hc.1 hc.2.1 hd rfl (k h1 h2 H ls locs hP hz hl hS)
theorem Wc_dup (hc : cCtx q l B D dA p e s0 m args meth c9) {w : Value} (hw : c1 w = true) (hd : decode (mBy q) pc = .ok (.dup, 1)) (k : Wc d q fin n0 sl0 l B tS D dA p e s0 m args below meth c9 (pc + 1) loc (w :: w :: r) c) : Wc d q fin n0 sl0 l B tS D dA p e s0 m args below meth c9 pc loc (w :: r) c := fun h1 h2 H ls locs hP hz hl hS => lv_dup hc.1 hc.2.1 hd (by rw [mV_cat]; exact c1_cat.mp hw) (k h1 h2 H ls locs hP hz hl hS)
theorem Wc_ret (hc : cCtx q l B D dA p e s0 m args meth c9) (hr : mRt q = none) (hf : fin = c) (hd : decode (mBy q) pc = .ok (.return_, 1)) : Wc d q fin n0 sl0 l B tS D dA p e s0 m args below meth c9 pc loc [] c := fun h1 h2 H ls locs hP hz hl hS => by
  subst hf
  exact W.vret hc.1 hc.2.1 (by rw [hc.2.2.1, hr]) (fun t ht hW => ⟨rfl, by rw [ht]; exact hP, by rw [ht]; exact hz, hS.F ht⟩) hS.2.2 hd hc.2.2.2.2.2.2.1
theorem Wc_getfield (hc : cCtx q l B D dA p e s0 m args meth c9) (hn : c.2.2.1 ≤ 999999) {a b o idx i : Nat} (hS0 : c.1 o = .inl a) (ho : o < c.2.2.1) (hkd : mKd a b = 2) (hf : (idx, a, b, i) ∈ mFl (mOw q)) (hd : decode (mBy q) pc = .ok (.getfield idx, 3)) (k : Wc d q fin n0 sl0 l B tS D dA p e s0 m args below meth c9 (pc + 3) loc (rfv (c.2.1 (100 * a + b) o) :: r) c) : Wc d q fin n0 sl0 l B tS D dA p e s0 m args below meth c9 pc loc (.ref o :: r) c := fun z1 z2 H ls locs hP hz hl hS => by
  obtain ⟨qc, h1, h2, h3⟩ := mFl_ok _ _ hf
  dsimp only at h1 h2 h3
  have hk := k z1 z2 H ls locs hP hz hl hS
  have e9 : mV B tS (rfv (c.2.1 (100 * a + b) o)) = mFv c.2.1 (mAd B tS) c.2.2.2.2 a b o := by
    unfold mFv; rw [hkd]; cases c.2.1 (100 * a + b) o <;> rfl
  rw [List.map_cons, e9] at hk
  exact va_get (D := D) (ci := a) (v := mFv c.2.1 (mAd B tS) c.2.2.2.2 a b o) (C := qc.1) (T := qc.2.1) (N := qc.2.2) hc.1 hc.2.1 hc.2.2.2.2.2.1 (cls_ok h1).1 hc.2.2.2.2.1 hc.2.2.2.2.2.2.2.1 hP o (by unfold cWs; rw [mWs_at ho, mEnt_obj hS0]) h1 b h2 (hc.2.2.2.2.2.1 _ h3) (fun x hx => by rw [(fld_ok h1 h2).2.1] at hx; exact hx) (by rw [List.getElem?_map, mN_of h1, List.getElem?_range h2]; rfl) hd hk
/-- a field set, final or not -/
theorem Wc_put (hc : cCtx q l B D dA p e s0 m args meth c9) (hn : c.2.2.1 ≤ 999999) {a b o idx i : Nat} {v : Value} {c' : cS} (hS0 : c.1 o = .inl a) (ho : o < c.2.2.1) (hf : (idx, a, b, i) ∈ mFl (mOw q)) (hown : a = mOw q) (hd : decode (mBy q) pc = .ok (.putfield idx, 3))
    (hnf : ∀ qc, mcl[a]? = some qc → b < qc.2.2 → narrow (mFT (qc.2.1 b).2.2.1) (mV B tS v) = mV B tS v ∧ fits (mFT (qc.2.1 b).2.2.1) (mV B tS v) = true)
    (hc1 : c'.1 = c.1) (hc3 : c'.2.2.1 = c.2.2.1) (hc4 : c'.2.2.2.1 = c.2.2.2.1)
    (h1' : ∀ N, mN a = N → b < N → (List.range N).map (fun k => mFv c'.2.1 (mAd B tS) c'.2.2.2.2 a k o) = ((List.range N).map fun k => mFv c.2.1 (mAd B tS) c.2.2.2.2 a k o).set b (mV B tS v))
    (h2' : ∀ j, j < c.2.2.1 → j ≠ o → mEnt dA c.1 c'.2.1 (mAd B tS) c'.2.2.2.2 j = mEnt dA c.1 c.2.1 (mAd B tS) c.2.2.2.2 j)
    (k : Wc d q fin n0 sl0 l B tS D dA p e s0 m args below meth c9 (pc + 3) loc r c') : Wc d q fin n0 sl0 l B tS D dA p e s0 m args below meth c9 pc loc (v :: .ref o :: r) c := fun z1 z2 H ls locs hP hz hl hS => by
  obtain ⟨qc, h1, h2, h3⟩ := mFl_ok _ _ hf
  dsimp only at h1 h2 h3
  have hN := mN_of h1
  have fin9 : ∀ (H1 : Heap) (locs1 : List Loc), va_P D mcl ((cWs dA B tS c).set o (mAd B tS o, .inr (a, ((List.range (mN a)).map fun k => mFv c.2.1 (mAd B tS) c.2.2.2.2 a k o).set b (mV B tS v)))) H1 → H1.size = B + c.2.2.1 → va_S (cFr B) s0.heap H1 locs1 → W p l e (cRm d (fin.2.2.1 - n0) (fin.2.2.2.1 - sl0)) s0 m args below meth c9 H1 locs1 (c.2.2.1 - n0) (c.2.2.2.1 - sl0) (MQ below (cQc fin B tS D dA) args s0 (fin.2.2.1 - n0) (fin.2.2.2.1 - sl0) (cFr B)) (F0 m (pc + 3) ls (r.map (mV B tS))) := by
    intro H1 locs1 hP1 hz1 hS2
    have e : (cWs dA B tS c).set o (mAd B tS o, .inr (a, ((List.range (mN a)).map fun k => mFv c.2.1 (mAd B tS) c.2.2.2.2 a k o).set b (mV B tS v))) = cWs dA B tS c' := by
      unfold cWs
      rw [hc1, hc3]
      exact mWs_set ho (by rw [mEnt_obj hS0, h1' (mN a) rfl (by rw [hN]; exact h2)]) h2'
    rw [e] at hP1
    have := k (by rw [hc3]; exact z1) (by rw [hc4]; exact z2) H1 ls locs1 hP1 (by rw [hc3]; exact hz1) hl hS2
    rw [hc3, hc4] at this
    exact this
  have hap := va_apart (own := mC (mOw q)) hc.2.2.2.2.2.1 (cls_ok h1).1 (fun k => mFT (qc.2.1 k).2.2.1) (cls_ok h1).2.1 (cls_ok h1).2.2.1 hc.2.2.2.2.2.2.2.1 h1
  have he : (cWs dA B tS c)[o]? = some (mAd B tS o, .inr (a, (List.range (mN a)).map fun k => mFv c.2.1 (mAd B tS) c.2.2.2.2 a k o)) := by unfold cWs; rw [mWs_at ho, mEnt_obj hS0]
  obtain ⟨rr, g1, cell, q1, q2, q3, q4⟩ := hP o _ he
  have hrr : rr = qc := Option.some.inj (g1.symm.trans h1)
  subst hrr
  obtain ⟨hS9, hfc, kC, hkC, hkind⟩ := hc.2.2.2.2.2.2.2.1.1 a _ h1
  obtain ⟨cf, kf, fi, f, hi, hsl⟩ := hS9 b h2
  have hlay : (Cond.lays rr.1 (rr.2.1 b).1 (rr.2.1 b).2.1 (rr.2.1 b).2.2.1).before args s0 = true ∨ (Cond.laysFinal rr.1 (rr.2.1 b).1 (rr.2.1 b).2.1 (rr.2.1 b).2.2.1).before args s0 = true := u_lays hc.2.2.2.2.2.1 (cls_ok h1).1 h2
  have hft := u_fits hfc hkC hkind hlay hi (fld_ok h1 h2).1 (hnf _ h1 h2).1 (hnf _ h1 h2).2
  have hcls : m.cls = D.1 a := by
    have := hc.2.2.2.2.1
    rw [← hown, (cls_ok h1).2.2.2] at this
    exact Option.some.inj (this.symm.trans hfc)
  refine W.putf hc.1 hc.2.1 hc.2.2.2.2.1 (hc.2.2.2.2.2.1 _ h3) (f := f) (cf := cf) (i := fi) (k := kf) (by rw [(fld_ok h1 h2).2.1] at hi; exact hi) (u_facts hfc hkC hlay hi).1 ?_ q1 (by rw [q3]; exact fun h => by cases h) (by rw [hsl]; exact k2_hasslot (q4 b h2)) hft.1 (by rw [q2, q3]; exact hft.2) rfl rfl hd ?_
  · rcases (show (rr.2.1 b).2.2.2 = true ∨ (rr.2.1 b).2.2.2 = false by cases (rr.2.1 b).2.2.2 <;> simp) with hb | hb
    · refine Or.inr ⟨?_, hc.2.2.2.2.2.2.2.2.2.2.1⟩
      have hlf := hc.2.2.2.2.2.1 _ ((cls_ok h1).1 _ (u_in_lay h2))
      unfold u_lay at hlf
      rw [if_pos hb] at hlf
      have hown2 : s0.vm.findClass rr.1 = some m.cls := by rw [hcls]; exact hfc
      rw [(fld_ok h1 h2).2.1] at hlf hi
      exact laid_decl hown2 hlf hi
    · refine Or.inl ?_
      have hlf := hc.2.2.2.2.2.1 _ ((cls_ok h1).1 _ (u_in_lay h2))
      unfold u_lay at hlf
      rw [if_neg (by rw [hb]; decide)] at hlf
      exact (u_store hfc hkC hkind hlf hi (fld_ok h1 h2).1 (hnf _ h1 h2).1 (hnf _ h1 h2).2).1
  · have hlt : mAd B tS o < H.size := (Array.getElem?_eq_some_iff.mp q1).1
    have e1 : (H.setIfInBounds (mAd B tS o) (cell.setSlot f.slot (mV B tS v)))[mAd B tS o]? = some (cell.setSlot f.slot (mV B tS v)) := by simp [hlt]
    have e3 : ∀ x, x ≠ mAd B tS o → (H.setIfInBounds (mAd B tS o) (cell.setSlot f.slot (mV B tS v)))[x]? = H[x]? := fun x hx => by rw [Array.getElem?_setIfInBounds_ne (Ne.symm hx)]
    rw [hsl] at e1 e3 ⊢
    refine fin9 _ _ (hP.set (cD hn) he ⟨_, h1, t_OB.to (V := updV (vp_V _) b (mV B tS v)) ⟨_, e1, q2, q3, t_set q4 hap h2 (mV B tS v)⟩ (fun j _ => vp_updV_set (by rw [List.length_map, List.length_range, hN]; exact h2) (mV B tS v) j)⟩ e3) (by rw [Array.size_setIfInBounds]; exact hz) (hS.put (by rw [Array.size_setIfInBounds]) e3 ((cD hn).2 o _ he))
theorem Wc_putI (hc : cCtx q l B D dA p e s0 m args meth c9) (hn : c.2.2.1 ≤ 999999) {a b o idx i : Nat} {x : Int32} (hS0 : c.1 o = .inl a) (ho : o < c.2.2.1) (hf : (idx, a, b, i) ∈ mFl (mOw q)) (hown : a = mOw q) (hd : decode (mBy q) pc = .ok (.putfield idx, 3)) (hkd : mKd a b = 0 ∨ (mKd a b = 3 ∧ isb x = true)) (k : Wc d q fin n0 sl0 l B tS D dA p e s0 m args below meth c9 (pc + 3) loc r (cSet c (sI c.2.2.2.2 (100 * a + b) o x))) : Wc d q fin n0 sl0 l B tS D dA p e s0 m args below meth c9 pc loc (.int x :: .ref o :: r) c := by
  have hk2 : mKd a b = 0 ∨ mKd a b = 3 := hkd.elim Or.inl (fun h => Or.inr h.1)
  refine Wc_put (c' := cSet c (sI c.2.2.2.2 (100 * a + b) o x)) hc hn (v := .int x) hS0 ho hf hown hd (fun qc h1 h2 => ?_) rfl rfl rfl (fun N _ hb => ?_) (fun j hj hne => ?_) k
  · rcases hkd with h | ⟨h, hb⟩
    · rw [okK_int (fld_ok h1 h2).2.2.1 h]; exact ⟨rfl, rfl⟩
    · rw [okK_bool (fld_ok h1 h2).2.2.1 h]
      have hz : mV B tS (.int x) = .int x := rfl
      rw [hz]
      refine ⟨isb_spec hb, ?_⟩
      have := fits_narrow_boolean x
      rwa [isb_spec hb] at this
  · refine map_range_set _ _ N b _ hb ?_ (fun k hk hne => ?_)
    · show mFv _ _ _ _ _ _ = _
      rw [mFv_int hk2]; exact congrArg Value.int (up2_self _ _ _ _)
    · unfold mFv
      have e1 : gI (sI c.2.2.2.2 (100 * a + b) o x) (100 * a + k) o = gI c.2.2.2.2 (100 * a + k) o := up2_ne1 _ _ (by omega)
      show (match mKd a k with
        | 1 => _
        | 2 => _
        | _ => Value.int (gI (sI c.2.2.2.2 (100 * a + b) o x) (100 * a + k) o)) = _
      rw [e1]; rfl
  · exact mEnt_congr (fun f => up2_ne2 _ _ hne) (fun f => rfl) (fun ci k _ _ => rfl) (fun i => rfl) (fun i => rfl)
theorem Wc_putL (hc : cCtx q l B D dA p e s0 m args meth c9) (hn : c.2.2.1 ≤ 999999) {a b o idx i : Nat} {x : Int64} (hS0 : c.1 o = .inl a) (ho : o < c.2.2.1) (hf : (idx, a, b, i) ∈ mFl (mOw q)) (hown : a = mOw q) (hd : decode (mBy q) pc = .ok (.putfield idx, 3)) (hkd : mKd a b = 1) (k : Wc d q fin n0 sl0 l B tS D dA p e s0 m args below meth c9 (pc + 3) loc r (cSet c (sL c.2.2.2.2 (100 * a + b) o x))) : Wc d q fin n0 sl0 l B tS D dA p e s0 m args below meth c9 pc loc (.long x :: .ref o :: r) c := by
  refine Wc_put (c' := cSet c (sL c.2.2.2.2 (100 * a + b) o x)) hc hn (v := .long x) hS0 ho hf hown hd (fun qc h1 h2 => ?_) rfl rfl rfl (fun N _ hb => ?_) (fun j hj hne => ?_) k
  · rw [okK_long (fld_ok h1 h2).2.2.1 hkd]; exact ⟨rfl, rfl⟩
  · refine map_range_set _ _ N b _ hb ?_ (fun k hk hne => ?_)
    · show mFv _ _ _ _ _ _ = _
      unfold mFv; rw [hkd]; exact congrArg Value.long (up2_self _ _ _ _)
    · unfold mFv
      have e1 : gL (sL c.2.2.2.2 (100 * a + b) o x) (100 * a + k) o = gL c.2.2.2.2 (100 * a + k) o := up2_ne1 _ _ (by omega)
      show (match mKd a k with
        | 1 => Value.long (gL (sL c.2.2.2.2 (100 * a + b) o x) (100 * a + k) o)
        | 2 => _
        | _ => _) = _
      rw [e1]; rfl
  · exact mEnt_congr (fun f => rfl) (fun f => up2_ne2 _ _ hne) (fun ci k _ _ => rfl) (fun i => rfl) (fun i => rfl)
theorem Wc_putR (hc : cCtx q l B D dA p e s0 m args meth c9) (hn : c.2.2.1 ≤ 999999) {a b o x idx i : Nat} (hS0 : c.1 o = .inl a) (ho : o < c.2.2.1) (hf : (idx, a, b, i) ∈ mFl (mOw q)) (hown : a = mOw q) (hd : decode (mBy q) pc = .ok (.putfield idx, 3)) (hkd : mKd a b = 2) (k : Wc d q fin n0 sl0 l B tS D dA p e s0 m args below meth c9 (pc + 3) loc r (cRef c (100 * a + b) o x)) : Wc d q fin n0 sl0 l B tS D dA p e s0 m args below meth c9 pc loc (.ref x :: .ref o :: r) c := by
  refine Wc_put (c' := cRef c (100 * a + b) o x) hc hn (v := .ref x) hS0 ho hf hown hd (fun qc h1 h2 => ?_) rfl rfl rfl (fun N _ hb => ?_) (fun j hj hne => ?_) k
  · have hr := okK_ref (fld_ok h1 h2).2.2.1 hkd
    show narrow _ (.ref _) = .ref _ ∧ fits _ (.ref _) = true
    cases hty : mFT (qc.2.1 b).2.2.1 <;> rw [hty] at hr <;> first | exact absurd hr (by decide) | exact ⟨rfl, rfl⟩ | (simp [FieldType.isReference] at hr)
  · refine map_range_set _ _ N b _ hb ?_ (fun k hk hne => ?_)
    · show mFv _ _ _ _ _ _ = _
      unfold mFv; rw [hkd]
      show va_rf ((up2 c.2.1 (100 * a + b) o (some x) (100 * a + b) o).map (mAd B tS)) = _
      rw [up2_self]; rfl
    · unfold mFv
      show (match mKd a k with
        | 1 => _
        | 2 => va_rf ((up2 c.2.1 (100 * a + b) o (some x) (100 * a + k) o).map (mAd B tS))
        | _ => _) = _
      rw [up2_ne1 _ _ (by omega)]; rfl
  · refine mEnt_congr (fun f => rfl) (fun f => rfl) (fun ci k hci hk => ?_) (fun i => rfl) (fun i => rfl)
    exact up2_ne2 _ _ hne
theorem Wc_castore (hc : cCtx q l B D dA p e s0 m args meth c9) (hn : c.2.2.1 ≤ 999999) {o : Nat} {j x : Int32} (hi : inb j (aln c.1 1 o) = true) (ho : o < c.2.2.1) (hx : ich x = true) (hd : decode (mBy q) pc = .ok (.castore, 1)) (k : Wc d q fin n0 sl0 l B tS D dA p e s0 m args below meth c9 (pc + 1) loc r (cSet c (sA c.2.2.2.2 o (ix j) x))) : Wc d q fin n0 sl0 l B tS D dA p e s0 m args below meth c9 pc loc (.int x :: .int j :: .ref o :: r) c := fun z1 z2 H ls locs hP hz hl hS => by
  have hs := aln_spec (N := aln c.1 1 o) rfl (inb_pos hi)
  have hnx : vp_nar .char x = x := by unfold vp_nar; rw [of_decide_eq_true hx]
  have hzz := fun (H1 : Heap) (h : va_P D mcl ((cWs dA B tS c).set o (mAd B tS o, .inl (dA 1, aln c.1 1 o, .inl (upd (fun i => gA c.2.2.2.2 o i) j.toNatClampNeg x)))) H1) => h
  have hat : H[mAd B tS o]? = some (arrV (dA 1) (aln c.1 1 o) fun i => .int (gA c.2.2.2.2 o i)) := hP o (mAd B tS o, .inl (dA 1, aln c.1 1 o, .inl fun i => gA c.2.2.2.2 o i)) (by unfold cWs; rw [mWs_at ho, mEnt_arr hs (by decide)])
  refine W.cast hc.1 hc.2.1 hat ((hc.2.2.2.2.2.2.2.1.2 1 _ rfl).1 _ (fun i => .int (gA c.2.2.2.2 o i))) (fun h => by cases h) (by show ¬ (j < 0 ∨ (arrV _ _ _).slots.size ≤ _); rw [arrV_size]; exact inb_spec hi) rfl rfl hd (fun H1 e z oq => ?_)
  have hP1 := hP.set (p := o) (e := .inl (dA 1, aln c.1 1 o, .inl (upd (fun i => gA c.2.2.2.2 o i) j.toNatClampNeg x))) (cD hn) (by unfold cWs; rw [mWs_at ho, mEnt_arr hs (by decide)]) (H1 := H1) (by
    show H1[mAd B tS o]? = some (vp_cell _ _)
    rw [e, vp_cell_i, arrV_store]
    congr 2
    funext q9
    by_cases hq : q9 = j.toNatClampNeg
    · subst hq
      simp [updV, upd, of_decide_eq_true hx]
    · simp [updV, upd, hq]) oq
  unfold cWs at hP1
  rw [mWs_set (s := c.2.2.2.2) (R := c.2.1) (s' := sA c.2.2.2.2 o (ix j) x) (R' := c.2.1) ho (by
    rw [mEnt_arr hs (by decide)]
    congr 4
    funext i
    by_cases hq : i = ix j
    · subst hq; rw [show gA (sA c.2.2.2.2 o (ix j) x) o (ix j) = x from up2_self _ _ _ _]; simp [upd, ix]
    · rw [show gA (sA c.2.2.2.2 o (ix j) x) o i = gA c.2.2.2.2 o i from up2_ne2 _ _ hq]; unfold ix at hq; simp [upd, hq])
    (fun i hi9 hne => mEnt_congr (fun f => rfl) (fun f => rfl) (fun _ _ _ _ => rfl) (fun i => up2_ne1 _ _ hne) (fun i => rfl))] at hP1
  exact k z1 z2 H1 ls _ hP1 (z.trans hz) hl (hS.put z oq (by show B ≤ _; rw [mAd_own ho hn]; omega))
theorem cWs_grow {H H1 : Heap} {c c' : cS} {x : va_E} (hn : c.2.2.1 ≤ 999999) (hP : va_P D mcl (cWs dA B tS c) H) (hz : H.size = B + c.2.2.1) (h3 : c'.2.2.1 = c.2.2.1 + 1) (hk : ∀ q, q < H.size → H1[q]? = H[q]?) (hx : va_at D mcl (B + c.2.2.1, x) H1) (he : mEnt dA c'.1 c'.2.1 (mAd B tS) c'.2.2.2.2 c.2.2.1 = x) (ho : ∀ j, j < c.2.2.1 → mEnt dA c'.1 c'.2.1 (mAd B tS) c'.2.2.2.2 j = mEnt dA c.1 c.2.1 (mAd B tS) c.2.2.2.2 j) (hlt : c.2.2.1 < 999999) : va_P D mcl (cWs dA B tS c') H1 := by
  intro k y hy
  unfold cWs at hy
  rw [h3] at hy
  obtain ⟨hk1, rfl⟩ := mWs_get hy
  rcases Nat.lt_succ_iff_lt_or_eq.mp hk1 with g | g
  · rw [ho k g]
    refine (hP k (mAd B tS k, mEnt dA c.1 c.2.1 (mAd B tS) c.2.2.2.2 k) (by unfold cWs; exact mWs_at g)).kept (hk _ ?_)
    show mAd B tS k < H.size
    rw [mAd_own g hn, hz]; omega
  · subst g
    rw [he, mAd_own (Nat.lt_succ_self _) (by omega)]
    exact hx
theorem Wc_new (hc : cCtx q l B D dA p e s0 m args meth c9) {ci idx : Nat} {qc : vw_C} (hq : mcl[ci]? = some qc) (hlt : c.2.2.1 < 999999) (hlim : c.2.2.1 + 1 ≤ fin.2.2.1 ∧ c.2.2.2.1 + mN ci ≤ fin.2.2.2.1) (hcl : Cond.classLink (mC (mOw q)) idx qc.1 ∈ lw_good) (hd : decode (mBy q) pc = .ok (.new idx, 3)) (k : Wc d q fin n0 sl0 l B tS D dA p e s0 m args below meth c9 (pc + 3) loc (.ref c.2.2.1 :: r) (cNew c ci)) : Wc d q fin n0 sl0 l B tS D dA p e s0 m args below meth c9 pc loc r c := fun z1 z2 H ls locs hP hz hl hS => by
  obtain ⟨hwu, hb, hins, hini⟩ := mcl_ok ci qc hq
  have hKn := hc.2.2.2.2.2.2.2.1.1 ci _ hq
  have hN := mN_of hq
  refine W.newcK (n := qc.2.2) hc.1 hc.2.1 hc.2.2.2.2.1 (hc.2.2.2.2.2.1 _ hcl) (hc.2.2.2.2.2.1 _ hins) (hc.2.2.2.2.2.1 _ hini) rfl hd (by show _ + 1 ≤ fin.2.2.1 - n0; omega) (by show _ + qc.2.2 ≤ fin.2.2.2.1 - sl0; rw [← hN]; omega) hKn.2.1 hz (fun H1 kC hkC e1 z9 o1 => ?_)
  have hborn := u_born (fun k => mFT (qc.2.1 k).2.2.1) hc.2.2.2.2.2.1 (cls_ok hq).1 hKn hkC e1 (cls_ok hq).2.1
  have hP1 : va_P D mcl (cWs dA B tS (cNew c ci)) H1 := by
    refine cWs_grow (c' := cNew c ci) (x := .inr (ci, (List.range (mN ci)).map fun k => mFv (cNew c ci).2.1 (mAd B tS) (cNew c ci).2.2.2.2 ci k c.2.2.1)) (by omega) hP hz rfl (fun q9 h9 => o1 q9 (by omega)) ⟨qc, hq, hborn.to (fun j hj => ?_)⟩ (by rw [mEnt_obj (ci := ci)]; show (if c.2.2.1 = c.2.2.1 then Sum.inl ci else _) = _; rw [if_pos rfl]) (fun j hj => ?_) hlt
    · show _ = vp_V _ j
      unfold vp_V
      rw [List.getD_eq_getElem?_getD, List.getElem?_map, hN, List.getElem?_range hj]
      show defaultValue _ = mFv _ _ _ ci j c.2.2.1
      have hf := fld_ok hq hj
      unfold mFv
      have hlt4 := mKd_lt ci j
      have e5 : (cNew c ci).2.1 (100 * ci + j) c.2.2.1 = none := by show (if c.2.2.1 = c.2.2.1 then none else _) = _; rw [if_pos rfl]
      have e6 : gI (cNew c ci).2.2.2.2 (100 * ci + j) c.2.2.1 = 0 := by show (if c.2.2.1 = c.2.2.1 then _ else _) = _; rw [if_pos rfl]
      have e7 : gL (cNew c ci).2.2.2.2 (100 * ci + j) c.2.2.1 = 0 := by show (if c.2.2.1 = c.2.2.1 then _ else _) = _; rw [if_pos rfl]
      rw [e5, e6, e7]
      generalize hz9 : mKd ci j = z at hlt4
      match z, hlt4 with
      | 0, _ => rw [okK_int hf.2.2.1 hz9]; rfl
      | 1, _ => rw [okK_long hf.2.2.1 hz9]; rfl
      | 2, _ =>
        have hr := okK_ref hf.2.2.1 hz9
        cases hty : mFT (qc.2.1 j).2.2.1 <;> rw [hty] at hr <;> first | exact absurd hr (by decide) | rfl | (simp [FieldType.isReference] at hr)
      | 3, _ => rw [okK_bool hf.2.2.1 hz9]; rfl
    · have hne : j ≠ c.2.2.1 := by omega
      have hSj : (cNew c ci).1 j = c.1 j := if_neg hne
      have e0 : mEnt dA (cNew c ci).1 (cNew c ci).2.1 (mAd B tS) (cNew c ci).2.2.2.2 j = mEnt dA c.1 (cNew c ci).2.1 (mAd B tS) (cNew c ci).2.2.2.2 j := by unfold mEnt; rw [hSj]
      rw [e0]
      exact mEnt_congr (fun f => if_neg hne) (fun f => if_neg hne) (fun ci k _ _ => if_neg hne) (fun i => rfl) (fun i => rfl)
  have := k (Nat.le_succ_of_le z1) (Nat.le_trans z2 (Nat.le_add_right _ _)) H1 ls locs hP1 (by rw [z9]; rfl) hl ⟨Nat.le_trans hS.1 (by omega), fun x h1 h2 => (o1 x (by have := hS.1; omega)).trans (hS.2.1 x h1 h2), hS.2.2⟩
  have e8 : (cNew c ci).2.2.1 - n0 = c.2.2.1 - n0 + 1 := by show c.2.2.1 + 1 - n0 = _; omega
  have e9 : (cNew c ci).2.2.2.1 - sl0 = c.2.2.2.1 - sl0 + qc.2.2 := by show c.2.2.2.1 + mN ci - sl0 = _; rw [hN]; omega
  rw [e8, e9, List.map_cons] at this
  have e10 : mV B tS (.ref c.2.2.1) = .ref (B + c.2.2.1) := by show Value.ref _ = _; rw [mAd_own (Nat.lt_succ_self _) (by omega)]
  rw [e10] at this
  exact this
theorem Wc_newarray (hc : cCtx q l B D dA p e s0 m args meth c9) {t : Nat} {at9 : ArrayType} {x : Int32} (ht : mTy dA = mTy dA ∧ (mTy dA)[t]? = some (dA t, newarray.typeOf at9)) (hlt : c.2.2.1 < 999999) (hx : ¬ x < 0) (hx2 : ix x ≤ 10000) (hlim : c.2.2.1 + 1 ≤ fin.2.2.1 ∧ c.2.2.2.1 + ix x ≤ fin.2.2.2.1) (hac : Cond.arrayClass (newarray.typeOf at9) ∈ lw_good) (hdef : defaultValue (newarray.typeOf at9) = if t = 3 then .long 0 else .int 0) (hcb : componentBytes (newarray.typeOf at9) ≤ 8) (hprim : ∀ C, newarray.typeOf at9 ≠ .object C) (hd : decode (mBy q) pc = .ok (.newarray at9, 2)) (k : Wc d q fin n0 sl0 l B tS D dA p e s0 m args below meth c9 (pc + 2) loc (.ref c.2.2.1 :: r) (cArr c t (ix x))) : Wc d q fin n0 sl0 l B tS D dA p e s0 m args below meth c9 pc loc (.int x :: r) c := fun z1 z2 H ls locs hP hz hl hS => by
  have hK := hc.2.2.2.2.2.2.2.1.2 t _ ht.2
  refine va_newaK (N := ix x) (h := B + c.2.2.1) hc.1 hc.2.1 (hc.2.2.2.2.2.1 _ hac) rfl hd rfl hx rfl (Nat.le_trans (Nat.mul_le_mul hx2 hcb) (by decide)) (by show _ + 1 ≤ fin.2.2.1 - n0; omega) (by show _ + ix x ≤ fin.2.2.2.1 - sl0; omega) hz (fun H1 cA e1 z9 o1 hAr hNm => ?_)
  have hcA : cA = dA t := by
    have h9 : s0.vm.findClass ("[" ++ (newarray.typeOf at9).toString) = some (dA t) := by
      have := hK.2
      unfold va_RA at this
      split at this
      · rename_i C hC; exact absurd hC (hprim C)
      · exact this
    exact Option.some.inj (hNm.symm.trans h9)
  subst hcA
  have hP1 : va_P D mcl (cWs dA B tS (cArr c t (ix x))) H1 := by
    refine cWs_grow (c' := cArr c t (ix x)) (x := .inl (dA t, ix x, if t = 3 then .inr (.inl fun j => gQ (cArr c t (ix x)).2.2.2.2 c.2.2.1 j) else .inl fun j => gA (cArr c t (ix x)).2.2.2.2 c.2.2.1 j)) (by omega) hP hz rfl (fun q9 h9 => o1 q9 (by omega)) ?_ (by unfold mEnt; rw [show (cArr c t (ix x)).1 c.2.2.1 = .inr (t, ix x) from if_pos rfl]) (fun j hj => ?_) hlt
    · show H1[B + c.2.2.1]? = some (vp_cell _ _)
      rw [e1, hdef]
      congr 1
      by_cases h3 : t = 3
      · rw [if_pos h3, if_pos h3, vp_cell_l]
        congr 1
        funext j
        show Value.long 0 = Value.long (if c.2.2.1 = c.2.2.1 then 0 else _)
        rw [if_pos rfl]
      · rw [if_neg h3, if_neg h3, vp_cell_i]
        congr 1
        funext j
        show Value.int 0 = Value.int (if c.2.2.1 = c.2.2.1 then 0 else _)
        rw [if_pos rfl]
    · have hne : j ≠ c.2.2.1 := by omega
      have hSj : (cArr c t (ix x)).1 j = c.1 j := if_neg hne
      have e0 : mEnt dA (cArr c t (ix x)).1 (cArr c t (ix x)).2.1 (mAd B tS) (cArr c t (ix x)).2.2.2.2 j = mEnt dA c.1 (cArr c t (ix x)).2.1 (mAd B tS) (cArr c t (ix x)).2.2.2.2 j := by unfold mEnt; rw [hSj]
      rw [e0]
      exact mEnt_congr (fun f => rfl) (fun f => rfl) (fun ci k _ _ => rfl) (fun i => if_neg hne) (fun i => if_neg hne)
  have := k (Nat.le_succ_of_le z1) (Nat.le_trans z2 (Nat.le_add_right _ _)) H1 ls locs hP1 (by rw [z9]; rfl) hl ⟨Nat.le_trans hS.1 (by omega), fun y h1 h2 => (o1 y (by have := hS.1; omega)).trans (hS.2.1 y h1 h2), hS.2.2⟩
  have e8 : (cArr c t (ix x)).2.2.1 - n0 = c.2.2.1 - n0 + 1 := by show c.2.2.1 + 1 - n0 = _; omega
  have e9 : (cArr c t (ix x)).2.2.2.1 - sl0 = c.2.2.2.1 - sl0 + ix x := by show c.2.2.2.1 + ix x - sl0 = _; omega
  rw [e8, e9, List.map_cons] at this
  have e10 : mV B tS (.ref c.2.2.1) = .ref (B + c.2.2.1) := by show Value.ref _ = _; rw [mAd_own (Nat.lt_succ_self _) (by omega)]
  rw [e10] at this
  exact this
theorem cPc_blind {vs : List Value} {c : cS} : FrameBlind (cPc vs c B tS D dA) := fun a U g mk h => by
  obtain ⟨h1, h2, h5, h3, h4⟩ := h
  exact ⟨h1, h2, h5, va_K.moved (u := U) (U := U.calling g mk a) (Vm.Alike.refl U.vm) h3, mNW_same (s := U) (U := U.calling g mk a) rfl h4⟩
theorem cPc_at (hc : cCtx q l B D dA p e s0 m args meth c9) {vs : List Value} {H : Heap} (hP : va_P D mcl (cWs dA B tS c) H) (hz : H.size = B + c.2.2.1) (U : State) (hU : U.heap = H) (hW : s0.WarmedH U.vm) : cPc vs c B tS D dA (vs.map (mV B tS)).toArray U := ⟨rfl, by rw [hU]; exact hP, by rw [hU]; exact hz, va_K.moved hW.alike hc.2.2.2.2.2.2.2.1, mNW_warm hW hc.2.2.2.2.2.2.2.2.1⟩
/-- behind a constructor's call -/
theorem Wc_back {vs : List Value} {c1 : cS} {H : Heap} {ls : Array Slot} {locs : List Loc} {st0 : List Value} {a : Array Value} (z1 : n0 ≤ c.2.2.1) (z2 : sl0 ≤ c.2.2.2.1) (m1 : c.2.2.1 ≤ c1.2.2.1 ∧ c.2.2.2.1 ≤ c1.2.2.2.1) (hr : va_Run p l e (cRm d (fin.2.2.1 - n0) (fin.2.2.2.1 - sl0)) s0 m args below meth c9 H locs (c.2.2.1 - n0) (c.2.2.2.1 - sl0) (c1.2.2.1 - c.2.2.1) (c1.2.2.2.1 - c.2.2.2.1) (F0 m pc ls st0) (r.map (mV B tS)) (cQc c1 B tS D dA a) (cFr B)) (hz : H.size = B + c.2.2.1) (hl : lv_has ls (mMx q) (mLo B tS loc)) (hS : va_S (cFr B) s0.heap H locs) (k : Wc d q fin n0 sl0 l B tS D dA p e s0 m args below meth c9 (pc + 3) loc r c1) :
    W p l e (cRm d (fin.2.2.1 - n0) (fin.2.2.2.1 - sl0)) s0 m args below meth c9 H locs (c.2.2.1 - n0) (c.2.2.2.1 - sl0) (MQ below (cQc fin B tS D dA) args s0 (fin.2.2.1 - n0) (fin.2.2.2.1 - sl0) (cFr B)) (F0 m pc ls st0) := by
  intro T hT X
  obtain ⟨v, st₀, t, T', L, h0, X', hL, e1, e2, ⟨hv, hp, hz9, hz8, hk⟩, st⟩ := hr T hT X
  obtain rfl := Outcome.returned.inj hv
  rw [h0] at hz8 hk
  rw [show c.2.2.1 - n0 + (c1.2.2.1 - c.2.2.1) = c1.2.2.1 - n0 by omega, show c.2.2.2.1 - sl0 + (c1.2.2.2.1 - c.2.2.2.1) = c1.2.2.2.1 - sl0 by omega] at X'
  obtain ⟨t2, a1, b1⟩ := k (by omega) (by omega) T'.heap ls (locs ++ L) (by rw [e1]; exact hp) (by rw [e1]; exact hz9) hl
    ⟨Nat.le_trans hS.1 (by rw [e1]; exact hz8), fun q h1 h2 => by rw [e1, hk q (Nat.lt_of_lt_of_le h1 hS.1) h2]; exact hS.2.1 q h1 h2, fun q hq => by
      rcases List.mem_append.mp hq with h | h
      · exact hS.2.2 q h
      · exact hL q h⟩ T' rfl X'
  refine ⟨t2, st t2 ?_, b1⟩
  exact a1
theorem cRoom {q9 : mI} {dy x y x1 y1 : Nat} (h : mMx q9 ≤ 40) (hd : dy + 1 ≤ d) : (cRm dy x y).frames + 1 ≤ (cRm d x1 y1).frames ∧ 8 + (mMx q9 + 11) + (cRm dy x y).locals ≤ (cRm d x1 y1).locals := ⟨hd, by show 8 + (mMx q9 + 11) + 70 * dy ≤ 70 * d; omega⟩
theorem Wc_call (hc : cCtx q l B D dA p e s0 m args meth c9) {idx y dy o : Nat} {vs : List Value} {c1 : cS} {qy : mI} (hy : mT[y]? = some qy) (hfg : mFg qy = 2) (hrt : mRt qy = none) (hlk : Cond.methodLink (mC (mOw q)) idx (mNm qy) ∈ lw_good ∨ Cond.methodLinkNest (mC (mOw q)) idx (mNm qy) "PorterDoors" ∈ mNestM) (hM : MetC dy y (.ref o :: vs) c c1) (hdy : dy + 1 ≤ d) (hlen : vs.length = mNp qy) (hr : cats r ≤ 8) (m1 : c.2.2.1 ≤ c1.2.2.1 ∧ c.2.2.2.1 ≤ c1.2.2.2.1) (m2 : c1.2.2.1 ≤ fin.2.2.1 ∧ c1.2.2.2.1 ≤ fin.2.2.2.1) (hd : decode (mBy q) pc = .ok (.invokespecial idx, 3)) (k : Wc d q fin n0 sl0 l B tS D dA p e s0 m args below meth c9 (pc + 3) loc r c1) : Wc d q fin n0 sl0 l B tS D dA p e s0 m args below meth c9 pc loc (vs.reverse ++ .ref o :: r) c := fun z1 z2 H ls locs hP hz hl hS1 => by
  obtain ⟨hco, hin, hg, hb⟩ := mT_in hy
  obtain ⟨hC, hpl, hno, hnp, hmx⟩ := okB_spec hb
  unfold okG at hg
  rw [hfg] at hg
  have hfix : CallFix p m c9 (mBy q) (mMx q) s0 args lw_good (mC (mOw q)) := ⟨hc.1, hc.2.1, hc.2.2.2.1, hc.2.2.2.2.1, hc.2.2.2.2.2.1⟩
  have hpre : PreS s0 H (cPc (.ref o :: vs) c B tS D dA) (.ref (mAd B tS o) :: vs.map (mV B tS)) := ⟨cPc_blind, fun U hU hW => cPc_at (vs := .ref o :: vs) hc hP hz U hU hW⟩
  have hGI : GoodIn lw_good (mWd qy) := good_GoodIn (fun w hw9 => by
    rcases List.mem_cons.mp hw9 with rfl | h
    · exact hco
    · exact h)
  have hst : (vs.reverse ++ .ref o :: r).map (mV B tS) = (vs.map (mV B tS)).reverse ++ .ref (mAd B tS o) :: r.map (mV B tS) := by rw [List.map_append, List.map_reverse]; rfl
  have hwd : mWd qy = Cond.code (mNm qy) (mBy qy) (mMx qy) none :: lw_good := by unfold mWd; rw [hrt]
  have hrun : va_Run p l e (cRm d (fin.2.2.1 - n0) (fin.2.2.2.1 - sl0)) s0 m args below meth c9 H locs (c.2.2.1 - n0) (c.2.2.2.1 - sl0) (c1.2.2.1 - c.2.2.1) (c1.2.2.2.1 - c.2.2.2.1) (F0 m pc ls ((vs.reverse ++ .ref o :: r).map (mV B tS))) (r.map (mV B tS)) (cQc c1 B tS D dA (Value.ref (mAd B tS o) :: vs.map (mV B tS)).toArray) (cFr B) := by
    rcases hlk with hlk | hlk
    · exact va_runI hfix (hM l B tS D dA qy hy) (cwI (mNp qy) hc.2.2.2.2.2.1 hGI hwd rfl rfl (hc.2.2.2.2.2.1 _ hin) (hc.2.2.2.2.2.1 _ hlk) (hc.2.2.2.2.2.1 _ hg.1) hg.2 ⟨hno.1, hno.2, hnp⟩ (cRoom hmx hdy)) hpre rfl (by rw [List.length_map]; exact hlen) hl.1 hst (lv_room (by rw [cats_sum]; exact hr)) hd ⟨by show _ ≤ fin.2.2.1 - n0; omega, by show _ ≤ fin.2.2.2.1 - sl0; omega⟩
    · exact va_runIN hfix (hM l B tS D dA qy hy) ⟨va_cnB (mNp qy) hc.2.2.2.2.2.1 hGI hwd rfl rfl (hc.2.2.2.2.2.2.2.2.1.2 _ hlk) (hc.2.2.2.2.2.1 _ hin) ⟨hno.1, hno.2, hnp⟩ (cRoom hmx hdy), hg.2, hc.2.2.2.2.2.1 _ hg.1⟩ hpre rfl (by rw [List.length_map]; exact hlen) hl.1 hst (lv_room (by rw [cats_sum]; exact hr)) hd ⟨by show _ ≤ fin.2.2.1 - n0; omega, by show _ ≤ fin.2.2.2.1 - sl0; omega⟩
  exact Wc_back (vs := vs) z1 z2 m1 hrun hz hl hS1 k
theorem Wc_objInit (hc : cCtx q l B D dA p e s0 m args meth c9) {idx o : Nat} (hd1 : 1 ≤ d) (h1 : Cond.methodLink (mC (mOw q)) idx Lib.objectInit ∈ lw_good) (h2 : Cond.instanceMethod Lib.objectInit ∈ lw_good) (h3 : Cond.code Lib.objectInit ⟨#[0xb1]⟩ 1 none ∈ lw_good) (hr : cats r ≤ 8) (hd : decode (mBy q) pc = .ok (.invokespecial idx, 3)) (k : Wc d q fin n0 sl0 l B tS D dA p e s0 m args below meth c9 (pc + 3) loc r c) : Wc d q fin n0 sl0 l B tS D dA p e s0 m args below meth c9 pc loc (.ref o :: r) c := fun z1 z2 H ls locs hP hz hl hS1 => by
  refine W.objInit hc.1 hc.2.1 hc.2.2.2.2.1 (hc.2.2.2.2.2.1 _ h1) (hc.2.2.2.2.2.1 _ h2) (hc.2.2.2.2.2.1 _ h3) rfl (by rw [hc.2.2.2.1]; exact hl.1) rfl hd hd1 ?_ (k z1 z2 H ls locs hP hz hl hS1)
  rw [cats_sum]
  show 2 * 0 + cats r + 12 ≤ 70 * d
  omega
end CTOR
/-! words of the constructors' instructions -/
noncomputable def mNl : List (Nat × Nat × Nat) := [(0, 17, 4), (0, 27, 5), (0, 34, 6), (0, 43, 2), (0, 53, 3), (0, 60, 9), (0, 67, 7), (0, 76, 1), (0, 85, 8), (1, 9, 2), (4, 35, 5), (12, 7, 0), (12, 10, 10)]
theorem mNl_ok : ∀ r ∈ mNl, ∃ qc, mcl[r.2.2]? = some qc ∧ Cond.classLink (mC r.1) r.2.1 qc.1 ∈ lw_good := List.forall_mem_cons.mpr ⟨⟨_, rfl, tb 24 (by decide +kernel) rfl⟩, List.forall_mem_cons.mpr ⟨⟨_, rfl, tb 115 (by decide +kernel) rfl⟩, List.forall_mem_cons.mpr ⟨⟨_, rfl, tb 117 (by decide +kernel) rfl⟩, List.forall_mem_cons.mpr ⟨⟨_, rfl, tb 168 (by decide +kernel) rfl⟩, List.forall_mem_cons.mpr ⟨⟨_, rfl, tb 184 (by decide +kernel) rfl⟩, List.forall_mem_cons.mpr ⟨⟨_, rfl, tb 201 (by decide +kernel) rfl⟩, List.forall_mem_cons.mpr ⟨⟨_, rfl, tb 222 (by decide +kernel) rfl⟩, List.forall_mem_cons.mpr ⟨⟨_, rfl, tb 241 (by decide +kernel) rfl⟩, List.forall_mem_cons.mpr ⟨⟨_, rfl, tb 270 (by decide +kernel) rfl⟩, List.forall_mem_cons.mpr ⟨⟨_, rfl, tb 247 (by decide +kernel) rfl⟩, List.forall_mem_cons.mpr ⟨⟨_, rfl, tb 30 (by decide +kernel) rfl⟩, List.forall_mem_cons.mpr ⟨⟨_, rfl, tb 16 (by decide +kernel) rfl⟩, List.forall_mem_cons.mpr ⟨⟨_, rfl, tb 964 (by decide +kernel) rfl⟩, mz_nil⟩⟩⟩⟩⟩⟩⟩⟩⟩⟩⟩⟩⟩
noncomputable def mOl : List (Nat × Nat) := [(0, 1), (1, 3), (2, 5), (3, 1), (4, 3), (5, 3), (6, 3), (7, 3), (8, 3), (9, 3), (10, 1)]
theorem mOl_ok : ∀ r ∈ mOl, Cond.methodLink (mC r.1) r.2 Lib.objectInit ∈ lw_good := List.forall_mem_cons.mpr ⟨tb 21 (by decide +kernel) rfl, List.forall_mem_cons.mpr ⟨tb 246 (by decide +kernel) rfl, List.forall_mem_cons.mpr ⟨tb 173 (by decide +kernel) rfl, List.forall_mem_cons.mpr ⟨tb 189 (by decide +kernel) rfl, List.forall_mem_cons.mpr ⟨tb 29 (by decide +kernel) rfl, List.forall_mem_cons.mpr ⟨tb 35 (by decide +kernel) rfl, List.forall_mem_cons.mpr ⟨tb 122 (by decide +kernel) rfl, List.forall_mem_cons.mpr ⟨tb 227 (by decide +kernel) rfl, List.forall_mem_cons.mpr ⟨tb 275 (by decide +kernel) rfl, List.forall_mem_cons.mpr ⟨tb 206 (by decide +kernel) rfl, List.forall_mem_cons.mpr ⟨tb 969 (by decide +kernel) rfl, mz_nil⟩⟩⟩⟩⟩⟩⟩⟩⟩⟩⟩
noncomputable def mSl : List (Nat × Nat × Nat) := [(0, 19, 79), (0, 29, 87), (0, 45, 65), (0, 55, 75), (0, 62, 135), (1, 11, 65), (4, 37, 87)]
theorem mSl_ok : ∀ r ∈ mSl, ∃ q9, mT[r.2.2]? = some q9 ∧ Cond.methodLinkNest (mC r.1) r.2.1 (mNm q9) "PorterDoors" ∈ mNestM := List.forall_mem_cons.mpr ⟨⟨_, mT_at_1 (k := 39) rfl, by decide +kernel⟩, List.forall_mem_cons.mpr ⟨⟨_, mT_at_2 (k := 7) rfl, by decide +kernel⟩, List.forall_mem_cons.mpr ⟨⟨_, mT_at_1 (k := 25) rfl, by decide +kernel⟩, List.forall_mem_cons.mpr ⟨⟨_, mT_at_1 (k := 35) rfl, by decide +kernel⟩, List.forall_mem_cons.mpr ⟨⟨_, mT_at_3 (k := 15) rfl, by decide +kernel⟩, List.forall_mem_cons.mpr ⟨⟨_, mT_at_1 (k := 25) rfl, by decide +kernel⟩, List.forall_mem_cons.mpr ⟨⟨_, mT_at_2 (k := 7) rfl, by decide +kernel⟩, mz_nil⟩⟩⟩⟩⟩⟩⟩
theorem w_oi1 : Cond.instanceMethod Lib.objectInit ∈ lw_good := tb 22 (by decide +kernel) rfl
theorem w_oi2 : Cond.code Lib.objectInit ⟨#[0xb1]⟩ 1 none ∈ lw_good := tb 23 (by decide +kernel) rfl
theorem w_ac_int : Cond.arrayClass .int ∈ lw_good := tb 48 (by decide +kernel) rfl
theorem w_ac_char : Cond.arrayClass .char ∈ lw_good := tb 1268 (by decide +kernel) rfl
theorem w_ac_boolean : Cond.arrayClass .boolean ∈ lw_good := tb 1269 (by decide +kernel) rfl
theorem w_ac_long : Cond.arrayClass .long ∈ lw_good := tb 49 (by decide +kernel) rfl
noncomputable def lnC (i : Instr) : Nat := match i with
  | .new _ => 3
  | .newarray _ => 2
  | .invokespecial _ => 3
  | i => lnOf i
noncomputable def tyA (t : Nat) (a : ArrayType) : Bool := match t, a with
  | 0, .int => true
  | 1, .char => true
  | 2, .boolean => true
  | 3, .long => true
  | _, _ => false
theorem tyA_spec {t : Nat} {a : ArrayType} (h : tyA t a = true) : (∀ dA, (mTy dA)[t]? = some (dA t, newarray.typeOf a)) ∧ Cond.arrayClass (newarray.typeOf a) ∈ lw_good ∧ defaultValue (newarray.typeOf a) = (if t = 3 then .long 0 else .int 0) ∧ componentBytes (newarray.typeOf a) ≤ 8 ∧ ∀ C, newarray.typeOf a ≠ .object C := by
  unfold tyA at h
  split at h
  · exact ⟨fun _ => rfl, w_ac_int, rfl, by decide, fun C h => by cases h⟩
  · exact ⟨fun _ => rfl, w_ac_char, rfl, by decide, fun C h => by cases h⟩
  · exact ⟨fun _ => rfl, w_ac_boolean, rfl, by decide, fun C h => by cases h⟩
  · exact ⟨fun _ => rfl, w_ac_long, rfl, by decide, fun C h => by cases h⟩
  · cases h
noncomputable def an2 (l : List (Nat × Nat)) (x y : Nat) : Bool := l.any fun r => Nat.beq r.1 x && Nat.beq r.2 y
noncomputable def an3 (l : List (Nat × Nat × Nat)) (x y z : Nat) : Bool := l.any fun r => Nat.beq r.1 x && (Nat.beq r.2.1 y && Nat.beq r.2.2 z)
theorem an2_spec {l : List (Nat × Nat)} {x y : Nat} (h : an2 l x y = true) : (x, y) ∈ l := by
  obtain ⟨r, hr, hb⟩ := List.any_eq_true.mp h
  simp only [Bool.and_eq_true] at hb
  rw [← Nat.eq_of_beq_eq_true hb.1, ← Nat.eq_of_beq_eq_true hb.2]
  exact hr
theorem an3_spec {l : List (Nat × Nat × Nat)} {x y z : Nat} (h : an3 l x y z = true) : (x, y, z) ∈ l := by
  obtain ⟨r, hr, hb⟩ := List.any_eq_true.mp h
  simp only [Bool.and_eq_true] at hb
  rw [← Nat.eq_of_beq_eq_true hb.1, ← Nat.eq_of_beq_eq_true hb.2.1, ← Nat.eq_of_beq_eq_true hb.2.2]
  exact hr
noncomputable def okYx (q : mI) (op : mO) : Bool := match op with
  | (i, a, b, v, ts) => match i with
    | .new x => an3 mNl (mOw q) x a
    | .newarray y => tyA a y
    | .getfield x => (mFl (mOw q)).any fun r => Nat.beq r.1 x && (Nat.beq r.2.1 a && Nat.beq r.2.2.1 b)
    | .putfield x => ((mFl (mOw q)).any fun r => Nat.beq r.1 x && (Nat.beq r.2.1 a && Nat.beq r.2.2.1 b)) && Nat.beq a (mOw q)
    | .invokespecial x => (match Nat.beq a 9998 with
      | true => an2 mOl (mOw q) x
      | false => (an3 mSl (mOw q) x a || (mMl (mOw q)).any fun r => Nat.beq r.1 x && Nat.beq r.2.1 a) && (match mT[a]? with
        | some qy => Nat.beq (mFg qy) 2 && (Nat.beq b (mNp qy + 1) && (mRt qy).isNone)
        | none => false))
    | _ => true
noncomputable def okYo (q : mI) (pc : Nat) (op : mO) : Bool := dck (mBy q) pc op.1 (lnC op.1) && okYx q op
noncomputable def okYs (q : mI) : Nat → List mO → Bool
  | _, [] => true
  | pc, op :: ops => okYo q pc op && okYs q (pc + lnC op.1) ops
theorem evc_G {run : Nat → List Value → cS → Option cS} {d n0 sl0 : Nat} {q : mI} {fin : cS} (hd1 : 1 ≤ d) (hmono : ∀ y vs c c', run y vs c = some c' → c.2.2.1 ≤ c'.2.2.1 ∧ c.2.2.2.1 ≤ c'.2.2.2.1) (hrun : ∀ y vs c c', run y vs c = some c' → c'.2.2.1 ≤ 999999 → ∃ dy, dy + 1 ≤ d ∧ MetC dy y vs c c') (hrt : mRt q = none) (hfin : fin.2.2.1 ≤ 999999) :
    ∀ (ops : List mO) (pc : Nat), okYs q pc ops = true → ∀ (loc : mL) (st : List Value) (c : cS), evc run ops loc st c = some fin → ∀ (l : Launch) (B tS : Nat) (D : va_G) (dA : Nat → ClassId) (p : Program) (e : Env) (s0 : State) (m : MethodId) (args : Array Value) (below : List Frame) (meth : Method) (c9 : Code), cCtx q l B D dA p e s0 m args meth c9 → Wc d q fin n0 sl0 l B tS D dA p e s0 m args below meth c9 pc loc st c := by
  intro ops
  induction ops with
  | nil => intro pc _ loc st c hT; cases hT
  | cons op ops ih =>
    intro pc hok loc st c hT l B tS D dA p e s0 m args below meth c9 hc
    have hmc := evc_mono hmono _ _ _ _ _ hT
    have hn : c.2.2.1 ≤ 999999 := Nat.le_trans hmc.1 hfin
    obtain ⟨i, a, b, v, ts⟩ := op
    rw [okYs, Bool.and_eq_true] at hok
    obtain ⟨h1, h2⟩ := hok
    rw [okYo, Bool.and_eq_true] at h1
    obtain ⟨hd0, hx0⟩ := h1
    have hd := dck_spec hd0
    cases i with
    | aload_n k =>
      rw [evc] at hT
      obtain ⟨x, hx, hT⟩ := lr1_some hT
      exact Wc_aload hc hd hx (ih _ h2 _ _ _ hT _ _ _ _ _ _ _ _ _ _ _ _ _ hc)
    | iconst k => rw [evc] at hT; exact Wc_iconst hc hd (ih _ h2 _ _ _ hT _ _ _ _ _ _ _ _ _ _ _ _ _ hc)
    | bipush k => rw [evc] at hT; exact Wc_bipush hc hd (ih _ h2 _ _ _ hT _ _ _ _ _ _ _ _ _ _ _ _ _ hc)
    | sipush k => rw [evc] at hT; exact Wc_sipush hc hd (ih _ h2 _ _ _ hT _ _ _ _ _ _ _ _ _ _ _ _ _ hc)
    | lconst k => rw [evc] at hT; exact Wc_lconst hc hd (ih _ h2 _ _ _ hT _ _ _ _ _ _ _ _ _ _ _ _ _ hc)
    | dup =>
      rw [evc] at hT
      obtain ⟨w, r, rfl, hw, hT⟩ := pc1_some hT
      exact Wc_dup hc hw hd (ih _ h2 _ _ _ hT _ _ _ _ _ _ _ _ _ _ _ _ _ hc)
    | new x =>
      rw [evc] at hT
      obtain ⟨hb, hT⟩ := grd_some hT
      obtain ⟨qc, g1, g2⟩ := mNl_ok _ (an3_spec hx0)
      have g3 := evc_mono hmono _ _ _ _ _ hT
      exact Wc_new hc g1 (Nat.le_of_ble_eq_true hb) g3 g2 hd (ih _ h2 _ _ _ hT _ _ _ _ _ _ _ _ _ _ _ _ _ hc)
    | newarray x =>
      rw [evc] at hT
      obtain ⟨y, r, rfl, hT⟩ := pi1_some hT
      obtain ⟨h3, hT⟩ := grd_some hT
      obtain ⟨h4, hT⟩ := grd_some hT
      obtain ⟨h5, hT⟩ := grd_some hT
      obtain ⟨g1, g2, g3, g4, g5⟩ := tyA_spec hx0
      have g6 := evc_mono hmono _ _ _ _ _ hT
      exact Wc_newarray hc ⟨rfl, g1 dA⟩ (Nat.le_of_ble_eq_true h4) (by simpa using h3) (Nat.le_of_ble_eq_true h5) g6 g2 g3 g4 g5 hd (ih _ h2 _ _ _ hT _ _ _ _ _ _ _ _ _ _ _ _ _ hc)
    | getfield x =>
      rw [evc] at hT
      obtain ⟨o, r, rfl, hT⟩ := pr1_some hT
      obtain ⟨h3, hT⟩ := grd_some hT
      obtain ⟨h4, hT⟩ := grd_some hT
      obtain ⟨h5, hT⟩ := grd_some hT
      obtain ⟨i9, hi⟩ := any_fl hx0
      exact Wc_getfield hc hn (isO_spec h3) (Nat.le_of_ble_eq_true h4) (Nat.eq_of_beq_eq_true h5) hi hd (ih _ h2 _ _ _ hT _ _ _ _ _ _ _ _ _ _ _ _ _ hc)
    | putfield x =>
      rw [okYx, Bool.and_eq_true] at hx0
      obtain ⟨i9, hi⟩ := any_fl hx0.1
      have hown := Nat.eq_of_beq_eq_true hx0.2
      rw [evc] at hT
      split at hT
      · rename_i hk
        obtain ⟨y, o, r, rfl, hT⟩ := plr_some hT
        obtain ⟨h3, hT⟩ := grd_some hT
        obtain ⟨h4, hT⟩ := grd_some hT
        exact Wc_putL hc hn (isO_spec h3) (Nat.le_of_ble_eq_true h4) hi hown hd hk (ih _ h2 _ _ _ hT _ _ _ _ _ _ _ _ _ _ _ _ _ hc)
      · rename_i hk
        obtain ⟨y, o, r, rfl, hT⟩ := prr_some hT
        obtain ⟨h3, hT⟩ := grd_some hT
        obtain ⟨h4, hT⟩ := grd_some hT
        obtain ⟨h5, hT⟩ := grd_some hT
        exact Wc_putR hc hn (isO_spec h3) (Nat.le_of_ble_eq_true h4) hi hown hd hk (ih _ h2 _ _ _ hT _ _ _ _ _ _ _ _ _ _ _ _ _ hc)
      · rename_i hk
        obtain ⟨y, o, r, rfl, hT⟩ := pir_some hT
        obtain ⟨h3, hT⟩ := grd_some hT
        obtain ⟨h4, hT⟩ := grd_some hT
        obtain ⟨h5, hT⟩ := grd_some hT
        exact Wc_putI hc hn (isO_spec h3) (Nat.le_of_ble_eq_true h4) hi hown hd (Or.inr ⟨hk, h5⟩) (ih _ h2 _ _ _ hT _ _ _ _ _ _ _ _ _ _ _ _ _ hc)
      · rename_i hk1 hk2 hk3
        obtain ⟨y, o, r, rfl, hT⟩ := pir_some hT
        obtain ⟨h3, hT⟩ := grd_some hT
        obtain ⟨h4, hT⟩ := grd_some hT
        have hk0 : mKd a b = 0 := by
          have hlt := mKd_lt a b
          generalize mKd a b = z at *
          match z, hlt with
          | 0, _ => rfl
          | 1, _ => exact absurd rfl hk1
          | 2, _ => exact absurd rfl hk2
          | 3, _ => exact absurd rfl hk3
        exact Wc_putI hc hn (isO_spec h3) (Nat.le_of_ble_eq_true h4) hi hown hd (Or.inl hk0) (ih _ h2 _ _ _ hT _ _ _ _ _ _ _ _ _ _ _ _ _ hc)
    | castore =>
      rw [evc] at hT
      obtain ⟨x, j, o, r, rfl, hT⟩ := piir_some hT
      obtain ⟨h3, hT⟩ := grd_some hT
      obtain ⟨h4, hT⟩ := grd_some hT
      obtain ⟨h5, hT⟩ := grd_some hT
      exact Wc_castore hc hn h3 (Nat.le_of_ble_eq_true h4) h5 hd (ih _ h2 _ _ _ hT _ _ _ _ _ _ _ _ _ _ _ _ _ hc)
    | invokespecial x =>
      rw [evc] at hT
      rw [okYx] at hx0
      split at hT
      · rename_i ha
        rw [ha] at hx0
        obtain ⟨o, r, rfl, hT⟩ := pr1_some hT
        obtain ⟨h3, hT⟩ := grd_some hT
        exact Wc_objInit hc hd1 (mOl_ok _ (an2_spec hx0)) w_oi1 w_oi2 (Nat.le_of_ble_eq_true h3) hd (ih _ h2 _ _ _ hT _ _ _ _ _ _ _ _ _ _ _ _ _ hc)
      · rename_i ha
        rw [ha] at hx0
        dsimp only at hx0
        obtain ⟨pre, r, rfl, hlen, hT⟩ := popN_some hT
        obtain ⟨h3, hT⟩ := grd_some hT
        obtain ⟨h4, hT⟩ := grd_some hT
        obtain ⟨c1, g1, hT2⟩ := Option.bind_eq_some_iff.mp hT
        rw [Bool.and_eq_true] at hx0
        obtain ⟨hl0, hy0⟩ := hx0
        split at hy0
        · rename_i qy hy
          simp only [Bool.and_eq_true] at hy0
          have g2 := evc_mono hmono _ _ _ _ _ hT2
          obtain ⟨dy, g3, g4⟩ := hrun _ _ _ _ g1 (Nat.le_trans g2.1 hfin)
          rw [List.append_nil] at h3 g1 g4
          have hb := Nat.eq_of_beq_eq_true hy0.2.1
          unfold isRf at h3
          split at h3
          · rename_i o as hpre
            have hp : pre = as.reverse ++ [.ref o] := by rw [← List.reverse_reverse pre, hpre, List.reverse_cons]
            subst hp
            rw [hpre] at g1 g4
            have hlk : Cond.methodLink (mC (mOw q)) x (mNm qy) ∈ lw_good ∨ Cond.methodLinkNest (mC (mOw q)) x (mNm qy) "PorterDoors" ∈ mNestM := by
              rw [Bool.or_eq_true] at hl0
              rcases hl0 with hl0 | hl0
              · obtain ⟨q9, hq9, hlk⟩ := mSl_ok _ (an3_spec hl0)
                cases hy.symm.trans hq9
                exact Or.inr hlk
              · obtain ⟨i9, hi⟩ := any_ml hl0
                obtain ⟨q9, hq9, hlk⟩ := mMl_ok _ _ hi
                cases hy.symm.trans hq9
                exact Or.inl hlk
            have e9 : as.reverse ++ [Value.ref o] ++ r = as.reverse ++ .ref o :: r := by rw [List.append_assoc]; rfl
            rw [e9]
            exact Wc_call hc hy (Nat.eq_of_beq_eq_true hy0.1) (Option.isNone_iff_eq_none.mp hy0.2.2) hlk g4 g3 (by rw [List.length_append, List.length_reverse, List.length_singleton] at hlen; omega) (Nat.le_of_ble_eq_true h4) (hmono _ _ _ _ g1) g2 hd (ih _ h2 _ _ _ hT2 _ _ _ _ _ _ _ _ _ _ _ _ _ hc)
          · cases h3
        · cases hy0
    | return_ =>
      rw [evc] at hT
      obtain ⟨rfl, hT⟩ := rv0_some hT
      cases hT
      exact Wc_ret hc hrt rfl hd
    | _ => exact absurd (show none = some fin from hT) (fun e => by cases e)
theorem nm_of_named {s : State} {x : MethodName} {m : MethodId} {meth : Method} (h : s.methodNamed? x = some m) (hm : s.vm.method? m = some meth) : meth.name = x.name := (name_of_methodNamed h hm).1
theorem runC_met {code : Nat → List mO} (hcode : ∀ y q, mT[y]? = some q → code y ≠ [] → okYs q 0 (code y) = true ∧ mRt q = none ∧ mNm q = ⟨(mNm q).cls, "<init>", (mNm q).desc⟩) : ∀ (d y : Nat) (vs : List Value) (c c' : cS), runC code d y vs c = some c' → c'.2.2.1 ≤ 999999 → MetC d y vs c c' := by
  intro d
  induction d with
  | zero => intro y vs c c' h _; cases h
  | succ d ihd =>
    intro y vs c c' h hfin l B tS D dA q hy
    obtain ⟨hcat, h⟩ := grd_some h
    have hne : code y ≠ [] := fun e => by rw [e] at h; cases h
    obtain ⟨hok, hrt, hname⟩ := hcode y q hy hne
    obtain ⟨hco, hin, hg, hb⟩ := mT_in hy
    obtain ⟨hC, hpl, hno, hnp, hmx⟩ := okB_spec hb
    refine mofW (cc := mBy q) (maxL := mMx q) (ret := mRt q) hpl rfl ?_
    intro p e s0 m args below meth c9 s₁ Bd hml hv
    obtain ⟨rfl, hP, hz, hK, hNW⟩ := hv
    have hts := atoms_spec (ws := mWd q) Bd.pre
    have hown : s0.vm.findClass (mC (mOw q)) = some m.cls := by rw [hC]; exact findClass_of_methodNamed Bd.named
    have hl := lv_entry (vs.map (mV B tS)) (n := mMx q) (by
      rw [lg_sl_len]
      have := Nat.le_of_ble_eq_true hcat
      unfold mxY at this
      rw [hy] at this
      exact this)
    rw [lg_entry_eq]
    rw [mArgs_eq] at hl
    have hmn : meth.name = "<init>" := by
      have := nm_of_named Bd.named Bd.method
      rw [this, hname]
    have := evc_G (n0 := c.2.2.1) (sl0 := c.2.2.2.1) (d := d + 1) (Nat.le_add_left 1 d) (runC_mono d) (fun y vs c c' h h' => ⟨d, Nat.le_refl _, ihd y vs c c' h h'⟩) hrt hfin _ _ hok _ _ _ h l B tS D dA p e s0 m (vs.map (mV B tS)).toArray below meth c9 ⟨Bd.exec, Bd.bytes, Bd.returns, hml, hown, fun w hw => hts w (List.mem_cons_of_mem _ hw), Bd.notSynchronized, hK, hNW, List.mem_of_getElem? hy, hmn, by rw [hz]; exact Nat.le_add_right _ _⟩ (Nat.le_refl _) (Nat.le_refl _) s0.heap _ [] hP hz hl va_S.rf
    rw [Nat.sub_self, Nat.sub_self] at this
    exact this
