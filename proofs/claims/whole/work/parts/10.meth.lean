/-! from the mini machine to methods' contracts -/
theorem mofW {l : Launch} {y : MethodName} {ws ws' : List Cond} {rm : Room} {Pc : Array Value → State → Prop} {Qc : Array Value → State → Outcome → State → Prop} {mc ms : Nat} {free : Addr → Prop} {cc : ByteArray} {maxL : Nat} {ret : Option FieldType}
    (hy : plainFor y = true) (hw : ws = Cond.code y cc maxL ret :: ws')
    (body : ∀ p e s m args below meth c s₁, BodyLoose p l y (headSpec ws rm) cc maxL ret e s m args below meth c s₁ → c.maxLocals = maxL → Pc args s →
      W p l e (headSpec ws rm).room s m args below meth c s.heap [] 0 0 (MQ below Qc args s mc ms free) (entryFrame m args maxL)) : Met l y ws rm Pc Qc mc ms free := by
  refine MetFree.of_bodySF (code := cc) (maxLocals := maxL) (ret := ret) hy ?_ ?_
  · intro args s m h hn
    obtain ⟨meth, c, h1, h2, h3, h4, h5, h6, -, -⟩ := Cond.code_spec hn (atoms_spec (ws := ws) h _ (by rw [hw]; exact List.mem_cons_self))
    exact ⟨meth, c, h1, h2, h3, h4, h5, h6⟩
  · intro p e s m args below meth c s₁ B hml hP _
    have hh0 : s₁.heap = s.heap := by rw [B.state]; rfl
    obtain ⟨t, a1, o, b1, b2, b3⟩ := body p e s m args below meth c s₁ B hml hP s₁ hh0 (Stand.of_body B)
    exact ⟨t, o, a1, b1, b2, ⟨b3.1, b3.2⟩⟩
noncomputable def mArgs : Nat → List Value → mL
  | _, [] => []
  | i, v :: r => (i, v) :: mArgs (match c1 v with
    | true => i + 1
    | false => i + 2) r
theorem mArgs_eq (B tS : Nat) : ∀ (vs : List Value) (i : Nat), lv_args i (vs.map (mV B tS)) = mLo B tS (mArgs i vs)
  | [], _ => rfl
  | v :: r, i => by
    show (i, mV B tS v) :: lv_args (if (mV B tS v).category = 2 then i + 2 else i + 1) (r.map (mV B tS)) = (i, mV B tS v) :: mLo B tS (mArgs _ r)
    rw [mArgs_eq B tS r, mV_cat]
    cases h : c1 v
    · rw [if_pos (c1_cat2.mp h)]
    · rw [if_neg (by rw [c1_cat.mp h]; decide)]
theorem lg_sl_len (B tS : Nat) : ∀ vs : List Value, (lg_sl (vs.map (mV B tS))).length = cats vs
  | [] => rfl
  | v :: r => by
    have ih := lg_sl_len B tS r
    have e : lg_sl ((v :: r).map (mV B tS)) = (if (mV B tS v).category = 2 then [Slot.val (mV B tS v), .second] else [Slot.val (mV B tS v)]) ++ lg_sl (r.map (mV B tS)) := by unfold lg_sl; rw [List.map_cons, List.flatMap_cons]
    rw [e, List.length_append, ih, mV_cat]
    show _ = match c1 v with
      | true => cats r + 1
      | false => cats r + 2
    cases h : c1 v
    · rw [if_pos (c1_cat2.mp h)]; show 2 + cats r = cats r + 2; omega
    · rw [if_neg (by rw [c1_cat.mp h]; decide)]; show 1 + cats r = cats r + 1; omega
theorem met_of_G {ρ : Type} {S : mW} {R0 : Nat → Nat → Option Nat} {oF n d y : Nat} {q : mI} {vs : List Value} {s s1 : mS} {r : Option Value} {t0 : ρ} (hy : mT[y]? = some q) (hcat : cats vs ≤ mMx q) (h : Gd S R0 oF n d q (r, s1) t0 0 (mArgs 0 vs) [] s (some t0)) : MetM S R0 oF n d y vs s r s1 := by
  intro l B tS D dA q9 hq9
  cases hy.symm.trans hq9
  obtain ⟨hco, hin, hg, hb⟩ := mT_in hy
  obtain ⟨hC, hpl, hno, hnp, hmx⟩ := okB_spec hb
  refine mofW (cc := mBy q) (maxL := mMx q) (ret := mRt q) hpl rfl ?_
  intro p e s0 m args below meth c s₁ Bd hml hv
  obtain ⟨rfl, hP, hK, hSP, hNW⟩ := hv
  have hts := atoms_spec (ws := mWd q) Bd.pre
  have hown : s0.vm.findClass (mC (mOw q)) = some m.cls := by rw [hC]; exact findClass_of_methodNamed Bd.named
  have hl := lv_entry (vs.map (mV B tS)) (n := mMx q) (by rw [lg_sl_len]; exact hcat)
  rw [lg_entry_eq]
  rw [mArgs_eq] at hl
  exact h rfl l B tS D dA p e s0 m _ below meth c ⟨Bd.exec, Bd.bytes, Bd.returns, hml, hown, fun w hw => hts w (List.mem_cons_of_mem _ hw), Bd.notSynchronized, hK, hSP, hNW, List.mem_of_getElem? hy⟩ s0.heap _ [] hP hl va_S.rf
noncomputable def SCd {ρ : Type} (S : mW) (R0 : Nat → Nat → Option Nat) (oF n d : Nat) (q : mI) (fin : Option Value × mS) (t0 : ρ) (pc : Nat) (f : mL → List Value → mS → Option ρ) : Prop := ∀ loc st s, Gd S R0 oF n d q fin t0 pc loc st s (f loc st s)
noncomputable def mKK {ρ : Type} (S : mW) (R0 : Nat → Nat → Option Nat) (oF : Nat) (orc : Nat → List Value → mS → (Option Value → mS → Option ρ) → Option ρ) (ret : Option Value → mS → Option ρ) (blks : List (Nat × List mO)) (cuts : List (Nat × (mL → List Value → mS → Option ρ))) : Nat → Nat → mL → List Value → mS → Option ρ
  | 0 => fun _ _ _ _ => none
  | k + 1 => fun pc loc st s => match alk pc cuts with
    | some f => f loc st s
    | none => match alk pc blks with
      | some ops => evm mKd mSpl S R0 oF orc ret (mKK S R0 oF orc ret blks cuts k) ops pc loc st s
      | none => none
noncomputable def mEv {ρ : Type} (S : mW) (R0 : Nat → Nat → Option Nat) (oF : Nat) (orc : Nat → List Value → mS → (Option Value → mS → Option ρ) → Option ρ) (ret : Option Value → mS → Option ρ) (blks : List (Nat × List mO)) (cuts : List (Nat × (mL → List Value → mS → Option ρ))) (pc : Nat) (loc : mL) (st : List Value) (s : mS) : Option ρ := match alk pc blks with
  | some ops => evm mKd mSpl S R0 oF orc ret (mKK S R0 oF orc ret blks cuts 99) ops pc loc st s
  | none => none
noncomputable def okBlks (q : mI) (blks : List (Nat × List mO)) : Bool := blks.all fun x => okOps q x.1 x.2
noncomputable def mOrc {ρ : Type} (L : List (Nat × (List Value → mS → (Option Value → mS → Option ρ) → Option ρ))) (y : Nat) (vs : List Value) (s : mS) (kk : Option Value → mS → Option ρ) : Option ρ := match alk y L with
  | some h => h vs s kk
  | none => none
noncomputable def CallOK {ρ : Type} (S : mW) (R0 : Nat → Nat → Option Nat) (oF n d : Nat) (t0 : ρ) (y : Nat) (h : List Value → mS → (Option Value → mS → Option ρ) → Option ρ) : Prop :=
  ∀ vs s kk, h vs s kk = some t0 → ∃ (r : Option Value) (s1 : mS) (dy : Nat), dy + 1 ≤ d ∧ MetM S R0 oF n dy y vs s r s1 ∧ kk r s1 = some t0 ∧ ∀ qy, mT[y]? = some qy → mFg qy = 1 → ∃ (o : Nat) (as : List Value), vs = .ref o :: as ∧ S o = .inl (mOw qy)
section METH
variable {ρ : Type} {S : mW} {R0 : Nat → Nat → Option Nat} {oF n d : Nat} {q : mI} {fin : Option Value × mS} {t0 : ρ} {pc k : Nat} {loc : mL} {st : List Value} {s : mS}
theorem mOrc_OK {L : List (Nat × (List Value → mS → (Option Value → mS → Option ρ) → Option ρ))} (h : ∀ x ∈ L, CallOK S R0 oF n d t0 x.1 x.2) : OrcOK S R0 oF n d t0 (mOrc L) := by
  intro y vs s kk hT
  unfold mOrc at hT
  split at hT
  · rename_i f hf
    exact h _ (alk_mem hf) vs s kk hT
  · cases hT
theorem mKK_G {orc : Nat → List Value → mS → (Option Value → mS → Option ρ) → Option ρ} {ret : Option Value → mS → Option ρ} {blks : List (Nat × List mO)} {cuts : List (Nat × (mL → List Value → mS → Option ρ))} (hw : mOF S oF n) (hd1 : 1 ≤ d) (horc : OrcOK S R0 oF n d t0 orc) (hret : RetOK q fin t0 ret) (hb : okBlks q blks = true) (hc : ∀ x ∈ cuts, SCd S R0 oF n d q fin t0 x.1 x.2) :
    ∀ k pc loc st s, Gd S R0 oF n d q fin t0 pc loc st s (mKK S R0 oF orc ret blks cuts k pc loc st s)
  | 0, pc, loc, st, s => fun h => by cases h
  | k + 1, pc, loc, st, s => by
    unfold mKK
    split
    · rename_i f hf
      exact hc _ (alk_mem hf) loc st s
    · split
      · rename_i ops hops
        exact evm_G hw hd1 horc hret (mKK_G hw hd1 horc hret hb hc k) ops pc (List.all_eq_true.mp hb _ (alk_mem hops)) loc st s
      · exact fun h => by cases h
theorem mEv_G {orc : Nat → List Value → mS → (Option Value → mS → Option ρ) → Option ρ} {ret : Option Value → mS → Option ρ} {blks : List (Nat × List mO)} {cuts : List (Nat × (mL → List Value → mS → Option ρ))} (hw : mOF S oF n) (hd1 : 1 ≤ d) (horc : OrcOK S R0 oF n d t0 orc) (hret : RetOK q fin t0 ret) (hb : okBlks q blks = true) (hc : ∀ x ∈ cuts, SCd S R0 oF n d q fin t0 x.1 x.2) : Gd S R0 oF n d q fin t0 pc loc st s (mEv S R0 oF orc ret blks cuts pc loc st s) := by
  unfold mEv
  split
  · rename_i ops hops
    exact evm_G hw hd1 horc hret (mKK_G hw hd1 horc hret hb hc 99) ops pc (List.all_eq_true.mp hb _ (alk_mem hops)) loc st s
  · exact fun h => by cases h
theorem G_eq {T T' : Option ρ} (h : Gd S R0 oF n d q fin t0 pc loc st s T') (e : T = T') : Gd S R0 oF n d q fin t0 pc loc st s T := e ▸ h
theorem G_none : Gd S R0 oF n d q fin t0 pc loc st s none := fun h => by cases h
noncomputable def cR {ρ : Type} (loc : mL) (k o : Nat) (x : Option ρ) : Option ρ := match alk k loc with
  | some (.ref o') => grd (Nat.beq o' o) x
  | _ => none
noncomputable def sR {ρ : Type} (st : List Value) (o : Nat) (f : List Value → Option ρ) : Option ρ := match st with
  | .ref o' :: r => grd (Nat.beq o' o) (f r)
  | _ => none
theorem G_cR {o : Nat} {x : Option ρ} (h : alk k loc = some (.ref o) → Gd S R0 oF n d q fin t0 pc loc st s x) : Gd S R0 oF n d q fin t0 pc loc st s (cR loc k o x) := by
  intro hT
  unfold cR at hT
  split at hT
  · rename_i o' ho
    obtain ⟨h1, h2⟩ := grd_some hT
    obtain rfl := Nat.eq_of_beq_eq_true h1
    exact h ho h2
  · cases hT
theorem G_li {f : Int32 → Option ρ} (h : ∀ x, alk k loc = some (.int x) → Gd S R0 oF n d q fin t0 pc loc st s (f x)) : Gd S R0 oF n d q fin t0 pc loc st s (li1 loc k f) := fun hT => by
  obtain ⟨x, h1, h2⟩ := li1_some hT
  exact h x h1 h2
theorem G_ll {f : Int64 → Option ρ} (h : ∀ x, alk k loc = some (.long x) → Gd S R0 oF n d q fin t0 pc loc st s (f x)) : Gd S R0 oF n d q fin t0 pc loc st s (ll1 loc k f) := fun hT => by
  obtain ⟨x, h1, h2⟩ := ll1_some hT
  exact h x h1 h2
theorem G_lr {f : Nat → Option ρ} (h : ∀ x, alk k loc = some (.ref x) → Gd S R0 oF n d q fin t0 pc loc st s (f x)) : Gd S R0 oF n d q fin t0 pc loc st s (lr1 loc k f) := fun hT => by
  obtain ⟨x, h1, h2⟩ := lr1_some hT
  exact h x h1 h2
theorem G_rv0 {st' : List Value} {x : Option ρ} (h : st' = [] → Gd S R0 oF n d q fin t0 pc loc st s x) : Gd S R0 oF n d q fin t0 pc loc st s (rv0 st' x) := fun hT => by
  obtain ⟨h1, h2⟩ := rv0_some hT
  exact h h1 h2
theorem G_pi {st' : List Value} {f : Int32 → List Value → Option ρ} (h : ∀ x r, st' = .int x :: r → Gd S R0 oF n d q fin t0 pc loc st s (f x r)) : Gd S R0 oF n d q fin t0 pc loc st s (pi1 st' f) := fun hT => by
  obtain ⟨x, r, h1, h2⟩ := pi1_some hT
  exact h x r h1 h2
theorem G_pl {st' : List Value} {f : Int64 → List Value → Option ρ} (h : ∀ x r, st' = .long x :: r → Gd S R0 oF n d q fin t0 pc loc st s (f x r)) : Gd S R0 oF n d q fin t0 pc loc st s (pl1 st' f) := fun hT => by
  obtain ⟨x, r, h1, h2⟩ := pl1_some hT
  exact h x r h1 h2
theorem G_pr {st' : List Value} {f : Nat → List Value → Option ρ} (h : ∀ x r, st' = .ref x :: r → Gd S R0 oF n d q fin t0 pc loc st s (f x r)) : Gd S R0 oF n d q fin t0 pc loc st s (pr1 st' f) := fun hT => by
  obtain ⟨x, r, h1, h2⟩ := pr1_some hT
  exact h x r h1 h2
theorem sR_some {ρ : Type} {t : ρ} {st : List Value} {o : Nat} {f : List Value → Option ρ} (h : sR st o f = some t) : ∃ r, st = .ref o :: r ∧ f r = some t := by
  unfold sR at h
  split at h
  · obtain ⟨h1, h2⟩ := grd_some h
    obtain rfl := Nat.eq_of_beq_eq_true h1
    exact ⟨_, rfl, h2⟩
  · cases h
theorem G_sR {st' : List Value} {o : Nat} {f : List Value → Option ρ} (h : ∀ r, st' = .ref o :: r → Gd S R0 oF n d q fin t0 pc loc st s (f r)) : Gd S R0 oF n d q fin t0 pc loc st s (sR st' o f) := fun hT => by
  obtain ⟨r, h1, h2⟩ := sR_some hT
  exact h r h1 h2
theorem G_sub {loc0 : mL} {T : Option ρ} (h : ∀ x ∈ loc0, alk x.1 loc = some x.2) (g : Gd S R0 oF n d q fin t0 pc loc0 st s T) : Gd S R0 oF n d q fin t0 pc loc st s T := by
  intro hT l B tS D dA p e s0 m args below meth c hc H ls locs hP hl hS
  refine g hT l B tS D dA p e s0 m args below meth c hc H ls locs hP ⟨hl.1, hl.2.1, fun x hx => ?_⟩ hS
  obtain ⟨y, hy, rfl⟩ := List.mem_map.mp hx
  exact mLo_at hl (h y hy)
end METH
noncomputable def mfix {σ ρ : Type} : Nat → ((σ → Option ρ) → σ → Option ρ) → σ → Option ρ
  | 0, _, _ => none
  | n + 1, b, x => b (mfix n b) x
theorem mfix_SC {σ ρ : Type} {S : mW} {R0 : Nat → Nat → Option Nat} {oF n d : Nat} {q : mI} {fin : Option Value × mS} {t0 : ρ} {pc : Nat} {H : (σ → Option ρ) → mL → List Value → mS → Option ρ} {b : (σ → Option ρ) → σ → Option ρ} (h0 : SCd S R0 oF n d q fin t0 pc (H fun _ => none)) (hs : ∀ k, SCd S R0 oF n d q fin t0 pc (H k) → SCd S R0 oF n d q fin t0 pc (H (b k))) : ∀ N, SCd S R0 oF n d q fin t0 pc (H (mfix N b))
  | 0 => by
    have e : mfix 0 b = fun _ => none := rfl
    rw [e]; exact h0
  | N + 1 => by
    have e : mfix (N + 1) b = b (mfix N b) := rfl
    rw [e]; exact hs _ (mfix_SC h0 hs N)
noncomputable def rtI (v : Option Value) (s : mS) : Option (Int32 × mS) := match v with
  | some (.int x) => some (x, s)
  | _ => none
noncomputable def rtZ (v : Option Value) (s : mS) : Option (Int32 × mS) := match v with
  | some (.int x) => grd (isb x) (some (x, s))
  | _ => none
noncomputable def rtL (v : Option Value) (s : mS) : Option (Int64 × mS) := match v with
  | some (.long x) => some (x, s)
  | _ => none
noncomputable def rtV (v : Option Value) (s : mS) : Option mS := match v with
  | none => some s
  | _ => none
theorem RetOK_I {q : mI} {x : Int32} {s1 : mS} (h : mRt q = some .int) : RetOK q (some (.int x), s1) (x, s1) rtI := by
  intro v s hv
  unfold rtI at hv
  split at hv
  · cases hv; exact ⟨rfl, Or.inr (Or.inl ⟨x, rfl, Or.inl h⟩)⟩
  · cases hv
theorem RetOK_Z {q : mI} {x : Int32} {s1 : mS} (h : mRt q = some .boolean) : RetOK q (some (.int x), s1) (x, s1) rtZ := by
  intro v s hv
  unfold rtZ at hv
  split at hv
  · obtain ⟨hb, hv⟩ := grd_some hv
    cases hv; exact ⟨rfl, Or.inr (Or.inl ⟨x, rfl, Or.inr ⟨h, hb⟩⟩)⟩
  · cases hv
theorem RetOK_L {q : mI} {x : Int64} {s1 : mS} (h : mRt q = some .long) : RetOK q (some (.long x), s1) (x, s1) rtL := by
  intro v s hv
  unfold rtL at hv
  split at hv
  · cases hv; exact ⟨rfl, Or.inr (Or.inr ⟨x, rfl, h⟩)⟩
  · cases hv
theorem RetOK_V {q : mI} {s1 : mS} (h : mRt q = none) : RetOK q (none, s1) s1 rtV := by
  intro v s hv
  unfold rtV at hv
  split at hv
  · cases hv; exact ⟨rfl, Or.inl ⟨rfl, h⟩⟩
  · cases hv
/-! the worlds as numbers -/
noncomputable def mSd (code o : Nat) : Nat ⊕ (Nat × Nat) := match Nat.mod (Nat.shiftRight code (32 * o)) 16 with
  | 0 => .inl 99
  | 1 => .inl (Nat.div (Nat.mod (Nat.shiftRight code (32 * o)) 4294967296) 16)
  | t + 2 => .inr (t, Nat.div (Nat.mod (Nat.shiftRight code (32 * o)) 4294967296) 16)
noncomputable def mRd (code f o : Nat) : Option Nat := match Nat.mod (Nat.shiftRight code (16 * f)) 65536 with
  | 0 => none
  | v + 1 => match Nat.ble 60000 v with
    | true => some (o + Nat.sub v 60000)
    | false => some v
