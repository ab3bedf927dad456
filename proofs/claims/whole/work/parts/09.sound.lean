/-! THE MINI MACHINE IS SOUND: what evm answers, the machine answers -/
noncomputable def lnOf (i : Instr) : Nat := match i with
  | .iload _ => 2
  | .lload _ => 2
  | .aload _ => 2
  | .istore _ => 2
  | .lstore _ => 2
  | .astore _ => 2
  | .iinc _ _ => 3
  | .bipush _ => 2
  | .sipush _ => 3
  | .ldc _ => 2
  | .ldc_w _ => 3
  | .ldc2_w _ => 3
  | .getfield _ => 3
  | .putfield _ => 3
  | .getstatic _ => 3
  | .goto _ => 3
  | .if_icmp _ _ => 3
  | .ifCond _ _ => 3
  | .invokevirtual _ => 3
  | .invokestatic _ => 3
  | _ => 1
noncomputable def dck (code : ByteArray) (pc : Nat) (i : Instr) (ln : Nat) : Bool := match decode code pc with
  | .ok r => decide (r.1 = i) && Nat.beq r.2 ln
  | .error _ => false
noncomputable def dcs (code : ByteArray) (pc : Nat) (i : Instr) : Bool := match decode code pc with
  | .ok r => decide (r.1 = i)
  | .error _ => false
theorem dck_spec {code : ByteArray} {pc ln : Nat} {i : Instr} (h : dck code pc i ln = true) : decode code pc = .ok (i, ln) := by
  unfold dck at h
  split at h
  · rename_i r hr
    simp only [Bool.and_eq_true, decide_eq_true_eq] at h
    rw [hr, ← h.1, ← Nat.eq_of_beq_eq_true h.2]
  · cases h
theorem dcs_spec {code : ByteArray} {pc : Nat} {i : Instr} (h : dcs code pc i = true) : ∃ ln, decode code pc = .ok (i, ln) := by
  unfold dcs at h
  split at h
  · rename_i r hr
    exact ⟨r.2, by rw [hr, ← of_decide_eq_true h]⟩
  · cases h
noncomputable def tgs (pc : Nat) : List Int → List Nat → Bool
  | [], [] => true
  | o :: os, t :: ts => decide ((pc : Int) + o = (t : Int)) && tgs pc os ts
  | _, _ => false
noncomputable def isIv (v : Value) : Bool := match v with
  | .int _ => true
  | _ => false
noncomputable def isLv (v : Value) : Bool := match v with
  | .long _ => true
  | _ => false
noncomputable def okX (q : mI) (pc : Nat) (op : mO) : Bool := match op with
  | (i, a, b, v, ts) => match i with
    | .istore k => Nat.blt k (mMx q)
    | .istore_n k => Nat.blt k.val (mMx q)
    | .lstore k => Nat.blt (k + 1) (mMx q)
    | .lstore_n k => Nat.blt (k.val + 1) (mMx q)
    | .astore k => Nat.blt k (mMx q)
    | .astore_n k => Nat.blt k.val (mMx q)
    | .iinc k _ => Nat.blt k (mMx q)
    | .ldc x => isIv v && (mCl (mOw q)).any fun r => Nat.beq r.1 x && decide (r.2.1 = v)
    | .ldc_w x => isIv v && (mCl (mOw q)).any fun r => Nat.beq r.1 x && decide (r.2.1 = v)
    | .ldc2_w x => isLv v && (mCl (mOw q)).any fun r => Nat.beq r.1 x && decide (r.2.1 = v)
    | .getfield x => (mFl (mOw q)).any fun r => Nat.beq r.1 x && (Nat.beq r.2.1 a && Nat.beq r.2.2.1 b)
    | .putfield x => ((mFl (mOw q)).any fun r => Nat.beq r.1 x && (Nat.beq r.2.1 a && Nat.beq r.2.2.1 b)) && (match mcl[a]? with
      | some qc => !(qc.2.1 b).2.2.2
      | none => false)
    | .getstatic x => Nat.beq x 169 && Nat.beq (mOw q) 6
    | .goto off => decide ((pc : Int) + off = (a : Int))
    | .if_icmp _ off => decide ((pc : Int) + off = (a : Int))
    | .ifCond _ off => decide ((pc : Int) + off = (a : Int))
    | .tableswitch df lo hi offs => decide ((pc : Int) + df = (a : Int)) && (tgs pc offs.toList ts && (decide (hi - lo + 1 = (offs.size : Int)) && (decide (-1000 ≤ lo) && decide (hi ≤ 1000))))
    | .lookupswitch df ps => decide ((pc : Int) + df = (a : Int)) && (tgs pc (ps.toList.map fun x => x.2) ts && ((ps.toList.zip (ps.toList.drop 1)).all (fun (a, next) => a.1 < next.1) && ps.toList.all fun x => decide (-1000 ≤ x.1) && decide (x.1 ≤ 1000)))
    | .invokevirtual x => ((mMl (mOw q)).any fun r => Nat.beq r.1 x && Nat.beq r.2.1 a) && (match mT[a]? with
      | some qy => Nat.beq (mFg qy) 1 && (Nat.beq b (mNp qy + 1) && Nat.blt (mOw qy) 11)
      | none => false)
    | .invokestatic x => (match Nat.beq a 9999 with
      | true => okCp (mOw q) x
      | false => ((mMl (mOw q)).any fun r => Nat.beq r.1 x && Nat.beq r.2.1 a) && (match mT[a]? with
        | some qy => Nat.beq (mFg qy) 0 && Nat.beq b (mNp qy)
        | none => false))
    | _ => true
noncomputable def okO (q : mI) (pc : Nat) (op : mO) : Bool := (match op.1 with
  | .tableswitch d lo hi o => dcs (mBy q) pc (.tableswitch d lo hi o)
  | .lookupswitch d o => dcs (mBy q) pc (.lookupswitch d o)
  | i => dck (mBy q) pc i (lnOf i)) && okX q pc op
noncomputable def okOps (q : mI) : Nat → List mO → Bool
  | _, [] => true
  | pc, op :: ops => okO q pc op && okOps q (pc + lnOf op.1) ops
/-- if T answers t0, the machine comes from here to the method's end with fin -/
noncomputable def Gd {ρ : Type} (S : mW) (R0 : Nat → Nat → Option Nat) (oF n d : Nat) (q : mI) (fin : Option Value × mS) (t0 : ρ) (pc : Nat) (loc : mL) (st : List Value) (s : mS) (T : Option ρ) : Prop :=
  T = some t0 → ∀ (l : Launch) (B tS : Nat) (D : va_G) (dA : Nat → ClassId) (p : Program) (e : Env) (s0 : State) (m : MethodId) (args : Array Value) (below : List Frame) (meth : Method) (c : Code), mCtx q l B tS n D dA p e s0 m args meth c → Wv S R0 oF n d q fin l B tS D dA p e s0 m args below meth c pc loc st s
noncomputable def OrcOK {ρ : Type} (S : mW) (R0 : Nat → Nat → Option Nat) (oF n d : Nat) (t0 : ρ) (orc : Nat → List Value → mS → (Option Value → mS → Option ρ) → Option ρ) : Prop :=
  ∀ (y : Nat) (vs : List Value) (s : mS) (kk : Option Value → mS → Option ρ), orc y vs s kk = some t0 → ∃ (r : Option Value) (s1 : mS) (dy : Nat), dy + 1 ≤ d ∧ MetM S R0 oF n dy y vs s r s1 ∧ kk r s1 = some t0 ∧ ∀ qy, mT[y]? = some qy → mFg qy = 1 → ∃ (o : Nat) (as : List Value), vs = .ref o :: as ∧ S o = .inl (mOw qy)
noncomputable def RetOK {ρ : Type} (q : mI) (fin : Option Value × mS) (t0 : ρ) (ret : Option Value → mS → Option ρ) : Prop :=
  ∀ (v : Option Value) (s : mS), ret v s = some t0 → fin = (v, s) ∧ ((v = none ∧ mRt q = none) ∨ (∃ x : Int32, v = some (.int x) ∧ (mRt q = some .int ∨ (mRt q = some .boolean ∧ isb x = true))) ∨ ∃ x : Int64, v = some (.long x) ∧ mRt q = some .long)
section POPS
variable {ρ : Type} {t : ρ} {st : List Value} {loc : mL} {k : Nat}
theorem pi1_some {f : Int32 → List Value → Option ρ} (h : pi1 st f = some t) : ∃ x r, st = .int x :: r ∧ f x r = some t := by
  unfold pi1 at h
  split at h
  · exact ⟨_, _, rfl, h⟩
  · cases h
theorem pi2_some {f : Int32 → Int32 → List Value → Option ρ} (h : pi2 st f = some t) : ∃ x y r, st = .int y :: .int x :: r ∧ f x y r = some t := by
  unfold pi2 at h
  split at h
  · exact ⟨_, _, _, rfl, h⟩
  · cases h
theorem pl1_some {f : Int64 → List Value → Option ρ} (h : pl1 st f = some t) : ∃ x r, st = .long x :: r ∧ f x r = some t := by
  unfold pl1 at h
  split at h
  · exact ⟨_, _, rfl, h⟩
  · cases h
theorem pl2_some {f : Int64 → Int64 → List Value → Option ρ} (h : pl2 st f = some t) : ∃ x y r, st = .long y :: .long x :: r ∧ f x y r = some t := by
  unfold pl2 at h
  split at h
  · exact ⟨_, _, _, rfl, h⟩
  · cases h
theorem pr1_some {f : Nat → List Value → Option ρ} (h : pr1 st f = some t) : ∃ x r, st = .ref x :: r ∧ f x r = some t := by
  unfold pr1 at h
  split at h
  · exact ⟨_, _, rfl, h⟩
  · cases h
theorem pir_some {f : Int32 → Nat → List Value → Option ρ} (h : pir st f = some t) : ∃ x o r, st = .int x :: .ref o :: r ∧ f x o r = some t := by
  unfold pir at h
  split at h
  · exact ⟨_, _, _, rfl, h⟩
  · cases h
theorem piir_some {f : Int32 → Int32 → Nat → List Value → Option ρ} (h : piir st f = some t) : ∃ x i o r, st = .int x :: .int i :: .ref o :: r ∧ f x i o r = some t := by
  unfold piir at h
  split at h
  · exact ⟨_, _, _, _, rfl, h⟩
  · cases h
theorem plir_some {f : Int64 → Int32 → Nat → List Value → Option ρ} (h : plir st f = some t) : ∃ x i o r, st = .long x :: .int i :: .ref o :: r ∧ f x i o r = some t := by
  unfold plir at h
  split at h
  · exact ⟨_, _, _, _, rfl, h⟩
  · cases h
theorem plr_some {f : Int64 → Nat → List Value → Option ρ} (h : plr st f = some t) : ∃ x o r, st = .long x :: .ref o :: r ∧ f x o r = some t := by
  unfold plr at h
  split at h
  · exact ⟨_, _, _, rfl, h⟩
  · cases h
theorem prr_some {f : Nat → Nat → List Value → Option ρ} (h : prr st f = some t) : ∃ x o r, st = .ref x :: .ref o :: r ∧ f x o r = some t := by
  unfold prr at h
  split at h
  · exact ⟨_, _, _, rfl, h⟩
  · cases h
theorem ri1_some {f : Int32 → Option ρ} (h : ri1 st f = some t) : ∃ x, st = [.int x] ∧ f x = some t := by
  unfold ri1 at h
  split at h
  · exact ⟨_, rfl, h⟩
  · cases h
theorem rl1_some {f : Int64 → Option ρ} (h : rl1 st f = some t) : ∃ x, st = [.long x] ∧ f x = some t := by
  unfold rl1 at h
  split at h
  · exact ⟨_, rfl, h⟩
  · cases h
theorem rv0_some {f : Option ρ} (h : rv0 st f = some t) : st = [] ∧ f = some t := by
  unfold rv0 at h
  split at h
  · exact ⟨rfl, h⟩
  · cases h
theorem pc1_some {f : Value → List Value → Option ρ} (h : pc1 st f = some t) : ∃ v r, st = v :: r ∧ c1 v = true ∧ f v r = some t := by
  unfold pc1 at h
  split at h
  · obtain ⟨h1, h2⟩ := grd_some h; exact ⟨_, _, rfl, h1, h2⟩
  · cases h
theorem pc2_some {f : Value → Value → List Value → Option ρ} (h : pc2 st f = some t) : ∃ v w r, st = v :: w :: r ∧ c1 v = true ∧ c1 w = true ∧ f v w r = some t := by
  unfold pc2 at h
  split at h
  · obtain ⟨h1, h2⟩ := grd_some h
    obtain ⟨h3, h4⟩ := grd_some h2; exact ⟨_, _, _, rfl, h1, h3, h4⟩
  · cases h
theorem pcp_some {f : Int32 → Int32 → Nat → Int32 → Nat → List Value → Option ρ} (h : pcp st f = some t) : ∃ n dp b sp a r, st = .int n :: .int dp :: .ref b :: .int sp :: .ref a :: r ∧ f n dp b sp a r = some t := by
  unfold pcp at h
  split at h
  · exact ⟨_, _, _, _, _, _, rfl, h⟩
  · cases h
theorem li1_some {f : Int32 → Option ρ} (h : li1 loc k f = some t) : ∃ x, alk k loc = some (.int x) ∧ f x = some t := by
  unfold li1 at h
  split at h
  · rename_i x hx; exact ⟨_, hx, h⟩
  · cases h
theorem ll1_some {f : Int64 → Option ρ} (h : ll1 loc k f = some t) : ∃ x, alk k loc = some (.long x) ∧ f x = some t := by
  unfold ll1 at h
  split at h
  · rename_i x hx; exact ⟨_, hx, h⟩
  · cases h
theorem lr1_some {f : Nat → Option ρ} (h : lr1 loc k f = some t) : ∃ x, alk k loc = some (.ref x) ∧ f x = some t := by
  unfold lr1 at h
  split at h
  · rename_i x hx; exact ⟨_, hx, h⟩
  · cases h
theorem popN_some {f : List Value → List Value → Option ρ} : ∀ {k : Nat} {st acc : List Value}, popN k st acc f = some t → ∃ pre r, st = pre ++ r ∧ pre.length = k ∧ f (pre.reverse ++ acc) r = some t
  | 0, st, acc, h => ⟨[], st, rfl, rfl, h⟩
  | k + 1, st, acc, h => by
    unfold popN at h
    split at h
    · rename_i v r
      obtain ⟨pre, r', e1, e2, e3⟩ := popN_some h
      exact ⟨v :: pre, r', by rw [e1]; rfl, by rw [List.length_cons, e2], by rw [List.reverse_cons, List.append_assoc]; exact e3⟩
    · cases h
end POPS
theorem any_fl {own x a b : Nat} (h : ((mFl own).any fun r => Nat.beq r.1 x && (Nat.beq r.2.1 a && Nat.beq r.2.2.1 b)) = true) : ∃ i, (x, a, b, i) ∈ mFl own := by
  obtain ⟨r, hr, hb⟩ := List.any_eq_true.mp h
  simp only [Bool.and_eq_true] at hb
  refine ⟨r.2.2.2, ?_⟩
  rw [← Nat.eq_of_beq_eq_true hb.1, ← Nat.eq_of_beq_eq_true hb.2.1, ← Nat.eq_of_beq_eq_true hb.2.2]
  exact hr
theorem any_ml {own x a : Nat} (h : ((mMl own).any fun r => Nat.beq r.1 x && Nat.beq r.2.1 a) = true) : ∃ i, (x, a, i) ∈ mMl own := by
  obtain ⟨r, hr, hb⟩ := List.any_eq_true.mp h
  simp only [Bool.and_eq_true] at hb
  refine ⟨r.2.2, ?_⟩
  rw [← Nat.eq_of_beq_eq_true hb.1, ← Nat.eq_of_beq_eq_true hb.2]
  exact hr
theorem any_ci {own x : Nat} {v : Value} (h : (isIv v && (mCl own).any fun r => Nat.beq r.1 x && decide (r.2.1 = v)) = true) : ∃ w, v = .int w ∧ Cond.constant (mC own) x w ∈ lw_good := by
  rw [Bool.and_eq_true] at h
  obtain ⟨h0, h⟩ := h
  obtain ⟨r, hr, hb⟩ := List.any_eq_true.mp h
  simp only [Bool.and_eq_true, decide_eq_true_eq] at hb
  have ho := mCl_ok own r hr
  unfold okV at ho
  rw [Nat.eq_of_beq_eq_true hb.1, hb.2] at ho
  cases v with
  | int w => exact ⟨w, rfl, ho⟩
  | _ => cases h0
theorem any_cl {own x : Nat} {v : Value} (h : (isLv v && (mCl own).any fun r => Nat.beq r.1 x && decide (r.2.1 = v)) = true) : ∃ w, v = .long w ∧ Cond.constantLong (mC own) x w ∈ lw_good := by
  rw [Bool.and_eq_true] at h
  obtain ⟨h0, h⟩ := h
  obtain ⟨r, hr, hb⟩ := List.any_eq_true.mp h
  simp only [Bool.and_eq_true, decide_eq_true_eq] at hb
  have ho := mCl_ok own r hr
  unfold okV at ho
  rw [Nat.eq_of_beq_eq_true hb.1, hb.2] at ho
  cases v with
  | long w => exact ⟨w, rfl, ho⟩
  | _ => cases h0
theorem i32_ofInt {k : Int} {x : Int32} (h1 : -1000 ≤ k) (h2 : k ≤ 1000) : x = Int32.ofInt k ↔ x.toInt = k := by
  have e : (Int32.ofInt k).toInt = k := by
    rw [Int32.toInt_ofInt]
    have hs : (Int32.size : Int) = 4294967296 := rfl
    exact Int.bmod_eq_of_le (by omega) (by omega)
  rw [← Int32.toInt_inj, e]
/-- the table switch's targets -/
theorem swT_some {ρ : Type} {t : ρ} {f : Nat → Option ρ} {d pc : Nat} {x : Int32} : ∀ {ts : List Nat} {os : List Int} {k : Int}, -1000 ≤ k → k + ts.length ≤ 1001 → tgs pc os ts = true → swT x f d k ts = some t → (∃ (j : Nat) (off : Int) (tg : Nat), x.toInt = k + j ∧ os[j]? = some off ∧ (pc : Int) + off = (tg : Int) ∧ f tg = some t) ∨ ((x.toInt < k ∨ k + ts.length ≤ x.toInt) ∧ f d = some t)
  | [], [], k, _, _, _, h => Or.inr ⟨by simp; omega, h⟩
  | tg :: ts, o :: os, k, h1, h2, hg, h => by
    simp only [tgs, Bool.and_eq_true, decide_eq_true_eq] at hg
    simp only [List.length_cons] at h2
    unfold swT at h
    split at h
    · rename_i hx
      exact Or.inl ⟨0, o, tg, by rw [(i32_ofInt h1 (by omega)).mp hx]; simp, rfl, hg.1, h⟩
    · rename_i hx
      rcases swT_some (by omega) (by omega) hg.2 h with ⟨j, off, tg', e1, e2, e3, e4⟩ | ⟨e1, e2⟩
      · exact Or.inl ⟨j + 1, off, tg', by rw [e1]; omega, e2, e3, e4⟩
      · refine Or.inr ⟨?_, e2⟩
        have : x.toInt ≠ k := fun z => hx ((i32_ofInt h1 (by omega)).mpr z)
        simp only [List.length_cons]
        omega
  | [], _ :: _, _, _, _, hg, _ => by simp [tgs] at hg
  | _ :: _, [], _, _, _, hg, _ => by simp [tgs] at hg
theorem swL_some {ρ : Type} {t : ρ} {f : Nat → Option ρ} {d pc : Nat} {df : Int} {x : Int32} (hd : (pc : Int) + df = (d : Int)) : ∀ {ps : List (Int × Int)} {ts : List Nat}, (ps.all fun x => decide (-1000 ≤ x.1) && decide (x.1 ≤ 1000)) = true → tgs pc (ps.map fun x => x.2) ts = true → swL x f d ps ts = some t → ∃ tg : Nat, (pc : Int) + Op.lookupswitch.offset ps df x.toInt = (tg : Int) ∧ f tg = some t
  | [], [], _, _, h => ⟨d, hd, h⟩
  | z :: ps, tg :: ts, ha, hg, h => by
    simp only [List.map_cons, tgs, Bool.and_eq_true, decide_eq_true_eq] at hg
    simp only [List.all_cons, Bool.and_eq_true, decide_eq_true_eq] at ha
    unfold swL at h
    split at h
    · rename_i hx
      have hx' := (i32_ofInt ha.1.1 ha.1.2).mp hx
      refine ⟨tg, ?_, h⟩
      obtain ⟨za, zo⟩ := z
      rw [Op.lookupswitch.offset_cons, if_pos hx'.symm]
      exact hg.1
    · rename_i hx
      obtain ⟨tg', e1, e2⟩ := swL_some hd ha.2 hg.2 h
      refine ⟨tg', ?_, e2⟩
      have hx' : ¬ x.toInt = z.1 := fun y => hx ((i32_ofInt ha.1.1 ha.1.2).mpr y)
      rw [← e1]
      congr 1
      obtain ⟨za, zo⟩ := z
      rw [Op.lookupswitch.offset_cons, if_neg (fun y => hx' y.symm)]
  | [], _ :: _, _, hg, _ => by simp [tgs] at hg
  | _ :: _, [], _, hg, _ => by simp [tgs] at hg
theorem put_case {ρ : Type} {S : mW} {R0 : Nat → Nat → Option Nat} {oF n d : Nat} {q : mI} {fin : Option Value × mS} {t0 : ρ} {l : Launch} {B tS : Nat} {D : va_G} {dA : Nat → ClassId} {p : Program} {e : Env} {s0 : State} {m : MethodId} {args : Array Value} {below : List Frame} {meth : Method} {c : Code} {pc a b k i9 : Nat} {loc : mL} {st : List Value} {s : mS} {E : List Value → mS → Option ρ}
    (hc : mCtx q l B tS n D dA p e s0 m args meth c) (hw : mOF S oF n) (hf : (k, a, b, i9) ∈ mFl (mOw q)) (hfin : ∀ qc, mcl[a]? = some qc → (qc.2.1 b).2.2.2 = false) (hd : decode (mBy q) pc = .ok (.putfield k, 3))
    (hT : (match mKd a b with
      | 1 => plr st fun x o r => grd (isO S o a) (E r (sL s (100 * a + b) o x))
      | 2 => prr st fun x o r => grd (isO S o a) (grd (Nat.beq (100 * a + b) oF) (E r (sO s x)))
      | 3 => pir st fun x o r => grd (isO S o a) (grd (isb x) (E r (sI s (100 * a + b) o x)))
      | _ => pir st fun x o r => grd (isO S o a) (E r (sI s (100 * a + b) o x))) = some t0)
    (hE : ∀ r s', E r s' = some t0 → Wv S R0 oF n d q fin l B tS D dA p e s0 m args below meth c (pc + 3) loc r s') : Wv S R0 oF n d q fin l B tS D dA p e s0 m args below meth c pc loc st s := by
  have hlt := mKd_lt a b
  split at hT
  · rename_i hk
    obtain ⟨x, o, r, rfl, hU⟩ := plr_some hT
    obtain ⟨ho, hU⟩ := grd_some hU
    exact Wv_putL hc hw (isO_spec ho) hf hfin hd hk (hE _ _ hU)
  · rename_i hk
    obtain ⟨x, o, r, rfl, hU⟩ := prr_some hT
    obtain ⟨ho, hU⟩ := grd_some hU
    obtain ⟨hb, hU⟩ := grd_some hU
    exact Wv_putO hc hw (isO_spec ho) hf hfin hd hk (Nat.eq_of_beq_eq_true hb) (hE _ _ hU)
  · rename_i hk
    obtain ⟨x, o, r, rfl, hU⟩ := pir_some hT
    obtain ⟨ho, hU⟩ := grd_some hU
    obtain ⟨hb, hU⟩ := grd_some hU
    exact Wv_putI hc hw (isO_spec ho) hf hfin hd (Or.inr ⟨hk, hb⟩) (hE _ _ hU)
  · rename_i h1 h2 h3
    have hk : mKd a b = 0 := by
      have h1' : mKd a b ≠ 1 := h1
      have h2' : mKd a b ≠ 2 := h2
      have h3' : mKd a b ≠ 3 := h3
      omega
    obtain ⟨x, o, r, rfl, hU⟩ := pir_some hT
    obtain ⟨ho, hU⟩ := grd_some hU
    exact Wv_putI hc hw (isO_spec ho) hf hfin hd (Or.inl hk) (hE _ _ hU)
theorem iin_eq (x : Int32) (n : Int) : iin x n = x + Int32.ofInt n := by
  cases n with
  | ofNat m => rfl
  | negSucc m =>
    show x - Int32.ofNat (m + 1) = _
    have e : Int32.ofInt (Int.negSucc m) = -Int32.ofNat (m + 1) := by
      rw [Int.negSucc_eq, Int32.ofInt_neg]
      rfl
    rw [e, Int32.sub_eq_add_neg]
theorem tgs_len {pc : Nat} : ∀ {os : List Int} {ts : List Nat}, tgs pc os ts = true → ts.length = os.length
  | [], [], _ => rfl
  | _ :: _, _ :: _, h => by
    simp only [tgs, Bool.and_eq_true] at h
    rw [List.length_cons, List.length_cons, tgs_len h.2]
  | [], _ :: _, h => by simp [tgs] at h
  | _ :: _, [], h => by simp [tgs] at h
section CPC
variable {S : mW} {R0 : Nat → Nat → Option Nat} {oF n d : Nat} {q : mI} {fin : Option Value × mS} {l : Launch} {B tS : Nat} {D : va_G} {dA : Nat → ClassId} {p : Program} {e : Env} {s0 : State} {m : MethodId} {args : Array Value} {below : List Frame} {meth : Method} {c : Code} {pc : Nat} {loc : mL} {r : List Value} {s : mS}
theorem aln_or0 (S : mW) (o : Nat) : S o = .inr (0, aln S 0 o) ∨ aln S 0 o = 0 := by
  rcases Nat.eq_zero_or_pos (aln S 0 o) with h | h
  · exact Or.inr h
  · exact Or.inl (aln_spec rfl h)
theorem cpI_case (hc : mCtx q l B tS n D dA p e s0 m args meth c) (hw : mOF S oF n) {idx o0 o1 : Nat} {sp dp k1 : Int32} (hd1 : 1 ≤ d) (ho : okCp (mOw q) idx = true) (hr : cats r ≤ 8) (h1 : ¬ k1 < 0) (h2 : ¬ sp < 0) (h3 : ¬ dp < 0) (h4 : ix sp + ix k1 ≤ aln S 0 o0) (h5 : ix dp + ix k1 ≤ aln S 0 o1) (z0 : Nat.blt 0 (aln S 0 o0) = true) (z1 : Nat.blt 0 (aln S 0 o1) = true) (hd : decode (mBy q) pc = .ok (.invokestatic idx, 3)) (k : Wv S R0 oF n d q fin l B tS D dA p e s0 m args below meth c (pc + 3) loc r (sC s o0 (ix sp) o1 (ix dp) (ix k1))) : Wv S R0 oF n d q fin l B tS D dA p e s0 m args below meth c pc loc (.int k1 :: .int dp :: .ref o1 :: .int sp :: .ref o0 :: r) s :=
  Wv_cpI hc hw hd1 ho hr h1 h2 h3 h4 h5 (aln_spec rfl (Nat.le_of_ble_eq_true z0)) (aln_spec rfl (Nat.le_of_ble_eq_true z1)) hd k
theorem aln_or3 (S : mW) (o : Nat) : S o = .inr (3, aln S 3 o) ∨ aln S 3 o = 0 := by
  rcases Nat.eq_zero_or_pos (aln S 3 o) with h | h
  · exact Or.inr h
  · exact Or.inl (aln_spec rfl h)
theorem cpL_case (hc : mCtx q l B tS n D dA p e s0 m args meth c) (hw : mOF S oF n) {idx o0 o1 : Nat} {sp dp k1 : Int32} (hd1 : 1 ≤ d) (ho : okCp (mOw q) idx = true) (hr : cats r ≤ 8) (h1 : ¬ k1 < 0) (h2 : ¬ sp < 0) (h3 : ¬ dp < 0) (h4 : ix sp + ix k1 ≤ aln S 3 o0) (h5 : ix dp + ix k1 ≤ aln S 3 o1) (z0 : Nat.blt 0 (aln S 3 o0) = true) (z1 : Nat.blt 0 (aln S 3 o1) = true) (hd : decode (mBy q) pc = .ok (.invokestatic idx, 3)) (k : Wv S R0 oF n d q fin l B tS D dA p e s0 m args below meth c (pc + 3) loc r (sD s o0 (ix sp) o1 (ix dp) (ix k1))) : Wv S R0 oF n d q fin l B tS D dA p e s0 m args below meth c pc loc (.int k1 :: .int dp :: .ref o1 :: .int sp :: .ref o0 :: r) s :=
  Wv_cpL hc hw hd1 ho hr h1 h2 h3 h4 h5 (aln_spec rfl (Nat.le_of_ble_eq_true z0)) (aln_spec rfl (Nat.le_of_ble_eq_true z1)) hd k
end CPC
theorem evm_G {ρ : Type} {S : mW} {R0 : Nat → Nat → Option Nat} {oF n d : Nat} {q : mI} {fin : Option Value × mS} {t0 : ρ} {orc : Nat → List Value → mS → (Option Value → mS → Option ρ) → Option ρ} {ret : Option Value → mS → Option ρ} {K : Nat → mL → List Value → mS → Option ρ} (hw : mOF S oF n) (hd1 : 1 ≤ d) (horc : OrcOK S R0 oF n d t0 orc) (hret : RetOK q fin t0 ret) (hK : ∀ pc loc st s, Gd S R0 oF n d q fin t0 pc loc st s (K pc loc st s)) :
    ∀ (ops : List mO) (pc : Nat), okOps q pc ops = true → ∀ (loc : mL) (st : List Value) (s : mS), Gd S R0 oF n d q fin t0 pc loc st s (evm mKd mSpl S R0 oF orc ret K ops pc loc st s) := by
  intro ops
  induction ops with
  | nil => intro pc _ loc st s; exact hK pc loc st s
  | cons op ops ih =>
    intro pc hok loc st s hT l B tS D dA p e s0 m args below meth c hc
    obtain ⟨i, a, b, v, ts⟩ := op
    rw [okOps, Bool.and_eq_true] at hok
    obtain ⟨h1, h2⟩ := hok
    rw [okO, Bool.and_eq_true] at h1
    obtain ⟨hd0, hx0⟩ := h1
    cases i with
    | iload k =>
      rw [evm] at hT
      have hd := dck_spec hd0
      obtain ⟨x, hx, hT⟩ := li1_some hT
      exact Wv_iload hc hd hx (ih _ h2 _ _ _ hT _ _ _ _ _ _ _ _ _ _ _ _ _ hc)
    | iload_n k =>
      rw [evm] at hT
      have hd := dck_spec hd0
      obtain ⟨x, hx, hT⟩ := li1_some hT
      exact Wv_iload_n hc hd hx (ih _ h2 _ _ _ hT _ _ _ _ _ _ _ _ _ _ _ _ _ hc)
    | lload k =>
      rw [evm] at hT
      have hd := dck_spec hd0
      obtain ⟨x, hx, hT⟩ := ll1_some hT
      exact Wv_lload hc hd hx (ih _ h2 _ _ _ hT _ _ _ _ _ _ _ _ _ _ _ _ _ hc)
    | lload_n k =>
      rw [evm] at hT
      have hd := dck_spec hd0
      obtain ⟨x, hx, hT⟩ := ll1_some hT
      exact Wv_lload_n hc hd hx (ih _ h2 _ _ _ hT _ _ _ _ _ _ _ _ _ _ _ _ _ hc)
    | aload k =>
      rw [evm] at hT
      have hd := dck_spec hd0
      obtain ⟨x, hx, hT⟩ := lr1_some hT
      exact Wv_aload hc hd hx (ih _ h2 _ _ _ hT _ _ _ _ _ _ _ _ _ _ _ _ _ hc)
    | aload_n k =>
      rw [evm] at hT
      have hd := dck_spec hd0
      obtain ⟨x, hx, hT⟩ := lr1_some hT
      exact Wv_aload_n hc hd hx (ih _ h2 _ _ _ hT _ _ _ _ _ _ _ _ _ _ _ _ _ hc)
    | istore k =>
      rw [evm] at hT
      have hd := dck_spec hd0
      obtain ⟨x, r, rfl, hU⟩ := pi1_some hT
      exact Wv_istore hc hd (Nat.le_of_ble_eq_true hx0) (ih _ h2 _ _ _ hU _ _ _ _ _ _ _ _ _ _ _ _ _ hc)
    | istore_n k =>
      rw [evm] at hT
      have hd := dck_spec hd0
      obtain ⟨x, r, rfl, hU⟩ := pi1_some hT
      exact Wv_istore_n hc hd (Nat.le_of_ble_eq_true hx0) (ih _ h2 _ _ _ hU _ _ _ _ _ _ _ _ _ _ _ _ _ hc)
    | lstore k =>
      rw [evm] at hT
      have hd := dck_spec hd0
      obtain ⟨x, r, rfl, hU⟩ := pl1_some hT
      exact Wv_lstore hc hd (Nat.le_of_ble_eq_true hx0) (ih _ h2 _ _ _ hU _ _ _ _ _ _ _ _ _ _ _ _ _ hc)
    | lstore_n k =>
      rw [evm] at hT
      have hd := dck_spec hd0
      obtain ⟨x, r, rfl, hU⟩ := pl1_some hT
      exact Wv_lstore_n hc hd (Nat.le_of_ble_eq_true hx0) (ih _ h2 _ _ _ hU _ _ _ _ _ _ _ _ _ _ _ _ _ hc)
    | astore k =>
      rw [evm] at hT
      have hd := dck_spec hd0
      obtain ⟨x, r, rfl, hU⟩ := pr1_some hT
      exact Wv_astore hc hd (Nat.le_of_ble_eq_true hx0) (ih _ h2 _ _ _ hU _ _ _ _ _ _ _ _ _ _ _ _ _ hc)
    | astore_n k =>
      rw [evm] at hT
      have hd := dck_spec hd0
      obtain ⟨x, r, rfl, hU⟩ := pr1_some hT
      exact Wv_astore_n hc hd (Nat.le_of_ble_eq_true hx0) (ih _ h2 _ _ _ hU _ _ _ _ _ _ _ _ _ _ _ _ _ hc)
    | iinc k a9 =>
      rw [evm] at hT
      have hd := dck_spec hd0
      obtain ⟨x, hx, hT⟩ := li1_some hT
      rw [iin_eq] at hT
      exact Wv_iinc hc hd (Nat.le_of_ble_eq_true hx0) hx (ih _ h2 _ _ _ hT _ _ _ _ _ _ _ _ _ _ _ _ _ hc)
    | iconst k =>
      rw [evm] at hT
      have hd := dck_spec hd0
      exact Wv_iconst hc hd (ih _ h2 _ _ _ hT _ _ _ _ _ _ _ _ _ _ _ _ _ hc)
    | bipush k =>
      rw [evm] at hT
      have hd := dck_spec hd0
      exact Wv_bipush hc hd (ih _ h2 _ _ _ hT _ _ _ _ _ _ _ _ _ _ _ _ _ hc)
    | sipush k =>
      rw [evm] at hT
      have hd := dck_spec hd0
      exact Wv_sipush hc hd (ih _ h2 _ _ _ hT _ _ _ _ _ _ _ _ _ _ _ _ _ hc)
    | lconst k =>
      rw [evm] at hT
      have hd := dck_spec hd0
      exact Wv_lconst hc hd (ih _ h2 _ _ _ hT _ _ _ _ _ _ _ _ _ _ _ _ _ hc)
    | ldc k =>
      rw [evm] at hT
      have hd := dck_spec hd0
      obtain ⟨w, rfl, hw9⟩ := any_ci hx0
      exact Wv_ldc hc hd hw9 (ih _ h2 _ _ _ hT _ _ _ _ _ _ _ _ _ _ _ _ _ hc)
    | ldc_w k =>
      rw [evm] at hT
      have hd := dck_spec hd0
      obtain ⟨w, rfl, hw9⟩ := any_ci hx0
      exact Wv_ldcw hc hd hw9 (ih _ h2 _ _ _ hT _ _ _ _ _ _ _ _ _ _ _ _ _ hc)
    | ldc2_w k =>
      rw [evm] at hT
      have hd := dck_spec hd0
      obtain ⟨w, rfl, hw9⟩ := any_cl hx0
      exact Wv_ldc2 hc hd hw9 (ih _ h2 _ _ _ hT _ _ _ _ _ _ _ _ _ _ _ _ _ hc)
    | iadd =>
      rw [evm] at hT
      have hd := dck_spec hd0
      obtain ⟨x, y, r, rfl, hU⟩ := pi2_some hT
      exact Wv_iadd hc hd (ih _ h2 _ _ _ hU _ _ _ _ _ _ _ _ _ _ _ _ _ hc)
    | isub =>
      rw [evm] at hT
      have hd := dck_spec hd0
      obtain ⟨x, y, r, rfl, hU⟩ := pi2_some hT
      exact Wv_isub hc hd (ih _ h2 _ _ _ hU _ _ _ _ _ _ _ _ _ _ _ _ _ hc)
    | imul =>
      rw [evm] at hT
      have hd := dck_spec hd0
      obtain ⟨x, y, r, rfl, hU⟩ := pi2_some hT
      exact Wv_imul hc hd (ih _ h2 _ _ _ hU _ _ _ _ _ _ _ _ _ _ _ _ _ hc)
    | iand =>
      rw [evm] at hT
      have hd := dck_spec hd0
      obtain ⟨x, y, r, rfl, hU⟩ := pi2_some hT
      exact Wv_iand hc hd (ih _ h2 _ _ _ hU _ _ _ _ _ _ _ _ _ _ _ _ _ hc)
    | ior =>
      rw [evm] at hT
      have hd := dck_spec hd0
      obtain ⟨x, y, r, rfl, hU⟩ := pi2_some hT
      exact Wv_ior hc hd (ih _ h2 _ _ _ hU _ _ _ _ _ _ _ _ _ _ _ _ _ hc)
    | ixor =>
      rw [evm] at hT
      have hd := dck_spec hd0
      obtain ⟨x, y, r, rfl, hU⟩ := pi2_some hT
      exact Wv_ixor hc hd (ih _ h2 _ _ _ hU _ _ _ _ _ _ _ _ _ _ _ _ _ hc)
    | ishl =>
      rw [evm] at hT
      have hd := dck_spec hd0
      obtain ⟨x, y, r, rfl, hU⟩ := pi2_some hT
      exact Wv_ishl hc hd (ih _ h2 _ _ _ hU _ _ _ _ _ _ _ _ _ _ _ _ _ hc)
    | ishr =>
      rw [evm] at hT
      have hd := dck_spec hd0
      obtain ⟨x, y, r, rfl, hU⟩ := pi2_some hT
      exact Wv_ishr hc hd (ih _ h2 _ _ _ hU _ _ _ _ _ _ _ _ _ _ _ _ _ hc)
    | iushr =>
      rw [evm] at hT
      have hd := dck_spec hd0
      obtain ⟨x, y, r, rfl, hU⟩ := pi2_some hT
      exact Wv_iushr hc hd (ih _ h2 _ _ _ hU _ _ _ _ _ _ _ _ _ _ _ _ _ hc)
    | idiv =>
      rw [evm] at hT
      have hd := dck_spec hd0
      obtain ⟨x, y, r, rfl, hU⟩ := pi2_some hT
      obtain ⟨hz, hU⟩ := grd_some hU
      exact Wv_idiv hc hd (by simpa using hz) (ih _ h2 _ _ _ hU _ _ _ _ _ _ _ _ _ _ _ _ _ hc)
    | irem =>
      rw [evm] at hT
      have hd := dck_spec hd0
      obtain ⟨x, y, r, rfl, hU⟩ := pi2_some hT
      obtain ⟨hz, hU⟩ := grd_some hU
      exact Wv_irem hc hd (by simpa using hz) (ih _ h2 _ _ _ hU _ _ _ _ _ _ _ _ _ _ _ _ _ hc)
    | ladd =>
      rw [evm] at hT
      have hd := dck_spec hd0
      obtain ⟨x, y, r, rfl, hU⟩ := pl2_some hT
      exact Wv_ladd hc hd (ih _ h2 _ _ _ hU _ _ _ _ _ _ _ _ _ _ _ _ _ hc)
    | lsub =>
      rw [evm] at hT
      have hd := dck_spec hd0
      obtain ⟨x, y, r, rfl, hU⟩ := pl2_some hT
      exact Wv_lsub hc hd (ih _ h2 _ _ _ hU _ _ _ _ _ _ _ _ _ _ _ _ _ hc)
    | lmul =>
      rw [evm] at hT
      have hd := dck_spec hd0
      obtain ⟨x, y, r, rfl, hU⟩ := pl2_some hT
      exact Wv_lmul hc hd (ih _ h2 _ _ _ hU _ _ _ _ _ _ _ _ _ _ _ _ _ hc)
    | land =>
      rw [evm] at hT
      have hd := dck_spec hd0
      obtain ⟨x, y, r, rfl, hU⟩ := pl2_some hT
      exact Wv_land hc hd (ih _ h2 _ _ _ hU _ _ _ _ _ _ _ _ _ _ _ _ _ hc)
    | lcmp =>
      rw [evm] at hT
      have hd := dck_spec hd0
      obtain ⟨x, y, r, rfl, hU⟩ := pl2_some hT
      exact Wv_lcmp hc hd (ih _ h2 _ _ _ hU _ _ _ _ _ _ _ _ _ _ _ _ _ hc)
    | ldiv =>
      rw [evm] at hT
      have hd := dck_spec hd0
      obtain ⟨x, y, r, rfl, hU⟩ := pl2_some hT
      obtain ⟨hz, hU⟩ := grd_some hU
      exact Wv_ldiv hc hd (by simpa using hz) (ih _ h2 _ _ _ hU _ _ _ _ _ _ _ _ _ _ _ _ _ hc)
    | lrem =>
      rw [evm] at hT
      have hd := dck_spec hd0
      obtain ⟨x, y, r, rfl, hU⟩ := pl2_some hT
      obtain ⟨hz, hU⟩ := grd_some hU
      exact Wv_lrem hc hd (by simpa using hz) (ih _ h2 _ _ _ hU _ _ _ _ _ _ _ _ _ _ _ _ _ hc)
    | i2l =>
      rw [evm] at hT
      have hd := dck_spec hd0
      obtain ⟨x, r, rfl, hU⟩ := pi1_some hT
      exact Wv_i2l hc hd (ih _ h2 _ _ _ hU _ _ _ _ _ _ _ _ _ _ _ _ _ hc)
    | l2i =>
      rw [evm] at hT
      have hd := dck_spec hd0
      obtain ⟨x, r, rfl, hU⟩ := pl1_some hT
      exact Wv_l2i hc hd (ih _ h2 _ _ _ hU _ _ _ _ _ _ _ _ _ _ _ _ _ hc)
    | dup =>
      rw [evm] at hT
      have hd := dck_spec hd0
      obtain ⟨w, r, rfl, hw9, hU⟩ := pc1_some hT
      exact Wv_dup hc hd hw9 (ih _ h2 _ _ _ hU _ _ _ _ _ _ _ _ _ _ _ _ _ hc)
    | pop =>
      rw [evm] at hT
      have hd := dck_spec hd0
      obtain ⟨w, r, rfl, hw9, hU⟩ := pc1_some hT
      exact Wv_pop hc hd hw9 (ih _ h2 _ _ _ hU _ _ _ _ _ _ _ _ _ _ _ _ _ hc)
    | dup2 =>
      rw [evm] at hT
      have hd := dck_spec hd0
      obtain ⟨w, z, r, rfl, hw9, hz9, hU⟩ := pc2_some hT
      exact Wv_dup2 hc hd hw9 hz9 (ih _ h2 _ _ _ hU _ _ _ _ _ _ _ _ _ _ _ _ _ hc)
    | getfield k =>
      rw [evm] at hT
      have hd := dck_spec hd0
      obtain ⟨o, r, rfl, hU⟩ := pr1_some hT
      obtain ⟨ho, hU⟩ := grd_some hU
      obtain ⟨i9, hf⟩ := any_fl hx0
      exact Wv_getfield hc hw (isO_spec ho) hf hd (ih _ h2 _ _ _ hU _ _ _ _ _ _ _ _ _ _ _ _ _ hc)
    | iaload =>
      rw [evm] at hT
      have hd := dck_spec hd0
      obtain ⟨j, o, r, rfl, hU⟩ := pir_some hT
      obtain ⟨hi, hU⟩ := grd_some hU
      exact Wv_iald hc hw hi hd (ih _ h2 _ _ _ hU _ _ _ _ _ _ _ _ _ _ _ _ _ hc)
    | caload =>
      rw [evm] at hT
      have hd := dck_spec hd0
      obtain ⟨j, o, r, rfl, hU⟩ := pir_some hT
      obtain ⟨hi, hU⟩ := grd_some hU
      exact Wv_cald hc hw hi hd (ih _ h2 _ _ _ hU _ _ _ _ _ _ _ _ _ _ _ _ _ hc)
    | baload =>
      rw [evm] at hT
      have hd := dck_spec hd0
      obtain ⟨j, o, r, rfl, hU⟩ := pir_some hT
      obtain ⟨hi, hU⟩ := grd_some hU
      exact Wv_zald hc hw hi hd (ih _ h2 _ _ _ hU _ _ _ _ _ _ _ _ _ _ _ _ _ hc)
    | iastore =>
      rw [evm] at hT
      have hd := dck_spec hd0
      obtain ⟨x, j, o, r, rfl, hU⟩ := piir_some hT
      obtain ⟨hi, hU⟩ := grd_some hU
      exact Wv_iast hc hw hi hd (ih _ h2 _ _ _ hU _ _ _ _ _ _ _ _ _ _ _ _ _ hc)
    | bastore =>
      rw [evm] at hT
      have hd := dck_spec hd0
      obtain ⟨x, j, o, r, rfl, hU⟩ := piir_some hT
      obtain ⟨hi, hU⟩ := grd_some hU
      obtain ⟨hb, hU⟩ := grd_some hU
      exact Wv_zast hc hw hi hb hd (ih _ h2 _ _ _ hU _ _ _ _ _ _ _ _ _ _ _ _ _ hc)
    | lastore =>
      rw [evm] at hT
      have hd := dck_spec hd0
      obtain ⟨x, j, o, r, rfl, hU⟩ := plir_some hT
      obtain ⟨hi, hU⟩ := grd_some hU
      exact Wv_last hc hw hi hd (ih _ h2 _ _ _ hU _ _ _ _ _ _ _ _ _ _ _ _ _ hc)
    | goto off =>
      rw [evm] at hT
      have hd := dck_spec hd0
      exact Wv_goto hc hd (of_decide_eq_true hx0) (hK _ _ _ _ hT _ _ _ _ _ _ _ _ _ _ _ _ _ hc)
    | if_icmp c9 off =>
      have hd := dck_spec hd0
      cases c9 with
      | eq =>
        rw [evm] at hT
        obtain ⟨x, y, r, rfl, hU⟩ := pi2_some hT
        exact Wv_icmp_eq hc hd (of_decide_eq_true hx0) (fun h => hK _ _ _ _ ((if_pos h).symm.trans hU) _ _ _ _ _ _ _ _ _ _ _ _ _ hc) (fun h => ih _ h2 _ _ _ ((if_neg h).symm.trans hU) _ _ _ _ _ _ _ _ _ _ _ _ _ hc)
      | ne =>
        rw [evm] at hT
        obtain ⟨x, y, r, rfl, hU⟩ := pi2_some hT
        exact Wv_icmp_ne hc hd (of_decide_eq_true hx0) (fun h => hK _ _ _ _ ((if_neg h).symm.trans hU) _ _ _ _ _ _ _ _ _ _ _ _ _ hc) (fun h => ih _ h2 _ _ _ ((if_pos h).symm.trans hU) _ _ _ _ _ _ _ _ _ _ _ _ _ hc)
      | lt =>
        rw [evm] at hT
        obtain ⟨x, y, r, rfl, hU⟩ := pi2_some hT
        exact Wv_icmp_lt hc hd (of_decide_eq_true hx0) (fun h => hK _ _ _ _ ((if_pos h).symm.trans hU) _ _ _ _ _ _ _ _ _ _ _ _ _ hc) (fun h => ih _ h2 _ _ _ ((if_neg h).symm.trans hU) _ _ _ _ _ _ _ _ _ _ _ _ _ hc)
      | ge =>
        rw [evm] at hT
        obtain ⟨x, y, r, rfl, hU⟩ := pi2_some hT
        exact Wv_icmp_ge hc hd (of_decide_eq_true hx0) (fun h => hK _ _ _ _ ((if_neg h).symm.trans hU) _ _ _ _ _ _ _ _ _ _ _ _ _ hc) (fun h => ih _ h2 _ _ _ ((if_pos h).symm.trans hU) _ _ _ _ _ _ _ _ _ _ _ _ _ hc)
      | gt =>
        rw [evm] at hT
        obtain ⟨x, y, r, rfl, hU⟩ := pi2_some hT
        exact Wv_icmp_gt hc hd (of_decide_eq_true hx0) (fun h => hK _ _ _ _ ((if_pos h).symm.trans hU) _ _ _ _ _ _ _ _ _ _ _ _ _ hc) (fun h => ih _ h2 _ _ _ ((if_neg h).symm.trans hU) _ _ _ _ _ _ _ _ _ _ _ _ _ hc)
      | le =>
        rw [evm] at hT
        obtain ⟨x, y, r, rfl, hU⟩ := pi2_some hT
        exact Wv_icmp_le hc hd (of_decide_eq_true hx0) (fun h => hK _ _ _ _ ((if_neg h).symm.trans hU) _ _ _ _ _ _ _ _ _ _ _ _ _ hc) (fun h => ih _ h2 _ _ _ ((if_pos h).symm.trans hU) _ _ _ _ _ _ _ _ _ _ _ _ _ hc)
    | ifCond c9 off =>
      have hd := dck_spec hd0
      cases c9 with
      | eq =>
        rw [evm] at hT
        obtain ⟨x, r, rfl, hU⟩ := pi1_some hT
        exact Wv_if_eq hc hd (of_decide_eq_true hx0) (fun h => hK _ _ _ _ ((if_pos h).symm.trans hU) _ _ _ _ _ _ _ _ _ _ _ _ _ hc) (fun h => ih _ h2 _ _ _ ((if_neg h).symm.trans hU) _ _ _ _ _ _ _ _ _ _ _ _ _ hc)
      | ne =>
        rw [evm] at hT
        obtain ⟨x, r, rfl, hU⟩ := pi1_some hT
        exact Wv_if_ne hc hd (of_decide_eq_true hx0) (fun h => hK _ _ _ _ ((if_neg h).symm.trans hU) _ _ _ _ _ _ _ _ _ _ _ _ _ hc) (fun h => ih _ h2 _ _ _ ((if_pos h).symm.trans hU) _ _ _ _ _ _ _ _ _ _ _ _ _ hc)
      | lt =>
        rw [evm] at hT
        obtain ⟨x, r, rfl, hU⟩ := pi1_some hT
        exact Wv_if_lt hc hd (of_decide_eq_true hx0) (fun h => hK _ _ _ _ ((if_pos h).symm.trans hU) _ _ _ _ _ _ _ _ _ _ _ _ _ hc) (fun h => ih _ h2 _ _ _ ((if_neg h).symm.trans hU) _ _ _ _ _ _ _ _ _ _ _ _ _ hc)
      | ge =>
        rw [evm] at hT
        obtain ⟨x, r, rfl, hU⟩ := pi1_some hT
        exact Wv_if_ge hc hd (of_decide_eq_true hx0) (fun h => hK _ _ _ _ ((if_neg h).symm.trans hU) _ _ _ _ _ _ _ _ _ _ _ _ _ hc) (fun h => ih _ h2 _ _ _ ((if_pos h).symm.trans hU) _ _ _ _ _ _ _ _ _ _ _ _ _ hc)
      | gt =>
        rw [evm] at hT
        obtain ⟨x, r, rfl, hU⟩ := pi1_some hT
        exact Wv_if_gt hc hd (of_decide_eq_true hx0) (fun h => hK _ _ _ _ ((if_pos h).symm.trans hU) _ _ _ _ _ _ _ _ _ _ _ _ _ hc) (fun h => ih _ h2 _ _ _ ((if_neg h).symm.trans hU) _ _ _ _ _ _ _ _ _ _ _ _ _ hc)
      | le =>
        rw [evm] at hT
        obtain ⟨x, r, rfl, hU⟩ := pi1_some hT
        exact Wv_if_le hc hd (of_decide_eq_true hx0) (fun h => hK _ _ _ _ ((if_neg h).symm.trans hU) _ _ _ _ _ _ _ _ _ _ _ _ _ hc) (fun h => ih _ h2 _ _ _ ((if_pos h).symm.trans hU) _ _ _ _ _ _ _ _ _ _ _ _ _ hc)
    | putfield k =>
      rw [evm] at hT
      have hd := dck_spec hd0
      rw [show okX q pc (.putfield k, a, b, v, ts) = (((mFl (mOw q)).any fun r => Nat.beq r.1 k && (Nat.beq r.2.1 a && Nat.beq r.2.2.1 b)) && (match mcl[a]? with | some qc => !(qc.2.1 b).2.2.2 | none => false)) from rfl, Bool.and_eq_true] at hx0
      obtain ⟨i9, hf⟩ := any_fl hx0.1
      have hfin : ∀ qc, mcl[a]? = some qc → (qc.2.1 b).2.2.2 = false := fun qc hq => by have h9 := hx0.2; rw [hq] at h9; simpa using h9
      exact put_case (E := fun r s' => evm mKd mSpl S R0 oF orc ret K ops (pc + 3) loc r s') hc hw hf hfin hd hT (fun r s' h => ih _ h2 _ _ _ h _ _ _ _ _ _ _ _ _ _ _ _ _ hc)
    | getstatic k =>
      rw [evm] at hT
      have hd := dck_spec hd0
      rw [show okX q pc (.getstatic k, a, b, v, ts) = (Nat.beq k 169 && Nat.beq (mOw q) 6) from rfl, Bool.and_eq_true] at hx0
      obtain rfl := Nat.eq_of_beq_eq_true hx0.1
      exact Wv_getstatic hc hw (by rw [Nat.eq_of_beq_eq_true hx0.2]; rfl) hd (ih _ h2 _ _ _ hT _ _ _ _ _ _ _ _ _ _ _ _ _ hc)
    | laload =>
      rw [evm] at hT
      have hd := dck_spec hd0
      obtain ⟨j, o, r, rfl, hU⟩ := pir_some hT
      split at hU
      · obtain ⟨hb, hA⟩ := grd_some hU
        obtain ⟨hi, hB⟩ := grd_some hA
        obtain rfl := Nat.eq_of_beq_eq_true hb
        exact Wv_spl hc hw hi hd (ih _ h2 _ _ _ hB _ _ _ _ _ _ _ _ _ _ _ _ _ hc)
      · obtain ⟨hi, hU⟩ := grd_some hU
        exact Wv_lald hc hw hi hd (ih _ h2 _ _ _ hU _ _ _ _ _ _ _ _ _ _ _ _ _ hc)
    | arraylength =>
      rw [evm] at hT
      have hd := dck_spec hd0
      obtain ⟨o, r, rfl, hU⟩ := pr1_some hT
      split at hU
      · obtain ⟨hb, hA⟩ := grd_some hU
        obtain rfl := Nat.eq_of_beq_eq_true hb
        exact Wv_spll hc hw hd (ih _ h2 _ _ _ hA _ _ _ _ _ _ _ _ _ _ _ _ _ hc)
      · obtain ⟨hi, hU⟩ := grd_some hU
        exact Wv_alen hc hw hi hd (ih _ h2 _ _ _ hU _ _ _ _ _ _ _ _ _ _ _ _ _ hc)
    | tableswitch df lo hi offs =>
      rw [evm] at hT
      obtain ⟨x, r, rfl, hU⟩ := pi1_some hT
      simp only [okX, Bool.and_eq_true, decide_eq_true_eq] at hx0
      obtain ⟨g1, g2, g3, g4, g5⟩ := hx0
      obtain ⟨ln, hd⟩ := dcs_spec hd0
      have hlen := tgs_len g2
      rcases swT_some g4 (by rw [hlen, Array.length_toList]; omega) g2 hU with ⟨j, off, tg, e1, e2, e3, e4⟩ | ⟨e1, e2⟩
      · have hj : j < offs.size := by have := (List.getElem?_eq_some_iff.mp e2).1; simpa using this
        exact fun H ls locs hP hl hS => lv_tableIn hc.1 hc.2.1 hd (by omega) (by omega) (off := off) (tgt := tg) (by rw [show (x.toInt - lo).toNat = j by omega, ← Array.getElem?_toList]; exact e2) e3 (hK _ _ _ _ e4 _ _ _ _ _ _ _ _ _ _ _ _ _ hc H ls locs hP hl hS)
      · exact fun H ls locs hP hl hS => lv_tableOut hc.1 hc.2.1 hd (tgt := a) (by rw [hlen, Array.length_toList] at e1; omega) g1 (hK _ _ _ _ e2 _ _ _ _ _ _ _ _ _ _ _ _ _ hc H ls locs hP hl hS)
    | lookupswitch df ps =>
      rw [evm] at hT
      obtain ⟨x, r, rfl, hU⟩ := pi1_some hT
      rw [show okX q pc (.lookupswitch df ps, a, b, v, ts) = (decide ((pc : Int) + df = (a : Int)) && (tgs pc (ps.toList.map fun x => x.2) ts && ((ps.toList.zip (ps.toList.drop 1)).all (fun (a, next) => a.1 < next.1) && ps.toList.all fun x => decide (-1000 ≤ x.1) && decide (x.1 ≤ 1000)))) from rfl] at hx0
      simp only [Bool.and_eq_true] at hx0
      obtain ⟨g1, g2, g3, g4⟩ := hx0
      obtain ⟨ln, hd⟩ := dcs_spec hd0
      obtain ⟨tg, e1, e2⟩ := swL_some (of_decide_eq_true g1) g4 g2 hU
      exact fun H ls locs hP hl hS => lv_lookup hc.1 hc.2.1 hd g3 rfl e1 (hK _ _ _ _ e2 _ _ _ _ _ _ _ _ _ _ _ _ _ hc H ls locs hP hl hS)
    | invokevirtual k =>
      rw [evm] at hT
      have hd := dck_spec hd0
      rw [show okX q pc (.invokevirtual k, a, b, v, ts) = (((mMl (mOw q)).any fun r => Nat.beq r.1 k && Nat.beq r.2.1 a) && (match mT[a]? with | some qy => Nat.beq (mFg qy) 1 && (Nat.beq b (mNp qy + 1) && Nat.blt (mOw qy) 11) | none => false)) from rfl, Bool.and_eq_true] at hx0
      obtain ⟨g1, g2⟩ := hx0
      obtain ⟨i9, hml⟩ := any_ml g1
      obtain ⟨pre, r, rfl, hpl, hU⟩ := popN_some hT
      obtain ⟨hcat, hU⟩ := grd_some hU
      split at g2
      · rename_i qy hy
        simp only [Bool.and_eq_true] at g2
        obtain ⟨rv, s1, dy, hdy, hM, hkk, hrec⟩ := horc _ _ _ _ hU
        obtain ⟨o, as, e1, hS⟩ := hrec qy hy (Nat.eq_of_beq_eq_true g2.1)
        rw [List.append_nil] at e1 hM
        have e2 : pre = as.reverse ++ [.ref o] := by rw [← List.reverse_reverse pre, e1, List.reverse_cons]
        have hlen : as.length = mNp qy := by have := Nat.eq_of_beq_eq_true g2.2.1; rw [← hpl, e2] at this; simpa using this
        rw [e2, List.append_assoc]
        rw [e1] at hM
        exact Wv_virt hc hw hy (Nat.eq_of_beq_eq_true g2.1) hml hM hdy hS hlen (Nat.le_of_ble_eq_true hcat) hd (ih _ h2 _ _ _ hkk _ _ _ _ _ _ _ _ _ _ _ _ _ hc) (Nat.le_of_ble_eq_true g2.2.2)
      · cases g2
    | invokestatic k =>
      rw [evm] at hT
      have hd := dck_spec hd0
      rw [show okX q pc (.invokestatic k, a, b, v, ts) = (match Nat.beq a 9999 with | true => okCp (mOw q) k | false => ((mMl (mOw q)).any fun r => Nat.beq r.1 k && Nat.beq r.2.1 a) && (match mT[a]? with | some qy => Nat.beq (mFg qy) 0 && Nat.beq b (mNp qy) | none => false)) from rfl] at hx0
      split at hT
      · rename_i hb
        rw [hb] at hx0
        obtain ⟨k1, dp, o1, sp, o0, r, rfl, hU⟩ := pcp_some hT
        obtain ⟨hcat, hU⟩ := grd_some hU
        obtain ⟨z1, hU⟩ := grd_some hU
        obtain ⟨z2, hU⟩ := grd_some hU
        obtain ⟨z3, hU⟩ := grd_some hU
        split at hU
        · obtain ⟨y4, hU⟩ := grd_some hU
          obtain ⟨y5, hU⟩ := grd_some hU
          obtain ⟨z4, hU⟩ := grd_some hU
          obtain ⟨z5, hU⟩ := grd_some hU
          exact cpL_case hc hw hd1 hx0 (Nat.le_of_ble_eq_true hcat) (by simpa using z1) (by simpa using z2) (by simpa using z3) (Nat.le_of_ble_eq_true z4) (Nat.le_of_ble_eq_true z5) y4 y5 hd (ih _ h2 _ _ _ hU _ _ _ _ _ _ _ _ _ _ _ _ _ hc)
        · obtain ⟨y4, hU⟩ := grd_some hU
          obtain ⟨y5, hU⟩ := grd_some hU
          obtain ⟨z4, hU⟩ := grd_some hU
          obtain ⟨z5, hU⟩ := grd_some hU
          exact cpI_case hc hw hd1 hx0 (Nat.le_of_ble_eq_true hcat) (by simpa using z1) (by simpa using z2) (by simpa using z3) (Nat.le_of_ble_eq_true z4) (Nat.le_of_ble_eq_true z5) y4 y5 hd (ih _ h2 _ _ _ hU _ _ _ _ _ _ _ _ _ _ _ _ _ hc)
      · rename_i hb
        rw [hb] at hx0
        rw [Bool.and_eq_true] at hx0
        obtain ⟨g1, g2⟩ := hx0
        obtain ⟨i9, hml⟩ := any_ml g1
        obtain ⟨pre, r, rfl, hpl, hU⟩ := popN_some hT
        obtain ⟨hcat, hU⟩ := grd_some hU
        split at g2
        · rename_i qy hy
          rw [Bool.and_eq_true] at g2
          obtain ⟨rv, s1, dy, hdy, hM, hkk, -⟩ := horc _ _ _ _ hU
          rw [List.append_nil] at hM
          have hlen : pre.reverse.length = mNp qy := by have := Nat.eq_of_beq_eq_true g2.2; rw [List.length_reverse, hpl, this]
          have := Wv_stat (below := below) (vs := pre.reverse) hc hw hy (Nat.eq_of_beq_eq_true g2.1) hml hM hdy hlen (Nat.le_of_ble_eq_true hcat) hd (ih _ h2 _ _ _ hkk _ _ _ _ _ _ _ _ _ _ _ _ _ hc)
          rw [List.reverse_reverse] at this
          exact this
        · cases g2
    | ireturn =>
      rw [evm] at hT
      have hd := dck_spec hd0
      obtain ⟨x9, rfl, hU⟩ := ri1_some hT
      obtain ⟨hf, hv⟩ := hret _ _ hU
      rcases hv with ⟨h9, -⟩ | ⟨x, h9, h8⟩ | ⟨x, h9, -⟩
      · cases h9
      · cases h9
        rcases h8 with h8 | ⟨h8, h7⟩
        · exact Wv_iret hc hw h8 hf hd
        · exact Wv_zret hc hw h8 h7 hf hd
      · cases h9
    | lreturn =>
      rw [evm] at hT
      have hd := dck_spec hd0
      obtain ⟨x9, rfl, hU⟩ := rl1_some hT
      obtain ⟨hf, hv⟩ := hret _ _ hU
      rcases hv with ⟨h9, -⟩ | ⟨x, h9, -⟩ | ⟨x, h9, h8⟩
      · cases h9
      · cases h9
      · cases h9
        exact Wv_lret hc hw h8 hf hd
    | return_ =>
      rw [evm] at hT
      have hd := dck_spec hd0
      obtain ⟨rfl, hU⟩ := rv0_some hT
      obtain ⟨hf, hv⟩ := hret _ _ hU
      rcases hv with ⟨-, h8⟩ | ⟨x, h9, -⟩ | ⟨x, h9, -⟩
      · exact Wv_vret hc hw h8 hf hd
      · cases h9
      · cases h9
    | _ => exact absurd (show none = some t0 from hT) (fun h => by cases h)
