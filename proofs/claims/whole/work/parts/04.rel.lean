/-! THE PICTURE of a mini heap in the machine's heap -/
noncomputable def mAd (B tS : Nat) (o : Nat) : Nat := if o = 999999 then tS else B + o
noncomputable def mV (B tS : Nat) (v : Value) : Value := match v with
  | .ref o => .ref (mAd B tS o)
  | w => w
noncomputable def mN (ci : Nat) : Nat := match mcl[ci]? with
  | some q => q.2.2
  | none => 0
noncomputable def mFv (R : Nat → Nat → Option Nat) (ad : Nat → Nat) (s : mS) (ci k o : Nat) : Value := match mKd ci k with
  | 1 => .long (gL s (100 * ci + k) o)
  | 2 => va_rf ((R (100 * ci + k) o).map ad)
  | _ => .int (gI s (100 * ci + k) o)
noncomputable def mEnt (dA : Nat → ClassId) (S : mW) (R : Nat → Nat → Option Nat) (ad : Nat → Nat) (s : mS) (o : Nat) : va_E := match S o with
  | .inl ci => .inr (ci, (List.range (mN ci)).map fun k => mFv R ad s ci k o)
  | .inr q => .inl (dA q.1, q.2, if q.1 = 3 then .inr (.inl fun j => gQ s o j) else .inl fun j => gA s o j)
noncomputable def mWs (dA : Nat → ClassId) (S : mW) (R : Nat → Nat → Option Nat) (ad : Nat → Nat) (n : Nat) (s : mS) : va_W := (List.range n).map fun o => (ad o, mEnt dA S R ad s o)
noncomputable def mOwn (B n : Nat) : Nat → Prop := fun q => B ≤ q ∧ q < B + n
noncomputable def mTy (dA : Nat → ClassId) : List (ClassId × FieldType) := [(dA 0, .int), (dA 1, .char), (dA 2, .boolean), (dA 3, .long)]
noncomputable def mOF (S : mW) (oF n : Nat) : Prop := (∀ o ci, S o = .inl ci → ci < 11 → o < n) ∧ (∀ o q, S o = .inr q → q.1 < 4 ∧ o < n ∧ q.2 < 2 ^ 31) ∧ n ≤ 999999 ∧ ∀ o o', S o = .inl (oF / 100) → S o' = .inl (oF / 100) → o = o'
theorem mAd_own {B tS n o : Nat} (h : o < n) (hn : n ≤ 999999) : mAd B tS o = B + o := by unfold mAd; rw [if_neg (by omega)]
theorem mAd_in {B tS n o : Nat} (h : o < n) (hn : n ≤ 999999) : mOwn B n (mAd B tS o) := by rw [mAd_own h hn]; exact ⟨by omega, by omega⟩
theorem mWs_at {dA : Nat → ClassId} {S : mW} {R : Nat → Nat → Option Nat} {ad : Nat → Nat} {n : Nat} {s : mS} {o : Nat} (h : o < n) : (mWs dA S R ad n s)[o]? = some (ad o, mEnt dA S R ad s o) := by
  unfold mWs; rw [List.getElem?_map, List.getElem?_range h]; rfl
theorem mWs_len {dA : Nat → ClassId} {S : mW} {R : Nat → Nat → Option Nat} {ad : Nat → Nat} {n : Nat} {s : mS} : (mWs dA S R ad n s).length = n := by simp [mWs]
theorem mWs_get {dA : Nat → ClassId} {S : mW} {R : Nat → Nat → Option Nat} {ad : Nat → Nat} {n : Nat} {s : mS} {k : Nat} {x : Nat × va_E} (h : (mWs dA S R ad n s)[k]? = some x) : k < n ∧ x = (ad k, mEnt dA S R ad s k) := by
  have hk : k < n := by have := (List.getElem?_eq_some_iff.mp h).1; rwa [mWs_len] at this
  rw [mWs_at hk] at h; exact ⟨hk, (Option.some.inj h).symm⟩
theorem mWs_D {dA : Nat → ClassId} {S : mW} {R : Nat → Nat → Option Nat} {B tS n : Nat} {s : mS} (hn : n ≤ 999999) : va_D (mOwn B n) (mWs dA S R (mAd B tS) n s) := by
  refine ⟨fun i j p q hi hj he => ?_, fun k q hk => ?_⟩
  · obtain ⟨h1, rfl⟩ := mWs_get hi
    obtain ⟨h2, rfl⟩ := mWs_get hj
    have e : mAd B tS i = mAd B tS j := he
    rw [mAd_own h1 hn, mAd_own h2 hn] at e; omega
  · obtain ⟨h1, rfl⟩ := mWs_get hk
    exact mAd_in h1 hn
/-- the world with one cell set anew -/
theorem mWs_set {dA : Nat → ClassId} {S : mW} {R R' : Nat → Nat → Option Nat} {ad : Nat → Nat} {n : Nat} {s s' : mS} {o : Nat} {x : va_E} (ho : o < n) (h1 : mEnt dA S R' ad s' o = x) (h2 : ∀ j, j < n → j ≠ o → mEnt dA S R' ad s' j = mEnt dA S R ad s j) : (mWs dA S R ad n s).set o (ad o, x) = mWs dA S R' ad n s' := by
  apply List.ext_getElem?
  intro j
  by_cases hj : j < n
  · rw [mWs_at hj]
    by_cases e : j = o
    · subst e
      rw [List.getElem?_set_self (by rw [mWs_len]; exact hj), h1]
    · rw [List.getElem?_set_ne (Ne.symm e), mWs_at hj, h2 j hj e]
  · rw [List.getElem?_eq_none (by rw [List.length_set, mWs_len]; omega), List.getElem?_eq_none (by rw [mWs_len]; omega)]
theorem up2_self {α : Type} (f : Nat → Nat → α) (a b : Nat) (v : α) : up2 f a b v a b = v := by simp [up2]
theorem up2_ne1 {α : Type} (f : Nat → Nat → α) {a b x y : Nat} (v : α) (h : x ≠ a) : up2 f a b v x y = f x y := by simp [up2, h]
theorem up2_ne2 {α : Type} (f : Nat → Nat → α) {a b x y : Nat} (v : α) (h : y ≠ b) : up2 f a b v x y = f x y := by simp [up2, h]
theorem isO_spec {S : mW} {o ci : Nat} (h : isO S o ci = true) : S o = .inl ci := by
  unfold isO at h
  split at h
  · rename_i c hc; rw [hc, Nat.eq_of_beq_eq_true h]
  · cases h
theorem aln_spec {S : mW} {t o N : Nat} (h : aln S t o = N) (hN : 0 < N) : S o = .inr (t, N) := by
  unfold aln at h
  split at h
  · omega
  · rename_i q hq
    split at h
    · rename_i hb; rw [hq, ← h, ← Nat.eq_of_beq_eq_true hb]
    · omega
theorem inb_spec {j : Int32} {N : Nat} (h : inb j N = true) : vp_in j N := by
  unfold inb at h
  split at h
  · cases h
  · rename_i hd
    have h1 : ¬ j < 0 := of_decide_eq_false hd
    have h2 : j.toNatClampNeg < N := by
      have : Nat.ble (j.toNatClampNeg + 1) N = true := h
      exact Nat.le_of_ble_eq_true this
    exact fun q => q.elim h1 (fun q => by omega)
theorem inb_pos {j : Int32} {N : Nat} (h : inb j N = true) : 0 < N := by
  have := inb_spec h
  rcases Nat.eq_zero_or_pos N with e | e
  · exact absurd (Or.inr (by omega)) this
  · exact e
theorem inb_lt {j : Int32} {N : Nat} (h : inb j N = true) : ix j < N := by
  have := inb_spec h
  unfold ix
  exact Nat.lt_of_not_le fun q => this (Or.inr q)
theorem isb_spec {x : Int32} (h : isb x = true) : narrow .boolean (.int x) = .int x := by
  unfold isb at h
  split at h
  · rename_i hd; rw [of_decide_eq_true hd]; rfl
  · rw [of_decide_eq_true h]; rfl
theorem grd_some {α : Type} {b : Bool} {x : Option α} {t : α} (h : grd b x = some t) : b = true ∧ x = some t := by
  cases b with
  | true => exact ⟨rfl, h⟩
  | false => cases h
theorem mN_of {ci : Nat} {q : vw_C} (h : mcl[ci]? = some q) : mN ci = q.2.2 := by unfold mN; rw [h]
theorem mcl_of {ci : Nat} (h : ci < 11) : ∃ q, mcl[ci]? = some q := by
  match ci, h with
  | 0, _ => exact ⟨_, rfl⟩
  | 1, _ => exact ⟨_, rfl⟩
  | 2, _ => exact ⟨_, rfl⟩
  | 3, _ => exact ⟨_, rfl⟩
  | 4, _ => exact ⟨_, rfl⟩
  | 5, _ => exact ⟨_, rfl⟩
  | 6, _ => exact ⟨_, rfl⟩
  | 7, _ => exact ⟨_, rfl⟩
  | 8, _ => exact ⟨_, rfl⟩
  | 9, _ => exact ⟨_, rfl⟩
  | 10, _ => exact ⟨_, rfl⟩
theorem mcl_lt {ci : Nat} {q : vw_C} (h : mcl[ci]? = some q) : ci < 11 := (List.getElem?_eq_some_iff.mp h).1
theorem mKd_lt (ci k : Nat) : mKd ci k < 4 := Nat.mod_lt _ (by decide)
/-- a field's facts -/
theorem fld_ok {ci k : Nat} {q : vw_C} (h : mcl[ci]? = some q) (hk : k < q.2.2) : parseFieldDescriptor (q.2.1 k).2.2.1 = some (mFT (q.2.1 k).2.2.1) ∧ (q.2.1 k).1 = q.1 ∧ okK ci k (mFT (q.2.1 k).2.2.1) = true ∧ k < 99 := by
  obtain ⟨-, hb, -⟩ := mcl_ok ci q h
  simp only [okFb, Bool.and_eq_true, decide_eq_true_eq] at hb
  have := List.all_eq_true.mp hb.1 k (List.mem_range.mpr hk)
  simp only [Bool.and_eq_true, decide_eq_true_eq] at this
  exact ⟨this.1, this.2.1, this.2.2.1, Nat.lt_of_lt_of_le hk (Nat.le_of_ble_eq_true hb.2.1)⟩
theorem cls_ok {ci : Nat} {q : vw_C} (h : mcl[ci]? = some q) : (∀ w ∈ u_ws q.1 q.2.1 q.2.2, w ∈ lw_good) ∧ (∀ k, k < q.2.2 → parseFieldDescriptor (q.2.1 k).2.2.1 = some (mFT (q.2.1 k).2.2.1)) ∧ (∀ a, a < q.2.2 → ∀ b, b < q.2.2 → a ≠ b → (q.2.1 a).2.1 ≠ (q.2.1 b).2.1) ∧ mC ci = q.1 := by
  obtain ⟨hw, hb, -⟩ := mcl_ok ci q h
  simp only [okFb, Bool.and_eq_true, decide_eq_true_eq] at hb
  have key : ∀ a b, b < q.2.2 → a < b → (q.2.1 a).2.1 ≠ (q.2.1 b).2.1 := fun a b hbq hab => by
    have := List.all_eq_true.mp hb.1 b (List.mem_range.mpr hbq)
    simp only [Bool.and_eq_true, decide_eq_true_eq] at this
    have := List.all_eq_true.mp this.2.2.2 a (List.mem_range.mpr hab)
    simpa using this
  refine ⟨fun w hwm => ?_, fun k hk => (fld_ok h hk).1, fun a ha b hb' hne => ?_, hb.2.2⟩
  · obtain ⟨k, hk, rfl⟩ := List.mem_map.mp hwm
    exact hw k (List.mem_range.mp hk)
  · rcases Nat.lt_or_gt_of_ne hne with h1 | h1
    · exact key a b hb' h1
    · exact fun e => key b a ha h1 e.symm
