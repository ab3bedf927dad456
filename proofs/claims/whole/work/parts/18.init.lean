/-! WHAT THE CONSTRUCTORS LEAVE -/
noncomputable def ivC (c : cS) : Prop := (∀ o i, gA c.2.2.2.2 o i ≠ 0 → o < c.2.2.1 ∧ ∃ N, c.1 o = .inr (1, N) ∧ i < N) ∧ ∀ o i, gQ c.2.2.2.2 o i = 0
theorem evc_iv {run : Nat → List Value → cS → Option cS} (hr : ∀ y vs c c', run y vs c = some c' → ivC c → ivC c') : ∀ (ops : List mO) (loc : mL) (st : List Value) (c c' : cS), evc run ops loc st c = some c' → ivC c → ivC c' := by
  intro ops
  induction ops with
  | nil => intro loc st c c' h; cases h
  | cons op ops ih =>
    intro loc st c c' h hi
    obtain ⟨i, a, b, v, ts⟩ := op
    cases i with
    | aload_n k => rw [evc] at h; obtain ⟨x, -, h⟩ := lr1_some h; exact ih _ _ _ _ h hi
    | iconst k => rw [evc] at h; exact ih _ _ _ _ h hi
    | bipush k => rw [evc] at h; exact ih _ _ _ _ h hi
    | sipush k => rw [evc] at h; exact ih _ _ _ _ h hi
    | lconst k => rw [evc] at h; exact ih _ _ _ _ h hi
    | dup => rw [evc] at h; obtain ⟨w, r, -, -, h⟩ := pc1_some h; exact ih _ _ _ _ h hi
    | new k =>
      rw [evc] at h; obtain ⟨-, h⟩ := grd_some h
      refine ih _ _ _ _ h ⟨fun o i h0 => ?_, hi.2⟩
      obtain ⟨h1, N, h2, h3⟩ := hi.1 o i h0
      exact ⟨Nat.lt_succ_of_lt h1, N, (if_neg (Nat.ne_of_lt h1)).trans h2, h3⟩
    | newarray k =>
      rw [evc] at h; obtain ⟨x, r, -, h⟩ := pi1_some h
      obtain ⟨-, h⟩ := grd_some h; obtain ⟨-, h⟩ := grd_some h; obtain ⟨-, h⟩ := grd_some h
      refine ih _ _ _ _ h ⟨fun o i h0 => ?_, fun o i => ?_⟩
      · by_cases e : o = c.2.2.1
        · exact absurd (if_pos e) h0
        · have h0' : gA c.2.2.2.2 o i ≠ 0 := fun h9 => h0 ((if_neg e).trans h9)
          obtain ⟨h1, N, h2, h3⟩ := hi.1 o i h0'
          exact ⟨Nat.lt_succ_of_lt h1, N, (if_neg e).trans h2, h3⟩
      · by_cases e : o = c.2.2.1
        · exact if_pos e
        · exact (if_neg e).trans (hi.2 o i)
    | getfield k =>
      rw [evc] at h; obtain ⟨o, r, -, h⟩ := pr1_some h
      obtain ⟨-, h⟩ := grd_some h; obtain ⟨-, h⟩ := grd_some h; obtain ⟨-, h⟩ := grd_some h
      exact ih _ _ _ _ h hi
    | putfield k =>
      rw [evc] at h
      split at h
      · obtain ⟨x, o, r, -, h⟩ := plr_some h; obtain ⟨-, h⟩ := grd_some h; obtain ⟨-, h⟩ := grd_some h; exact ih _ _ _ _ h hi
      · obtain ⟨x, o, r, -, h⟩ := prr_some h; obtain ⟨-, h⟩ := grd_some h; obtain ⟨-, h⟩ := grd_some h; obtain ⟨-, h⟩ := grd_some h; exact ih _ _ _ _ h hi
      · obtain ⟨x, o, r, -, h⟩ := pir_some h; obtain ⟨-, h⟩ := grd_some h; obtain ⟨-, h⟩ := grd_some h; obtain ⟨-, h⟩ := grd_some h; exact ih _ _ _ _ h hi
      · obtain ⟨x, o, r, -, h⟩ := pir_some h; obtain ⟨-, h⟩ := grd_some h; obtain ⟨-, h⟩ := grd_some h; exact ih _ _ _ _ h hi
    | castore =>
      rw [evc] at h; obtain ⟨x, j, o, r, -, h⟩ := piir_some h
      obtain ⟨hb, h⟩ := grd_some h; obtain ⟨hlt, h⟩ := grd_some h; obtain ⟨-, h⟩ := grd_some h
      refine ih _ _ _ _ h ⟨fun o' i h0 => ?_, hi.2⟩
      by_cases e : o' = o ∧ i = ix j
      · obtain ⟨rfl, rfl⟩ := e
        refine ⟨Nat.le_of_ble_eq_true hlt, aln c.1 1 o', aln_spec rfl (inb_pos hb), inb_lt hb⟩
      · have h0' : gA c.2.2.2.2 o' i ≠ 0 := fun h9 => h0 (by
          show up2 (gA c.2.2.2.2) o (ix j) x o' i = 0
          unfold up2
          rw [if_neg e]; exact h9)
        exact hi.1 o' i h0'
    | invokespecial k =>
      rw [evc] at h
      split at h
      · obtain ⟨o, r, -, h⟩ := pr1_some h; obtain ⟨-, h⟩ := grd_some h; exact ih _ _ _ _ h hi
      · obtain ⟨pre, r, -, -, h⟩ := popN_some h
        obtain ⟨-, h⟩ := grd_some h; obtain ⟨-, h⟩ := grd_some h
        obtain ⟨c1, h1, h⟩ := Option.bind_eq_some_iff.mp h
        exact ih _ _ _ _ h (hr _ _ _ _ h1 hi)
    | return_ => rw [evc] at h; obtain ⟨-, h⟩ := rv0_some h; cases h; exact hi
    | _ => exact absurd (show none = some c' from h) (fun e => by cases e)
theorem runC_iv {code : Nat → List mO} : ∀ (d y : Nat) (vs : List Value) (c c' : cS), runC code d y vs c = some c' → ivC c → ivC c'
  | 0, _, _, _, _, h => by cases h
  | d + 1, y, vs, c, c', h => evc_iv (runC_iv d) _ _ _ _ _ (grd_some h).2
noncomputable def cBl (a : Nat) : cS := cNew (fun _ => .inl 99, fun _ _ => none, 0, 0, (fun _ _ => 0, fun _ _ => 0, fun _ _ => 0, fun _ _ => 0, 0)) a
theorem cBl_iv (a : Nat) : ivC (cBl a) := ⟨fun o i h => absurd rfl h, fun o i => rfl⟩
/-- one object of the world left behind, against the state that is claimed -/
noncomputable def ckO (S : mW) (R : Nat → Nat → Option Nat) (s : mS) (c : cS) (o : Nat) : Bool := match S o with
  | .inl ci => decide (c.1 o = .inl ci) && (List.range (mN ci)).all fun k => (match mKd ci k with
    | 1 => decide (gL c.2.2.2.2 (100 * ci + k) o = gL s (100 * ci + k) o)
    | 2 => decide (c.2.1 (100 * ci + k) o = R (100 * ci + k) o)
    | _ => decide (gI c.2.2.2.2 (100 * ci + k) o = gI s (100 * ci + k) o))
  | .inr q => decide (c.1 o = .inr q) && (match Nat.beq q.1 1 with
    | true => (List.range q.2).all fun i => decide (gA c.2.2.2.2 o i = gA s o i)
    | false => true)
noncomputable def ckC (S : mW) (R : Nat → Nat → Option Nat) (s : mS) (n sl : Nat) (r : Option cS) : Bool := match r with
  | some c => Nat.beq c.2.2.1 n && (Nat.beq c.2.2.2.1 sl && (List.range n).all (ckO S R s c))
  | none => false
theorem ckC_spec {S : mW} {R : Nat → Nat → Option Nat} {s : mS} {n sl a d y : Nat} (h : ckC S R s n sl (runC cCd d y [.ref 0] (cBl a)) = true) (hz : ∀ o i, gA s o i ≠ 0 → ∃ N, S o = .inr (1, N) ∧ i < N) (hq : ∀ o i, gQ s o i = 0) : ∃ c, runC cCd d y [.ref 0] (cBl a) = some c ∧ c.2.2.1 = n ∧ c.2.2.2.1 = sl ∧ ∀ (dA : Nat → ClassId) (B tS : Nat), cWs dA B tS c = mWs dA S R (mAd B tS) n s := by
  unfold ckC at h
  split at h
  · rename_i c hc
    rw [Bool.and_eq_true, Bool.and_eq_true] at h
    obtain ⟨h1, h2, h3⟩ := h
    have hn := Nat.eq_of_beq_eq_true h1
    have hiv := runC_iv _ _ _ _ _ hc (cBl_iv a)
    refine ⟨c, hc, hn, Nat.eq_of_beq_eq_true h2, fun dA B tS => ?_⟩
    unfold cWs
    rw [hn]
    unfold mWs
    refine List.map_congr_left (fun o ho => ?_)
    have ho := List.mem_range.mp ho
    show (mAd B tS o, _) = (mAd B tS o, _)
    congr 1
    have hk := List.all_eq_true.mp h3 o (List.mem_range.mpr ho)
    unfold ckO at hk
    split at hk
    · rename_i ci hS
      rw [Bool.and_eq_true] at hk
      rw [mEnt_obj (of_decide_eq_true hk.1), mEnt_obj hS]
      congr 2
      refine List.map_congr_left (fun k hkk => ?_)
      have h9 := List.all_eq_true.mp hk.2 k hkk
      unfold mFv
      split at h9
      · rename_i e; rw [e]; show Value.long _ = Value.long _; rw [of_decide_eq_true h9]
      · rename_i e; rw [e]; show va_rf _ = va_rf _; rw [of_decide_eq_true h9]
      · rename_i e1 e2
        have hlt := mKd_lt ci k
        generalize mKd ci k = z at *
        match z, hlt with
        | 0, _ => show Value.int _ = Value.int _; rw [of_decide_eq_true h9]
        | 1, _ => exact absurd rfl e1
        | 2, _ => exact absurd rfl e2
        | 3, _ => show Value.int _ = Value.int _; rw [of_decide_eq_true h9]
    · rename_i q hS
      rw [Bool.and_eq_true] at hk
      have hcS := of_decide_eq_true hk.1
      unfold mEnt
      rw [hcS, hS]
      have eA : (fun i => gA c.2.2.2.2 o i) = fun i => gA s o i := by
        funext i
        by_cases hc0 : gA c.2.2.2.2 o i = 0
        · by_cases hs0 : gA s o i = 0
          · rw [hc0, hs0]
          · obtain ⟨N, hN, hi⟩ := hz o i hs0
            have e := Sum.inr.inj (hS.symm.trans hN)
            have h9 := hk.2
            rw [e] at h9
            exact of_decide_eq_true (List.all_eq_true.mp h9 i (List.mem_range.mpr hi))
        · obtain ⟨-, N, hN, hi⟩ := hiv.1 o i hc0
          have e := Sum.inr.inj (hcS.symm.trans hN)
          have h9 := hk.2
          rw [e] at h9
          exact of_decide_eq_true (List.all_eq_true.mp h9 i (List.mem_range.mpr hi))
      have eQ : (fun i => gQ c.2.2.2.2 o i) = fun i => gQ s o i := by funext i; rw [hiv.2, hq]
      dsimp only
      rw [eA, eQ]
  · cases h
noncomputable def iI_x : Nat → Nat → Int32 := fun f o => match f, o with
  | 16, 0 => 1
  | 105, 32 => (-1)
  | 605, 18 => 260
  | 613, 18 => (-1)
  | _, _ => 0
noncomputable def iL_x : Nat → Nat → Int64 := fun f o => match f, o with
  | _, _ => 0
noncomputable def x0 : mS := (iI_x, fun _ _ => 0, iL_x, fun _ _ => 0, 12)
noncomputable def iI_m : Nat → Nat → Int32 := fun f o => match f, o with
  | 1008, 0 => (-1)
  | _, _ => 0
noncomputable def iL_m : Nat → Nat → Int64 := fun f o => match f, o with
  | 1063, 0 => 1
  | _, _ => 0
noncomputable def iA_m : Nat → List Int32 := fun o => match o with
  | 3 => [100, 111, 111, 114, 115]
  | 4 => [112, 111, 114, 116, 101, 114]
  | 5 => [116, 117, 114, 110, 115]
  | 6 => [112, 97, 105, 110, 116]
  | 7 => [111, 112, 101, 110]
  | 8 => [115, 116, 105, 102, 102]
  | 9 => [119, 97, 108, 107, 115]
  | 10 => [99, 111, 108, 100]
  | 11 => [105, 108, 108]
  | 12 => [110, 117, 109, 98, 101, 114]
  | 13 => [99, 111, 108, 111, 117, 114]
  | 14 => [116, 117, 114, 110, 101, 100]
  | 15 => [119, 104, 111]
  | 16 => [110, 105, 103, 104, 116]
  | 17 => [111, 112, 101, 110, 101, 100]
  | 18 => [116, 105, 114, 101, 100]
  | 19 => [106, 97, 109, 109, 101, 100]
  | 20 => [98, 121]
  | 21 => [110, 101, 97, 114]
  | 22 => [111, 114]
  | 23 => [97, 110, 100]
  | 24 => [110, 111, 116]
  | 25 => [97, 108, 108]
  | 26 => [109, 105, 110]
  | 27 => [109, 97, 120]
  | 41 => [102, 105, 114, 115, 116]
  | 42 => [108, 97, 115, 116]
  | 43 => [111, 102, 116, 101, 110]
  | 44 => [116, 111, 116, 97, 108]
  | 45 => [109, 111, 115, 116]
  | 46 => [108, 101, 97, 115, 116]
  | 47 => [110, 111, 116]
  | 48 => [97, 110, 100]
  | 49 => [111, 114]
  | 50 => [97, 108, 108]
  | 51 => [109, 105, 110]
  | 52 => [109, 97, 120]
  | 53 => [110, 105, 103, 104, 116]
  | 54 => [110, 117, 109, 98, 101, 114]
  | 55 => [99, 111, 108, 111, 117, 114]
  | 56 => [111, 112, 101, 110]
  | 57 => [116, 117, 114, 110, 101, 100]
  | 58 => [119, 104, 111]
  | 59 => [111, 112, 101, 110, 101, 100]
  | 60 => [116, 105, 114, 101, 100]
  | 61 => [106, 97, 109, 109, 101, 100]
  | 62 => [98, 121]
  | 63 => [110, 101, 97, 114]
  | _ => []
noncomputable def m0 : mS := (iI_m, fun o i => (iA_m o).getD i 0, iL_m, fun _ _ => 0, 0)
set_option maxRecDepth 20000 in
theorem mk_x : ∃ c, runC cCd 5 0 [.ref 0] (cBl 0) = some c ∧ c.2.2.1 = nx ∧ c.2.2.2.1 = 12597 ∧ ∀ (dA : Nat → ClassId) (B tS : Nat), cWs dA B tS c = mWs dA Sx (Rf R0x oFx x0) (mAd B tS) nx x0 := ckC_spec (by decide +kernel) (fun o i h => absurd rfl h) (fun o i => rfl)
theorem m0_nz : ∀ o i, gA m0 o i ≠ 0 → ∃ N, Sm o = .inr (1, N) ∧ i < N := by
  intro o i h
  have key : ∀ N, Sm o = .inr (1, N) → (iA_m o).length = N → ∃ N, Sm o = .inr (1, N) ∧ i < N := fun N h1 h2 => ⟨N, h1, by
    rw [← h2]
    refine Nat.lt_of_not_le (fun h9 => h ?_)
    show (iA_m o).getD i 0 = 0
    rw [List.getD_eq_getElem?_getD, List.getElem?_eq_none h9]; rfl⟩
  match o with
  | 3 => exact key 5 (by decide +kernel) rfl
  | 4 => exact key 6 (by decide +kernel) rfl
  | 5 => exact key 5 (by decide +kernel) rfl
  | 6 => exact key 5 (by decide +kernel) rfl
  | 7 => exact key 4 (by decide +kernel) rfl
  | 8 => exact key 5 (by decide +kernel) rfl
  | 9 => exact key 5 (by decide +kernel) rfl
  | 10 => exact key 4 (by decide +kernel) rfl
  | 11 => exact key 3 (by decide +kernel) rfl
  | 12 => exact key 6 (by decide +kernel) rfl
  | 13 => exact key 6 (by decide +kernel) rfl
  | 14 => exact key 6 (by decide +kernel) rfl
  | 15 => exact key 3 (by decide +kernel) rfl
  | 16 => exact key 5 (by decide +kernel) rfl
  | 17 => exact key 6 (by decide +kernel) rfl
  | 18 => exact key 5 (by decide +kernel) rfl
  | 19 => exact key 6 (by decide +kernel) rfl
  | 20 => exact key 2 (by decide +kernel) rfl
  | 21 => exact key 4 (by decide +kernel) rfl
  | 22 => exact key 2 (by decide +kernel) rfl
  | 23 => exact key 3 (by decide +kernel) rfl
  | 24 => exact key 3 (by decide +kernel) rfl
  | 25 => exact key 3 (by decide +kernel) rfl
  | 26 => exact key 3 (by decide +kernel) rfl
  | 27 => exact key 3 (by decide +kernel) rfl
  | 41 => exact key 5 (by decide +kernel) rfl
  | 42 => exact key 4 (by decide +kernel) rfl
  | 43 => exact key 5 (by decide +kernel) rfl
  | 44 => exact key 5 (by decide +kernel) rfl
  | 45 => exact key 4 (by decide +kernel) rfl
  | 46 => exact key 5 (by decide +kernel) rfl
  | 47 => exact key 3 (by decide +kernel) rfl
  | 48 => exact key 3 (by decide +kernel) rfl
  | 49 => exact key 2 (by decide +kernel) rfl
  | 50 => exact key 3 (by decide +kernel) rfl
  | 51 => exact key 3 (by decide +kernel) rfl
  | 52 => exact key 3 (by decide +kernel) rfl
  | 53 => exact key 5 (by decide +kernel) rfl
  | 54 => exact key 6 (by decide +kernel) rfl
  | 55 => exact key 6 (by decide +kernel) rfl
  | 56 => exact key 4 (by decide +kernel) rfl
  | 57 => exact key 6 (by decide +kernel) rfl
  | 58 => exact key 3 (by decide +kernel) rfl
  | 59 => exact key 6 (by decide +kernel) rfl
  | 60 => exact key 5 (by decide +kernel) rfl
  | 61 => exact key 6 (by decide +kernel) rfl
  | 62 => exact key 2 (by decide +kernel) rfl
  | 63 => exact key 4 (by decide +kernel) rfl
  | 0 => exact absurd rfl h
  | 1 => exact absurd rfl h
  | 2 => exact absurd rfl h
  | 28 => exact absurd rfl h
  | 29 => exact absurd rfl h
  | 30 => exact absurd rfl h
  | 31 => exact absurd rfl h
  | 32 => exact absurd rfl h
  | 33 => exact absurd rfl h
  | 34 => exact absurd rfl h
  | 35 => exact absurd rfl h
  | 36 => exact absurd rfl h
  | 37 => exact absurd rfl h
  | 38 => exact absurd rfl h
  | 39 => exact absurd rfl h
  | 40 => exact absurd rfl h
  | 64 => exact absurd rfl h
  | 65 => exact absurd rfl h
  | 66 => exact absurd rfl h
  | 67 => exact absurd rfl h
  | n + 68 => exact absurd rfl h
set_option maxRecDepth 20000 in
theorem mk_m : ∃ c, runC cCd 5 142 [.ref 0] (cBl 10) = some c ∧ c.2.2.1 = nm ∧ c.2.2.2.1 = 16894 ∧ ∀ (dA : Nat → ClassId) (B tS : Nat), cWs dA B tS c = mWs dA Sm (Rf R0m oFm m0) (mAd B tS) nm m0 := ckC_spec (by decide +kernel) m0_nz (fun o i => rfl)
