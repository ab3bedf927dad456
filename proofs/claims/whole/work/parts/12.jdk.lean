/-! METHOD java/lang/Math.min(II)I -/
set_option maxRecDepth 20000 in
noncomputable def q_Math_min : mI := (⟨"java/lang/Math", "min", "(II)I"⟩, prog_15_method_69_code, 2, (some .int), 14, 541, 140, 0, 2, 540, 0)
theorem y_Math_min : mT[277]? = some q_Math_min := mT_at_6 (k := 37) rfl
noncomputable def bl_Math_min : List (Nat × List mO) := [(0, [o0 (.iload_n 0), o0 (.iload_n 1), o1 (.if_icmp .gt 7) 9, o0 (.iload_n 0), o1 (.goto 4) 10]),
  (9, [o0 (.iload_n 1)]),
  (10, [o0 (.ireturn)])]
theorem bk_Math_min : okBlks q_Math_min bl_Math_min = true := by decide +kernel
noncomputable def oL_Math_min {ρ : Type} (N : Nat) : List (Nat × (List Value → mS → (Option Value → mS → Option ρ) → Option ρ)) := []
theorem oo_Math_min {ρ : Type} {t0 : ρ} (N : Nat) {S : mW} {R0 : Nat → Nat → Option Nat} {oF n : Nat} (hw : mOF S oF n) : OrcOK S R0 oF n 1 t0 (mOrc (oL_Math_min N)) := mOrc_OK (mz_nil)
noncomputable def f_Math_min (N : Nat) (a0 : Int32) (a1 : Int32) (s : mS) : Option (Int32 × mS) :=
  if a1 < a0 then
    some (a1, s)
  else
    some (a0, s)
set_option maxRecDepth 100000 in
set_option maxHeartbeats 4000000 in
theorem m_Math_min (N : Nat) {S : mW} {R0 : Nat → Nat → Option Nat} {oF n : Nat} (hw : mOF S oF n) {x9 : Int32} {s9 : mS} (a0 : Int32) (a1 : Int32) {s : mS} (h : f_Math_min N a0 a1 s = some (x9, s9)) : MetM S R0 oF n 1 277 [.int a0, .int a1] s (some (.int x9)) s9 := by
  refine met_of_G (q := q_Math_min) (t0 := (x9, s9)) y_Math_min (Nat.le_of_ble_eq_true rfl) ?_
  rw [← h]
  exact G_eq (mEv_G (orc := mOrc (oL_Math_min N)) (ret := rtI) (blks := bl_Math_min) (cuts := []) hw (by decide) (oo_Math_min N hw) (RetOK_I rfl) bk_Math_min (mz_nil)) rfl
noncomputable def C_Math_min {ρ : Type} (N : Nat) : List Value → mS → (Option Value → mS → Option ρ) → Option ρ := fun vs s kk => pi1 vs fun a0 r0 => pi1 r0 fun a1 r1 => rv0 r1 ((f_Math_min N a0 a1 s).bind fun p => kk (some (.int p.1)) p.2)
theorem cs_Math_min {ρ : Type} {t0 : ρ} {d : Nat} (N : Nat) {S : mW} {R0 : Nat → Nat → Option Nat} {oF n : Nat} (hw : mOF S oF n) (hd : 1 + 1 ≤ d) : CallOK S R0 oF n d t0 277 (C_Math_min N) := by
  intro vs s kk h0
  obtain ⟨a0, r0, rfl, h1⟩ := pi1_some h0
  obtain ⟨a1, r1, rfl, h2⟩ := pi1_some h1
  obtain ⟨rfl, h3⟩ := rv0_some h2
  obtain ⟨p, hp, hk⟩ := Option.bind_eq_some_iff.mp h3
  exact ⟨_, _, _, hd, m_Math_min N hw a0 a1 hp, hk, fun qy hq hf => by cases y_Math_min.symm.trans hq; exact absurd hf (by decide)⟩
/-! METHOD java/lang/Integer.bitCount(I)I -/
set_option maxRecDepth 20000 in
noncomputable def q_Int_bitCount : mI := (⟨"java/lang/Integer", "bitCount", "(I)I"⟩, prog_14_method_49_code, 1, (some .int), 13, 687, 143, 0, 1, 686, 0)
theorem y_Int_bitCount : mT[276]? = some q_Int_bitCount := mT_at_6 (k := 36) rfl
noncomputable def bl_Int_bitCount : List (Nat × List mO) := [(0, [o0 (.iload_n 0), o0 (.iload_n 0), o0 (.iconst 1), o0 (.iushr), oC (.ldc_w 265) (.int 1431655765), o0 (.iand), o0 (.isub), o0 (.istore_n 0), o0 (.iload_n 0), oC (.ldc_w 266) (.int 858993459), o0 (.iand), o0 (.iload_n 0), o0 (.iconst 2), o0 (.iushr), oC (.ldc_w 266) (.int 858993459), o0 (.iand), o0 (.iadd), o0 (.istore_n 0), o0 (.iload_n 0), o0 (.iload_n 0), o0 (.iconst 4), o0 (.iushr), o0 (.iadd), oC (.ldc_w 267) (.int 252645135), o0 (.iand), o0 (.istore_n 0), o0 (.iload_n 0), o0 (.iload_n 0), o0 (.bipush 8), o0 (.iushr), o0 (.iadd), o0 (.istore_n 0), o0 (.iload_n 0), o0 (.iload_n 0), o0 (.bipush 16), o0 (.iushr), o0 (.iadd), o0 (.istore_n 0), o0 (.iload_n 0), o0 (.bipush 63), o0 (.iand), o0 (.ireturn)])]
theorem bk_Int_bitCount : okBlks q_Int_bitCount bl_Int_bitCount = true := by decide +kernel
noncomputable def oL_Int_bitCount {ρ : Type} (N : Nat) : List (Nat × (List Value → mS → (Option Value → mS → Option ρ) → Option ρ)) := []
theorem oo_Int_bitCount {ρ : Type} {t0 : ρ} (N : Nat) {S : mW} {R0 : Nat → Nat → Option Nat} {oF n : Nat} (hw : mOF S oF n) : OrcOK S R0 oF n 1 t0 (mOrc (oL_Int_bitCount N)) := mOrc_OK (mz_nil)
noncomputable def f_Int_bitCount (N : Nat) (a0 : Int32) (s : mS) : Option (Int32 × mS) :=
  let v1 := (((a0 - ((ius a0 1) &&& 1431655765)) &&& 858993459) + ((ius (a0 - ((ius a0 1) &&& 1431655765)) 2) &&& 858993459))
  let v2 := (((v1 + (ius v1 4)) &&& 252645135) + (ius ((v1 + (ius v1 4)) &&& 252645135) 8))
  some (((v2 + (ius v2 16)) &&& 63), s)
set_option maxRecDepth 100000 in
set_option maxHeartbeats 4000000 in
theorem m_Int_bitCount (N : Nat) {S : mW} {R0 : Nat → Nat → Option Nat} {oF n : Nat} (hw : mOF S oF n) {x9 : Int32} {s9 : mS} (a0 : Int32) {s : mS} (h : f_Int_bitCount N a0 s = some (x9, s9)) : MetM S R0 oF n 1 276 [.int a0] s (some (.int x9)) s9 := by
  refine met_of_G (q := q_Int_bitCount) (t0 := (x9, s9)) y_Int_bitCount (Nat.le_of_ble_eq_true rfl) ?_
  rw [← h]
  exact G_eq (mEv_G (orc := mOrc (oL_Int_bitCount N)) (ret := rtI) (blks := bl_Int_bitCount) (cuts := []) hw (by decide) (oo_Int_bitCount N hw) (RetOK_I rfl) bk_Int_bitCount (mz_nil)) rfl
noncomputable def C_Int_bitCount {ρ : Type} (N : Nat) : List Value → mS → (Option Value → mS → Option ρ) → Option ρ := fun vs s kk => pi1 vs fun a0 r0 => rv0 r0 ((f_Int_bitCount N a0 s).bind fun p => kk (some (.int p.1)) p.2)
theorem cs_Int_bitCount {ρ : Type} {t0 : ρ} {d : Nat} (N : Nat) {S : mW} {R0 : Nat → Nat → Option Nat} {oF n : Nat} (hw : mOF S oF n) (hd : 1 + 1 ≤ d) : CallOK S R0 oF n d t0 276 (C_Int_bitCount N) := by
  intro vs s kk h0
  obtain ⟨a0, r0, rfl, h1⟩ := pi1_some h0
  obtain ⟨rfl, h2⟩ := rv0_some h1
  obtain ⟨p, hp, hk⟩ := Option.bind_eq_some_iff.mp h2
  exact ⟨_, _, _, hd, m_Int_bitCount N hw a0 hp, hk, fun qy hq hf => by cases y_Int_bitCount.symm.trans hq; exact absurd hf (by decide)⟩
/-! METHOD java/lang/Math.max(II)I -/
set_option maxRecDepth 20000 in
noncomputable def q_Math_max : mI := (⟨"java/lang/Math", "max", "(II)I"⟩, prog_15_method_65_code, 2, (some .int), 14, 760, 140, 0, 2, 759, 0)
theorem y_Math_max : mT[278]? = some q_Math_max := mT_at_6 (k := 38) rfl
noncomputable def bl_Math_max : List (Nat × List mO) := [(0, [o0 (.iload_n 0), o0 (.iload_n 1), o1 (.if_icmp .lt 7) 9, o0 (.iload_n 0), o1 (.goto 4) 10]),
  (9, [o0 (.iload_n 1)]),
  (10, [o0 (.ireturn)])]
theorem bk_Math_max : okBlks q_Math_max bl_Math_max = true := by decide +kernel
noncomputable def oL_Math_max {ρ : Type} (N : Nat) : List (Nat × (List Value → mS → (Option Value → mS → Option ρ) → Option ρ)) := []
theorem oo_Math_max {ρ : Type} {t0 : ρ} (N : Nat) {S : mW} {R0 : Nat → Nat → Option Nat} {oF n : Nat} (hw : mOF S oF n) : OrcOK S R0 oF n 1 t0 (mOrc (oL_Math_max N)) := mOrc_OK (mz_nil)
noncomputable def f_Math_max (N : Nat) (a0 : Int32) (a1 : Int32) (s : mS) : Option (Int32 × mS) :=
  if a0 < a1 then
    some (a1, s)
  else
    some (a0, s)
set_option maxRecDepth 100000 in
set_option maxHeartbeats 4000000 in
theorem m_Math_max (N : Nat) {S : mW} {R0 : Nat → Nat → Option Nat} {oF n : Nat} (hw : mOF S oF n) {x9 : Int32} {s9 : mS} (a0 : Int32) (a1 : Int32) {s : mS} (h : f_Math_max N a0 a1 s = some (x9, s9)) : MetM S R0 oF n 1 278 [.int a0, .int a1] s (some (.int x9)) s9 := by
  refine met_of_G (q := q_Math_max) (t0 := (x9, s9)) y_Math_max (Nat.le_of_ble_eq_true rfl) ?_
  rw [← h]
  exact G_eq (mEv_G (orc := mOrc (oL_Math_max N)) (ret := rtI) (blks := bl_Math_max) (cuts := []) hw (by decide) (oo_Math_max N hw) (RetOK_I rfl) bk_Math_max (mz_nil)) rfl
noncomputable def C_Math_max {ρ : Type} (N : Nat) : List Value → mS → (Option Value → mS → Option ρ) → Option ρ := fun vs s kk => pi1 vs fun a0 r0 => pi1 r0 fun a1 r1 => rv0 r1 ((f_Math_max N a0 a1 s).bind fun p => kk (some (.int p.1)) p.2)
theorem cs_Math_max {ρ : Type} {t0 : ρ} {d : Nat} (N : Nat) {S : mW} {R0 : Nat → Nat → Option Nat} {oF n : Nat} (hw : mOF S oF n) (hd : 1 + 1 ≤ d) : CallOK S R0 oF n d t0 278 (C_Math_max N) := by
  intro vs s kk h0
  obtain ⟨a0, r0, rfl, h1⟩ := pi1_some h0
  obtain ⟨a1, r1, rfl, h2⟩ := pi1_some h1
  obtain ⟨rfl, h3⟩ := rv0_some h2
  obtain ⟨p, hp, hk⟩ := Option.bind_eq_some_iff.mp h3
  exact ⟨_, _, _, hd, m_Math_max N hw a0 a1 hp, hk, fun qy hq hf => by cases y_Math_max.symm.trans hq; exact absurd hf (by decide)⟩
/-! METHOD java/lang/Math.max(JJ)J -/
set_option maxRecDepth 20000 in
noncomputable def q_Math_maxL : mI := (⟨"java/lang/Math", "max", "(JJ)J"⟩, prog_15_method_66_code, 4, (some .long), 14, 766, 140, 0, 2, 765, 0)
theorem y_Math_maxL : mT[279]? = some q_Math_maxL := mT_at_6 (k := 39) rfl
noncomputable def bl_Math_maxL : List (Nat × List mO) := [(0, [o0 (.lload_n 0), o0 (.lload_n 2), o0 (.lcmp), o1 (.ifCond .lt 7) 10, o0 (.lload_n 0), o1 (.goto 4) 11]),
  (10, [o0 (.lload_n 2)]),
  (11, [o0 (.lreturn)])]
theorem bk_Math_maxL : okBlks q_Math_maxL bl_Math_maxL = true := by decide +kernel
noncomputable def oL_Math_maxL {ρ : Type} (N : Nat) : List (Nat × (List Value → mS → (Option Value → mS → Option ρ) → Option ρ)) := []
theorem oo_Math_maxL {ρ : Type} {t0 : ρ} (N : Nat) {S : mW} {R0 : Nat → Nat → Option Nat} {oF n : Nat} (hw : mOF S oF n) : OrcOK S R0 oF n 1 t0 (mOrc (oL_Math_maxL N)) := mOrc_OK (mz_nil)
noncomputable def f_Math_maxL (N : Nat) (a0 : Int64) (a2 : Int64) (s : mS) : Option (Int64 × mS) :=
  if (lg_cmp a0 a2) < 0 then
    some (a2, s)
  else
    some (a0, s)
set_option maxRecDepth 100000 in
set_option maxHeartbeats 4000000 in
theorem m_Math_maxL (N : Nat) {S : mW} {R0 : Nat → Nat → Option Nat} {oF n : Nat} (hw : mOF S oF n) {x9 : Int64} {s9 : mS} (a0 : Int64) (a2 : Int64) {s : mS} (h : f_Math_maxL N a0 a2 s = some (x9, s9)) : MetM S R0 oF n 1 279 [.long a0, .long a2] s (some (.long x9)) s9 := by
  refine met_of_G (q := q_Math_maxL) (t0 := (x9, s9)) y_Math_maxL (Nat.le_of_ble_eq_true rfl) ?_
  rw [← h]
  exact G_eq (mEv_G (orc := mOrc (oL_Math_maxL N)) (ret := rtL) (blks := bl_Math_maxL) (cuts := []) hw (by decide) (oo_Math_maxL N hw) (RetOK_L rfl) bk_Math_maxL (mz_nil)) rfl
noncomputable def C_Math_maxL {ρ : Type} (N : Nat) : List Value → mS → (Option Value → mS → Option ρ) → Option ρ := fun vs s kk => pl1 vs fun a0 r0 => pl1 r0 fun a2 r1 => rv0 r1 ((f_Math_maxL N a0 a2 s).bind fun p => kk (some (.long p.1)) p.2)
theorem cs_Math_maxL {ρ : Type} {t0 : ρ} {d : Nat} (N : Nat) {S : mW} {R0 : Nat → Nat → Option Nat} {oF n : Nat} (hw : mOF S oF n) (hd : 1 + 1 ≤ d) : CallOK S R0 oF n d t0 279 (C_Math_maxL N) := by
  intro vs s kk h0
  obtain ⟨a0, r0, rfl, h1⟩ := pl1_some h0
  obtain ⟨a2, r1, rfl, h2⟩ := pl1_some h1
  obtain ⟨rfl, h3⟩ := rv0_some h2
  obtain ⟨p, hp, hk⟩ := Option.bind_eq_some_iff.mp h3
  exact ⟨_, _, _, hd, m_Math_maxL N hw a0 a2 hp, hk, fun qy hq hf => by cases y_Math_maxL.symm.trans hq; exact absurd hf (by decide)⟩
/-! METHOD java/lang/Math.min(JJ)J -/
set_option maxRecDepth 20000 in
noncomputable def q_Math_minL : mI := (⟨"java/lang/Math", "min", "(JJ)J"⟩, prog_15_method_70_code, 4, (some .long), 14, 769, 140, 0, 2, 768, 0)
theorem y_Math_minL : mT[280]? = some q_Math_minL := mT_at_7 (k := 0) rfl
noncomputable def bl_Math_minL : List (Nat × List mO) := [(0, [o0 (.lload_n 0), o0 (.lload_n 2), o0 (.lcmp), o1 (.ifCond .gt 7) 10, o0 (.lload_n 0), o1 (.goto 4) 11]),
  (10, [o0 (.lload_n 2)]),
  (11, [o0 (.lreturn)])]
theorem bk_Math_minL : okBlks q_Math_minL bl_Math_minL = true := by decide +kernel
noncomputable def oL_Math_minL {ρ : Type} (N : Nat) : List (Nat × (List Value → mS → (Option Value → mS → Option ρ) → Option ρ)) := []
theorem oo_Math_minL {ρ : Type} {t0 : ρ} (N : Nat) {S : mW} {R0 : Nat → Nat → Option Nat} {oF n : Nat} (hw : mOF S oF n) : OrcOK S R0 oF n 1 t0 (mOrc (oL_Math_minL N)) := mOrc_OK (mz_nil)
noncomputable def f_Math_minL (N : Nat) (a0 : Int64) (a2 : Int64) (s : mS) : Option (Int64 × mS) :=
  if 0 < (lg_cmp a0 a2) then
    some (a2, s)
  else
    some (a0, s)
set_option maxRecDepth 100000 in
set_option maxHeartbeats 4000000 in
theorem m_Math_minL (N : Nat) {S : mW} {R0 : Nat → Nat → Option Nat} {oF n : Nat} (hw : mOF S oF n) {x9 : Int64} {s9 : mS} (a0 : Int64) (a2 : Int64) {s : mS} (h : f_Math_minL N a0 a2 s = some (x9, s9)) : MetM S R0 oF n 1 280 [.long a0, .long a2] s (some (.long x9)) s9 := by
  refine met_of_G (q := q_Math_minL) (t0 := (x9, s9)) y_Math_minL (Nat.le_of_ble_eq_true rfl) ?_
  rw [← h]
  exact G_eq (mEv_G (orc := mOrc (oL_Math_minL N)) (ret := rtL) (blks := bl_Math_minL) (cuts := []) hw (by decide) (oo_Math_minL N hw) (RetOK_L rfl) bk_Math_minL (mz_nil)) rfl
noncomputable def C_Math_minL {ρ : Type} (N : Nat) : List Value → mS → (Option Value → mS → Option ρ) → Option ρ := fun vs s kk => pl1 vs fun a0 r0 => pl1 r0 fun a2 r1 => rv0 r1 ((f_Math_minL N a0 a2 s).bind fun p => kk (some (.long p.1)) p.2)
theorem cs_Math_minL {ρ : Type} {t0 : ρ} {d : Nat} (N : Nat) {S : mW} {R0 : Nat → Nat → Option Nat} {oF n : Nat} (hw : mOF S oF n) (hd : 1 + 1 ≤ d) : CallOK S R0 oF n d t0 280 (C_Math_minL N) := by
  intro vs s kk h0
  obtain ⟨a0, r0, rfl, h1⟩ := pl1_some h0
  obtain ⟨a2, r1, rfl, h2⟩ := pl1_some h1
  obtain ⟨rfl, h3⟩ := rv0_some h2
  obtain ⟨p, hp, hk⟩ := Option.bind_eq_some_iff.mp h3
  exact ⟨_, _, _, hd, m_Math_minL N hw a0 a2 hp, hk, fun qy hq hf => by cases y_Math_minL.symm.trans hq; exact absurd hf (by decide)⟩
/-! METHOD java/lang/Math.floorDiv(II)I -/
set_option maxRecDepth 20000 in
noncomputable def q_Math_floorDiv : mI := (⟨"java/lang/Math", "floorDiv", "(II)I"⟩, prog_15_method_47_code, 3, (some .int), 14, 772, 140, 0, 2, 771, 0)
theorem y_Math_floorDiv : mT[281]? = some q_Math_floorDiv := mT_at_7 (k := 1) rfl
noncomputable def bl_Math_floorDiv : List (Nat × List mO) := [(0, [o0 (.iload_n 0), o0 (.iload_n 1), o0 (.idiv), o0 (.istore_n 2), o0 (.iload_n 0), o0 (.iload_n 1), o0 (.ixor), o1 (.ifCond .ge 14) 21, o0 (.iload_n 2), o0 (.iload_n 1), o0 (.imul), o0 (.iload_n 0), o1 (.if_icmp .eq 7) 21, o0 (.iload_n 2), o0 (.iconst 1), o0 (.isub), o0 (.ireturn)]),
  (21, [o0 (.iload_n 2), o0 (.ireturn)])]
theorem bk_Math_floorDiv : okBlks q_Math_floorDiv bl_Math_floorDiv = true := by decide +kernel
noncomputable def oL_Math_floorDiv {ρ : Type} (N : Nat) : List (Nat × (List Value → mS → (Option Value → mS → Option ρ) → Option ρ)) := []
theorem oo_Math_floorDiv {ρ : Type} {t0 : ρ} (N : Nat) {S : mW} {R0 : Nat → Nat → Option Nat} {oF n : Nat} (hw : mOF S oF n) : OrcOK S R0 oF n 1 t0 (mOrc (oL_Math_floorDiv N)) := mOrc_OK (mz_nil)
noncomputable def f_Math_floorDiv (N : Nat) (a0 : Int32) (a1 : Int32) (s : mS) : Option (Int32 × mS) :=
  grd (!decide (a1 = 0)) (
  if (a0 ^^^ a1) < 0 then
    if ((a0 / a1) * a1) = a0 then
      some ((a0 / a1), s)
    else
      some (((a0 / a1) - 1), s)
  else
    some ((a0 / a1), s))
set_option maxRecDepth 100000 in
set_option maxHeartbeats 4000000 in
theorem m_Math_floorDiv (N : Nat) {S : mW} {R0 : Nat → Nat → Option Nat} {oF n : Nat} (hw : mOF S oF n) {x9 : Int32} {s9 : mS} (a0 : Int32) (a1 : Int32) {s : mS} (h : f_Math_floorDiv N a0 a1 s = some (x9, s9)) : MetM S R0 oF n 1 281 [.int a0, .int a1] s (some (.int x9)) s9 := by
  refine met_of_G (q := q_Math_floorDiv) (t0 := (x9, s9)) y_Math_floorDiv (Nat.le_of_ble_eq_true rfl) ?_
  rw [← h]
  exact G_eq (mEv_G (orc := mOrc (oL_Math_floorDiv N)) (ret := rtI) (blks := bl_Math_floorDiv) (cuts := []) hw (by decide) (oo_Math_floorDiv N hw) (RetOK_I rfl) bk_Math_floorDiv (mz_nil)) rfl
noncomputable def C_Math_floorDiv {ρ : Type} (N : Nat) : List Value → mS → (Option Value → mS → Option ρ) → Option ρ := fun vs s kk => pi1 vs fun a0 r0 => pi1 r0 fun a1 r1 => rv0 r1 ((f_Math_floorDiv N a0 a1 s).bind fun p => kk (some (.int p.1)) p.2)
theorem cs_Math_floorDiv {ρ : Type} {t0 : ρ} {d : Nat} (N : Nat) {S : mW} {R0 : Nat → Nat → Option Nat} {oF n : Nat} (hw : mOF S oF n) (hd : 1 + 1 ≤ d) : CallOK S R0 oF n d t0 281 (C_Math_floorDiv N) := by
  intro vs s kk h0
  obtain ⟨a0, r0, rfl, h1⟩ := pi1_some h0
  obtain ⟨a1, r1, rfl, h2⟩ := pi1_some h1
  obtain ⟨rfl, h3⟩ := rv0_some h2
  obtain ⟨p, hp, hk⟩ := Option.bind_eq_some_iff.mp h3
  exact ⟨_, _, _, hd, m_Math_floorDiv N hw a0 a1 hp, hk, fun qy hq hf => by cases y_Math_floorDiv.symm.trans hq; exact absurd hf (by decide)⟩
