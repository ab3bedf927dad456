/-! METHOD PorterDoors.refuse(I)Z -/
set_option maxRecDepth 20000 in
noncomputable def q_X_refuse : mI := (⟨"PorterDoors", "refuse", "(I)Z"⟩, prog_1_method_40_code, 2, (some .boolean), 0, 502, 129, 1, 1, 501, 0)
theorem y_X_refuse : mT[2]? = some q_X_refuse := mT_at_0 (k := 2) rfl
noncomputable def bl_X_refuse : List (Nat × List mO) := [(0, [o0 (.aload_n 0), o2 (.getfield 100) 0 15, o0 (.iload_n 1), o0 (.dup2), o0 (.iaload), o0 (.iconst 1), o0 (.iadd), o0 (.iastore), o0 (.iconst 0), o0 (.ireturn)])]
theorem bk_X_refuse : okBlks q_X_refuse bl_X_refuse = true := by decide +kernel
noncomputable def oL_X_refuse {ρ : Type} (N : Nat) : List (Nat × (List Value → mS → (Option Value → mS → Option ρ) → Option ρ)) := []
theorem oo_X_refuse {ρ : Type} {t0 : ρ} (N : Nat) : OrcOK Sx R0x oFx nx 1 t0 (mOrc (oL_X_refuse N)) := mOrc_OK (mz_nil)
noncomputable def f_X_refuse (N : Nat) (a1 : Int32) (s : mS) : Option (Int32 × mS) :=
  grd (inb a1 6) (
  grd (inb a1 6) (
  let s1 := sA s 41 (ix a1) ((gA s 41 (ix a1)) + 1)
  some (0, s1)))
set_option maxRecDepth 100000 in
set_option maxHeartbeats 4000000 in
theorem m_X_refuse (N : Nat) {x9 : Int32} {s9 : mS} (a1 : Int32) {s : mS} (h : f_X_refuse N a1 s = some (x9, s9)) : MetM Sx R0x oFx nx 1 2 [.ref 0, .int a1] s (some (.int x9)) s9 := by
  refine met_of_G (q := q_X_refuse) (t0 := (x9, s9)) y_X_refuse (Nat.le_of_ble_eq_true rfl) ?_
  rw [← h]
  exact G_eq (mEv_G (orc := mOrc (oL_X_refuse N)) (ret := rtZ) (blks := bl_X_refuse) (cuts := []) wOKx (by decide) (oo_X_refuse N) (RetOK_Z rfl) bk_X_refuse (mz_nil)) rfl
noncomputable def C_X_refuse {ρ : Type} (N : Nat) : List Value → mS → (Option Value → mS → Option ρ) → Option ρ := fun vs s kk => sR vs 0 fun r0 => pi1 r0 fun a1 r1 => rv0 r1 ((f_X_refuse N a1 s).bind fun p => kk (some (.int p.1)) p.2)
theorem cs_X_refuse {ρ : Type} {t0 : ρ} {d : Nat} (N : Nat) (hd : 1 + 1 ≤ d) : CallOK Sx R0x oFx nx d t0 2 (C_X_refuse N) := by
  intro vs s kk h0
  obtain ⟨r0, rfl, h1⟩ := sR_some h0
  obtain ⟨a1, r1, rfl, h2⟩ := pi1_some h1
  obtain ⟨rfl, h3⟩ := rv0_some h2
  obtain ⟨p, hp, hk⟩ := Option.bind_eq_some_iff.mp h3
  exact ⟨_, _, _, hd, m_X_refuse N a1 hp, hk, fun qy hq hf => by cases y_X_refuse.symm.trans hq; exact ⟨_, _, rfl, rfl⟩⟩
/-! METHOD PorterDoors.tapeNumber(I)V -/
set_option maxRecDepth 20000 in
noncomputable def q_X_tapeNumber : mI := (⟨"PorterDoors", "tapeNumber", "(I)V"⟩, prog_1_method_47_code, 3, none, 0, 506, 129, 1, 1, 505, 1)
theorem y_X_tapeNumber : mT[3]? = some q_X_tapeNumber := mT_at_0 (k := 3) rfl
noncomputable def bl_X_tapeNumber : List (Nat × List mO) := [(0, [o0 (.bipush 24), o0 (.istore_n 2)]),
  (3, [o0 (.iload_n 2), o1 (.ifCond .lt 45) 49, o0 (.aload_n 0), o2 (.getfield 13) 0 1, o0 (.sipush 1600), o1 (.if_icmp .ge 35) 49, o0 (.aload_n 0), o2 (.getfield 9) 0 0, o0 (.aload_n 0), o2 (.getfield 13) 0 1, o0 (.iload_n 1), o0 (.iload_n 2), o0 (.ishr), o0 (.sipush 255), o0 (.iand), o0 (.iastore), o0 (.aload_n 0), o0 (.dup), o2 (.getfield 13) 0 1, o0 (.iconst 1), o0 (.iadd), o2 (.putfield 13) 0 1, o0 (.iinc 2 (-8)), o1 (.goto (-43)) 3]),
  (49, [o0 (.return_)])]
theorem bk_X_tapeNumber : okBlks q_X_tapeNumber bl_X_tapeNumber = true := by decide +kernel
noncomputable def oL_X_tapeNumber {ρ : Type} (N : Nat) : List (Nat × (List Value → mS → (Option Value → mS → Option ρ) → Option ρ)) := []
theorem oo_X_tapeNumber {ρ : Type} {t0 : ρ} (N : Nat) : OrcOK Sx R0x oFx nx 1 t0 (mOrc (oL_X_tapeNumber N)) := mOrc_OK (mz_nil)
noncomputable def H_X_tapeNumber_3 {ρ : Type} (k : (Int32 × Int32 × mS) → Option ρ) : mL → List Value → mS → Option ρ := fun loc st s => cR loc 0 0 (li1 loc 1 fun v0 => li1 loc 2 fun v1 => rv0 st (k (v0, v1, s)))
noncomputable def f_X_tapeNumber_L3 (N : Nat) (k3 : (Int32 × Int32 × mS) → Option (mS)) (x : Int32 × Int32 × mS) : Option (mS) :=
  if x.2.1 < 0 then
    some x.2.2
  else
    if (gI x.2.2 1 0) < 1600 then
      grd (inb (gI x.2.2 1 0) 1600) (
      let s1 := sA x.2.2 1 (ix (gI x.2.2 1 0)) ((irs x.1 x.2.1) &&& 255)
      let s2 := sI s1 1 0 ((gI s1 1 0) + 1)
      k3 (x.1, (x.2.1 - 8), s2))
    else
      some x.2.2
set_option maxRecDepth 100000 in
set_option maxHeartbeats 4000000 in
theorem t_X_tapeNumber_3 (N : Nat) {s9 : mS} {k3 : (Int32 × Int32 × mS) → Option (mS)} (hk3 : SCd Sx R0x oFx nx 1 q_X_tapeNumber (none, s9) s9 3 (H_X_tapeNumber_3 k3)) : SCd Sx R0x oFx nx 1 q_X_tapeNumber (none, s9) s9 3 (H_X_tapeNumber_3 (f_X_tapeNumber_L3 N k3)) := by
  intro loc st s
  refine G_cR (fun h0 => ?_)
  refine G_li (fun v0 h1 => ?_)
  refine G_li (fun v1 h2 => ?_)
  refine G_rv0 (fun e9 => ?_)
  subst e9
  refine G_sub (loc0 := [(0, .ref 0), (1, .int v0), (2, .int v1)]) (List.forall_mem_cons.mpr ⟨h0, List.forall_mem_cons.mpr ⟨h1, List.forall_mem_cons.mpr ⟨h2, mz_nil⟩⟩⟩) ?_
  exact G_eq (mEv_G (orc := mOrc (oL_X_tapeNumber N)) (ret := rtV) (blks := bl_X_tapeNumber) (cuts := [(3, H_X_tapeNumber_3 k3)]) wOKx (by decide) (oo_X_tapeNumber N) (RetOK_V rfl) bk_X_tapeNumber (List.forall_mem_cons.mpr ⟨hk3, mz_nil⟩)) rfl
theorem s_X_tapeNumber_3 (N : Nat) {s9 : mS} : SCd Sx R0x oFx nx 1 q_X_tapeNumber (none, s9) s9 3 (H_X_tapeNumber_3 (mfix N (f_X_tapeNumber_L3 N))) := by
  refine mfix_SC (H := H_X_tapeNumber_3) (fun loc st s => ?_) (fun k hk => t_X_tapeNumber_3 N hk) N
  refine G_cR (fun h0 => ?_)
  refine G_li (fun v0 h1 => ?_)
  refine G_li (fun v1 h2 => ?_)
  refine G_rv0 (fun e9 => ?_)
  subst e9
  exact G_none
noncomputable def f_X_tapeNumber (N : Nat) (a1 : Int32) (s : mS) : Option (mS) :=
  mfix N (f_X_tapeNumber_L3 N) (a1, 24, s)
set_option maxRecDepth 100000 in
set_option maxHeartbeats 4000000 in
theorem m_X_tapeNumber (N : Nat) {s9 : mS} (a1 : Int32) {s : mS} (h : f_X_tapeNumber N a1 s = some s9) : MetM Sx R0x oFx nx 1 3 [.ref 0, .int a1] s (none) s9 := by
  refine met_of_G (q := q_X_tapeNumber) (t0 := s9) y_X_tapeNumber (Nat.le_of_ble_eq_true rfl) ?_
  rw [← h]
  exact G_eq (mEv_G (orc := mOrc (oL_X_tapeNumber N)) (ret := rtV) (blks := bl_X_tapeNumber) (cuts := [(3, H_X_tapeNumber_3 (mfix N (f_X_tapeNumber_L3 N)))]) wOKx (by decide) (oo_X_tapeNumber N) (RetOK_V rfl) bk_X_tapeNumber (List.forall_mem_cons.mpr ⟨s_X_tapeNumber_3 N, mz_nil⟩)) rfl
noncomputable def C_X_tapeNumber {ρ : Type} (N : Nat) : List Value → mS → (Option Value → mS → Option ρ) → Option ρ := fun vs s kk => sR vs 0 fun r0 => pi1 r0 fun a1 r1 => rv0 r1 ((f_X_tapeNumber N a1 s).bind fun p => kk none p)
theorem cs_X_tapeNumber {ρ : Type} {t0 : ρ} {d : Nat} (N : Nat) (hd : 1 + 1 ≤ d) : CallOK Sx R0x oFx nx d t0 3 (C_X_tapeNumber N) := by
  intro vs s kk h0
  obtain ⟨r0, rfl, h1⟩ := sR_some h0
  obtain ⟨a1, r1, rfl, h2⟩ := pi1_some h1
  obtain ⟨rfl, h3⟩ := rv0_some h2
  obtain ⟨p, hp, hk⟩ := Option.bind_eq_some_iff.mp h3
  exact ⟨_, _, _, hd, m_X_tapeNumber N a1 hp, hk, fun qy hq hf => by cases y_X_tapeNumber.symm.trans hq; exact ⟨_, _, rfl, rfl⟩⟩
/-! METHOD PorterDoors.feed(IIIII)I -/
set_option maxRecDepth 20000 in
noncomputable def q_X_feed : mI := (⟨"PorterDoors", "feed", "(IIIII)I"⟩, prog_1_method_2_code, 6, (some .int), 0, 498, 129, 1, 5, 496, 497)
theorem y_X_feed : mT[1]? = some q_X_feed := mT_at_0 (k := 1) rfl
noncomputable def bl_X_feed : List (Nat × List mO) := [(0, [o0 (.aload_n 0), o2 (.getfield 13) 0 1, o0 (.bipush 20), o0 (.iadd), o0 (.sipush 1600), o1 (.if_icmp .le 11) 21, o0 (.aload_n 0), o0 (.iconst 0), o2 (.invokevirtual 106) 2 2, o0 (.pop), o0 (.iconst (-1)), o0 (.ireturn)]),
  (21, [o0 (.aload_n 0), o0 (.iload_n 1), o2 (.invokevirtual 110) 3 2, o0 (.aload_n 0), o0 (.iload_n 2), o2 (.invokevirtual 110) 3 2, o0 (.aload_n 0), o0 (.iload_n 3), o2 (.invokevirtual 110) 3 2, o0 (.aload_n 0), o0 (.iload 4), o2 (.invokevirtual 110) 3 2, o0 (.aload_n 0), o0 (.iload 5), o2 (.invokevirtual 110) 3 2, o0 (.aload_n 0), o2 (.getfield 13) 0 1, o0 (.ireturn)])]
theorem bk_X_feed : okBlks q_X_feed bl_X_feed = true := by decide +kernel
noncomputable def oL_X_feed {ρ : Type} (N : Nat) : List (Nat × (List Value → mS → (Option Value → mS → Option ρ) → Option ρ)) := [(2, C_X_refuse N), (3, C_X_tapeNumber N)]
theorem oo_X_feed {ρ : Type} {t0 : ρ} (N : Nat) : OrcOK Sx R0x oFx nx 2 t0 (mOrc (oL_X_feed N)) := mOrc_OK (List.forall_mem_cons.mpr ⟨cs_X_refuse N (by decide), List.forall_mem_cons.mpr ⟨cs_X_tapeNumber N (by decide), mz_nil⟩⟩)
noncomputable def f_X_feed (N : Nat) (a1 : Int32) (a2 : Int32) (a3 : Int32) (a4 : Int32) (a5 : Int32) (s : mS) : Option (Int32 × mS) :=
  if 1600 < ((gI s 1 0) + 20) then
    (f_X_refuse N 0 s).bind fun p6 =>
    some ((-1), p6.2)
  else
    (f_X_tapeNumber N a1 s).bind fun p1 =>
    (f_X_tapeNumber N a2 p1).bind fun p2 =>
    (f_X_tapeNumber N a3 p2).bind fun p3 =>
    (f_X_tapeNumber N a4 p3).bind fun p4 =>
    (f_X_tapeNumber N a5 p4).bind fun p5 =>
    some ((gI p5 1 0), p5)
set_option maxRecDepth 100000 in
set_option maxHeartbeats 4000000 in
theorem m_X_feed (N : Nat) {x9 : Int32} {s9 : mS} (a1 : Int32) (a2 : Int32) (a3 : Int32) (a4 : Int32) (a5 : Int32) {s : mS} (h : f_X_feed N a1 a2 a3 a4 a5 s = some (x9, s9)) : MetM Sx R0x oFx nx 2 1 [.ref 0, .int a1, .int a2, .int a3, .int a4, .int a5] s (some (.int x9)) s9 := by
  refine met_of_G (q := q_X_feed) (t0 := (x9, s9)) y_X_feed (Nat.le_of_ble_eq_true rfl) ?_
  rw [← h]
  exact G_eq (mEv_G (orc := mOrc (oL_X_feed N)) (ret := rtI) (blks := bl_X_feed) (cuts := []) wOKx (by decide) (oo_X_feed N) (RetOK_I rfl) bk_X_feed (mz_nil)) rfl
noncomputable def C_X_feed {ρ : Type} (N : Nat) : List Value → mS → (Option Value → mS → Option ρ) → Option ρ := fun vs s kk => sR vs 0 fun r0 => pi1 r0 fun a1 r1 => pi1 r1 fun a2 r2 => pi1 r2 fun a3 r3 => pi1 r3 fun a4 r4 => pi1 r4 fun a5 r5 => rv0 r5 ((f_X_feed N a1 a2 a3 a4 a5 s).bind fun p => kk (some (.int p.1)) p.2)
theorem cs_X_feed {ρ : Type} {t0 : ρ} {d : Nat} (N : Nat) (hd : 2 + 1 ≤ d) : CallOK Sx R0x oFx nx d t0 1 (C_X_feed N) := by
  intro vs s kk h0
  obtain ⟨r0, rfl, h1⟩ := sR_some h0
  obtain ⟨a1, r1, rfl, h2⟩ := pi1_some h1
  obtain ⟨a2, r2, rfl, h3⟩ := pi1_some h2
  obtain ⟨a3, r3, rfl, h4⟩ := pi1_some h3
  obtain ⟨a4, r4, rfl, h5⟩ := pi1_some h4
  obtain ⟨a5, r5, rfl, h6⟩ := pi1_some h5
  obtain ⟨rfl, h7⟩ := rv0_some h6
  obtain ⟨p, hp, hk⟩ := Option.bind_eq_some_iff.mp h7
  exact ⟨_, _, _, hd, m_X_feed N a1 a2 a3 a4 a5 hp, hk, fun qy hq hf => by cases y_X_feed.symm.trans hq; exact ⟨_, _, rfl, rfl⟩⟩
/-! METHOD PorterDoors.end(I)Z -/
set_option maxRecDepth 20000 in
noncomputable def q_X_end : mI := (⟨"PorterDoors", "end", "(I)Z"⟩, prog_1_method_3_code, 2, (some .boolean), 0, 510, 129, 1, 1, 508, 509)
theorem y_X_end : mT[4]? = some q_X_end := mT_at_0 (k := 4) rfl
noncomputable def bl_X_end : List (Nat × List mO) := [(0, [o0 (.iload_n 1), o1 (.ifCond .lt 11) 12, o0 (.iload_n 1), o0 (.aload_n 0), o2 (.getfield 13) 0 1, o1 (.if_icmp .le 9) 18]),
  (12, [o0 (.aload_n 0), o0 (.iconst 0), o2 (.invokevirtual 106) 2 2, o0 (.ireturn)]),
  (18, [o0 (.aload_n 0), o0 (.iload_n 1), o2 (.putfield 13) 0 1, o0 (.iconst 1), o0 (.ireturn)])]
theorem bk_X_end : okBlks q_X_end bl_X_end = true := by decide +kernel
noncomputable def oL_X_end {ρ : Type} (N : Nat) : List (Nat × (List Value → mS → (Option Value → mS → Option ρ) → Option ρ)) := [(2, C_X_refuse N)]
theorem oo_X_end {ρ : Type} {t0 : ρ} (N : Nat) : OrcOK Sx R0x oFx nx 2 t0 (mOrc (oL_X_end N)) := mOrc_OK (List.forall_mem_cons.mpr ⟨cs_X_refuse N (by decide), mz_nil⟩)
noncomputable def H_X_end_12 {ρ : Type} (k : mS → Option ρ) : mL → List Value → mS → Option ρ := fun loc st s => cR loc 0 0 (rv0 st (k s))
noncomputable def f_X_end_j12 (N : Nat) (x : mS) : Option (Int32 × mS) :=
  (f_X_refuse N 0 x).bind fun p1 =>
  grd (isb p1.1) (some (p1.1, p1.2))
set_option maxRecDepth 100000 in
set_option maxHeartbeats 4000000 in
theorem s_X_end_12 (N : Nat) {x9 : Int32} {s9 : mS} : SCd Sx R0x oFx nx 2 q_X_end (some (.int x9), s9) (x9, s9) 12 (H_X_end_12 (f_X_end_j12 N)) := by
  intro loc st s
  refine G_cR (fun h0 => ?_)
  refine G_rv0 (fun e9 => ?_)
  subst e9
  refine G_sub (loc0 := [(0, .ref 0)]) (List.forall_mem_cons.mpr ⟨h0, mz_nil⟩) ?_
  exact G_eq (mEv_G (orc := mOrc (oL_X_end N)) (ret := rtZ) (blks := bl_X_end) (cuts := []) wOKx (by decide) (oo_X_end N) (RetOK_Z rfl) bk_X_end (mz_nil)) rfl
noncomputable def f_X_end (N : Nat) (a1 : Int32) (s : mS) : Option (Int32 × mS) :=
  if a1 < 0 then
    f_X_end_j12 N s
  else
    if (gI s 1 0) < a1 then
      f_X_end_j12 N s
    else
      let s1 := sI s 1 0 a1
      some (1, s1)
set_option maxRecDepth 100000 in
set_option maxHeartbeats 4000000 in
theorem m_X_end (N : Nat) {x9 : Int32} {s9 : mS} (a1 : Int32) {s : mS} (h : f_X_end N a1 s = some (x9, s9)) : MetM Sx R0x oFx nx 2 4 [.ref 0, .int a1] s (some (.int x9)) s9 := by
  refine met_of_G (q := q_X_end) (t0 := (x9, s9)) y_X_end (Nat.le_of_ble_eq_true rfl) ?_
  rw [← h]
  exact G_eq (mEv_G (orc := mOrc (oL_X_end N)) (ret := rtZ) (blks := bl_X_end) (cuts := [(12, H_X_end_12 (f_X_end_j12 N))]) wOKx (by decide) (oo_X_end N) (RetOK_Z rfl) bk_X_end (List.forall_mem_cons.mpr ⟨s_X_end_12 N, mz_nil⟩)) rfl
noncomputable def C_X_end {ρ : Type} (N : Nat) : List Value → mS → (Option Value → mS → Option ρ) → Option ρ := fun vs s kk => sR vs 0 fun r0 => pi1 r0 fun a1 r1 => rv0 r1 ((f_X_end N a1 s).bind fun p => kk (some (.int p.1)) p.2)
theorem cs_X_end {ρ : Type} {t0 : ρ} {d : Nat} (N : Nat) (hd : 2 + 1 ≤ d) : CallOK Sx R0x oFx nx d t0 4 (C_X_end N) := by
  intro vs s kk h0
  obtain ⟨r0, rfl, h1⟩ := sR_some h0
  obtain ⟨a1, r1, rfl, h2⟩ := pi1_some h1
  obtain ⟨rfl, h3⟩ := rv0_some h2
  obtain ⟨p, hp, hk⟩ := Option.bind_eq_some_iff.mp h3
  exact ⟨_, _, _, hd, m_X_end N a1 hp, hk, fun qy hq hf => by cases y_X_end.symm.trans hq; exact ⟨_, _, rfl, rfl⟩⟩
/-! METHOD PorterDoors$Program.add(I)V -/
set_option maxRecDepth 20000 in
noncomputable def q_Pg_add : mI := (⟨"PorterDoors$Program", "add", "(I)V"⟩, prog_6_method_2_code, 2, none, 5, 522, 131, 1, 1, 520, 521)
theorem y_Pg_add : mT[88]? = some q_Pg_add := mT_at_2 (k := 8) rfl
noncomputable def bl_Pg_add : List (Nat × List mO) := [(0, [o0 (.aload_n 0), o2 (.getfield 15) 5 1, o0 (.aload_n 0), o2 (.getfield 9) 5 0, o0 (.arraylength), o1 (.if_icmp .ge 23) 32, o0 (.aload_n 0), o2 (.getfield 9) 5 0, o0 (.aload_n 0), o2 (.getfield 15) 5 1, o0 (.iload_n 1), o0 (.iastore), o0 (.aload_n 0), o0 (.dup), o2 (.getfield 15) 5 1, o0 (.iconst 1), o0 (.iadd), o2 (.putfield 15) 5 1]),
  (32, [o0 (.return_)])]
theorem bk_Pg_add : okBlks q_Pg_add bl_Pg_add = true := by decide +kernel
noncomputable def oL_Pg_add {ρ : Type} (N : Nat) : List (Nat × (List Value → mS → (Option Value → mS → Option ρ) → Option ρ)) := []
theorem oo_Pg_add {ρ : Type} {t0 : ρ} (N : Nat) : OrcOK Sx R0x oFx nx 1 t0 (mOrc (oL_Pg_add N)) := mOrc_OK (mz_nil)
noncomputable def f_Pg_add (N : Nat) (a0 : Nat) (a1 : Int32) (s : mS) : Option (mS) :=
  grd (isO Sx a0 5) (
  grd (isO Sx a0 5) (
  grd (isA Sx (a0 + 1)) (
  if (gI s 501 a0) < (Int32.ofNat (alA Sx (a0 + 1))) then
    grd (isO Sx a0 5) (
    grd (isO Sx a0 5) (
    grd (inb (gI s 501 a0) (aln Sx 0 (a0 + 1))) (
    let s1 := sA s (a0 + 1) (ix (gI s 501 a0)) a1
    grd (isO Sx a0 5) (
    grd (isO Sx a0 5) (
    let s2 := sI s1 501 a0 ((gI s1 501 a0) + 1)
    some s2)))))
  else
    some s)))
set_option maxRecDepth 100000 in
set_option maxHeartbeats 4000000 in
theorem m_Pg_add (N : Nat) {s9 : mS} (a0 : Nat) (a1 : Int32) {s : mS} (h : f_Pg_add N a0 a1 s = some s9) : MetM Sx R0x oFx nx 1 88 [.ref a0, .int a1] s (none) s9 := by
  refine met_of_G (q := q_Pg_add) (t0 := s9) y_Pg_add (Nat.le_of_ble_eq_true rfl) ?_
  rw [← h]
  exact G_eq (mEv_G (orc := mOrc (oL_Pg_add N)) (ret := rtV) (blks := bl_Pg_add) (cuts := []) wOKx (by decide) (oo_Pg_add N) (RetOK_V rfl) bk_Pg_add (mz_nil)) rfl
noncomputable def C_Pg_add {ρ : Type} (N : Nat) : List Value → mS → (Option Value → mS → Option ρ) → Option ρ := fun vs s kk => pr1 vs fun a0 r0 => grd (isO Sx a0 5) (pi1 r0 fun a1 r1 => rv0 r1 ((f_Pg_add N a0 a1 s).bind fun p => kk none p))
theorem cs_Pg_add {ρ : Type} {t0 : ρ} {d : Nat} (N : Nat) (hd : 1 + 1 ≤ d) : CallOK Sx R0x oFx nx d t0 88 (C_Pg_add N) := by
  intro vs s kk h0
  obtain ⟨a0, r0, rfl, h1⟩ := pr1_some h0
  obtain ⟨ho, h2⟩ := grd_some h1
  obtain ⟨a1, r1, rfl, h3⟩ := pi1_some h2
  obtain ⟨rfl, h4⟩ := rv0_some h3
  obtain ⟨p, hp, hk⟩ := Option.bind_eq_some_iff.mp h4
  exact ⟨_, _, _, hd, m_Pg_add N a0 a1 hp, hk, fun qy hq hf => by cases y_Pg_add.symm.trans hq; exact ⟨_, _, rfl, isO_spec ho⟩⟩
/-! METHOD PorterDoors$Program.hasWord(III)Z -/
set_option maxRecDepth 20000 in
noncomputable def q_Pg_hasWord : mI := (⟨"PorterDoors$Program", "hasWord", "(III)Z"⟩, prog_6_method_3_code, 5, (some .boolean), 5, 530, 131, 1, 3, 528, 529)
theorem y_Pg_hasWord : mT[89]? = some q_Pg_hasWord := mT_at_2 (k := 9) rfl
noncomputable def bl_Pg_hasWord : List (Nat × List mO) := [(0, [o0 (.iload_n 2), o0 (.istore 4)]),
  (3, [o0 (.iload 4), o0 (.iload_n 3), o1 (.if_icmp .ge 31) 37, o0 (.iload 4), o0 (.aload_n 0), o2 (.getfield 15) 5 1, o1 (.if_icmp .ge 22) 37, o0 (.aload_n 0), o2 (.getfield 9) 5 0, o0 (.iload 4), o0 (.iaload), o0 (.iload_n 1), o1 (.if_icmp .ne 5) 31, o0 (.iconst 1), o0 (.ireturn)]),
  (31, [o0 (.iinc 4 1), o1 (.goto (-31)) 3]),
  (37, [o0 (.iconst 0), o0 (.ireturn)])]
theorem bk_Pg_hasWord : okBlks q_Pg_hasWord bl_Pg_hasWord = true := by decide +kernel
noncomputable def oL_Pg_hasWord {ρ : Type} (N : Nat) : List (Nat × (List Value → mS → (Option Value → mS → Option ρ) → Option ρ)) := []
theorem oo_Pg_hasWord {ρ : Type} {t0 : ρ} (N : Nat) : OrcOK Sx R0x oFx nx 1 t0 (mOrc (oL_Pg_hasWord N)) := mOrc_OK (mz_nil)
noncomputable def H_Pg_hasWord_3 {ρ : Type} (k : (Nat × Int32 × Int32 × Int32 × mS) → Option ρ) : mL → List Value → mS → Option ρ := fun loc st s => lr1 loc 0 fun v0 => li1 loc 1 fun v1 => li1 loc 3 fun v2 => li1 loc 4 fun v3 => rv0 st (k (v0, v1, v2, v3, s))
noncomputable def f_Pg_hasWord_L3 (N : Nat) (k3 : (Nat × Int32 × Int32 × Int32 × mS) → Option (Int32 × mS)) (x : Nat × Int32 × Int32 × Int32 × mS) : Option (Int32 × mS) :=
  if x.2.2.2.1 < x.2.2.1 then
    grd (isO Sx x.1 5) (
    if x.2.2.2.1 < (gI x.2.2.2.2 501 x.1) then
      grd (isO Sx x.1 5) (
      grd (inb x.2.2.2.1 (aln Sx 0 (x.1 + 1))) (
      if (gA x.2.2.2.2 (x.1 + 1) (ix x.2.2.2.1)) = x.2.1 then
        some (1, x.2.2.2.2)
      else
        k3 (x.1, x.2.1, x.2.2.1, (x.2.2.2.1 + 1), x.2.2.2.2)))
    else
      some (0, x.2.2.2.2))
  else
    some (0, x.2.2.2.2)
set_option maxRecDepth 100000 in
set_option maxHeartbeats 4000000 in
theorem t_Pg_hasWord_3 (N : Nat) {x9 : Int32} {s9 : mS} {k3 : (Nat × Int32 × Int32 × Int32 × mS) → Option (Int32 × mS)} (hk3 : SCd Sx R0x oFx nx 1 q_Pg_hasWord (some (.int x9), s9) (x9, s9) 3 (H_Pg_hasWord_3 k3)) : SCd Sx R0x oFx nx 1 q_Pg_hasWord (some (.int x9), s9) (x9, s9) 3 (H_Pg_hasWord_3 (f_Pg_hasWord_L3 N k3)) := by
  intro loc st s
  refine G_lr (fun v0 h0 => ?_)
  refine G_li (fun v1 h1 => ?_)
  refine G_li (fun v2 h3 => ?_)
  refine G_li (fun v3 h4 => ?_)
  refine G_rv0 (fun e9 => ?_)
  subst e9
  refine G_sub (loc0 := [(0, .ref v0), (1, .int v1), (3, .int v2), (4, .int v3)]) (List.forall_mem_cons.mpr ⟨h0, List.forall_mem_cons.mpr ⟨h1, List.forall_mem_cons.mpr ⟨h3, List.forall_mem_cons.mpr ⟨h4, mz_nil⟩⟩⟩⟩) ?_
  exact G_eq (mEv_G (orc := mOrc (oL_Pg_hasWord N)) (ret := rtZ) (blks := bl_Pg_hasWord) (cuts := [(3, H_Pg_hasWord_3 k3)]) wOKx (by decide) (oo_Pg_hasWord N) (RetOK_Z rfl) bk_Pg_hasWord (List.forall_mem_cons.mpr ⟨hk3, mz_nil⟩)) rfl
theorem s_Pg_hasWord_3 (N : Nat) {x9 : Int32} {s9 : mS} : SCd Sx R0x oFx nx 1 q_Pg_hasWord (some (.int x9), s9) (x9, s9) 3 (H_Pg_hasWord_3 (mfix N (f_Pg_hasWord_L3 N))) := by
  refine mfix_SC (H := H_Pg_hasWord_3) (fun loc st s => ?_) (fun k hk => t_Pg_hasWord_3 N hk) N
  refine G_lr (fun v0 h0 => ?_)
  refine G_li (fun v1 h1 => ?_)
  refine G_li (fun v2 h3 => ?_)
  refine G_li (fun v3 h4 => ?_)
  refine G_rv0 (fun e9 => ?_)
  subst e9
  exact G_none
noncomputable def f_Pg_hasWord (N : Nat) (a0 : Nat) (a1 : Int32) (a2 : Int32) (a3 : Int32) (s : mS) : Option (Int32 × mS) :=
  mfix N (f_Pg_hasWord_L3 N) (a0, a1, a3, a2, s)
set_option maxRecDepth 100000 in
set_option maxHeartbeats 4000000 in
theorem m_Pg_hasWord (N : Nat) {x9 : Int32} {s9 : mS} (a0 : Nat) (a1 : Int32) (a2 : Int32) (a3 : Int32) {s : mS} (h : f_Pg_hasWord N a0 a1 a2 a3 s = some (x9, s9)) : MetM Sx R0x oFx nx 1 89 [.ref a0, .int a1, .int a2, .int a3] s (some (.int x9)) s9 := by
  refine met_of_G (q := q_Pg_hasWord) (t0 := (x9, s9)) y_Pg_hasWord (Nat.le_of_ble_eq_true rfl) ?_
  rw [← h]
  exact G_eq (mEv_G (orc := mOrc (oL_Pg_hasWord N)) (ret := rtZ) (blks := bl_Pg_hasWord) (cuts := [(3, H_Pg_hasWord_3 (mfix N (f_Pg_hasWord_L3 N)))]) wOKx (by decide) (oo_Pg_hasWord N) (RetOK_Z rfl) bk_Pg_hasWord (List.forall_mem_cons.mpr ⟨s_Pg_hasWord_3 N, mz_nil⟩)) rfl
noncomputable def C_Pg_hasWord {ρ : Type} (N : Nat) : List Value → mS → (Option Value → mS → Option ρ) → Option ρ := fun vs s kk => pr1 vs fun a0 r0 => grd (isO Sx a0 5) (pi1 r0 fun a1 r1 => pi1 r1 fun a2 r2 => pi1 r2 fun a3 r3 => rv0 r3 ((f_Pg_hasWord N a0 a1 a2 a3 s).bind fun p => kk (some (.int p.1)) p.2))
theorem cs_Pg_hasWord {ρ : Type} {t0 : ρ} {d : Nat} (N : Nat) (hd : 1 + 1 ≤ d) : CallOK Sx R0x oFx nx d t0 89 (C_Pg_hasWord N) := by
  intro vs s kk h0
  obtain ⟨a0, r0, rfl, h1⟩ := pr1_some h0
  obtain ⟨ho, h2⟩ := grd_some h1
  obtain ⟨a1, r1, rfl, h3⟩ := pi1_some h2
  obtain ⟨a2, r2, rfl, h4⟩ := pi1_some h3
  obtain ⟨a3, r3, rfl, h5⟩ := pi1_some h4
  obtain ⟨rfl, h6⟩ := rv0_some h5
  obtain ⟨p, hp, hk⟩ := Option.bind_eq_some_iff.mp h6
  exact ⟨_, _, _, hd, m_Pg_hasWord N a0 a1 a2 a3 hp, hk, fun qy hq hf => by cases y_Pg_hasWord.symm.trans hq; exact ⟨_, _, rfl, isO_spec ho⟩⟩
/-! METHOD PorterDoors$Plan.place(II)V -/
set_option maxRecDepth 20000 in
noncomputable def q_Pl_place : mI := (⟨"PorterDoors$Plan", "place", "(II)V"⟩, prog_5_method_3_code, 3, none, 4, 526, 130, 1, 2, 524, 525)
theorem y_Pl_place : mT[81]? = some q_Pl_place := mT_at_2 (k := 1) rfl
noncomputable def bl_Pl_place : List (Nat × List mO) := [(0, [o0 (.aload_n 0), o2 (.getfield 42) 4 8, o0 (.iload_n 1), o0 (.iload_n 2), o0 (.iastore), o0 (.aload_n 0), o2 (.getfield 45) 4 9, o0 (.iload_n 1), o0 (.aload_n 0), o2 (.getfield 38) 4 7, o2 (.getfield 58) 5 1, o0 (.iastore), o0 (.aload_n 0), o2 (.getfield 38) 4 7, o0 (.bipush 13), o0 (.iload_n 2), o0 (.aload_n 0), o2 (.getfield 38) 4 7, o2 (.getfield 58) 5 1, o2 (.invokevirtual 71) 89 4, o1 (.ifCond .eq 15) 52, o0 (.aload_n 0), o0 (.dup), o2 (.getfield 48) 4 10, o0 (.iconst 1), o0 (.iload_n 1), o0 (.ishl), o0 (.ior), o2 (.putfield 48) 4 10]),
  (52, [o0 (.return_)])]
theorem bk_Pl_place : okBlks q_Pl_place bl_Pl_place = true := by decide +kernel
noncomputable def oL_Pl_place {ρ : Type} (N : Nat) : List (Nat × (List Value → mS → (Option Value → mS → Option ρ) → Option ρ)) := [(89, C_Pg_hasWord N)]
theorem oo_Pl_place {ρ : Type} {t0 : ρ} (N : Nat) : OrcOK Sx R0x oFx nx 2 t0 (mOrc (oL_Pl_place N)) := mOrc_OK (List.forall_mem_cons.mpr ⟨cs_Pg_hasWord N (by decide), mz_nil⟩)
noncomputable def f_Pl_place (N : Nat) (a0 : Nat) (a1 : Int32) (a2 : Int32) (s : mS) : Option (mS) :=
  grd (isO Sx a0 4) (
  grd (inb a1 (aln Sx 0 (a0 + 5))) (
  let s1 := sA s (a0 + 5) (ix a1) a2
  grd (isO Sx a0 4) (
  grd (isO Sx a0 4) (
  grd (isO Sx (a0 + 3) 5) (
  grd (inb a1 (aln Sx 0 (a0 + 6))) (
  let s2 := sA s1 (a0 + 6) (ix a1) (gI s1 501 (a0 + 3))
  grd (isO Sx a0 4) (
  grd (isO Sx a0 4) (
  grd (isO Sx (a0 + 3) 5) (
  grd (isO Sx (a0 + 3) 5) (
  (f_Pg_hasWord N (a0 + 3) 13 a2 (gI s2 501 (a0 + 3)) s2).bind fun p3 =>
  if p3.1 = 0 then
    some p3.2
  else
    grd (isO Sx a0 4) (
    grd (isO Sx a0 4) (
    let s4 := sI p3.2 410 a0 ((gI p3.2 410 a0) ||| (ils 1 a1))
    some s4))))))))))))
set_option maxRecDepth 100000 in
set_option maxHeartbeats 4000000 in
theorem m_Pl_place (N : Nat) {s9 : mS} (a0 : Nat) (a1 : Int32) (a2 : Int32) {s : mS} (h : f_Pl_place N a0 a1 a2 s = some s9) : MetM Sx R0x oFx nx 2 81 [.ref a0, .int a1, .int a2] s (none) s9 := by
  refine met_of_G (q := q_Pl_place) (t0 := s9) y_Pl_place (Nat.le_of_ble_eq_true rfl) ?_
  rw [← h]
  exact G_eq (mEv_G (orc := mOrc (oL_Pl_place N)) (ret := rtV) (blks := bl_Pl_place) (cuts := []) wOKx (by decide) (oo_Pl_place N) (RetOK_V rfl) bk_Pl_place (mz_nil)) rfl
noncomputable def C_Pl_place {ρ : Type} (N : Nat) : List Value → mS → (Option Value → mS → Option ρ) → Option ρ := fun vs s kk => pr1 vs fun a0 r0 => grd (isO Sx a0 4) (pi1 r0 fun a1 r1 => pi1 r1 fun a2 r2 => rv0 r2 ((f_Pl_place N a0 a1 a2 s).bind fun p => kk none p))
theorem cs_Pl_place {ρ : Type} {t0 : ρ} {d : Nat} (N : Nat) (hd : 2 + 1 ≤ d) : CallOK Sx R0x oFx nx d t0 81 (C_Pl_place N) := by
  intro vs s kk h0
  obtain ⟨a0, r0, rfl, h1⟩ := pr1_some h0
  obtain ⟨ho, h2⟩ := grd_some h1
  obtain ⟨a1, r1, rfl, h3⟩ := pi1_some h2
  obtain ⟨a2, r2, rfl, h4⟩ := pi1_some h3
  obtain ⟨rfl, h5⟩ := rv0_some h4
  obtain ⟨p, hp, hk⟩ := Option.bind_eq_some_iff.mp h5
  exact ⟨_, _, _, hd, m_Pl_place N a0 a1 a2 hp, hk, fun qy hq hf => by cases y_Pl_place.symm.trans hq; exact ⟨_, _, rfl, isO_spec ho⟩⟩
/-! METHOD PorterDoors$Plan.clear()V -/
set_option maxRecDepth 20000 in
noncomputable def q_Pl_clear : mI := (⟨"PorterDoors$Plan", "clear", "()V"⟩, prog_5_method_2_code, 2, none, 4, 518, 130, 1, 0, 516, 517)
theorem y_Pl_clear : mT[80]? = some q_Pl_clear := mT_at_2 (k := 0) rfl
noncomputable def bl_Pl_clear : List (Nat × List mO) := [(0, [o0 (.aload_n 0), o0 (.iconst 0), o2 (.putfield 9) 4 0, o0 (.aload_n 0), o0 (.iconst 0), o2 (.putfield 15) 4 1, o0 (.aload_n 0), o0 (.iconst 0), o2 (.putfield 18) 4 2, o0 (.aload_n 0), o0 (.iconst 0), o2 (.putfield 21) 4 3, o0 (.aload_n 0), o0 (.iconst 0), o2 (.putfield 24) 4 4, o0 (.iconst 0), o0 (.istore_n 1)]),
  (27, [o0 (.iload_n 1), o0 (.bipush 24), o1 (.if_icmp .ge 16) 46, o0 (.aload_n 0), o2 (.getfield 27) 4 5, o0 (.iload_n 1), o0 (.iconst 0), o0 (.iastore), o0 (.iinc 1 1), o1 (.goto (-16)) 27]),
  (46, [o0 (.aload_n 0), o0 (.iconst 0), o2 (.putfield 48) 4 10, o0 (.aload_n 0), o0 (.iconst 0), o2 (.putfield 51) 4 11, o0 (.aload_n 0), o0 (.iconst 0), o2 (.putfield 55) 4 12, o0 (.aload_n 0), o2 (.getfield 38) 4 7, o0 (.iconst 0), o2 (.putfield 58) 5 1, o0 (.aload_n 0), o2 (.getfield 38) 4 7, o0 (.bipush 22), o2 (.invokevirtual 63) 88 2, o0 (.aload_n 0), o0 (.bipush 10), o0 (.iconst 0), o2 (.invokevirtual 67) 81 3, o0 (.aload_n 0), o2 (.getfield 38) 4 7, o0 (.iconst 3), o2 (.invokevirtual 63) 88 2, o0 (.aload_n 0), o0 (.bipush 11), o0 (.iconst 1), o2 (.invokevirtual 67) 81 3, o0 (.return_)])]
theorem bk_Pl_clear : okBlks q_Pl_clear bl_Pl_clear = true := by decide +kernel
noncomputable def oL_Pl_clear {ρ : Type} (N : Nat) : List (Nat × (List Value → mS → (Option Value → mS → Option ρ) → Option ρ)) := [(88, C_Pg_add N), (81, C_Pl_place N)]
theorem oo_Pl_clear {ρ : Type} {t0 : ρ} (N : Nat) : OrcOK Sx R0x oFx nx 3 t0 (mOrc (oL_Pl_clear N)) := mOrc_OK (List.forall_mem_cons.mpr ⟨cs_Pg_add N (by decide), List.forall_mem_cons.mpr ⟨cs_Pl_place N (by decide), mz_nil⟩⟩)
noncomputable def H_Pl_clear_27 {ρ : Type} (k : (Nat × Int32 × mS) → Option ρ) : mL → List Value → mS → Option ρ := fun loc st s => lr1 loc 0 fun v0 => li1 loc 1 fun v1 => rv0 st (k (v0, v1, s))
noncomputable def f_Pl_clear_L27 (N : Nat) (k27 : (Nat × Int32 × mS) → Option (mS)) (x : Nat × Int32 × mS) : Option (mS) :=
  if x.2.1 < 24 then
    grd (isO Sx x.1 4) (
    grd (inb x.2.1 (aln Sx 0 (x.1 + 1))) (
    let s9 := sA x.2.2 (x.1 + 1) (ix x.2.1) 0
    k27 (x.1, (x.2.1 + 1), s9)))
  else
    grd (isO Sx x.1 4) (
    let s1 := sI x.2.2 410 x.1 0
    grd (isO Sx x.1 4) (
    let s2 := sI s1 411 x.1 0
    grd (isO Sx x.1 4) (
    let s3 := sI s2 412 x.1 0
    grd (isO Sx x.1 4) (
    grd (isO Sx (x.1 + 3) 5) (
    let s4 := sI s3 501 (x.1 + 3) 0
    grd (isO Sx x.1 4) (
    grd (isO Sx (x.1 + 3) 5) (
    (f_Pg_add N (x.1 + 3) 22 s4).bind fun p5 =>
    grd (isO Sx x.1 4) (
    (f_Pl_place N x.1 10 0 p5).bind fun p6 =>
    grd (isO Sx x.1 4) (
    grd (isO Sx (x.1 + 3) 5) (
    (f_Pg_add N (x.1 + 3) 3 p6).bind fun p7 =>
    grd (isO Sx x.1 4) (
    (f_Pl_place N x.1 11 1 p7).bind fun p8 =>
    some p8)))))))))))
set_option maxRecDepth 100000 in
set_option maxHeartbeats 4000000 in
theorem t_Pl_clear_27 (N : Nat) {s9 : mS} {k27 : (Nat × Int32 × mS) → Option (mS)} (hk27 : SCd Sx R0x oFx nx 3 q_Pl_clear (none, s9) s9 27 (H_Pl_clear_27 k27)) : SCd Sx R0x oFx nx 3 q_Pl_clear (none, s9) s9 27 (H_Pl_clear_27 (f_Pl_clear_L27 N k27)) := by
  intro loc st s
  refine G_lr (fun v0 h0 => ?_)
  refine G_li (fun v1 h1 => ?_)
  refine G_rv0 (fun e9 => ?_)
  subst e9
  refine G_sub (loc0 := [(0, .ref v0), (1, .int v1)]) (List.forall_mem_cons.mpr ⟨h0, List.forall_mem_cons.mpr ⟨h1, mz_nil⟩⟩) ?_
  exact G_eq (mEv_G (orc := mOrc (oL_Pl_clear N)) (ret := rtV) (blks := bl_Pl_clear) (cuts := [(27, H_Pl_clear_27 k27)]) wOKx (by decide) (oo_Pl_clear N) (RetOK_V rfl) bk_Pl_clear (List.forall_mem_cons.mpr ⟨hk27, mz_nil⟩)) rfl
theorem s_Pl_clear_27 (N : Nat) {s9 : mS} : SCd Sx R0x oFx nx 3 q_Pl_clear (none, s9) s9 27 (H_Pl_clear_27 (mfix N (f_Pl_clear_L27 N))) := by
  refine mfix_SC (H := H_Pl_clear_27) (fun loc st s => ?_) (fun k hk => t_Pl_clear_27 N hk) N
  refine G_lr (fun v0 h0 => ?_)
  refine G_li (fun v1 h1 => ?_)
  refine G_rv0 (fun e9 => ?_)
  subst e9
  exact G_none
noncomputable def f_Pl_clear (N : Nat) (a0 : Nat) (s : mS) : Option (mS) :=
  grd (isO Sx a0 4) (
  let s1 := sI s 400 a0 0
  grd (isO Sx a0 4) (
  let s2 := sI s1 401 a0 0
  grd (isO Sx a0 4) (
  let s3 := sI s2 402 a0 0
  grd (isO Sx a0 4) (
  let s4 := sI s3 403 a0 0
  grd (isO Sx a0 4) (
  let s5 := sI s4 404 a0 0
  mfix N (f_Pl_clear_L27 N) (a0, 0, s5))))))
set_option maxRecDepth 100000 in
set_option maxHeartbeats 4000000 in
theorem m_Pl_clear (N : Nat) {s9 : mS} (a0 : Nat) {s : mS} (h : f_Pl_clear N a0 s = some s9) : MetM Sx R0x oFx nx 3 80 [.ref a0] s (none) s9 := by
  refine met_of_G (q := q_Pl_clear) (t0 := s9) y_Pl_clear (Nat.le_of_ble_eq_true rfl) ?_
  rw [← h]
  exact G_eq (mEv_G (orc := mOrc (oL_Pl_clear N)) (ret := rtV) (blks := bl_Pl_clear) (cuts := [(27, H_Pl_clear_27 (mfix N (f_Pl_clear_L27 N)))]) wOKx (by decide) (oo_Pl_clear N) (RetOK_V rfl) bk_Pl_clear (List.forall_mem_cons.mpr ⟨s_Pl_clear_27 N, mz_nil⟩)) rfl
noncomputable def C_Pl_clear {ρ : Type} (N : Nat) : List Value → mS → (Option Value → mS → Option ρ) → Option ρ := fun vs s kk => pr1 vs fun a0 r0 => grd (isO Sx a0 4) (rv0 r0 ((f_Pl_clear N a0 s).bind fun p => kk none p))
theorem cs_Pl_clear {ρ : Type} {t0 : ρ} {d : Nat} (N : Nat) (hd : 3 + 1 ≤ d) : CallOK Sx R0x oFx nx d t0 80 (C_Pl_clear N) := by
  intro vs s kk h0
  obtain ⟨a0, r0, rfl, h1⟩ := pr1_some h0
  obtain ⟨ho, h2⟩ := grd_some h1
  obtain ⟨rfl, h3⟩ := rv0_some h2
  obtain ⟨p, hp, hk⟩ := Option.bind_eq_some_iff.mp h3
  exact ⟨_, _, _, hd, m_Pl_clear N a0 hp, hk, fun qy hq hf => by cases y_Pl_clear.symm.trans hq; exact ⟨_, _, rfl, isO_spec ho⟩⟩
/-! METHOD PorterDoors.takeTape()I -/
set_option maxRecDepth 20000 in
noncomputable def q_X_takeTape : mI := (⟨"PorterDoors", "takeTape", "()I"⟩, prog_1_method_48_code, 2, (some .int), 0, 534, 129, 1, 0, 533, 2)
theorem y_X_takeTape : mT[6]? = some q_X_takeTape := mT_at_0 (k := 6) rfl
noncomputable def bl_X_takeTape : List (Nat × List mO) := [(0, [o0 (.aload_n 0), o2 (.getfield 13) 0 1, o0 (.istore_n 1), o0 (.aload_n 0), o0 (.iconst 0), o2 (.putfield 13) 0 1, o0 (.iload_n 1), o0 (.ireturn)])]
theorem bk_X_takeTape : okBlks q_X_takeTape bl_X_takeTape = true := by decide +kernel
noncomputable def oL_X_takeTape {ρ : Type} (N : Nat) : List (Nat × (List Value → mS → (Option Value → mS → Option ρ) → Option ρ)) := []
theorem oo_X_takeTape {ρ : Type} {t0 : ρ} (N : Nat) : OrcOK Sx R0x oFx nx 1 t0 (mOrc (oL_X_takeTape N)) := mOrc_OK (mz_nil)
noncomputable def f_X_takeTape (N : Nat) (s : mS) : Option (Int32 × mS) :=
  let s1 := sI s 1 0 0
  some ((gI s 1 0), s1)
set_option maxRecDepth 100000 in
set_option maxHeartbeats 4000000 in
theorem m_X_takeTape (N : Nat) {x9 : Int32} {s9 : mS} {s : mS} (h : f_X_takeTape N s = some (x9, s9)) : MetM Sx R0x oFx nx 1 6 [.ref 0] s (some (.int x9)) s9 := by
  refine met_of_G (q := q_X_takeTape) (t0 := (x9, s9)) y_X_takeTape (Nat.le_of_ble_eq_true rfl) ?_
  rw [← h]
  exact G_eq (mEv_G (orc := mOrc (oL_X_takeTape N)) (ret := rtI) (blks := bl_X_takeTape) (cuts := []) wOKx (by decide) (oo_X_takeTape N) (RetOK_I rfl) bk_X_takeTape (mz_nil)) rfl
noncomputable def C_X_takeTape {ρ : Type} (N : Nat) : List Value → mS → (Option Value → mS → Option ρ) → Option ρ := fun vs s kk => sR vs 0 fun r0 => rv0 r0 ((f_X_takeTape N s).bind fun p => kk (some (.int p.1)) p.2)
theorem cs_X_takeTape {ρ : Type} {t0 : ρ} {d : Nat} (N : Nat) (hd : 1 + 1 ≤ d) : CallOK Sx R0x oFx nx d t0 6 (C_X_takeTape N) := by
  intro vs s kk h0
  obtain ⟨r0, rfl, h1⟩ := sR_some h0
  obtain ⟨rfl, h2⟩ := rv0_some h1
  obtain ⟨p, hp, hk⟩ := Option.bind_eq_some_iff.mp h2
  exact ⟨_, _, _, hd, m_X_takeTape N hp, hk, fun qy hq hf => by cases y_X_takeTape.symm.trans hq; exact ⟨_, _, rfl, rfl⟩⟩
/-! METHOD PorterDoors$Reader.readWord()V -/
set_option maxRecDepth 20000 in
noncomputable def q_Rd_readWord : mI := (⟨"PorterDoors$Reader", "readWord", "()V"⟩, prog_7_method_20_code, 2, none, 6, 549, 132, 1, 0, 548, 4)
theorem y_Rd_readWord : mT[94]? = some q_Rd_readWord := mT_at_2 (k := 14) rfl
noncomputable def bl_Rd_readWord : List (Nat × List mO) := [(0, [o0 (.aload_n 0), o2 (.getfield 15) 6 4, o0 (.aload_n 0), o2 (.getfield 9) 6 3, o1 (.if_icmp .ge 91) 99, o0 (.aload_n 0), o2 (.getfield 46) 6 0, o0 (.aload_n 0), o2 (.getfield 15) 6 4, o0 (.iaload), o0 (.bipush 97), o1 (.if_icmp .lt 77) 99, o0 (.aload_n 0), o2 (.getfield 46) 6 0, o0 (.aload_n 0), o2 (.getfield 15) 6 4, o0 (.iaload), o0 (.bipush 122), o1 (.if_icmp .gt 63) 99, o0 (.aload_n 0), o2 (.getfield 24) 6 7, o0 (.bipush 6), o1 (.if_icmp .ge 31) 76, o0 (.aload_n 0), o0 (.aload_n 0), o2 (.getfield 30) 6 9, oC (.ldc2_w 167) (.long 100), o0 (.lmul), o0 (.aload_n 0), o2 (.getfield 46) 6 0, o0 (.aload_n 0), o2 (.getfield 15) 6 4, o0 (.iaload), o0 (.bipush 97), o0 (.isub), o0 (.iconst 1), o0 (.iadd), o0 (.i2l), o0 (.ladd), o2 (.putfield 30) 6 9]),
  (76, [o0 (.aload_n 0), o0 (.dup), o2 (.getfield 24) 6 7, o0 (.iconst 1), o0 (.iadd), o2 (.putfield 24) 6 7, o0 (.aload_n 0), o0 (.dup), o2 (.getfield 15) 6 4, o0 (.iconst 1), o0 (.iadd), o2 (.putfield 15) 6 4, o1 (.goto (-96)) 0]),
  (99, [o0 (.aload_n 0), o0 (.iconst (-1)), o2 (.putfield 27) 6 8, o0 (.iconst 0), o0 (.istore_n 1)]),
  (106, [o0 (.iload_n 1), o0 (.getstatic 169), o1 (.arraylength) 1, o1 (.if_icmp .ge 36) 147, o0 (.aload_n 0), o2 (.getfield 24) 6 7, o0 (.bipush 6), o1 (.if_icmp .gt 21) 141, o0 (.getstatic 169), o0 (.iload_n 1), o1 (.laload) 1, o0 (.aload_n 0), o2 (.getfield 30) 6 9, o0 (.lcmp), o1 (.ifCond .ne 8) 141, o0 (.aload_n 0), o0 (.iload_n 1), o2 (.putfield 27) 6 8]),
  (141, [o0 (.iinc 1 1), o1 (.goto (-38)) 106]),
  (147, [o0 (.return_)])]
theorem bk_Rd_readWord : okBlks q_Rd_readWord bl_Rd_readWord = true := by decide +kernel
noncomputable def oL_Rd_readWord {ρ : Type} (N : Nat) : List (Nat × (List Value → mS → (Option Value → mS → Option ρ) → Option ρ)) := []
theorem oo_Rd_readWord {ρ : Type} {t0 : ρ} (N : Nat) : OrcOK Sx R0x oFx nx 1 t0 (mOrc (oL_Rd_readWord N)) := mOrc_OK (mz_nil)
noncomputable def H_Rd_readWord_0 {ρ : Type} (k : mS → Option ρ) : mL → List Value → mS → Option ρ := fun loc st s => cR loc 0 18 (rv0 st (k s))
noncomputable def H_Rd_readWord_76 {ρ : Type} (k : mS → Option ρ) : mL → List Value → mS → Option ρ := fun loc st s => cR loc 0 18 (rv0 st (k s))
noncomputable def H_Rd_readWord_106 {ρ : Type} (k : (Int32 × mS) → Option ρ) : mL → List Value → mS → Option ρ := fun loc st s => cR loc 0 18 (li1 loc 1 fun v0 => rv0 st (k (v0, s)))
noncomputable def f_Rd_readWord_j76 (N : Nat) (k0 : mS → Option (mS)) (x : mS) : Option (mS) :=
  let s1 := sI x 607 18 ((gI x 607 18) + 1)
  let s2 := sI s1 604 18 ((gI s1 604 18) + 1)
  k0 s2
set_option maxRecDepth 100000 in
set_option maxHeartbeats 4000000 in
theorem s_Rd_readWord_76 (N : Nat) {s9 : mS} {k0 : mS → Option (mS)} (hk0 : SCd Sx R0x oFx nx 1 q_Rd_readWord (none, s9) s9 0 (H_Rd_readWord_0 k0)) : SCd Sx R0x oFx nx 1 q_Rd_readWord (none, s9) s9 76 (H_Rd_readWord_76 (f_Rd_readWord_j76 N k0)) := by
  intro loc st s
  refine G_cR (fun h0 => ?_)
  refine G_rv0 (fun e9 => ?_)
  subst e9
  refine G_sub (loc0 := [(0, .ref 18)]) (List.forall_mem_cons.mpr ⟨h0, mz_nil⟩) ?_
  exact G_eq (mEv_G (orc := mOrc (oL_Rd_readWord N)) (ret := rtV) (blks := bl_Rd_readWord) (cuts := [(0, H_Rd_readWord_0 k0)]) wOKx (by decide) (oo_Rd_readWord N) (RetOK_V rfl) bk_Rd_readWord (List.forall_mem_cons.mpr ⟨hk0, mz_nil⟩)) rfl
noncomputable def f_Rd_readWord_L106 (N : Nat) (k106 : (Int32 × mS) → Option (mS)) (x : Int32 × mS) : Option (mS) :=
  if x.1 < 31 then
    if 6 < (gI x.2 607 18) then
      k106 ((x.1 + 1), x.2)
    else
      grd (inb x.1 31) (
      if (lg_cmp (mSpl (ix x.1)) (gL x.2 609 18)) = 0 then
        let s1 := sI x.2 608 18 x.1
        k106 ((x.1 + 1), s1)
      else
        k106 ((x.1 + 1), x.2))
  else
    some x.2
set_option maxRecDepth 100000 in
set_option maxHeartbeats 4000000 in
theorem t_Rd_readWord_106 (N : Nat) {s9 : mS} {k106 : (Int32 × mS) → Option (mS)} (hk106 : SCd Sx R0x oFx nx 1 q_Rd_readWord (none, s9) s9 106 (H_Rd_readWord_106 k106)) : SCd Sx R0x oFx nx 1 q_Rd_readWord (none, s9) s9 106 (H_Rd_readWord_106 (f_Rd_readWord_L106 N k106)) := by
  intro loc st s
  refine G_cR (fun h0 => ?_)
  refine G_li (fun v0 h1 => ?_)
  refine G_rv0 (fun e9 => ?_)
  subst e9
  refine G_sub (loc0 := [(0, .ref 18), (1, .int v0)]) (List.forall_mem_cons.mpr ⟨h0, List.forall_mem_cons.mpr ⟨h1, mz_nil⟩⟩) ?_
  exact G_eq (mEv_G (orc := mOrc (oL_Rd_readWord N)) (ret := rtV) (blks := bl_Rd_readWord) (cuts := [(106, H_Rd_readWord_106 k106)]) wOKx (by decide) (oo_Rd_readWord N) (RetOK_V rfl) bk_Rd_readWord (List.forall_mem_cons.mpr ⟨hk106, mz_nil⟩)) rfl
theorem s_Rd_readWord_106 (N : Nat) {s9 : mS} : SCd Sx R0x oFx nx 1 q_Rd_readWord (none, s9) s9 106 (H_Rd_readWord_106 (mfix N (f_Rd_readWord_L106 N))) := by
  refine mfix_SC (H := H_Rd_readWord_106) (fun loc st s => ?_) (fun k hk => t_Rd_readWord_106 N hk) N
  refine G_cR (fun h0 => ?_)
  refine G_li (fun v0 h1 => ?_)
  refine G_rv0 (fun e9 => ?_)
  subst e9
  exact G_none
noncomputable def f_Rd_readWord_L0 (N : Nat) (k0 : mS → Option (mS)) (x : mS) : Option (mS) :=
  if (gI x 604 18) < (gI x 603 18) then
    grd (inb (gI x 604 18) 1600) (
    if (gA x 1 (ix (gI x 604 18))) < 97 then
      let s2 := sI x 608 18 (-1)
      mfix N (f_Rd_readWord_L106 N) (0, s2)
    else
      grd (inb (gI x 604 18) 1600) (
      if 122 < (gA x 1 (ix (gI x 604 18))) then
        let s3 := sI x 608 18 (-1)
        mfix N (f_Rd_readWord_L106 N) (0, s3)
      else
        if (gI x 607 18) < 6 then
          grd (inb (gI x 604 18) 1600) (
          let s4 := sL x 609 18 (((gL x 609 18) * 100) + ((((gA x 1 (ix (gI x 604 18))) - 97) + 1)).toInt64)
          f_Rd_readWord_j76 N k0 s4)
        else
          f_Rd_readWord_j76 N k0 x))
  else
    let s1 := sI x 608 18 (-1)
    mfix N (f_Rd_readWord_L106 N) (0, s1)
set_option maxRecDepth 100000 in
set_option maxHeartbeats 4000000 in
theorem t_Rd_readWord_0 (N : Nat) {s9 : mS} {k0 : mS → Option (mS)} (hk0 : SCd Sx R0x oFx nx 1 q_Rd_readWord (none, s9) s9 0 (H_Rd_readWord_0 k0)) : SCd Sx R0x oFx nx 1 q_Rd_readWord (none, s9) s9 0 (H_Rd_readWord_0 (f_Rd_readWord_L0 N k0)) := by
  intro loc st s
  refine G_cR (fun h0 => ?_)
  refine G_rv0 (fun e9 => ?_)
  subst e9
  refine G_sub (loc0 := [(0, .ref 18)]) (List.forall_mem_cons.mpr ⟨h0, mz_nil⟩) ?_
  exact G_eq (mEv_G (orc := mOrc (oL_Rd_readWord N)) (ret := rtV) (blks := bl_Rd_readWord) (cuts := [(76, H_Rd_readWord_76 (f_Rd_readWord_j76 N k0)), (106, H_Rd_readWord_106 (mfix N (f_Rd_readWord_L106 N)))]) wOKx (by decide) (oo_Rd_readWord N) (RetOK_V rfl) bk_Rd_readWord (List.forall_mem_cons.mpr ⟨s_Rd_readWord_76 N hk0, List.forall_mem_cons.mpr ⟨s_Rd_readWord_106 N, mz_nil⟩⟩)) rfl
theorem s_Rd_readWord_0 (N : Nat) {s9 : mS} : SCd Sx R0x oFx nx 1 q_Rd_readWord (none, s9) s9 0 (H_Rd_readWord_0 (mfix N (f_Rd_readWord_L0 N))) := by
  refine mfix_SC (H := H_Rd_readWord_0) (fun loc st s => ?_) (fun k hk => t_Rd_readWord_0 N hk) N
  refine G_cR (fun h0 => ?_)
  refine G_rv0 (fun e9 => ?_)
  subst e9
  exact G_none
noncomputable def f_Rd_readWord (N : Nat) (s : mS) : Option (mS) :=
  mfix N (f_Rd_readWord_L0 N) s
set_option maxRecDepth 100000 in
set_option maxHeartbeats 4000000 in
theorem m_Rd_readWord (N : Nat) {s9 : mS} {s : mS} (h : f_Rd_readWord N s = some s9) : MetM Sx R0x oFx nx 1 94 [.ref 18] s (none) s9 := by
  refine met_of_G (q := q_Rd_readWord) (t0 := s9) y_Rd_readWord (Nat.le_of_ble_eq_true rfl) ?_
  rw [← h]
  exact s_Rd_readWord_0 N _ _ _
noncomputable def C_Rd_readWord {ρ : Type} (N : Nat) : List Value → mS → (Option Value → mS → Option ρ) → Option ρ := fun vs s kk => sR vs 18 fun r0 => rv0 r0 ((f_Rd_readWord N s).bind fun p => kk none p)
theorem cs_Rd_readWord {ρ : Type} {t0 : ρ} {d : Nat} (N : Nat) (hd : 1 + 1 ≤ d) : CallOK Sx R0x oFx nx d t0 94 (C_Rd_readWord N) := by
  intro vs s kk h0
  obtain ⟨r0, rfl, h1⟩ := sR_some h0
  obtain ⟨rfl, h2⟩ := rv0_some h1
  obtain ⟨p, hp, hk⟩ := Option.bind_eq_some_iff.mp h2
  exact ⟨_, _, _, hd, m_Rd_readWord N hp, hk, fun qy hq hf => by cases y_Rd_readWord.symm.trans hq; exact ⟨_, _, rfl, rfl⟩⟩
/-! METHOD PorterDoors$Reader.readNumber()V -/
set_option maxRecDepth 20000 in
noncomputable def q_Rd_readNumber : mI := (⟨"PorterDoors$Reader", "readNumber", "()V"⟩, prog_7_method_21_code, 1, none, 6, 556, 132, 1, 0, 555, 5)
theorem y_Rd_readNumber : mT[95]? = some q_Rd_readNumber := mT_at_2 (k := 15) rfl
noncomputable def bl_Rd_readNumber : List (Nat × List mO) := [(0, [o0 (.aload_n 0), o2 (.getfield 15) 6 4, o0 (.aload_n 0), o2 (.getfield 9) 6 3, o1 (.if_icmp .ge 86) 94, o0 (.aload_n 0), o2 (.getfield 46) 6 0, o0 (.aload_n 0), o2 (.getfield 15) 6 4, o0 (.iaload), o0 (.bipush 48), o1 (.if_icmp .lt 72) 94, o0 (.aload_n 0), o2 (.getfield 46) 6 0, o0 (.aload_n 0), o2 (.getfield 15) 6 4, o0 (.iaload), o0 (.bipush 57), o1 (.if_icmp .gt 58) 94, o0 (.aload_n 0), o2 (.getfield 24) 6 7, o0 (.iconst 4), o1 (.if_icmp .ge 27) 71, o0 (.aload_n 0), o0 (.aload_n 0), o2 (.getfield 27) 6 8, o0 (.bipush 10), o0 (.imul), o0 (.aload_n 0), o2 (.getfield 46) 6 0, o0 (.aload_n 0), o2 (.getfield 15) 6 4, o0 (.iaload), o0 (.bipush 48), o0 (.isub), o0 (.iadd), o2 (.putfield 27) 6 8]),
  (71, [o0 (.aload_n 0), o0 (.dup), o2 (.getfield 24) 6 7, o0 (.iconst 1), o0 (.iadd), o2 (.putfield 24) 6 7, o0 (.aload_n 0), o0 (.dup), o2 (.getfield 15) 6 4, o0 (.iconst 1), o0 (.iadd), o2 (.putfield 15) 6 4, o1 (.goto (-91)) 0]),
  (94, [o0 (.return_)])]
theorem bk_Rd_readNumber : okBlks q_Rd_readNumber bl_Rd_readNumber = true := by decide +kernel
noncomputable def oL_Rd_readNumber {ρ : Type} (N : Nat) : List (Nat × (List Value → mS → (Option Value → mS → Option ρ) → Option ρ)) := []
theorem oo_Rd_readNumber {ρ : Type} {t0 : ρ} (N : Nat) : OrcOK Sx R0x oFx nx 1 t0 (mOrc (oL_Rd_readNumber N)) := mOrc_OK (mz_nil)
noncomputable def H_Rd_readNumber_0 {ρ : Type} (k : mS → Option ρ) : mL → List Value → mS → Option ρ := fun loc st s => cR loc 0 18 (rv0 st (k s))
noncomputable def H_Rd_readNumber_71 {ρ : Type} (k : mS → Option ρ) : mL → List Value → mS → Option ρ := fun loc st s => cR loc 0 18 (rv0 st (k s))
noncomputable def f_Rd_readNumber_j71 (N : Nat) (k0 : mS → Option (mS)) (x : mS) : Option (mS) :=
  let s1 := sI x 607 18 ((gI x 607 18) + 1)
  let s2 := sI s1 604 18 ((gI s1 604 18) + 1)
  k0 s2
set_option maxRecDepth 100000 in
set_option maxHeartbeats 4000000 in
theorem s_Rd_readNumber_71 (N : Nat) {s9 : mS} {k0 : mS → Option (mS)} (hk0 : SCd Sx R0x oFx nx 1 q_Rd_readNumber (none, s9) s9 0 (H_Rd_readNumber_0 k0)) : SCd Sx R0x oFx nx 1 q_Rd_readNumber (none, s9) s9 71 (H_Rd_readNumber_71 (f_Rd_readNumber_j71 N k0)) := by
  intro loc st s
  refine G_cR (fun h0 => ?_)
  refine G_rv0 (fun e9 => ?_)
  subst e9
  refine G_sub (loc0 := [(0, .ref 18)]) (List.forall_mem_cons.mpr ⟨h0, mz_nil⟩) ?_
  exact G_eq (mEv_G (orc := mOrc (oL_Rd_readNumber N)) (ret := rtV) (blks := bl_Rd_readNumber) (cuts := [(0, H_Rd_readNumber_0 k0)]) wOKx (by decide) (oo_Rd_readNumber N) (RetOK_V rfl) bk_Rd_readNumber (List.forall_mem_cons.mpr ⟨hk0, mz_nil⟩)) rfl
noncomputable def f_Rd_readNumber_L0 (N : Nat) (k0 : mS → Option (mS)) (x : mS) : Option (mS) :=
  if (gI x 604 18) < (gI x 603 18) then
    grd (inb (gI x 604 18) 1600) (
    if (gA x 1 (ix (gI x 604 18))) < 48 then
      some x
    else
      grd (inb (gI x 604 18) 1600) (
      if 57 < (gA x 1 (ix (gI x 604 18))) then
        some x
      else
        if (gI x 607 18) < 4 then
          grd (inb (gI x 604 18) 1600) (
          let s1 := sI x 608 18 (((gI x 608 18) * 10) + ((gA x 1 (ix (gI x 604 18))) - 48))
          f_Rd_readNumber_j71 N k0 s1)
        else
          f_Rd_readNumber_j71 N k0 x))
  else
    some x
set_option maxRecDepth 100000 in
set_option maxHeartbeats 4000000 in
theorem t_Rd_readNumber_0 (N : Nat) {s9 : mS} {k0 : mS → Option (mS)} (hk0 : SCd Sx R0x oFx nx 1 q_Rd_readNumber (none, s9) s9 0 (H_Rd_readNumber_0 k0)) : SCd Sx R0x oFx nx 1 q_Rd_readNumber (none, s9) s9 0 (H_Rd_readNumber_0 (f_Rd_readNumber_L0 N k0)) := by
  intro loc st s
  refine G_cR (fun h0 => ?_)
  refine G_rv0 (fun e9 => ?_)
  subst e9
  refine G_sub (loc0 := [(0, .ref 18)]) (List.forall_mem_cons.mpr ⟨h0, mz_nil⟩) ?_
  exact G_eq (mEv_G (orc := mOrc (oL_Rd_readNumber N)) (ret := rtV) (blks := bl_Rd_readNumber) (cuts := [(71, H_Rd_readNumber_71 (f_Rd_readNumber_j71 N k0))]) wOKx (by decide) (oo_Rd_readNumber N) (RetOK_V rfl) bk_Rd_readNumber (List.forall_mem_cons.mpr ⟨s_Rd_readNumber_71 N hk0, mz_nil⟩)) rfl
theorem s_Rd_readNumber_0 (N : Nat) {s9 : mS} : SCd Sx R0x oFx nx 1 q_Rd_readNumber (none, s9) s9 0 (H_Rd_readNumber_0 (mfix N (f_Rd_readNumber_L0 N))) := by
  refine mfix_SC (H := H_Rd_readNumber_0) (fun loc st s => ?_) (fun k hk => t_Rd_readNumber_0 N hk) N
  refine G_cR (fun h0 => ?_)
  refine G_rv0 (fun e9 => ?_)
  subst e9
  exact G_none
noncomputable def f_Rd_readNumber (N : Nat) (s : mS) : Option (mS) :=
  mfix N (f_Rd_readNumber_L0 N) s
set_option maxRecDepth 100000 in
set_option maxHeartbeats 4000000 in
theorem m_Rd_readNumber (N : Nat) {s9 : mS} {s : mS} (h : f_Rd_readNumber N s = some s9) : MetM Sx R0x oFx nx 1 95 [.ref 18] s (none) s9 := by
  refine met_of_G (q := q_Rd_readNumber) (t0 := s9) y_Rd_readNumber (Nat.le_of_ble_eq_true rfl) ?_
  rw [← h]
  exact s_Rd_readNumber_0 N _ _ _
noncomputable def C_Rd_readNumber {ρ : Type} (N : Nat) : List Value → mS → (Option Value → mS → Option ρ) → Option ρ := fun vs s kk => sR vs 18 fun r0 => rv0 r0 ((f_Rd_readNumber N s).bind fun p => kk none p)
theorem cs_Rd_readNumber {ρ : Type} {t0 : ρ} {d : Nat} (N : Nat) (hd : 1 + 1 ≤ d) : CallOK Sx R0x oFx nx d t0 95 (C_Rd_readNumber N) := by
  intro vs s kk h0
  obtain ⟨r0, rfl, h1⟩ := sR_some h0
  obtain ⟨rfl, h2⟩ := rv0_some h1
  obtain ⟨p, hp, hk⟩ := Option.bind_eq_some_iff.mp h2
  exact ⟨_, _, _, hd, m_Rd_readNumber N hp, hk, fun qy hq hf => by cases y_Rd_readNumber.symm.trans hq; exact ⟨_, _, rfl, rfl⟩⟩
/-! METHOD PorterDoors$Reader.advance()V -/
set_option maxRecDepth 20000 in
noncomputable def q_Rd_advance : mI := (⟨"PorterDoors$Reader", "advance", "()V"⟩, prog_7_method_19_code, 2, none, 6, 545, 132, 1, 0, 544, 3)
theorem y_Rd_advance : mT[93]? = some q_Rd_advance := mT_at_2 (k := 13) rfl
noncomputable def bl_Rd_advance : List (Nat × List mO) := [(0, [o0 (.aload_n 0), o2 (.getfield 40) 6 12, o1 (.ifCond .eq 4) 8, o0 (.return_)]),
  (8, [o0 (.aload_n 0), o2 (.getfield 18) 6 5, o0 (.sipush 256), o1 (.if_icmp .eq 13) 28, o0 (.aload_n 0), o2 (.getfield 18) 6 5, o0 (.sipush 257), o1 (.if_icmp .ne 7) 32]),
  (28, [o0 (.iconst 1), o1 (.goto 4) 33]),
  (32, [o0 (.iconst 0)]),
  (33, [o0 (.istore_n 1)]),
  (34, [o0 (.aload_n 0), o2 (.getfield 15) 6 4, o0 (.aload_n 0), o2 (.getfield 9) 6 3, o1 (.if_icmp .ge 46) 88, o0 (.aload_n 0), o2 (.getfield 46) 6 0, o0 (.aload_n 0), o2 (.getfield 15) 6 4, o0 (.iaload), o0 (.bipush 32), o1 (.if_icmp .eq 17) 73, o0 (.aload_n 0), o2 (.getfield 46) 6 0, o0 (.aload_n 0), o2 (.getfield 15) 6 4, o0 (.iaload), o0 (.bipush 10), o1 (.if_icmp .ne 18) 88]),
  (73, [o0 (.aload_n 0), o0 (.dup), o2 (.getfield 15) 6 4, o0 (.iconst 1), o0 (.iadd), o2 (.putfield 15) 6 4, o0 (.iconst 0), o0 (.istore_n 1), o1 (.goto (-51)) 34]),
  (88, [o0 (.aload_n 0), o0 (.aload_n 0), o2 (.getfield 15) 6 4, o2 (.putfield 21) 6 6, o0 (.aload_n 0), o0 (.iconst 0), o2 (.putfield 24) 6 7, o0 (.aload_n 0), o0 (.iconst 0), o2 (.putfield 27) 6 8, o0 (.aload_n 0), o0 (.lconst 0), o2 (.putfield 30) 6 9, o0 (.aload_n 0), o2 (.getfield 15) 6 4, o0 (.aload_n 0), o2 (.getfield 9) 6 3, o1 (.if_icmp .lt 13) 132, o0 (.aload_n 0), o0 (.sipush 258), o2 (.putfield 18) 6 5, o1 (.goto 130) 259]),
  (132, [o0 (.aload_n 0), o2 (.getfield 46) 6 0, o0 (.aload_n 0), o2 (.getfield 15) 6 4, o0 (.iaload), o0 (.bipush 97), o1 (.if_icmp .lt 41) 184, o0 (.aload_n 0), o2 (.getfield 46) 6 0, o0 (.aload_n 0), o2 (.getfield 15) 6 4, o0 (.iaload), o0 (.bipush 122), o1 (.if_icmp .gt 27) 184, o0 (.aload_n 0), o2 (.invokevirtual 161) 94 1, o0 (.aload_n 0), o0 (.iload_n 1), o1 (.ifCond .eq 9) 175, o0 (.sipush 259), o1 (.goto 6) 178]),
  (175, [o0 (.sipush 256)]),
  (178, [o2 (.putfield 18) 6 5, o1 (.goto 78) 259]),
  (184, [o0 (.aload_n 0), o2 (.getfield 46) 6 0, o0 (.aload_n 0), o2 (.getfield 15) 6 4, o0 (.iaload), o0 (.bipush 48), o1 (.if_icmp .lt 41) 236, o0 (.aload_n 0), o2 (.getfield 46) 6 0, o0 (.aload_n 0), o2 (.getfield 15) 6 4, o0 (.iaload), o0 (.bipush 57), o1 (.if_icmp .gt 27) 236, o0 (.aload_n 0), o2 (.invokevirtual 164) 95 1, o0 (.aload_n 0), o0 (.iload_n 1), o1 (.ifCond .eq 9) 227, o0 (.sipush 259), o1 (.goto 6) 230]),
  (227, [o0 (.sipush 257)]),
  (230, [o2 (.putfield 18) 6 5, o1 (.goto 26) 259]),
  (236, [o0 (.aload_n 0), o0 (.aload_n 0), o2 (.getfield 46) 6 0, o0 (.aload_n 0), o2 (.getfield 15) 6 4, o0 (.iaload), o2 (.putfield 18) 6 5, o0 (.aload_n 0), o0 (.dup), o2 (.getfield 15) 6 4, o0 (.iconst 1), o0 (.iadd), o2 (.putfield 15) 6 4]),
  (259, [o0 (.return_)])]
theorem bk_Rd_advance : okBlks q_Rd_advance bl_Rd_advance = true := by decide +kernel
noncomputable def oL_Rd_advance {ρ : Type} (N : Nat) : List (Nat × (List Value → mS → (Option Value → mS → Option ρ) → Option ρ)) := [(94, C_Rd_readWord N), (95, C_Rd_readNumber N)]
theorem oo_Rd_advance {ρ : Type} {t0 : ρ} (N : Nat) : OrcOK Sx R0x oFx nx 2 t0 (mOrc (oL_Rd_advance N)) := mOrc_OK (List.forall_mem_cons.mpr ⟨cs_Rd_readWord N (by decide), List.forall_mem_cons.mpr ⟨cs_Rd_readNumber N (by decide), mz_nil⟩⟩)
noncomputable def H_Rd_advance_34 {ρ : Type} (k : (Int32 × mS) → Option ρ) : mL → List Value → mS → Option ρ := fun loc st s => cR loc 0 18 (li1 loc 1 fun v0 => rv0 st (k (v0, s)))
noncomputable def H_Rd_advance_73 {ρ : Type} (k : mS → Option ρ) : mL → List Value → mS → Option ρ := fun loc st s => cR loc 0 18 (rv0 st (k s))
noncomputable def H_Rd_advance_88 {ρ : Type} (k : (Int32 × mS) → Option ρ) : mL → List Value → mS → Option ρ := fun loc st s => cR loc 0 18 (li1 loc 1 fun v0 => rv0 st (k (v0, s)))
noncomputable def H_Rd_advance_184 {ρ : Type} (k : (Int32 × mS) → Option ρ) : mL → List Value → mS → Option ρ := fun loc st s => cR loc 0 18 (li1 loc 1 fun v0 => rv0 st (k (v0, s)))
noncomputable def H_Rd_advance_236 {ρ : Type} (k : mS → Option ρ) : mL → List Value → mS → Option ρ := fun loc st s => cR loc 0 18 (rv0 st (k s))
noncomputable def f_Rd_advance_j73 (N : Nat) (k34 : (Int32 × mS) → Option (mS)) (x : mS) : Option (mS) :=
  let s1 := sI x 604 18 ((gI x 604 18) + 1)
  k34 (0, s1)
set_option maxRecDepth 100000 in
set_option maxHeartbeats 4000000 in
theorem s_Rd_advance_73 (N : Nat) {s9 : mS} {k34 : (Int32 × mS) → Option (mS)} (hk34 : SCd Sx R0x oFx nx 2 q_Rd_advance (none, s9) s9 34 (H_Rd_advance_34 k34)) : SCd Sx R0x oFx nx 2 q_Rd_advance (none, s9) s9 73 (H_Rd_advance_73 (f_Rd_advance_j73 N k34)) := by
  intro loc st s
  refine G_cR (fun h0 => ?_)
  refine G_rv0 (fun e9 => ?_)
  subst e9
  refine G_sub (loc0 := [(0, .ref 18)]) (List.forall_mem_cons.mpr ⟨h0, mz_nil⟩) ?_
  exact G_eq (mEv_G (orc := mOrc (oL_Rd_advance N)) (ret := rtV) (blks := bl_Rd_advance) (cuts := [(34, H_Rd_advance_34 k34)]) wOKx (by decide) (oo_Rd_advance N) (RetOK_V rfl) bk_Rd_advance (List.forall_mem_cons.mpr ⟨hk34, mz_nil⟩)) rfl
noncomputable def f_Rd_advance_j236 (N : Nat) (x : mS) : Option (mS) :=
  grd (inb (gI x 604 18) 1600) (
  let s1 := sI x 605 18 (gA x 1 (ix (gI x 604 18)))
  let s2 := sI s1 604 18 ((gI s1 604 18) + 1)
  some s2)
set_option maxRecDepth 100000 in
set_option maxHeartbeats 4000000 in
theorem s_Rd_advance_236 (N : Nat) {s9 : mS} : SCd Sx R0x oFx nx 2 q_Rd_advance (none, s9) s9 236 (H_Rd_advance_236 (f_Rd_advance_j236 N)) := by
  intro loc st s
  refine G_cR (fun h0 => ?_)
  refine G_rv0 (fun e9 => ?_)
  subst e9
  refine G_sub (loc0 := [(0, .ref 18)]) (List.forall_mem_cons.mpr ⟨h0, mz_nil⟩) ?_
  exact G_eq (mEv_G (orc := mOrc (oL_Rd_advance N)) (ret := rtV) (blks := bl_Rd_advance) (cuts := []) wOKx (by decide) (oo_Rd_advance N) (RetOK_V rfl) bk_Rd_advance (mz_nil)) rfl
noncomputable def f_Rd_advance_j184 (N : Nat) (x : Int32 × mS) : Option (mS) :=
  grd (inb (gI x.2 604 18) 1600) (
  if (gA x.2 1 (ix (gI x.2 604 18))) < 48 then
    f_Rd_advance_j236 N x.2
  else
    grd (inb (gI x.2 604 18) 1600) (
    if 57 < (gA x.2 1 (ix (gI x.2 604 18))) then
      f_Rd_advance_j236 N x.2
    else
      (f_Rd_readNumber N x.2).bind fun p1 =>
      if x.1 = 0 then
        let s2 := sI p1 605 18 257
        some s2
      else
        let s3 := sI p1 605 18 259
        some s3))
set_option maxRecDepth 100000 in
set_option maxHeartbeats 4000000 in
theorem s_Rd_advance_184 (N : Nat) {s9 : mS} : SCd Sx R0x oFx nx 2 q_Rd_advance (none, s9) s9 184 (H_Rd_advance_184 (f_Rd_advance_j184 N)) := by
  intro loc st s
  refine G_cR (fun h0 => ?_)
  refine G_li (fun v0 h1 => ?_)
  refine G_rv0 (fun e9 => ?_)
  subst e9
  refine G_sub (loc0 := [(0, .ref 18), (1, .int v0)]) (List.forall_mem_cons.mpr ⟨h0, List.forall_mem_cons.mpr ⟨h1, mz_nil⟩⟩) ?_
  exact G_eq (mEv_G (orc := mOrc (oL_Rd_advance N)) (ret := rtV) (blks := bl_Rd_advance) (cuts := [(236, H_Rd_advance_236 (f_Rd_advance_j236 N))]) wOKx (by decide) (oo_Rd_advance N) (RetOK_V rfl) bk_Rd_advance (List.forall_mem_cons.mpr ⟨s_Rd_advance_236 N, mz_nil⟩)) rfl
noncomputable def f_Rd_advance_j88 (N : Nat) (x : Int32 × mS) : Option (mS) :=
  let s1 := sI x.2 606 18 (gI x.2 604 18)
  let s2 := sI s1 607 18 0
  let s3 := sI s2 608 18 0
  let s4 := sL s3 609 18 0
  if (gI s4 604 18) < (gI s4 603 18) then
    grd (inb (gI s4 604 18) 1600) (
    if (gA s4 1 (ix (gI s4 604 18))) < 97 then
      f_Rd_advance_j184 N (x.1, s4)
    else
      grd (inb (gI s4 604 18) 1600) (
      if 122 < (gA s4 1 (ix (gI s4 604 18))) then
        f_Rd_advance_j184 N (x.1, s4)
      else
        (f_Rd_readWord N s4).bind fun p5 =>
        if x.1 = 0 then
          let s6 := sI p5 605 18 256
          some s6
        else
          let s7 := sI p5 605 18 259
          some s7))
  else
    let s8 := sI s4 605 18 258
    some s8
set_option maxRecDepth 100000 in
set_option maxHeartbeats 4000000 in
theorem s_Rd_advance_88 (N : Nat) {s9 : mS} : SCd Sx R0x oFx nx 2 q_Rd_advance (none, s9) s9 88 (H_Rd_advance_88 (f_Rd_advance_j88 N)) := by
  intro loc st s
  refine G_cR (fun h0 => ?_)
  refine G_li (fun v0 h1 => ?_)
  refine G_rv0 (fun e9 => ?_)
  subst e9
  refine G_sub (loc0 := [(0, .ref 18), (1, .int v0)]) (List.forall_mem_cons.mpr ⟨h0, List.forall_mem_cons.mpr ⟨h1, mz_nil⟩⟩) ?_
  exact G_eq (mEv_G (orc := mOrc (oL_Rd_advance N)) (ret := rtV) (blks := bl_Rd_advance) (cuts := [(184, H_Rd_advance_184 (f_Rd_advance_j184 N))]) wOKx (by decide) (oo_Rd_advance N) (RetOK_V rfl) bk_Rd_advance (List.forall_mem_cons.mpr ⟨s_Rd_advance_184 N, mz_nil⟩)) rfl
noncomputable def f_Rd_advance_L34 (N : Nat) (k34 : (Int32 × mS) → Option (mS)) (x : Int32 × mS) : Option (mS) :=
  if (gI x.2 604 18) < (gI x.2 603 18) then
    grd (inb (gI x.2 604 18) 1600) (
    if (gA x.2 1 (ix (gI x.2 604 18))) = 32 then
      f_Rd_advance_j73 N k34 x.2
    else
      grd (inb (gI x.2 604 18) 1600) (
      if (gA x.2 1 (ix (gI x.2 604 18))) = 10 then
        f_Rd_advance_j73 N k34 x.2
      else
        f_Rd_advance_j88 N (x.1, x.2)))
  else
    f_Rd_advance_j88 N (x.1, x.2)
set_option maxRecDepth 100000 in
set_option maxHeartbeats 4000000 in
theorem t_Rd_advance_34 (N : Nat) {s9 : mS} {k34 : (Int32 × mS) → Option (mS)} (hk34 : SCd Sx R0x oFx nx 2 q_Rd_advance (none, s9) s9 34 (H_Rd_advance_34 k34)) : SCd Sx R0x oFx nx 2 q_Rd_advance (none, s9) s9 34 (H_Rd_advance_34 (f_Rd_advance_L34 N k34)) := by
  intro loc st s
  refine G_cR (fun h0 => ?_)
  refine G_li (fun v0 h1 => ?_)
  refine G_rv0 (fun e9 => ?_)
  subst e9
  refine G_sub (loc0 := [(0, .ref 18), (1, .int v0)]) (List.forall_mem_cons.mpr ⟨h0, List.forall_mem_cons.mpr ⟨h1, mz_nil⟩⟩) ?_
  exact G_eq (mEv_G (orc := mOrc (oL_Rd_advance N)) (ret := rtV) (blks := bl_Rd_advance) (cuts := [(73, H_Rd_advance_73 (f_Rd_advance_j73 N k34)), (88, H_Rd_advance_88 (f_Rd_advance_j88 N))]) wOKx (by decide) (oo_Rd_advance N) (RetOK_V rfl) bk_Rd_advance (List.forall_mem_cons.mpr ⟨s_Rd_advance_73 N hk34, List.forall_mem_cons.mpr ⟨s_Rd_advance_88 N, mz_nil⟩⟩)) rfl
theorem s_Rd_advance_34 (N : Nat) {s9 : mS} : SCd Sx R0x oFx nx 2 q_Rd_advance (none, s9) s9 34 (H_Rd_advance_34 (mfix N (f_Rd_advance_L34 N))) := by
  refine mfix_SC (H := H_Rd_advance_34) (fun loc st s => ?_) (fun k hk => t_Rd_advance_34 N hk) N
  refine G_cR (fun h0 => ?_)
  refine G_li (fun v0 h1 => ?_)
  refine G_rv0 (fun e9 => ?_)
  subst e9
  exact G_none
noncomputable def f_Rd_advance (N : Nat) (s : mS) : Option (mS) :=
  if (gI s 612 18) = 0 then
    if (gI s 605 18) = 256 then
      mfix N (f_Rd_advance_L34 N) (1, s)
    else
      if (gI s 605 18) = 257 then
        mfix N (f_Rd_advance_L34 N) (1, s)
      else
        mfix N (f_Rd_advance_L34 N) (0, s)
  else
    some s
set_option maxRecDepth 100000 in
set_option maxHeartbeats 4000000 in
theorem m_Rd_advance (N : Nat) {s9 : mS} {s : mS} (h : f_Rd_advance N s = some s9) : MetM Sx R0x oFx nx 2 93 [.ref 18] s (none) s9 := by
  refine met_of_G (q := q_Rd_advance) (t0 := s9) y_Rd_advance (Nat.le_of_ble_eq_true rfl) ?_
  rw [← h]
  exact G_eq (mEv_G (orc := mOrc (oL_Rd_advance N)) (ret := rtV) (blks := bl_Rd_advance) (cuts := [(34, H_Rd_advance_34 (mfix N (f_Rd_advance_L34 N)))]) wOKx (by decide) (oo_Rd_advance N) (RetOK_V rfl) bk_Rd_advance (List.forall_mem_cons.mpr ⟨s_Rd_advance_34 N, mz_nil⟩)) rfl
noncomputable def C_Rd_advance {ρ : Type} (N : Nat) : List Value → mS → (Option Value → mS → Option ρ) → Option ρ := fun vs s kk => sR vs 18 fun r0 => rv0 r0 ((f_Rd_advance N s).bind fun p => kk none p)
theorem cs_Rd_advance {ρ : Type} {t0 : ρ} {d : Nat} (N : Nat) (hd : 2 + 1 ≤ d) : CallOK Sx R0x oFx nx d t0 93 (C_Rd_advance N) := by
  intro vs s kk h0
  obtain ⟨r0, rfl, h1⟩ := sR_some h0
  obtain ⟨rfl, h2⟩ := rv0_some h1
  obtain ⟨p, hp, hk⟩ := Option.bind_eq_some_iff.mp h2
  exact ⟨_, _, _, hd, m_Rd_advance N hp, hk, fun qy hq hf => by cases y_Rd_advance.symm.trans hq; exact ⟨_, _, rfl, rfl⟩⟩
/-! METHOD PorterDoors$Reader.begin(ILPorterDoors$Program;)V -/
set_option maxRecDepth 20000 in
noncomputable def q_Rd_begin : mI := (⟨"PorterDoors$Reader", "begin", "(ILPorterDoors$Program;)V"⟩, prog_7_method_2_code, 3, none, 6, 538, 132, 1, 2, 536, 537)
theorem y_Rd_begin : mT[92]? = some q_Rd_begin := mT_at_2 (k := 12) rfl
noncomputable def bl_Rd_begin : List (Nat × List mO) := [(0, [o0 (.aload_n 0), o0 (.iload_n 1), o0 (.aload_n 0), o2 (.getfield 46) 6 0, o0 (.arraylength), o2 (.invokestatic 63) 277 2, o2 (.putfield 9) 6 3, o0 (.aload_n 0), o0 (.aload_n 2), o2 (.putfield 60) 6 2, o0 (.aload_n 0), o0 (.iconst 0), o2 (.putfield 15) 6 4, o0 (.aload_n 0), o0 (.sipush 260), o2 (.putfield 18) 6 5, o0 (.aload_n 0), o0 (.iconst 0), o2 (.putfield 37) 6 11, o0 (.aload_n 0), o0 (.iconst 0), o2 (.putfield 40) 6 12, o0 (.aload_n 0), o0 (.iconst (-1)), o2 (.putfield 43) 6 13, o0 (.aload_n 0), o2 (.invokevirtual 69) 93 1, o0 (.return_)])]
theorem bk_Rd_begin : okBlks q_Rd_begin bl_Rd_begin = true := by decide +kernel
noncomputable def oL_Rd_begin {ρ : Type} (N : Nat) : List (Nat × (List Value → mS → (Option Value → mS → Option ρ) → Option ρ)) := [(277, C_Math_min N), (93, C_Rd_advance N)]
theorem oo_Rd_begin {ρ : Type} {t0 : ρ} (N : Nat) : OrcOK Sx R0x oFx nx 3 t0 (mOrc (oL_Rd_begin N)) := mOrc_OK (List.forall_mem_cons.mpr ⟨cs_Math_min N wOKx (by decide), List.forall_mem_cons.mpr ⟨cs_Rd_advance N (by decide), mz_nil⟩⟩)
noncomputable def f_Rd_begin (N : Nat) (a1 : Int32) (a2 : Nat) (s : mS) : Option (mS) :=
  (f_Math_min N a1 1600 s).bind fun p1 =>
  let s2 := sI p1.2 603 18 p1.1
  let s3 := sO s2 a2
  let s4 := sI s3 604 18 0
  let s5 := sI s4 605 18 260
  let s6 := sI s5 611 18 0
  let s7 := sI s6 612 18 0
  let s8 := sI s7 613 18 (-1)
  (f_Rd_advance N s8).bind fun p9 =>
  some p9
set_option maxRecDepth 100000 in
set_option maxHeartbeats 4000000 in
theorem m_Rd_begin (N : Nat) {s9 : mS} (a1 : Int32) (a2 : Nat) {s : mS} (h : f_Rd_begin N a1 a2 s = some s9) : MetM Sx R0x oFx nx 3 92 [.ref 18, .int a1, .ref a2] s (none) s9 := by
  refine met_of_G (q := q_Rd_begin) (t0 := s9) y_Rd_begin (Nat.le_of_ble_eq_true rfl) ?_
  rw [← h]
  exact G_eq (mEv_G (orc := mOrc (oL_Rd_begin N)) (ret := rtV) (blks := bl_Rd_begin) (cuts := []) wOKx (by decide) (oo_Rd_begin N) (RetOK_V rfl) bk_Rd_begin (mz_nil)) rfl
noncomputable def C_Rd_begin {ρ : Type} (N : Nat) : List Value → mS → (Option Value → mS → Option ρ) → Option ρ := fun vs s kk => sR vs 18 fun r0 => pi1 r0 fun a1 r1 => pr1 r1 fun a2 r2 => rv0 r2 ((f_Rd_begin N a1 a2 s).bind fun p => kk none p)
theorem cs_Rd_begin {ρ : Type} {t0 : ρ} {d : Nat} (N : Nat) (hd : 3 + 1 ≤ d) : CallOK Sx R0x oFx nx d t0 92 (C_Rd_begin N) := by
  intro vs s kk h0
  obtain ⟨r0, rfl, h1⟩ := sR_some h0
  obtain ⟨a1, r1, rfl, h2⟩ := pi1_some h1
  obtain ⟨a2, r2, rfl, h3⟩ := pr1_some h2
  obtain ⟨rfl, h4⟩ := rv0_some h3
  obtain ⟨p, hp, hk⟩ := Option.bind_eq_some_iff.mp h4
  exact ⟨_, _, _, hd, m_Rd_begin N a1 a2 hp, hk, fun qy hq hf => by cases y_Rd_begin.symm.trans hq; exact ⟨_, _, rfl, rfl⟩⟩
/-! METHOD PorterDoors$Reader.hasMore()Z -/
set_option maxRecDepth 20000 in
noncomputable def q_Rd_hasMore : mI := (⟨"PorterDoors$Reader", "hasMore", "()Z"⟩, prog_7_method_3_code, 1, (some .boolean), 6, 560, 132, 1, 0, 558, 559)
theorem y_Rd_hasMore : mT[96]? = some q_Rd_hasMore := mT_at_2 (k := 16) rfl
noncomputable def bl_Rd_hasMore : List (Nat × List mO) := [(0, [o0 (.aload_n 0), o2 (.getfield 18) 6 5, o0 (.sipush 258), o1 (.if_icmp .eq 17) 24, o0 (.aload_n 0), o2 (.getfield 18) 6 5, o0 (.sipush 260), o1 (.if_icmp .eq 7) 24, o0 (.iconst 1), o1 (.goto 4) 25]),
  (24, [o0 (.iconst 0)]),
  (25, [o0 (.ireturn)])]
theorem bk_Rd_hasMore : okBlks q_Rd_hasMore bl_Rd_hasMore = true := by decide +kernel
noncomputable def oL_Rd_hasMore {ρ : Type} (N : Nat) : List (Nat × (List Value → mS → (Option Value → mS → Option ρ) → Option ρ)) := []
theorem oo_Rd_hasMore {ρ : Type} {t0 : ρ} (N : Nat) : OrcOK Sx R0x oFx nx 1 t0 (mOrc (oL_Rd_hasMore N)) := mOrc_OK (mz_nil)
noncomputable def f_Rd_hasMore (N : Nat) (s : mS) : Option (Int32 × mS) :=
  if (gI s 605 18) = 258 then
    some (0, s)
  else
    if (gI s 605 18) = 260 then
      some (0, s)
    else
      some (1, s)
set_option maxRecDepth 100000 in
set_option maxHeartbeats 4000000 in
theorem m_Rd_hasMore (N : Nat) {x9 : Int32} {s9 : mS} {s : mS} (h : f_Rd_hasMore N s = some (x9, s9)) : MetM Sx R0x oFx nx 1 96 [.ref 18] s (some (.int x9)) s9 := by
  refine met_of_G (q := q_Rd_hasMore) (t0 := (x9, s9)) y_Rd_hasMore (Nat.le_of_ble_eq_true rfl) ?_
  rw [← h]
  exact G_eq (mEv_G (orc := mOrc (oL_Rd_hasMore N)) (ret := rtZ) (blks := bl_Rd_hasMore) (cuts := []) wOKx (by decide) (oo_Rd_hasMore N) (RetOK_Z rfl) bk_Rd_hasMore (mz_nil)) rfl
noncomputable def C_Rd_hasMore {ρ : Type} (N : Nat) : List Value → mS → (Option Value → mS → Option ρ) → Option ρ := fun vs s kk => sR vs 18 fun r0 => rv0 r0 ((f_Rd_hasMore N s).bind fun p => kk (some (.int p.1)) p.2)
theorem cs_Rd_hasMore {ρ : Type} {t0 : ρ} {d : Nat} (N : Nat) (hd : 1 + 1 ≤ d) : CallOK Sx R0x oFx nx d t0 96 (C_Rd_hasMore N) := by
  intro vs s kk h0
  obtain ⟨r0, rfl, h1⟩ := sR_some h0
  obtain ⟨rfl, h2⟩ := rv0_some h1
  obtain ⟨p, hp, hk⟩ := Option.bind_eq_some_iff.mp h2
  exact ⟨_, _, _, hd, m_Rd_hasMore N hp, hk, fun qy hq hf => by cases y_Rd_hasMore.symm.trans hq; exact ⟨_, _, rfl, rfl⟩⟩
/-! METHOD PorterDoors$Reader.word()I -/
set_option maxRecDepth 20000 in
noncomputable def q_Rd_word : mI := (⟨"PorterDoors$Reader", "word", "()I"⟩, prog_7_method_17_code, 1, (some .int), 6, 568, 132, 1, 0, 567, 6)
theorem y_Rd_word : mT[98]? = some q_Rd_word := mT_at_2 (k := 18) rfl
noncomputable def bl_Rd_word : List (Nat × List mO) := [(0, [o0 (.aload_n 0), o2 (.getfield 18) 6 5, o0 (.sipush 256), o1 (.if_icmp .ne 10) 17, o0 (.aload_n 0), o2 (.getfield 27) 6 8, o1 (.goto 4) 18]),
  (17, [o0 (.iconst (-1))]),
  (18, [o0 (.ireturn)])]
theorem bk_Rd_word : okBlks q_Rd_word bl_Rd_word = true := by decide +kernel
noncomputable def oL_Rd_word {ρ : Type} (N : Nat) : List (Nat × (List Value → mS → (Option Value → mS → Option ρ) → Option ρ)) := []
theorem oo_Rd_word {ρ : Type} {t0 : ρ} (N : Nat) : OrcOK Sx R0x oFx nx 1 t0 (mOrc (oL_Rd_word N)) := mOrc_OK (mz_nil)
noncomputable def f_Rd_word (N : Nat) (s : mS) : Option (Int32 × mS) :=
  if (gI s 605 18) = 256 then
    some ((gI s 608 18), s)
  else
    some ((-1), s)
set_option maxRecDepth 100000 in
set_option maxHeartbeats 4000000 in
theorem m_Rd_word (N : Nat) {x9 : Int32} {s9 : mS} {s : mS} (h : f_Rd_word N s = some (x9, s9)) : MetM Sx R0x oFx nx 1 98 [.ref 18] s (some (.int x9)) s9 := by
  refine met_of_G (q := q_Rd_word) (t0 := (x9, s9)) y_Rd_word (Nat.le_of_ble_eq_true rfl) ?_
  rw [← h]
  exact G_eq (mEv_G (orc := mOrc (oL_Rd_word N)) (ret := rtI) (blks := bl_Rd_word) (cuts := []) wOKx (by decide) (oo_Rd_word N) (RetOK_I rfl) bk_Rd_word (mz_nil)) rfl
noncomputable def C_Rd_word {ρ : Type} (N : Nat) : List Value → mS → (Option Value → mS → Option ρ) → Option ρ := fun vs s kk => sR vs 18 fun r0 => rv0 r0 ((f_Rd_word N s).bind fun p => kk (some (.int p.1)) p.2)
theorem cs_Rd_word {ρ : Type} {t0 : ρ} {d : Nat} (N : Nat) (hd : 1 + 1 ≤ d) : CallOK Sx R0x oFx nx d t0 98 (C_Rd_word N) := by
  intro vs s kk h0
  obtain ⟨r0, rfl, h1⟩ := sR_some h0
  obtain ⟨rfl, h2⟩ := rv0_some h1
  obtain ⟨p, hp, hk⟩ := Option.bind_eq_some_iff.mp h2
  exact ⟨_, _, _, hd, m_Rd_word N hp, hk, fun qy hq hf => by cases y_Rd_word.symm.trans hq; exact ⟨_, _, rfl, rfl⟩⟩
/-! METHOD PorterDoors$Reader.isOneTooMany(I)Z -/
set_option maxRecDepth 20000 in
noncomputable def q_Rd_isOneTooMany : mI := (⟨"PorterDoors$Reader", "isOneTooMany", "(I)Z"⟩, prog_7_method_5_code, 2, (some .boolean), 6, 572, 132, 1, 1, 571, 7)
theorem y_Rd_isOneTooMany : mT[99]? = some q_Rd_isOneTooMany := mT_at_2 (k := 19) rfl
noncomputable def bl_Rd_isOneTooMany : List (Nat × List mO) := [(0, [o0 (.iload_n 1), o0 (.iconst 1), o1 (.if_icmp .ne 15) 17, o0 (.aload_n 0), o2 (.getfield 50) 6 1, o2 (.getfield 89) 4 1, o0 (.bipush 10), o1 (.if_icmp .ge 34) 48]),
  (17, [o0 (.iload_n 1), o0 (.iconst 5), o1 (.if_icmp .ne 13) 32, o0 (.aload_n 0), o2 (.getfield 50) 6 1, o2 (.getfield 100) 4 11, o1 (.ifCond .ne 19) 48]),
  (32, [o0 (.iload_n 1), o0 (.bipush 6), o1 (.if_icmp .ne 17) 52, o0 (.aload_n 0), o2 (.getfield 50) 6 1, o2 (.getfield 105) 4 12, o1 (.ifCond .eq 7) 52]),
  (48, [o0 (.iconst 1), o1 (.goto 4) 53]),
  (52, [o0 (.iconst 0)]),
  (53, [o0 (.ireturn)])]
theorem bk_Rd_isOneTooMany : okBlks q_Rd_isOneTooMany bl_Rd_isOneTooMany = true := by decide +kernel
noncomputable def oL_Rd_isOneTooMany {ρ : Type} (N : Nat) : List (Nat × (List Value → mS → (Option Value → mS → Option ρ) → Option ρ)) := []
theorem oo_Rd_isOneTooMany {ρ : Type} {t0 : ρ} (N : Nat) : OrcOK Sx R0x oFx nx 1 t0 (mOrc (oL_Rd_isOneTooMany N)) := mOrc_OK (mz_nil)
noncomputable def H_Rd_isOneTooMany_17 {ρ : Type} (k : (Int32 × mS) → Option ρ) : mL → List Value → mS → Option ρ := fun loc st s => cR loc 0 18 (li1 loc 1 fun v0 => rv0 st (k (v0, s)))
noncomputable def H_Rd_isOneTooMany_32 {ρ : Type} (k : (Int32 × mS) → Option ρ) : mL → List Value → mS → Option ρ := fun loc st s => cR loc 0 18 (li1 loc 1 fun v0 => rv0 st (k (v0, s)))
noncomputable def f_Rd_isOneTooMany_j32 (N : Nat) (x : Int32 × mS) : Option (Int32 × mS) :=
  if x.1 = 6 then
    if (gI x.2 412 9) = 0 then
      some (0, x.2)
    else
      some (1, x.2)
  else
    some (0, x.2)
set_option maxRecDepth 100000 in
set_option maxHeartbeats 4000000 in
theorem s_Rd_isOneTooMany_32 (N : Nat) {x9 : Int32} {s9 : mS} : SCd Sx R0x oFx nx 1 q_Rd_isOneTooMany (some (.int x9), s9) (x9, s9) 32 (H_Rd_isOneTooMany_32 (f_Rd_isOneTooMany_j32 N)) := by
  intro loc st s
  refine G_cR (fun h0 => ?_)
  refine G_li (fun v0 h1 => ?_)
  refine G_rv0 (fun e9 => ?_)
  subst e9
  refine G_sub (loc0 := [(0, .ref 18), (1, .int v0)]) (List.forall_mem_cons.mpr ⟨h0, List.forall_mem_cons.mpr ⟨h1, mz_nil⟩⟩) ?_
  exact G_eq (mEv_G (orc := mOrc (oL_Rd_isOneTooMany N)) (ret := rtZ) (blks := bl_Rd_isOneTooMany) (cuts := []) wOKx (by decide) (oo_Rd_isOneTooMany N) (RetOK_Z rfl) bk_Rd_isOneTooMany (mz_nil)) rfl
noncomputable def f_Rd_isOneTooMany_j17 (N : Nat) (x : Int32 × mS) : Option (Int32 × mS) :=
  if x.1 = 5 then
    if (gI x.2 411 9) = 0 then
      f_Rd_isOneTooMany_j32 N (x.1, x.2)
    else
      some (1, x.2)
  else
    f_Rd_isOneTooMany_j32 N (x.1, x.2)
set_option maxRecDepth 100000 in
set_option maxHeartbeats 4000000 in
theorem s_Rd_isOneTooMany_17 (N : Nat) {x9 : Int32} {s9 : mS} : SCd Sx R0x oFx nx 1 q_Rd_isOneTooMany (some (.int x9), s9) (x9, s9) 17 (H_Rd_isOneTooMany_17 (f_Rd_isOneTooMany_j17 N)) := by
  intro loc st s
  refine G_cR (fun h0 => ?_)
  refine G_li (fun v0 h1 => ?_)
  refine G_rv0 (fun e9 => ?_)
  subst e9
  refine G_sub (loc0 := [(0, .ref 18), (1, .int v0)]) (List.forall_mem_cons.mpr ⟨h0, List.forall_mem_cons.mpr ⟨h1, mz_nil⟩⟩) ?_
  exact G_eq (mEv_G (orc := mOrc (oL_Rd_isOneTooMany N)) (ret := rtZ) (blks := bl_Rd_isOneTooMany) (cuts := [(32, H_Rd_isOneTooMany_32 (f_Rd_isOneTooMany_j32 N))]) wOKx (by decide) (oo_Rd_isOneTooMany N) (RetOK_Z rfl) bk_Rd_isOneTooMany (List.forall_mem_cons.mpr ⟨s_Rd_isOneTooMany_32 N, mz_nil⟩)) rfl
noncomputable def f_Rd_isOneTooMany (N : Nat) (a1 : Int32) (s : mS) : Option (Int32 × mS) :=
  if a1 = 1 then
    if (gI s 401 9) < 10 then
      f_Rd_isOneTooMany_j17 N (a1, s)
    else
      some (1, s)
  else
    f_Rd_isOneTooMany_j17 N (a1, s)
set_option maxRecDepth 100000 in
set_option maxHeartbeats 4000000 in
theorem m_Rd_isOneTooMany (N : Nat) {x9 : Int32} {s9 : mS} (a1 : Int32) {s : mS} (h : f_Rd_isOneTooMany N a1 s = some (x9, s9)) : MetM Sx R0x oFx nx 1 99 [.ref 18, .int a1] s (some (.int x9)) s9 := by
  refine met_of_G (q := q_Rd_isOneTooMany) (t0 := (x9, s9)) y_Rd_isOneTooMany (Nat.le_of_ble_eq_true rfl) ?_
  rw [← h]
  exact G_eq (mEv_G (orc := mOrc (oL_Rd_isOneTooMany N)) (ret := rtZ) (blks := bl_Rd_isOneTooMany) (cuts := [(17, H_Rd_isOneTooMany_17 (f_Rd_isOneTooMany_j17 N))]) wOKx (by decide) (oo_Rd_isOneTooMany N) (RetOK_Z rfl) bk_Rd_isOneTooMany (List.forall_mem_cons.mpr ⟨s_Rd_isOneTooMany_17 N, mz_nil⟩)) rfl
noncomputable def C_Rd_isOneTooMany {ρ : Type} (N : Nat) : List Value → mS → (Option Value → mS → Option ρ) → Option ρ := fun vs s kk => sR vs 18 fun r0 => pi1 r0 fun a1 r1 => rv0 r1 ((f_Rd_isOneTooMany N a1 s).bind fun p => kk (some (.int p.1)) p.2)
theorem cs_Rd_isOneTooMany {ρ : Type} {t0 : ρ} {d : Nat} (N : Nat) (hd : 1 + 1 ≤ d) : CallOK Sx R0x oFx nx d t0 99 (C_Rd_isOneTooMany N) := by
  intro vs s kk h0
  obtain ⟨r0, rfl, h1⟩ := sR_some h0
  obtain ⟨a1, r1, rfl, h2⟩ := pi1_some h1
  obtain ⟨rfl, h3⟩ := rv0_some h2
  obtain ⟨p, hp, hk⟩ := Option.bind_eq_some_iff.mp h3
  exact ⟨_, _, _, hd, m_Rd_isOneTooMany N a1 hp, hk, fun qy hq hf => by cases y_Rd_isOneTooMany.symm.trans hq; exact ⟨_, _, rfl, rfl⟩⟩
/-! METHOD PorterDoors$Reader.fail(II)V -/
set_option maxRecDepth 20000 in
noncomputable def q_Rd_fail : mI := (⟨"PorterDoors$Reader", "fail", "(II)V"⟩, prog_7_method_18_code, 3, none, 6, 576, 132, 1, 2, 575, 8)
theorem y_Rd_fail : mT[100]? = some q_Rd_fail := mT_at_2 (k := 20) rfl
noncomputable def bl_Rd_fail : List (Nat × List mO) := [(0, [o0 (.aload_n 0), o2 (.getfield 40) 6 12, o1 (.ifCond .ne 20) 24, o0 (.aload_n 0), o0 (.iload_n 1), o2 (.putfield 40) 6 12, o0 (.aload_n 0), o0 (.iload_n 2), o2 (.putfield 43) 6 13, o0 (.aload_n 0), o0 (.sipush 260), o2 (.putfield 18) 6 5]),
  (24, [o0 (.return_)])]
theorem bk_Rd_fail : okBlks q_Rd_fail bl_Rd_fail = true := by decide +kernel
noncomputable def oL_Rd_fail {ρ : Type} (N : Nat) : List (Nat × (List Value → mS → (Option Value → mS → Option ρ) → Option ρ)) := []
theorem oo_Rd_fail {ρ : Type} {t0 : ρ} (N : Nat) : OrcOK Sx R0x oFx nx 1 t0 (mOrc (oL_Rd_fail N)) := mOrc_OK (mz_nil)
noncomputable def f_Rd_fail (N : Nat) (a1 : Int32) (a2 : Int32) (s : mS) : Option (mS) :=
  if (gI s 612 18) = 0 then
    let s1 := sI s 612 18 a1
    let s2 := sI s1 613 18 a2
    let s3 := sI s2 605 18 260
    some s3
  else
    some s
set_option maxRecDepth 100000 in
set_option maxHeartbeats 4000000 in
theorem m_Rd_fail (N : Nat) {s9 : mS} (a1 : Int32) (a2 : Int32) {s : mS} (h : f_Rd_fail N a1 a2 s = some s9) : MetM Sx R0x oFx nx 1 100 [.ref 18, .int a1, .int a2] s (none) s9 := by
  refine met_of_G (q := q_Rd_fail) (t0 := s9) y_Rd_fail (Nat.le_of_ble_eq_true rfl) ?_
  rw [← h]
  exact G_eq (mEv_G (orc := mOrc (oL_Rd_fail N)) (ret := rtV) (blks := bl_Rd_fail) (cuts := []) wOKx (by decide) (oo_Rd_fail N) (RetOK_V rfl) bk_Rd_fail (mz_nil)) rfl
noncomputable def C_Rd_fail {ρ : Type} (N : Nat) : List Value → mS → (Option Value → mS → Option ρ) → Option ρ := fun vs s kk => sR vs 18 fun r0 => pi1 r0 fun a1 r1 => pi1 r1 fun a2 r2 => rv0 r2 ((f_Rd_fail N a1 a2 s).bind fun p => kk none p)
theorem cs_Rd_fail {ρ : Type} {t0 : ρ} {d : Nat} (N : Nat) (hd : 1 + 1 ≤ d) : CallOK Sx R0x oFx nx d t0 100 (C_Rd_fail N) := by
  intro vs s kk h0
  obtain ⟨r0, rfl, h1⟩ := sR_some h0
  obtain ⟨a1, r1, rfl, h2⟩ := pi1_some h1
  obtain ⟨a2, r2, rfl, h3⟩ := pi1_some h2
  obtain ⟨rfl, h4⟩ := rv0_some h3
  obtain ⟨p, hp, hk⟩ := Option.bind_eq_some_iff.mp h4
  exact ⟨_, _, _, hd, m_Rd_fail N a1 a2 hp, hk, fun qy hq hf => by cases y_Rd_fail.symm.trans hq; exact ⟨_, _, rfl, rfl⟩⟩
/-! METHOD PorterDoors$Plan.fullName(JI)J -/
set_option maxRecDepth 20000 in
noncomputable def q_Pl_fullName : mI := (⟨"PorterDoors$Plan", "fullName", "(JI)J"⟩, prog_5_method_6_code, 6, (some .long), 4, 587, 130, 0, 2, 586, 0)
theorem y_Pl_fullName : mT[83]? = some q_Pl_fullName := mT_at_2 (k := 3) rfl
noncomputable def bl_Pl_fullName : List (Nat × List mO) := [(0, [o0 (.lload_n 0), o0 (.lstore_n 3), o0 (.iload_n 2), o0 (.istore 5)]),
  (5, [o0 (.iload 5), o0 (.bipush 6), o1 (.if_icmp .ge 15) 24, o0 (.lload_n 3), oC (.ldc2_w 79) (.long 100), o0 (.lmul), o0 (.lstore_n 3), o0 (.iinc 5 1), o1 (.goto (-16)) 5]),
  (24, [o0 (.lload_n 3), o0 (.lreturn)])]
theorem bk_Pl_fullName : okBlks q_Pl_fullName bl_Pl_fullName = true := by decide +kernel
noncomputable def oL_Pl_fullName {ρ : Type} (N : Nat) : List (Nat × (List Value → mS → (Option Value → mS → Option ρ) → Option ρ)) := []
theorem oo_Pl_fullName {ρ : Type} {t0 : ρ} (N : Nat) : OrcOK Sx R0x oFx nx 1 t0 (mOrc (oL_Pl_fullName N)) := mOrc_OK (mz_nil)
noncomputable def H_Pl_fullName_5 {ρ : Type} (k : (Int64 × Int32 × mS) → Option ρ) : mL → List Value → mS → Option ρ := fun loc st s => ll1 loc 3 fun v0 => li1 loc 5 fun v1 => rv0 st (k (v0, v1, s))
noncomputable def f_Pl_fullName_L5 (N : Nat) (k5 : (Int64 × Int32 × mS) → Option (Int64 × mS)) (x : Int64 × Int32 × mS) : Option (Int64 × mS) :=
  if x.2.1 < 6 then
    k5 ((x.1 * 100), (x.2.1 + 1), x.2.2)
  else
    some (x.1, x.2.2)
set_option maxRecDepth 100000 in
set_option maxHeartbeats 4000000 in
theorem t_Pl_fullName_5 (N : Nat) {x9 : Int64} {s9 : mS} {k5 : (Int64 × Int32 × mS) → Option (Int64 × mS)} (hk5 : SCd Sx R0x oFx nx 1 q_Pl_fullName (some (.long x9), s9) (x9, s9) 5 (H_Pl_fullName_5 k5)) : SCd Sx R0x oFx nx 1 q_Pl_fullName (some (.long x9), s9) (x9, s9) 5 (H_Pl_fullName_5 (f_Pl_fullName_L5 N k5)) := by
  intro loc st s
  refine G_ll (fun v0 h3 => ?_)
  refine G_li (fun v1 h5 => ?_)
  refine G_rv0 (fun e9 => ?_)
  subst e9
  refine G_sub (loc0 := [(3, .long v0), (5, .int v1)]) (List.forall_mem_cons.mpr ⟨h3, List.forall_mem_cons.mpr ⟨h5, mz_nil⟩⟩) ?_
  exact G_eq (mEv_G (orc := mOrc (oL_Pl_fullName N)) (ret := rtL) (blks := bl_Pl_fullName) (cuts := [(5, H_Pl_fullName_5 k5)]) wOKx (by decide) (oo_Pl_fullName N) (RetOK_L rfl) bk_Pl_fullName (List.forall_mem_cons.mpr ⟨hk5, mz_nil⟩)) rfl
theorem s_Pl_fullName_5 (N : Nat) {x9 : Int64} {s9 : mS} : SCd Sx R0x oFx nx 1 q_Pl_fullName (some (.long x9), s9) (x9, s9) 5 (H_Pl_fullName_5 (mfix N (f_Pl_fullName_L5 N))) := by
  refine mfix_SC (H := H_Pl_fullName_5) (fun loc st s => ?_) (fun k hk => t_Pl_fullName_5 N hk) N
  refine G_ll (fun v0 h3 => ?_)
  refine G_li (fun v1 h5 => ?_)
  refine G_rv0 (fun e9 => ?_)
  subst e9
  exact G_none
noncomputable def f_Pl_fullName (N : Nat) (a0 : Int64) (a2 : Int32) (s : mS) : Option (Int64 × mS) :=
  mfix N (f_Pl_fullName_L5 N) (a0, a2, s)
set_option maxRecDepth 100000 in
set_option maxHeartbeats 4000000 in
theorem m_Pl_fullName (N : Nat) {x9 : Int64} {s9 : mS} (a0 : Int64) (a2 : Int32) {s : mS} (h : f_Pl_fullName N a0 a2 s = some (x9, s9)) : MetM Sx R0x oFx nx 1 83 [.long a0, .int a2] s (some (.long x9)) s9 := by
  refine met_of_G (q := q_Pl_fullName) (t0 := (x9, s9)) y_Pl_fullName (Nat.le_of_ble_eq_true rfl) ?_
  rw [← h]
  exact G_eq (mEv_G (orc := mOrc (oL_Pl_fullName N)) (ret := rtL) (blks := bl_Pl_fullName) (cuts := [(5, H_Pl_fullName_5 (mfix N (f_Pl_fullName_L5 N)))]) wOKx (by decide) (oo_Pl_fullName N) (RetOK_L rfl) bk_Pl_fullName (List.forall_mem_cons.mpr ⟨s_Pl_fullName_5 N, mz_nil⟩)) rfl
noncomputable def C_Pl_fullName {ρ : Type} (N : Nat) : List Value → mS → (Option Value → mS → Option ρ) → Option ρ := fun vs s kk => pl1 vs fun a0 r0 => pi1 r0 fun a2 r1 => rv0 r1 ((f_Pl_fullName N a0 a2 s).bind fun p => kk (some (.long p.1)) p.2)
theorem cs_Pl_fullName {ρ : Type} {t0 : ρ} {d : Nat} (N : Nat) (hd : 1 + 1 ≤ d) : CallOK Sx R0x oFx nx d t0 83 (C_Pl_fullName N) := by
  intro vs s kk h0
  obtain ⟨a0, r0, rfl, h1⟩ := pl1_some h0
  obtain ⟨a2, r1, rfl, h2⟩ := pi1_some h1
  obtain ⟨rfl, h3⟩ := rv0_some h2
  obtain ⟨p, hp, hk⟩ := Option.bind_eq_some_iff.mp h3
  exact ⟨_, _, _, hd, m_Pl_fullName N a0 a2 hp, hk, fun qy hq hf => by cases y_Pl_fullName.symm.trans hq; exact absurd hf (by decide)⟩
/-! METHOD PorterDoors$Plan.hasName(JI)Z -/
set_option maxRecDepth 20000 in
noncomputable def q_Pl_hasName : mI := (⟨"PorterDoors$Plan", "hasName", "(JI)Z"⟩, prog_5_method_4_code, 7, (some .boolean), 4, 584, 130, 1, 2, 582, 583)
theorem y_Pl_hasName : mT[82]? = some q_Pl_hasName := mT_at_2 (k := 2) rfl
noncomputable def bl_Pl_hasName : List (Nat × List mO) := [(0, [o0 (.lload_n 1), o0 (.iload_n 3), o2 (.invokestatic 75) 83 2, o0 (.lstore 4), o0 (.iconst 0), o0 (.istore 6)]),
  (10, [o0 (.iload 6), o0 (.aload_n 0), o2 (.getfield 15) 4 1, o1 (.if_icmp .ge 24) 40, o0 (.aload_n 0), o2 (.getfield 31) 4 6, o0 (.iload 6), o0 (.laload), o0 (.lload 4), o0 (.lcmp), o1 (.ifCond .ne 5) 34, o0 (.iconst 1), o0 (.ireturn)]),
  (34, [o0 (.iinc 6 1), o1 (.goto (-27)) 10]),
  (40, [o0 (.iconst 0), o0 (.ireturn)])]
theorem bk_Pl_hasName : okBlks q_Pl_hasName bl_Pl_hasName = true := by decide +kernel
noncomputable def oL_Pl_hasName {ρ : Type} (N : Nat) : List (Nat × (List Value → mS → (Option Value → mS → Option ρ) → Option ρ)) := [(83, C_Pl_fullName N)]
theorem oo_Pl_hasName {ρ : Type} {t0 : ρ} (N : Nat) : OrcOK Sx R0x oFx nx 2 t0 (mOrc (oL_Pl_hasName N)) := mOrc_OK (List.forall_mem_cons.mpr ⟨cs_Pl_fullName N (by decide), mz_nil⟩)
noncomputable def H_Pl_hasName_10 {ρ : Type} (k : (Nat × Int64 × Int32 × mS) → Option ρ) : mL → List Value → mS → Option ρ := fun loc st s => lr1 loc 0 fun v0 => ll1 loc 4 fun v1 => li1 loc 6 fun v2 => rv0 st (k (v0, v1, v2, s))
noncomputable def f_Pl_hasName_L10 (N : Nat) (k10 : (Nat × Int64 × Int32 × mS) → Option (Int32 × mS)) (x : Nat × Int64 × Int32 × mS) : Option (Int32 × mS) :=
  grd (isO Sx x.1 4) (
  if x.2.2.1 < (gI x.2.2.2 401 x.1) then
    grd (isO Sx x.1 4) (
    grd (inb x.2.2.1 (aln Sx 3 (x.1 + 2))) (
    if (lg_cmp (gQ x.2.2.2 (x.1 + 2) (ix x.2.2.1)) x.2.1) = 0 then
      some (1, x.2.2.2)
    else
      k10 (x.1, x.2.1, (x.2.2.1 + 1), x.2.2.2)))
  else
    some (0, x.2.2.2))
set_option maxRecDepth 100000 in
set_option maxHeartbeats 4000000 in
theorem t_Pl_hasName_10 (N : Nat) {x9 : Int32} {s9 : mS} {k10 : (Nat × Int64 × Int32 × mS) → Option (Int32 × mS)} (hk10 : SCd Sx R0x oFx nx 2 q_Pl_hasName (some (.int x9), s9) (x9, s9) 10 (H_Pl_hasName_10 k10)) : SCd Sx R0x oFx nx 2 q_Pl_hasName (some (.int x9), s9) (x9, s9) 10 (H_Pl_hasName_10 (f_Pl_hasName_L10 N k10)) := by
  intro loc st s
  refine G_lr (fun v0 h0 => ?_)
  refine G_ll (fun v1 h4 => ?_)
  refine G_li (fun v2 h6 => ?_)
  refine G_rv0 (fun e9 => ?_)
  subst e9
  refine G_sub (loc0 := [(0, .ref v0), (4, .long v1), (6, .int v2)]) (List.forall_mem_cons.mpr ⟨h0, List.forall_mem_cons.mpr ⟨h4, List.forall_mem_cons.mpr ⟨h6, mz_nil⟩⟩⟩) ?_
  exact G_eq (mEv_G (orc := mOrc (oL_Pl_hasName N)) (ret := rtZ) (blks := bl_Pl_hasName) (cuts := [(10, H_Pl_hasName_10 k10)]) wOKx (by decide) (oo_Pl_hasName N) (RetOK_Z rfl) bk_Pl_hasName (List.forall_mem_cons.mpr ⟨hk10, mz_nil⟩)) rfl
theorem s_Pl_hasName_10 (N : Nat) {x9 : Int32} {s9 : mS} : SCd Sx R0x oFx nx 2 q_Pl_hasName (some (.int x9), s9) (x9, s9) 10 (H_Pl_hasName_10 (mfix N (f_Pl_hasName_L10 N))) := by
  refine mfix_SC (H := H_Pl_hasName_10) (fun loc st s => ?_) (fun k hk => t_Pl_hasName_10 N hk) N
  refine G_lr (fun v0 h0 => ?_)
  refine G_ll (fun v1 h4 => ?_)
  refine G_li (fun v2 h6 => ?_)
  refine G_rv0 (fun e9 => ?_)
  subst e9
  exact G_none
noncomputable def f_Pl_hasName (N : Nat) (a0 : Nat) (a1 : Int64) (a3 : Int32) (s : mS) : Option (Int32 × mS) :=
  (f_Pl_fullName N a1 a3 s).bind fun p1 =>
  mfix N (f_Pl_hasName_L10 N) (a0, p1.1, 0, p1.2)
set_option maxRecDepth 100000 in
set_option maxHeartbeats 4000000 in
theorem m_Pl_hasName (N : Nat) {x9 : Int32} {s9 : mS} (a0 : Nat) (a1 : Int64) (a3 : Int32) {s : mS} (h : f_Pl_hasName N a0 a1 a3 s = some (x9, s9)) : MetM Sx R0x oFx nx 2 82 [.ref a0, .long a1, .int a3] s (some (.int x9)) s9 := by
  refine met_of_G (q := q_Pl_hasName) (t0 := (x9, s9)) y_Pl_hasName (Nat.le_of_ble_eq_true rfl) ?_
  rw [← h]
  exact G_eq (mEv_G (orc := mOrc (oL_Pl_hasName N)) (ret := rtZ) (blks := bl_Pl_hasName) (cuts := [(10, H_Pl_hasName_10 (mfix N (f_Pl_hasName_L10 N)))]) wOKx (by decide) (oo_Pl_hasName N) (RetOK_Z rfl) bk_Pl_hasName (List.forall_mem_cons.mpr ⟨s_Pl_hasName_10 N, mz_nil⟩)) rfl
noncomputable def C_Pl_hasName {ρ : Type} (N : Nat) : List Value → mS → (Option Value → mS → Option ρ) → Option ρ := fun vs s kk => pr1 vs fun a0 r0 => grd (isO Sx a0 4) (pl1 r0 fun a1 r1 => pi1 r1 fun a3 r2 => rv0 r2 ((f_Pl_hasName N a0 a1 a3 s).bind fun p => kk (some (.int p.1)) p.2))
theorem cs_Pl_hasName {ρ : Type} {t0 : ρ} {d : Nat} (N : Nat) (hd : 2 + 1 ≤ d) : CallOK Sx R0x oFx nx d t0 82 (C_Pl_hasName N) := by
  intro vs s kk h0
  obtain ⟨a0, r0, rfl, h1⟩ := pr1_some h0
  obtain ⟨ho, h2⟩ := grd_some h1
  obtain ⟨a1, r1, rfl, h3⟩ := pl1_some h2
  obtain ⟨a3, r2, rfl, h4⟩ := pi1_some h3
  obtain ⟨rfl, h5⟩ := rv0_some h4
  obtain ⟨p, hp, hk⟩ := Option.bind_eq_some_iff.mp h5
  exact ⟨_, _, _, hd, m_Pl_hasName N a0 a1 a3 hp, hk, fun qy hq hf => by cases y_Pl_hasName.symm.trans hq; exact ⟨_, _, rfl, isO_spec ho⟩⟩
/-! METHOD PorterDoors$Plan.addName(JI)V -/
set_option maxRecDepth 20000 in
noncomputable def q_Pl_addName : mI := (⟨"PorterDoors$Plan", "addName", "(JI)V"⟩, prog_5_method_5_code, 4, none, 4, 592, 130, 1, 2, 590, 591)
theorem y_Pl_addName : mT[84]? = some q_Pl_addName := mT_at_2 (k := 4) rfl
noncomputable def bl_Pl_addName : List (Nat × List mO) := [(0, [o0 (.aload_n 0), o2 (.getfield 15) 4 1, o0 (.bipush 10), o1 (.if_icmp .ge 27) 33, o0 (.aload_n 0), o2 (.getfield 31) 4 6, o0 (.aload_n 0), o2 (.getfield 15) 4 1, o0 (.lload_n 1), o0 (.iload_n 3), o2 (.invokestatic 75) 83 2, o0 (.lastore), o0 (.aload_n 0), o0 (.dup), o2 (.getfield 15) 4 1, o0 (.iconst 1), o0 (.iadd), o2 (.putfield 15) 4 1]),
  (33, [o0 (.return_)])]
theorem bk_Pl_addName : okBlks q_Pl_addName bl_Pl_addName = true := by decide +kernel
noncomputable def oL_Pl_addName {ρ : Type} (N : Nat) : List (Nat × (List Value → mS → (Option Value → mS → Option ρ) → Option ρ)) := [(83, C_Pl_fullName N)]
theorem oo_Pl_addName {ρ : Type} {t0 : ρ} (N : Nat) : OrcOK Sx R0x oFx nx 2 t0 (mOrc (oL_Pl_addName N)) := mOrc_OK (List.forall_mem_cons.mpr ⟨cs_Pl_fullName N (by decide), mz_nil⟩)
noncomputable def f_Pl_addName (N : Nat) (a0 : Nat) (a1 : Int64) (a3 : Int32) (s : mS) : Option (mS) :=
  grd (isO Sx a0 4) (
  if (gI s 401 a0) < 10 then
    grd (isO Sx a0 4) (
    grd (isO Sx a0 4) (
    (f_Pl_fullName N a1 a3 s).bind fun p1 =>
    grd (inb (gI s 401 a0) (aln Sx 3 (a0 + 2))) (
    let s2 := sQ p1.2 (a0 + 2) (ix (gI s 401 a0)) p1.1
    grd (isO Sx a0 4) (
    grd (isO Sx a0 4) (
    let s3 := sI s2 401 a0 ((gI s2 401 a0) + 1)
    some s3)))))
  else
    some s)
set_option maxRecDepth 100000 in
set_option maxHeartbeats 4000000 in
theorem m_Pl_addName (N : Nat) {s9 : mS} (a0 : Nat) (a1 : Int64) (a3 : Int32) {s : mS} (h : f_Pl_addName N a0 a1 a3 s = some s9) : MetM Sx R0x oFx nx 2 84 [.ref a0, .long a1, .int a3] s (none) s9 := by
  refine met_of_G (q := q_Pl_addName) (t0 := s9) y_Pl_addName (Nat.le_of_ble_eq_true rfl) ?_
  rw [← h]
  exact G_eq (mEv_G (orc := mOrc (oL_Pl_addName N)) (ret := rtV) (blks := bl_Pl_addName) (cuts := []) wOKx (by decide) (oo_Pl_addName N) (RetOK_V rfl) bk_Pl_addName (mz_nil)) rfl
noncomputable def C_Pl_addName {ρ : Type} (N : Nat) : List Value → mS → (Option Value → mS → Option ρ) → Option ρ := fun vs s kk => pr1 vs fun a0 r0 => grd (isO Sx a0 4) (pl1 r0 fun a1 r1 => pi1 r1 fun a3 r2 => rv0 r2 ((f_Pl_addName N a0 a1 a3 s).bind fun p => kk none p))
theorem cs_Pl_addName {ρ : Type} {t0 : ρ} {d : Nat} (N : Nat) (hd : 2 + 1 ≤ d) : CallOK Sx R0x oFx nx d t0 84 (C_Pl_addName N) := by
  intro vs s kk h0
  obtain ⟨a0, r0, rfl, h1⟩ := pr1_some h0
  obtain ⟨ho, h2⟩ := grd_some h1
  obtain ⟨a1, r1, rfl, h3⟩ := pl1_some h2
  obtain ⟨a3, r2, rfl, h4⟩ := pi1_some h3
  obtain ⟨rfl, h5⟩ := rv0_some h4
  obtain ⟨p, hp, hk⟩ := Option.bind_eq_some_iff.mp h5
  exact ⟨_, _, _, hd, m_Pl_addName N a0 a1 a3 hp, hk, fun qy hq hf => by cases y_Pl_addName.symm.trans hq; exact ⟨_, _, rfl, isO_spec ho⟩⟩
/-! METHOD PorterDoors$Reader.name()V -/
set_option maxRecDepth 20000 in
noncomputable def q_Rd_name : mI := (⟨"PorterDoors$Reader", "name", "()V"⟩, prog_7_method_7_code, 2, none, 6, 580, 132, 1, 0, 579, 9)
theorem y_Rd_name : mT[101]? = some q_Rd_name := mT_at_2 (k := 21) rfl
noncomputable def bl_Rd_name : List (Nat × List mO) := [(0, [o0 (.aload_n 0), o2 (.invokevirtual 72) 98 1, o1 (.ifCond .lt 16) 20, o0 (.aload_n 0), o2 (.invokevirtual 72) 98 1, o0 (.bipush 24), o1 (.if_icmp .gt 7) 20, o0 (.iconst 1), o1 (.goto 4) 21]),
  (20, [o0 (.iconst 0)]),
  (21, [o0 (.istore_n 1), o0 (.aload_n 0), o2 (.getfield 18) 6 5, o0 (.sipush 256), o1 (.if_icmp .ne 7) 36, o0 (.iload_n 1), o1 (.ifCond .eq 15) 48]),
  (36, [o0 (.aload_n 0), o0 (.iconst 1), o0 (.aload_n 0), o2 (.getfield 21) 6 6, o2 (.invokevirtual 80) 100 3, o1 (.goto 72) 117]),
  (48, [o0 (.aload_n 0), o2 (.getfield 24) 6 7, o0 (.bipush 6), o1 (.if_icmp .le 18) 72, o0 (.aload_n 0), o0 (.iconst 1), o0 (.aload_n 0), o2 (.getfield 21) 6 6, o0 (.bipush 6), o0 (.iadd), o2 (.invokevirtual 80) 100 3, o1 (.goto 48) 117]),
  (72, [o0 (.aload_n 0), o2 (.getfield 50) 6 1, o0 (.aload_n 0), o2 (.getfield 30) 6 9, o0 (.aload_n 0), o2 (.getfield 24) 6 7, o2 (.invokevirtual 136) 82 3, o1 (.ifCond .eq 15) 102, o0 (.aload_n 0), o0 (.iconst 3), o0 (.aload_n 0), o2 (.getfield 21) 6 6, o2 (.invokevirtual 80) 100 3, o1 (.goto 18) 117]),
  (102, [o0 (.aload_n 0), o2 (.getfield 50) 6 1, o0 (.aload_n 0), o2 (.getfield 30) 6 9, o0 (.aload_n 0), o2 (.getfield 24) 6 7, o2 (.invokevirtual 140) 84 3]),
  (117, [o0 (.aload_n 0), o2 (.invokevirtual 69) 93 1, o0 (.aload_n 0), o2 (.invokevirtual 72) 98 1, o0 (.bipush 8), o1 (.if_icmp .eq 12) 139, o0 (.aload_n 0), o0 (.iconst 1), o0 (.aload_n 0), o2 (.getfield 21) 6 6, o2 (.invokevirtual 80) 100 3]),
  (139, [o0 (.aload_n 0), o2 (.invokevirtual 69) 93 1, o0 (.return_)])]
theorem bk_Rd_name : okBlks q_Rd_name bl_Rd_name = true := by decide +kernel
noncomputable def oL_Rd_name {ρ : Type} (N : Nat) : List (Nat × (List Value → mS → (Option Value → mS → Option ρ) → Option ρ)) := [(98, C_Rd_word N), (100, C_Rd_fail N), (82, C_Pl_hasName N), (84, C_Pl_addName N), (93, C_Rd_advance N)]
theorem oo_Rd_name {ρ : Type} {t0 : ρ} (N : Nat) : OrcOK Sx R0x oFx nx 3 t0 (mOrc (oL_Rd_name N)) := mOrc_OK (List.forall_mem_cons.mpr ⟨cs_Rd_word N (by decide), List.forall_mem_cons.mpr ⟨cs_Rd_fail N (by decide), List.forall_mem_cons.mpr ⟨cs_Pl_hasName N (by decide), List.forall_mem_cons.mpr ⟨cs_Pl_addName N (by decide), List.forall_mem_cons.mpr ⟨cs_Rd_advance N (by decide), mz_nil⟩⟩⟩⟩⟩)
noncomputable def H_Rd_name_21 {ρ : Type} (k : (Int32 × mS) → Option ρ) : mL → List Value → mS → Option ρ := fun loc st s => cR loc 0 18 (pi1 st fun w0 r0 => rv0 r0 (k (w0, s)))
noncomputable def H_Rd_name_36 {ρ : Type} (k : mS → Option ρ) : mL → List Value → mS → Option ρ := fun loc st s => cR loc 0 18 (rv0 st (k s))
noncomputable def H_Rd_name_117 {ρ : Type} (k : mS → Option ρ) : mL → List Value → mS → Option ρ := fun loc st s => cR loc 0 18 (rv0 st (k s))
noncomputable def f_Rd_name_j117 (N : Nat) (x : mS) : Option (mS) :=
  (f_Rd_advance N x).bind fun p1 =>
  (f_Rd_word N p1).bind fun p2 =>
  if p2.1 = 8 then
    (f_Rd_advance N p2.2).bind fun p3 =>
    some p3
  else
    (f_Rd_fail N 1 (gI p2.2 606 18) p2.2).bind fun p4 =>
    (f_Rd_advance N p4).bind fun p5 =>
    some p5
set_option maxRecDepth 100000 in
set_option maxHeartbeats 4000000 in
theorem s_Rd_name_117 (N : Nat) {s9 : mS} : SCd Sx R0x oFx nx 3 q_Rd_name (none, s9) s9 117 (H_Rd_name_117 (f_Rd_name_j117 N)) := by
  intro loc st s
  refine G_cR (fun h0 => ?_)
  refine G_rv0 (fun e9 => ?_)
  subst e9
  refine G_sub (loc0 := [(0, .ref 18)]) (List.forall_mem_cons.mpr ⟨h0, mz_nil⟩) ?_
  exact G_eq (mEv_G (orc := mOrc (oL_Rd_name N)) (ret := rtV) (blks := bl_Rd_name) (cuts := []) wOKx (by decide) (oo_Rd_name N) (RetOK_V rfl) bk_Rd_name (mz_nil)) rfl
noncomputable def f_Rd_name_j36 (N : Nat) (x : mS) : Option (mS) :=
  (f_Rd_fail N 1 (gI x 606 18) x).bind fun p1 =>
  f_Rd_name_j117 N p1
set_option maxRecDepth 100000 in
set_option maxHeartbeats 4000000 in
theorem s_Rd_name_36 (N : Nat) {s9 : mS} : SCd Sx R0x oFx nx 3 q_Rd_name (none, s9) s9 36 (H_Rd_name_36 (f_Rd_name_j36 N)) := by
  intro loc st s
  refine G_cR (fun h0 => ?_)
  refine G_rv0 (fun e9 => ?_)
  subst e9
  refine G_sub (loc0 := [(0, .ref 18)]) (List.forall_mem_cons.mpr ⟨h0, mz_nil⟩) ?_
  exact G_eq (mEv_G (orc := mOrc (oL_Rd_name N)) (ret := rtV) (blks := bl_Rd_name) (cuts := [(117, H_Rd_name_117 (f_Rd_name_j117 N))]) wOKx (by decide) (oo_Rd_name N) (RetOK_V rfl) bk_Rd_name (List.forall_mem_cons.mpr ⟨s_Rd_name_117 N, mz_nil⟩)) rfl
noncomputable def f_Rd_name_j21 (N : Nat) (x : Int32 × mS) : Option (mS) :=
  if (gI x.2 605 18) = 256 then
    if x.1 = 0 then
      if 6 < (gI x.2 607 18) then
        (f_Rd_fail N 1 ((gI x.2 606 18) + 6) x.2).bind fun p4 =>
        f_Rd_name_j117 N p4
      else
        (f_Pl_hasName N 9 (gL x.2 609 18) (gI x.2 607 18) x.2).bind fun p1 =>
        if p1.1 = 0 then
          (f_Pl_addName N 9 (gL p1.2 609 18) (gI p1.2 607 18) p1.2).bind fun p2 =>
          f_Rd_name_j117 N p2
        else
          (f_Rd_fail N 3 (gI p1.2 606 18) p1.2).bind fun p3 =>
          f_Rd_name_j117 N p3
    else
      f_Rd_name_j36 N x.2
  else
    f_Rd_name_j36 N x.2
set_option maxRecDepth 100000 in
set_option maxHeartbeats 4000000 in
theorem s_Rd_name_21 (N : Nat) {s9 : mS} : SCd Sx R0x oFx nx 3 q_Rd_name (none, s9) s9 21 (H_Rd_name_21 (f_Rd_name_j21 N)) := by
  intro loc st s
  refine G_cR (fun h0 => ?_)
  refine G_pi (fun w0 r0 e0 => ?_)
  refine G_rv0 (fun e9 => ?_)
  subst e9
  subst e0
  refine G_sub (loc0 := [(0, .ref 18)]) (List.forall_mem_cons.mpr ⟨h0, mz_nil⟩) ?_
  exact G_eq (mEv_G (orc := mOrc (oL_Rd_name N)) (ret := rtV) (blks := bl_Rd_name) (cuts := [(36, H_Rd_name_36 (f_Rd_name_j36 N)), (117, H_Rd_name_117 (f_Rd_name_j117 N))]) wOKx (by decide) (oo_Rd_name N) (RetOK_V rfl) bk_Rd_name (List.forall_mem_cons.mpr ⟨s_Rd_name_36 N, List.forall_mem_cons.mpr ⟨s_Rd_name_117 N, mz_nil⟩⟩)) rfl
noncomputable def f_Rd_name (N : Nat) (s : mS) : Option (mS) :=
  (f_Rd_word N s).bind fun p1 =>
  if p1.1 < 0 then
    f_Rd_name_j21 N (0, p1.2)
  else
    (f_Rd_word N p1.2).bind fun p2 =>
    if 24 < p2.1 then
      f_Rd_name_j21 N (0, p2.2)
    else
      f_Rd_name_j21 N (1, p2.2)
set_option maxRecDepth 100000 in
set_option maxHeartbeats 4000000 in
theorem m_Rd_name (N : Nat) {s9 : mS} {s : mS} (h : f_Rd_name N s = some s9) : MetM Sx R0x oFx nx 3 101 [.ref 18] s (none) s9 := by
  refine met_of_G (q := q_Rd_name) (t0 := s9) y_Rd_name (Nat.le_of_ble_eq_true rfl) ?_
  rw [← h]
  exact G_eq (mEv_G (orc := mOrc (oL_Rd_name N)) (ret := rtV) (blks := bl_Rd_name) (cuts := [(21, H_Rd_name_21 (f_Rd_name_j21 N))]) wOKx (by decide) (oo_Rd_name N) (RetOK_V rfl) bk_Rd_name (List.forall_mem_cons.mpr ⟨s_Rd_name_21 N, mz_nil⟩)) rfl
noncomputable def C_Rd_name {ρ : Type} (N : Nat) : List Value → mS → (Option Value → mS → Option ρ) → Option ρ := fun vs s kk => sR vs 18 fun r0 => rv0 r0 ((f_Rd_name N s).bind fun p => kk none p)
theorem cs_Rd_name {ρ : Type} {t0 : ρ} {d : Nat} (N : Nat) (hd : 3 + 1 ≤ d) : CallOK Sx R0x oFx nx d t0 101 (C_Rd_name N) := by
  intro vs s kk h0
  obtain ⟨r0, rfl, h1⟩ := sR_some h0
  obtain ⟨rfl, h2⟩ := rv0_some h1
  obtain ⟨p, hp, hk⟩ := Option.bind_eq_some_iff.mp h2
  exact ⟨_, _, _, hd, m_Rd_name N hp, hk, fun qy hq hf => by cases y_Rd_name.symm.trans hq; exact ⟨_, _, rfl, rfl⟩⟩
/-! METHOD PorterDoors$Reader.enters()Z -/
set_option maxRecDepth 20000 in
noncomputable def q_Rd_enters : mI := (⟨"PorterDoors$Reader", "enters", "()Z"⟩, prog_7_method_15_code, 1, (some .boolean), 6, 604, 132, 1, 0, 603, 12)
theorem y_Rd_enters : mT[104]? = some q_Rd_enters := mT_at_2 (k := 24) rfl
noncomputable def bl_Rd_enters : List (Nat × List mO) := [(0, [o0 (.aload_n 0), o2 (.getfield 37) 6 11, o0 (.bipush 6), o1 (.if_icmp .lt 12) 18, o0 (.aload_n 0), o0 (.iconst 4), o0 (.aload_n 0), o2 (.getfield 21) 6 6, o2 (.invokevirtual 80) 100 3]),
  (18, [o0 (.aload_n 0), o0 (.dup), o2 (.getfield 37) 6 11, o0 (.iconst 1), o0 (.iadd), o2 (.putfield 37) 6 11, o0 (.aload_n 0), o2 (.getfield 40) 6 12, o1 (.ifCond .ne 7) 39, o0 (.iconst 1), o1 (.goto 4) 40]),
  (39, [o0 (.iconst 0)]),
  (40, [o0 (.ireturn)])]
theorem bk_Rd_enters : okBlks q_Rd_enters bl_Rd_enters = true := by decide +kernel
noncomputable def oL_Rd_enters {ρ : Type} (N : Nat) : List (Nat × (List Value → mS → (Option Value → mS → Option ρ) → Option ρ)) := [(100, C_Rd_fail N)]
theorem oo_Rd_enters {ρ : Type} {t0 : ρ} (N : Nat) : OrcOK Sx R0x oFx nx 2 t0 (mOrc (oL_Rd_enters N)) := mOrc_OK (List.forall_mem_cons.mpr ⟨cs_Rd_fail N (by decide), mz_nil⟩)
noncomputable def H_Rd_enters_18 {ρ : Type} (k : mS → Option ρ) : mL → List Value → mS → Option ρ := fun loc st s => cR loc 0 18 (rv0 st (k s))
noncomputable def f_Rd_enters_j18 (N : Nat) (x : mS) : Option (Int32 × mS) :=
  let s1 := sI x 611 18 ((gI x 611 18) + 1)
  if (gI s1 612 18) = 0 then
    some (1, s1)
  else
    some (0, s1)
set_option maxRecDepth 100000 in
set_option maxHeartbeats 4000000 in
theorem s_Rd_enters_18 (N : Nat) {x9 : Int32} {s9 : mS} : SCd Sx R0x oFx nx 2 q_Rd_enters (some (.int x9), s9) (x9, s9) 18 (H_Rd_enters_18 (f_Rd_enters_j18 N)) := by
  intro loc st s
  refine G_cR (fun h0 => ?_)
  refine G_rv0 (fun e9 => ?_)
  subst e9
  refine G_sub (loc0 := [(0, .ref 18)]) (List.forall_mem_cons.mpr ⟨h0, mz_nil⟩) ?_
  exact G_eq (mEv_G (orc := mOrc (oL_Rd_enters N)) (ret := rtZ) (blks := bl_Rd_enters) (cuts := []) wOKx (by decide) (oo_Rd_enters N) (RetOK_Z rfl) bk_Rd_enters (mz_nil)) rfl
noncomputable def f_Rd_enters (N : Nat) (s : mS) : Option (Int32 × mS) :=
  if (gI s 611 18) < 6 then
    f_Rd_enters_j18 N s
  else
    (f_Rd_fail N 4 (gI s 606 18) s).bind fun p1 =>
    f_Rd_enters_j18 N p1
set_option maxRecDepth 100000 in
set_option maxHeartbeats 4000000 in
theorem m_Rd_enters (N : Nat) {x9 : Int32} {s9 : mS} {s : mS} (h : f_Rd_enters N s = some (x9, s9)) : MetM Sx R0x oFx nx 2 104 [.ref 18] s (some (.int x9)) s9 := by
  refine met_of_G (q := q_Rd_enters) (t0 := (x9, s9)) y_Rd_enters (Nat.le_of_ble_eq_true rfl) ?_
  rw [← h]
  exact G_eq (mEv_G (orc := mOrc (oL_Rd_enters N)) (ret := rtZ) (blks := bl_Rd_enters) (cuts := [(18, H_Rd_enters_18 (f_Rd_enters_j18 N))]) wOKx (by decide) (oo_Rd_enters N) (RetOK_Z rfl) bk_Rd_enters (List.forall_mem_cons.mpr ⟨s_Rd_enters_18 N, mz_nil⟩)) rfl
noncomputable def C_Rd_enters {ρ : Type} (N : Nat) : List Value → mS → (Option Value → mS → Option ρ) → Option ρ := fun vs s kk => sR vs 18 fun r0 => rv0 r0 ((f_Rd_enters N s).bind fun p => kk (some (.int p.1)) p.2)
theorem cs_Rd_enters {ρ : Type} {t0 : ρ} {d : Nat} (N : Nat) (hd : 2 + 1 ≤ d) : CallOK Sx R0x oFx nx d t0 104 (C_Rd_enters N) := by
  intro vs s kk h0
  obtain ⟨r0, rfl, h1⟩ := sR_some h0
  obtain ⟨rfl, h2⟩ := rv0_some h1
  obtain ⟨p, hp, hk⟩ := Option.bind_eq_some_iff.mp h2
  exact ⟨_, _, _, hd, m_Rd_enters N hp, hk, fun qy hq hf => by cases y_Rd_enters.symm.trans hq; exact ⟨_, _, rfl, rfl⟩⟩
/-! METHOD PorterDoors$Reader.expect(I)V -/
set_option maxRecDepth 20000 in
noncomputable def q_Rd_expect : mI := (⟨"PorterDoors$Reader", "expect", "(I)V"⟩, prog_7_method_16_code, 2, none, 6, 609, 132, 1, 1, 608, 13)
theorem y_Rd_expect : mT[105]? = some q_Rd_expect := mT_at_2 (k := 25) rfl
noncomputable def bl_Rd_expect : List (Nat × List mO) := [(0, [o0 (.aload_n 0), o2 (.getfield 18) 6 5, o0 (.iload_n 1), o1 (.if_icmp .eq 12) 17, o0 (.aload_n 0), o0 (.iconst 1), o0 (.aload_n 0), o2 (.getfield 21) 6 6, o2 (.invokevirtual 80) 100 3]),
  (17, [o0 (.return_)])]
theorem bk_Rd_expect : okBlks q_Rd_expect bl_Rd_expect = true := by decide +kernel
noncomputable def oL_Rd_expect {ρ : Type} (N : Nat) : List (Nat × (List Value → mS → (Option Value → mS → Option ρ) → Option ρ)) := [(100, C_Rd_fail N)]
theorem oo_Rd_expect {ρ : Type} {t0 : ρ} (N : Nat) : OrcOK Sx R0x oFx nx 2 t0 (mOrc (oL_Rd_expect N)) := mOrc_OK (List.forall_mem_cons.mpr ⟨cs_Rd_fail N (by decide), mz_nil⟩)
noncomputable def f_Rd_expect (N : Nat) (a1 : Int32) (s : mS) : Option (mS) :=
  if (gI s 605 18) = a1 then
    some s
  else
    (f_Rd_fail N 1 (gI s 606 18) s).bind fun p1 =>
    some p1
set_option maxRecDepth 100000 in
set_option maxHeartbeats 4000000 in
theorem m_Rd_expect (N : Nat) {s9 : mS} (a1 : Int32) {s : mS} (h : f_Rd_expect N a1 s = some s9) : MetM Sx R0x oFx nx 2 105 [.ref 18, .int a1] s (none) s9 := by
  refine met_of_G (q := q_Rd_expect) (t0 := s9) y_Rd_expect (Nat.le_of_ble_eq_true rfl) ?_
  rw [← h]
  exact G_eq (mEv_G (orc := mOrc (oL_Rd_expect N)) (ret := rtV) (blks := bl_Rd_expect) (cuts := []) wOKx (by decide) (oo_Rd_expect N) (RetOK_V rfl) bk_Rd_expect (mz_nil)) rfl
noncomputable def C_Rd_expect {ρ : Type} (N : Nat) : List Value → mS → (Option Value → mS → Option ρ) → Option ρ := fun vs s kk => sR vs 18 fun r0 => pi1 r0 fun a1 r1 => rv0 r1 ((f_Rd_expect N a1 s).bind fun p => kk none p)
theorem cs_Rd_expect {ρ : Type} {t0 : ρ} {d : Nat} (N : Nat) (hd : 2 + 1 ≤ d) : CallOK Sx R0x oFx nx d t0 105 (C_Rd_expect N) := by
  intro vs s kk h0
  obtain ⟨r0, rfl, h1⟩ := sR_some h0
  obtain ⟨a1, r1, rfl, h2⟩ := pi1_some h1
  obtain ⟨rfl, h3⟩ := rv0_some h2
  obtain ⟨p, hp, hk⟩ := Option.bind_eq_some_iff.mp h3
  exact ⟨_, _, _, hd, m_Rd_expect N a1 hp, hk, fun qy hq hf => by cases y_Rd_expect.symm.trans hq; exact ⟨_, _, rfl, rfl⟩⟩
/-! METHOD PorterDoors$Reader.isAllowed(I)Z -/
set_option maxRecDepth 20000 in
noncomputable def q_Rd_isAllowed : mI := (⟨"PorterDoors$Reader", "isAllowed", "(I)Z"⟩, prog_7_method_14_code, 2, (some .boolean), 6, 621, 132, 1, 1, 620, 16)
theorem y_Rd_isAllowed : mT[108]? = some q_Rd_isAllowed := mT_at_2 (k := 28) rfl
noncomputable def bl_Rd_isAllowed : List (Nat × List mO) := [(0, [o0 (.iload_n 1), o1 (.ifCond .lt 18) 19, o0 (.aload_n 0), o2 (.getfield 34) 6 10, o0 (.iload_n 1), o0 (.ishr), o0 (.iconst 1), o0 (.iand), o1 (.ifCond .eq 7) 19, o0 (.iconst 1), o1 (.goto 4) 20]),
  (19, [o0 (.iconst 0)]),
  (20, [o0 (.ireturn)])]
theorem bk_Rd_isAllowed : okBlks q_Rd_isAllowed bl_Rd_isAllowed = true := by decide +kernel
noncomputable def oL_Rd_isAllowed {ρ : Type} (N : Nat) : List (Nat × (List Value → mS → (Option Value → mS → Option ρ) → Option ρ)) := []
theorem oo_Rd_isAllowed {ρ : Type} {t0 : ρ} (N : Nat) : OrcOK Sx R0x oFx nx 1 t0 (mOrc (oL_Rd_isAllowed N)) := mOrc_OK (mz_nil)
noncomputable def f_Rd_isAllowed (N : Nat) (a1 : Int32) (s : mS) : Option (Int32 × mS) :=
  if a1 < 0 then
    some (0, s)
  else
    if ((irs (gI s 610 18) a1) &&& 1) = 0 then
      some (0, s)
    else
      some (1, s)
set_option maxRecDepth 100000 in
set_option maxHeartbeats 4000000 in
theorem m_Rd_isAllowed (N : Nat) {x9 : Int32} {s9 : mS} (a1 : Int32) {s : mS} (h : f_Rd_isAllowed N a1 s = some (x9, s9)) : MetM Sx R0x oFx nx 1 108 [.ref 18, .int a1] s (some (.int x9)) s9 := by
  refine met_of_G (q := q_Rd_isAllowed) (t0 := (x9, s9)) y_Rd_isAllowed (Nat.le_of_ble_eq_true rfl) ?_
  rw [← h]
  exact G_eq (mEv_G (orc := mOrc (oL_Rd_isAllowed N)) (ret := rtZ) (blks := bl_Rd_isAllowed) (cuts := []) wOKx (by decide) (oo_Rd_isAllowed N) (RetOK_Z rfl) bk_Rd_isAllowed (mz_nil)) rfl
noncomputable def C_Rd_isAllowed {ρ : Type} (N : Nat) : List Value → mS → (Option Value → mS → Option ρ) → Option ρ := fun vs s kk => sR vs 18 fun r0 => pi1 r0 fun a1 r1 => rv0 r1 ((f_Rd_isAllowed N a1 s).bind fun p => kk (some (.int p.1)) p.2)
theorem cs_Rd_isAllowed {ρ : Type} {t0 : ρ} {d : Nat} (N : Nat) (hd : 1 + 1 ≤ d) : CallOK Sx R0x oFx nx d t0 108 (C_Rd_isAllowed N) := by
  intro vs s kk h0
  obtain ⟨r0, rfl, h1⟩ := sR_some h0
  obtain ⟨a1, r1, rfl, h2⟩ := pi1_some h1
  obtain ⟨rfl, h3⟩ := rv0_some h2
  obtain ⟨p, hp, hk⟩ := Option.bind_eq_some_iff.mp h3
  exact ⟨_, _, _, hd, m_Rd_isAllowed N a1 hp, hk, fun qy hq hf => by cases y_Rd_isAllowed.symm.trans hq; exact ⟨_, _, rfl, rfl⟩⟩
/-! METHOD PorterDoors$Reader.number(II)I -/
set_option maxRecDepth 20000 in
noncomputable def q_Rd_number : mI := (⟨"PorterDoors$Reader", "number", "(II)I"⟩, prog_7_method_8_code, 4, (some .int), 6, 631, 132, 1, 2, 630, 18)
theorem y_Rd_number : mT[110]? = some q_Rd_number := mT_at_2 (k := 30) rfl
noncomputable def bl_Rd_number : List (Nat × List mO) := [(0, [o0 (.aload_n 0), o2 (.getfield 27) 6 8, o0 (.istore_n 3), o0 (.aload_n 0), o2 (.getfield 18) 6 5, o0 (.sipush 257), o1 (.if_icmp .eq 15) 27, o0 (.aload_n 0), o0 (.iconst 1), o0 (.aload_n 0), o2 (.getfield 21) 6 6, o2 (.invokevirtual 80) 100 3, o1 (.goto 53) 77]),
  (27, [o0 (.aload_n 0), o2 (.getfield 24) 6 7, o0 (.iconst 4), o1 (.if_icmp .le 17) 49, o0 (.aload_n 0), o0 (.iconst 1), o0 (.aload_n 0), o2 (.getfield 21) 6 6, o0 (.iconst 4), o0 (.iadd), o2 (.invokevirtual 80) 100 3, o1 (.goto 31) 77]),
  (49, [o0 (.iload_n 3), o0 (.iload_n 1), o1 (.if_icmp .lt 8) 59, o0 (.iload_n 3), o0 (.iload_n 2), o1 (.if_icmp .le 15) 71]),
  (59, [o0 (.aload_n 0), o0 (.iconst 2), o0 (.aload_n 0), o2 (.getfield 21) 6 6, o2 (.invokevirtual 80) 100 3, o1 (.goto 9) 77]),
  (71, [o0 (.aload_n 0), o2 (.invokevirtual 69) 93 1, o0 (.iload_n 3), o0 (.ireturn)]),
  (77, [o0 (.iload_n 1), o0 (.ireturn)])]
theorem bk_Rd_number : okBlks q_Rd_number bl_Rd_number = true := by decide +kernel
noncomputable def oL_Rd_number {ρ : Type} (N : Nat) : List (Nat × (List Value → mS → (Option Value → mS → Option ρ) → Option ρ)) := [(100, C_Rd_fail N), (93, C_Rd_advance N)]
theorem oo_Rd_number {ρ : Type} {t0 : ρ} (N : Nat) : OrcOK Sx R0x oFx nx 3 t0 (mOrc (oL_Rd_number N)) := mOrc_OK (List.forall_mem_cons.mpr ⟨cs_Rd_fail N (by decide), List.forall_mem_cons.mpr ⟨cs_Rd_advance N (by decide), mz_nil⟩⟩)
noncomputable def H_Rd_number_59 {ρ : Type} (k : (Int32 × mS) → Option ρ) : mL → List Value → mS → Option ρ := fun loc st s => cR loc 0 18 (li1 loc 1 fun v0 => rv0 st (k (v0, s)))
noncomputable def f_Rd_number_j59 (N : Nat) (x : Int32 × mS) : Option (Int32 × mS) :=
  (f_Rd_fail N 2 (gI x.2 606 18) x.2).bind fun p1 =>
  some (x.1, p1)
set_option maxRecDepth 100000 in
set_option maxHeartbeats 4000000 in
theorem s_Rd_number_59 (N : Nat) {x9 : Int32} {s9 : mS} : SCd Sx R0x oFx nx 3 q_Rd_number (some (.int x9), s9) (x9, s9) 59 (H_Rd_number_59 (f_Rd_number_j59 N)) := by
  intro loc st s
  refine G_cR (fun h0 => ?_)
  refine G_li (fun v0 h1 => ?_)
  refine G_rv0 (fun e9 => ?_)
  subst e9
  refine G_sub (loc0 := [(0, .ref 18), (1, .int v0)]) (List.forall_mem_cons.mpr ⟨h0, List.forall_mem_cons.mpr ⟨h1, mz_nil⟩⟩) ?_
  exact G_eq (mEv_G (orc := mOrc (oL_Rd_number N)) (ret := rtI) (blks := bl_Rd_number) (cuts := []) wOKx (by decide) (oo_Rd_number N) (RetOK_I rfl) bk_Rd_number (mz_nil)) rfl
noncomputable def f_Rd_number (N : Nat) (a1 : Int32) (a2 : Int32) (s : mS) : Option (Int32 × mS) :=
  if (gI s 605 18) = 257 then
    if 4 < (gI s 607 18) then
      (f_Rd_fail N 1 ((gI s 606 18) + 4) s).bind fun p2 =>
      some (a1, p2)
    else
      if (gI s 608 18) < a1 then
        f_Rd_number_j59 N (a1, s)
      else
        if a2 < (gI s 608 18) then
          f_Rd_number_j59 N (a1, s)
        else
          (f_Rd_advance N s).bind fun p1 =>
          some ((gI s 608 18), p1)
  else
    (f_Rd_fail N 1 (gI s 606 18) s).bind fun p3 =>
    some (a1, p3)
set_option maxRecDepth 100000 in
set_option maxHeartbeats 4000000 in
theorem m_Rd_number (N : Nat) {x9 : Int32} {s9 : mS} (a1 : Int32) (a2 : Int32) {s : mS} (h : f_Rd_number N a1 a2 s = some (x9, s9)) : MetM Sx R0x oFx nx 3 110 [.ref 18, .int a1, .int a2] s (some (.int x9)) s9 := by
  refine met_of_G (q := q_Rd_number) (t0 := (x9, s9)) y_Rd_number (Nat.le_of_ble_eq_true rfl) ?_
  rw [← h]
  exact G_eq (mEv_G (orc := mOrc (oL_Rd_number N)) (ret := rtI) (blks := bl_Rd_number) (cuts := [(59, H_Rd_number_59 (f_Rd_number_j59 N))]) wOKx (by decide) (oo_Rd_number N) (RetOK_I rfl) bk_Rd_number (List.forall_mem_cons.mpr ⟨s_Rd_number_59 N, mz_nil⟩)) rfl
noncomputable def C_Rd_number {ρ : Type} (N : Nat) : List Value → mS → (Option Value → mS → Option ρ) → Option ρ := fun vs s kk => sR vs 18 fun r0 => pi1 r0 fun a1 r1 => pi1 r1 fun a2 r2 => rv0 r2 ((f_Rd_number N a1 a2 s).bind fun p => kk (some (.int p.1)) p.2)
theorem cs_Rd_number {ρ : Type} {t0 : ρ} {d : Nat} (N : Nat) (hd : 3 + 1 ≤ d) : CallOK Sx R0x oFx nx d t0 110 (C_Rd_number N) := by
  intro vs s kk h0
  obtain ⟨r0, rfl, h1⟩ := sR_some h0
  obtain ⟨a1, r1, rfl, h2⟩ := pi1_some h1
  obtain ⟨a2, r2, rfl, h3⟩ := pi1_some h2
  obtain ⟨rfl, h4⟩ := rv0_some h3
  obtain ⟨p, hp, hk⟩ := Option.bind_eq_some_iff.mp h4
  exact ⟨_, _, _, hd, m_Rd_number N a1 a2 hp, hk, fun qy hq hf => by cases y_Rd_number.symm.trans hq; exact ⟨_, _, rfl, rfl⟩⟩
/-! METHOD PorterDoors$Reader.numbers(I)V -/
set_option maxRecDepth 20000 in
noncomputable def q_Rd_numbers : mI := (⟨"PorterDoors$Reader", "numbers", "(I)V"⟩, prog_7_method_6_code, 5, none, 6, 627, 132, 1, 1, 626, 17)
theorem y_Rd_numbers : mT[109]? = some q_Rd_numbers := mT_at_2 (k := 29) rfl
noncomputable def bl_Rd_numbers : List (Nat × List mO) := [(0, [o0 (.iload_n 1), oS (.tableswitch 191 0 7 #[47, 191, 64, 98, 157, 191, 191, 174]) 192 [48, 192, 65, 99, 158, 192, 192, 175]]),
  (48, [o0 (.aload_n 0), o2 (.getfield 50) 6 1, o0 (.aload_n 0), o0 (.iconst 2), o0 (.bipush 24), o2 (.invokevirtual 118) 110 3, o2 (.putfield 121) 4 0, o1 (.goto 130) 192]),
  (65, [o0 (.aload_n 0), o0 (.iconst 0), o0 (.aload_n 0), o2 (.getfield 50) 6 1, o2 (.getfield 121) 4 0, o0 (.iconst 1), o0 (.isub), o2 (.invokevirtual 118) 110 3, o0 (.istore_n 2), o0 (.aload_n 0), o2 (.getfield 50) 6 1, o2 (.getfield 124) 4 5, o0 (.iload_n 2), o0 (.aload_n 0), o0 (.iconst 0), o0 (.bipush 9), o2 (.invokevirtual 118) 110 3, o0 (.iastore), o1 (.goto 96) 192]),
  (99, [o0 (.aload_n 0), o2 (.getfield 21) 6 6, o0 (.istore_n 3), o0 (.iconst 1), o0 (.aload_n 0), o0 (.iconst 0), o0 (.aload_n 0), o2 (.getfield 50) 6 1, o2 (.getfield 121) 4 0, o0 (.iconst 1), o0 (.isub), o2 (.invokevirtual 118) 110 3, o0 (.ishl), o0 (.istore 4), o0 (.aload_n 0), o2 (.getfield 50) 6 1, o2 (.getfield 127) 4 4, o0 (.iload 4), o0 (.iand), o1 (.ifCond .eq 9) 141, o0 (.aload_n 0), o0 (.iconst 2), o0 (.iload_n 3), o2 (.invokevirtual 80) 100 3]),
  (141, [o0 (.aload_n 0), o2 (.getfield 50) 6 1, o0 (.dup), o2 (.getfield 127) 4 4, o0 (.iload 4), o0 (.ior), o2 (.putfield 127) 4 4, o1 (.goto 37) 192]),
  (158, [o0 (.aload_n 0), o2 (.getfield 50) 6 1, o0 (.aload_n 0), o0 (.iconst 0), o0 (.bipush 99), o2 (.invokevirtual 118) 110 3, o2 (.putfield 130) 4 2, o1 (.goto 20) 192]),
  (175, [o0 (.aload_n 0), o2 (.getfield 50) 6 1, o0 (.aload_n 0), o0 (.iconst 0), o0 (.bipush 100), o2 (.invokevirtual 118) 110 3, o2 (.putfield 133) 4 3, o1 (.goto 3) 192]),
  (192, [o0 (.return_)])]
theorem bk_Rd_numbers : okBlks q_Rd_numbers bl_Rd_numbers = true := by decide +kernel
noncomputable def oL_Rd_numbers {ρ : Type} (N : Nat) : List (Nat × (List Value → mS → (Option Value → mS → Option ρ) → Option ρ)) := [(110, C_Rd_number N), (100, C_Rd_fail N)]
theorem oo_Rd_numbers {ρ : Type} {t0 : ρ} (N : Nat) : OrcOK Sx R0x oFx nx 4 t0 (mOrc (oL_Rd_numbers N)) := mOrc_OK (List.forall_mem_cons.mpr ⟨cs_Rd_number N (by decide), List.forall_mem_cons.mpr ⟨cs_Rd_fail N (by decide), mz_nil⟩⟩)
noncomputable def H_Rd_numbers_141 {ρ : Type} (k : (Int32 × mS) → Option ρ) : mL → List Value → mS → Option ρ := fun loc st s => cR loc 0 18 (li1 loc 4 fun v0 => rv0 st (k (v0, s)))
noncomputable def f_Rd_numbers_j141 (N : Nat) (x : Int32 × mS) : Option (mS) :=
  let s1 := sI x.2 404 9 ((gI x.2 404 9) ||| x.1)
  some s1
set_option maxRecDepth 100000 in
set_option maxHeartbeats 4000000 in
theorem s_Rd_numbers_141 (N : Nat) {s9 : mS} : SCd Sx R0x oFx nx 4 q_Rd_numbers (none, s9) s9 141 (H_Rd_numbers_141 (f_Rd_numbers_j141 N)) := by
  intro loc st s
  refine G_cR (fun h0 => ?_)
  refine G_li (fun v0 h4 => ?_)
  refine G_rv0 (fun e9 => ?_)
  subst e9
  refine G_sub (loc0 := [(0, .ref 18), (4, .int v0)]) (List.forall_mem_cons.mpr ⟨h0, List.forall_mem_cons.mpr ⟨h4, mz_nil⟩⟩) ?_
  exact G_eq (mEv_G (orc := mOrc (oL_Rd_numbers N)) (ret := rtV) (blks := bl_Rd_numbers) (cuts := []) wOKx (by decide) (oo_Rd_numbers N) (RetOK_V rfl) bk_Rd_numbers (mz_nil)) rfl
noncomputable def f_Rd_numbers (N : Nat) (a1 : Int32) (s : mS) : Option (mS) :=
  if a1 = 0 then
    (f_Rd_number N 2 24 s).bind fun p1 =>
    let s2 := sI p1.2 400 9 p1.1
    some s2
  else if a1 = 1 then
    some s
  else if a1 = 2 then
    (f_Rd_number N 0 ((gI s 400 9) - 1) s).bind fun p3 =>
    (f_Rd_number N 0 9 p3.2).bind fun p4 =>
    grd (inb p3.1 24) (
    let s5 := sA p4.2 10 (ix p3.1) p4.1
    some s5)
  else if a1 = 3 then
    (f_Rd_number N 0 ((gI s 400 9) - 1) s).bind fun p6 =>
    if ((gI p6.2 404 9) &&& (ils 1 p6.1)) = 0 then
      f_Rd_numbers_j141 N ((ils 1 p6.1), p6.2)
    else
      (f_Rd_fail N 2 (gI s 606 18) p6.2).bind fun p7 =>
      f_Rd_numbers_j141 N ((ils 1 p6.1), p7)
  else if a1 = 4 then
    (f_Rd_number N 0 99 s).bind fun p8 =>
    let s9 := sI p8.2 402 9 p8.1
    some s9
  else if a1 = 5 then
    some s
  else if a1 = 6 then
    some s
  else if a1 = 7 then
    (f_Rd_number N 0 100 s).bind fun p10 =>
    let s11 := sI p10.2 403 9 p10.1
    some s11
  else
    some s
set_option maxRecDepth 100000 in
set_option maxHeartbeats 4000000 in
theorem m_Rd_numbers (N : Nat) {s9 : mS} (a1 : Int32) {s : mS} (h : f_Rd_numbers N a1 s = some s9) : MetM Sx R0x oFx nx 4 109 [.ref 18, .int a1] s (none) s9 := by
  refine met_of_G (q := q_Rd_numbers) (t0 := s9) y_Rd_numbers (Nat.le_of_ble_eq_true rfl) ?_
  rw [← h]
  exact G_eq (mEv_G (orc := mOrc (oL_Rd_numbers N)) (ret := rtV) (blks := bl_Rd_numbers) (cuts := [(141, H_Rd_numbers_141 (f_Rd_numbers_j141 N))]) wOKx (by decide) (oo_Rd_numbers N) (RetOK_V rfl) bk_Rd_numbers (List.forall_mem_cons.mpr ⟨s_Rd_numbers_141 N, mz_nil⟩)) rfl
noncomputable def C_Rd_numbers {ρ : Type} (N : Nat) : List Value → mS → (Option Value → mS → Option ρ) → Option ρ := fun vs s kk => sR vs 18 fun r0 => pi1 r0 fun a1 r1 => rv0 r1 ((f_Rd_numbers N a1 s).bind fun p => kk none p)
theorem cs_Rd_numbers {ρ : Type} {t0 : ρ} {d : Nat} (N : Nat) (hd : 4 + 1 ≤ d) : CallOK Sx R0x oFx nx d t0 109 (C_Rd_numbers N) := by
  intro vs s kk h0
  obtain ⟨r0, rfl, h1⟩ := sR_some h0
  obtain ⟨a1, r1, rfl, h2⟩ := pi1_some h1
  obtain ⟨rfl, h3⟩ := rv0_some h2
  obtain ⟨p, hp, hk⟩ := Option.bind_eq_some_iff.mp h3
  exact ⟨_, _, _, hd, m_Rd_numbers N a1 hp, hk, fun qy hq hf => by cases y_Rd_numbers.symm.trans hq; exact ⟨_, _, rfl, rfl⟩⟩
/-! METHOD PorterDoors$Program.copy(LPorterDoors$Program;)V -/
set_option maxRecDepth 20000 in
noncomputable def q_Pg_copy : mI := (⟨"PorterDoors$Program", "copy", "(LPorterDoors$Program;)V"⟩, prog_6_method_4_code, 2, none, 5, 642, 131, 1, 1, 640, 641)
theorem y_Pg_copy : mT[90]? = some q_Pg_copy := mT_at_2 (k := 10) rfl
noncomputable def bl_Pg_copy : List (Nat × List mO) := [(0, [o0 (.aload_n 0), o0 (.aload_n 1), o2 (.getfield 15) 5 1, o2 (.putfield 15) 5 1, o0 (.aload_n 1), o2 (.getfield 9) 5 0, o0 (.iconst 0), o0 (.aload_n 0), o2 (.getfield 9) 5 0, o0 (.iconst 0), o0 (.aload_n 0), o2 (.getfield 15) 5 1, o2 (.invokestatic 19) 9999 0, o0 (.return_)])]
theorem bk_Pg_copy : okBlks q_Pg_copy bl_Pg_copy = true := by decide +kernel
noncomputable def oL_Pg_copy {ρ : Type} (N : Nat) : List (Nat × (List Value → mS → (Option Value → mS → Option ρ) → Option ρ)) := []
theorem oo_Pg_copy {ρ : Type} {t0 : ρ} (N : Nat) : OrcOK Sx R0x oFx nx 1 t0 (mOrc (oL_Pg_copy N)) := mOrc_OK (mz_nil)
noncomputable def f_Pg_copy (N : Nat) (a0 : Nat) (a1 : Nat) (s : mS) : Option (mS) :=
  grd (isO Sx a1 5) (
  grd (isO Sx a0 5) (
  let s1 := sI s 501 a0 (gI s 501 a1)
  grd (isO Sx a1 5) (
  grd (isO Sx a0 5) (
  grd (isO Sx a0 5) (
  grd (!decide ((gI s1 501 a0) < 0)) (
  grd (Nat.blt 0 (aln Sx 0 (a1 + 1))) (
  grd (Nat.blt 0 (aln Sx 0 (a0 + 1))) (
  grd (Nat.ble (0 + (ix (gI s1 501 a0))) (aln Sx 0 (a1 + 1))) (
  grd (Nat.ble (0 + (ix (gI s1 501 a0))) (aln Sx 0 (a0 + 1))) (
  let s2 := sC s1 (a1 + 1) 0 (a0 + 1) 0 (ix (gI s1 501 a0))
  some s2))))))))))
set_option maxRecDepth 100000 in
set_option maxHeartbeats 4000000 in
theorem m_Pg_copy (N : Nat) {s9 : mS} (a0 : Nat) (a1 : Nat) {s : mS} (h : f_Pg_copy N a0 a1 s = some s9) : MetM Sx R0x oFx nx 1 90 [.ref a0, .ref a1] s (none) s9 := by
  refine met_of_G (q := q_Pg_copy) (t0 := s9) y_Pg_copy (Nat.le_of_ble_eq_true rfl) ?_
  rw [← h]
  exact G_eq (mEv_G (orc := mOrc (oL_Pg_copy N)) (ret := rtV) (blks := bl_Pg_copy) (cuts := []) wOKx (by decide) (oo_Pg_copy N) (RetOK_V rfl) bk_Pg_copy (mz_nil)) rfl
noncomputable def C_Pg_copy {ρ : Type} (N : Nat) : List Value → mS → (Option Value → mS → Option ρ) → Option ρ := fun vs s kk => pr1 vs fun a0 r0 => grd (isO Sx a0 5) (pr1 r0 fun a1 r1 => rv0 r1 ((f_Pg_copy N a0 a1 s).bind fun p => kk none p))
theorem cs_Pg_copy {ρ : Type} {t0 : ρ} {d : Nat} (N : Nat) (hd : 1 + 1 ≤ d) : CallOK Sx R0x oFx nx d t0 90 (C_Pg_copy N) := by
  intro vs s kk h0
  obtain ⟨a0, r0, rfl, h1⟩ := pr1_some h0
  obtain ⟨ho, h2⟩ := grd_some h1
  obtain ⟨a1, r1, rfl, h3⟩ := pr1_some h2
  obtain ⟨rfl, h4⟩ := rv0_some h3
  obtain ⟨p, hp, hk⟩ := Option.bind_eq_some_iff.mp h4
  exact ⟨_, _, _, hd, m_Pg_copy N a0 a1 hp, hk, fun qy hq hf => by cases y_Pg_copy.symm.trans hq; exact ⟨_, _, rfl, isO_spec ho⟩⟩
/-! METHOD PorterDoors$Plan.copy(LPorterDoors$Plan;)V -/
set_option maxRecDepth 20000 in
noncomputable def q_Pl_copy : mI := (⟨"PorterDoors$Plan", "copy", "(LPorterDoors$Plan;)V"⟩, prog_5_method_8_code, 2, none, 4, 635, 130, 1, 1, 633, 634)
theorem y_Pl_copy : mT[85]? = some q_Pl_copy := mT_at_2 (k := 5) rfl
noncomputable def bl_Pl_copy : List (Nat × List mO) := [(0, [o0 (.aload_n 0), o0 (.aload_n 1), o2 (.getfield 9) 4 0, o2 (.putfield 9) 4 0, o0 (.aload_n 0), o0 (.aload_n 1), o2 (.getfield 15) 4 1, o2 (.putfield 15) 4 1, o0 (.aload_n 0), o0 (.aload_n 1), o2 (.getfield 18) 4 2, o2 (.putfield 18) 4 2, o0 (.aload_n 0), o0 (.aload_n 1), o2 (.getfield 21) 4 3, o2 (.putfield 21) 4 3, o0 (.aload_n 0), o0 (.aload_n 1), o2 (.getfield 24) 4 4, o2 (.putfield 24) 4 4, o0 (.aload_n 0), o0 (.aload_n 1), o2 (.getfield 48) 4 10, o2 (.putfield 48) 4 10, o0 (.aload_n 1), o2 (.getfield 27) 4 5, o0 (.iconst 0), o0 (.aload_n 0), o2 (.getfield 27) 4 5, o0 (.iconst 0), o0 (.aload_n 0), o2 (.getfield 27) 4 5, o0 (.arraylength), o2 (.invokestatic 81) 9999 0, o0 (.aload_n 1), o2 (.getfield 31) 4 6, o0 (.iconst 0), o0 (.aload_n 0), o2 (.getfield 31) 4 6, o0 (.iconst 0), o0 (.aload_n 0), o2 (.getfield 31) 4 6, o0 (.arraylength), o2 (.invokestatic 81) 9999 3, o0 (.aload_n 1), o2 (.getfield 42) 4 8, o0 (.iconst 0), o0 (.aload_n 0), o2 (.getfield 42) 4 8, o0 (.iconst 0), o0 (.aload_n 0), o2 (.getfield 42) 4 8, o0 (.arraylength), o2 (.invokestatic 81) 9999 0, o0 (.aload_n 1), o2 (.getfield 45) 4 9, o0 (.iconst 0), o0 (.aload_n 0), o2 (.getfield 45) 4 9, o0 (.iconst 0), o0 (.aload_n 0), o2 (.getfield 45) 4 9, o0 (.arraylength), o2 (.invokestatic 81) 9999 0, o0 (.aload_n 0), o2 (.getfield 38) 4 7, o0 (.aload_n 1), o2 (.getfield 38) 4 7, o2 (.invokevirtual 87) 90 2, o0 (.return_)])]
theorem bk_Pl_copy : okBlks q_Pl_copy bl_Pl_copy = true := by decide +kernel
noncomputable def oL_Pl_copy {ρ : Type} (N : Nat) : List (Nat × (List Value → mS → (Option Value → mS → Option ρ) → Option ρ)) := [(90, C_Pg_copy N)]
theorem oo_Pl_copy {ρ : Type} {t0 : ρ} (N : Nat) : OrcOK Sx R0x oFx nx 2 t0 (mOrc (oL_Pl_copy N)) := mOrc_OK (List.forall_mem_cons.mpr ⟨cs_Pg_copy N (by decide), mz_nil⟩)
noncomputable def f_Pl_copy (N : Nat) (a0 : Nat) (a1 : Nat) (s : mS) : Option (mS) :=
  grd (isO Sx a1 4) (
  grd (isO Sx a0 4) (
  let s1 := sI s 400 a0 (gI s 400 a1)
  grd (isO Sx a1 4) (
  grd (isO Sx a0 4) (
  let s2 := sI s1 401 a0 (gI s1 401 a1)
  grd (isO Sx a1 4) (
  grd (isO Sx a0 4) (
  let s3 := sI s2 402 a0 (gI s2 402 a1)
  grd (isO Sx a1 4) (
  grd (isO Sx a0 4) (
  let s4 := sI s3 403 a0 (gI s3 403 a1)
  grd (isO Sx a1 4) (
  grd (isO Sx a0 4) (
  let s5 := sI s4 404 a0 (gI s4 404 a1)
  grd (isO Sx a1 4) (
  grd (isO Sx a0 4) (
  let s6 := sI s5 410 a0 (gI s5 410 a1)
  grd (isO Sx a1 4) (
  grd (isO Sx a0 4) (
  grd (isO Sx a0 4) (
  grd (isA Sx (a0 + 1)) (
  grd (!decide ((Int32.ofNat (alA Sx (a0 + 1))) < 0)) (
  grd (Nat.blt 0 (aln Sx 0 (a1 + 1))) (
  grd (Nat.blt 0 (aln Sx 0 (a0 + 1))) (
  grd (Nat.ble (0 + (ix (Int32.ofNat (alA Sx (a0 + 1))))) (aln Sx 0 (a1 + 1))) (
  grd (Nat.ble (0 + (ix (Int32.ofNat (alA Sx (a0 + 1))))) (aln Sx 0 (a0 + 1))) (
  let s7 := sC s6 (a1 + 1) 0 (a0 + 1) 0 (ix (Int32.ofNat (alA Sx (a0 + 1))))
  grd (isO Sx a1 4) (
  grd (isO Sx a0 4) (
  grd (isO Sx a0 4) (
  grd (isA Sx (a0 + 2)) (
  grd (!decide ((Int32.ofNat (alA Sx (a0 + 2))) < 0)) (
  grd (Nat.blt 0 (aln Sx 3 (a1 + 2))) (
  grd (Nat.blt 0 (aln Sx 3 (a0 + 2))) (
  grd (Nat.ble (0 + (ix (Int32.ofNat (alA Sx (a0 + 2))))) (aln Sx 3 (a1 + 2))) (
  grd (Nat.ble (0 + (ix (Int32.ofNat (alA Sx (a0 + 2))))) (aln Sx 3 (a0 + 2))) (
  let s8 := sD s7 (a1 + 2) 0 (a0 + 2) 0 (ix (Int32.ofNat (alA Sx (a0 + 2))))
  grd (isO Sx a1 4) (
  grd (isO Sx a0 4) (
  grd (isO Sx a0 4) (
  grd (isA Sx (a0 + 5)) (
  grd (!decide ((Int32.ofNat (alA Sx (a0 + 5))) < 0)) (
  grd (Nat.blt 0 (aln Sx 0 (a1 + 5))) (
  grd (Nat.blt 0 (aln Sx 0 (a0 + 5))) (
  grd (Nat.ble (0 + (ix (Int32.ofNat (alA Sx (a0 + 5))))) (aln Sx 0 (a1 + 5))) (
  grd (Nat.ble (0 + (ix (Int32.ofNat (alA Sx (a0 + 5))))) (aln Sx 0 (a0 + 5))) (
  let s9 := sC s8 (a1 + 5) 0 (a0 + 5) 0 (ix (Int32.ofNat (alA Sx (a0 + 5))))
  grd (isO Sx a1 4) (
  grd (isO Sx a0 4) (
  grd (isO Sx a0 4) (
  grd (isA Sx (a0 + 6)) (
  grd (!decide ((Int32.ofNat (alA Sx (a0 + 6))) < 0)) (
  grd (Nat.blt 0 (aln Sx 0 (a1 + 6))) (
  grd (Nat.blt 0 (aln Sx 0 (a0 + 6))) (
  grd (Nat.ble (0 + (ix (Int32.ofNat (alA Sx (a0 + 6))))) (aln Sx 0 (a1 + 6))) (
  grd (Nat.ble (0 + (ix (Int32.ofNat (alA Sx (a0 + 6))))) (aln Sx 0 (a0 + 6))) (
  let s10 := sC s9 (a1 + 6) 0 (a0 + 6) 0 (ix (Int32.ofNat (alA Sx (a0 + 6))))
  grd (isO Sx a0 4) (
  grd (isO Sx a1 4) (
  grd (isO Sx (a0 + 3) 5) (
  (f_Pg_copy N (a0 + 3) (a1 + 3) s10).bind fun p11 =>
  some p11)))))))))))))))))))))))))))))))))))))))))))))))))))
set_option maxRecDepth 100000 in
set_option maxHeartbeats 4000000 in
theorem m_Pl_copy (N : Nat) {s9 : mS} (a0 : Nat) (a1 : Nat) {s : mS} (h : f_Pl_copy N a0 a1 s = some s9) : MetM Sx R0x oFx nx 2 85 [.ref a0, .ref a1] s (none) s9 := by
  refine met_of_G (q := q_Pl_copy) (t0 := s9) y_Pl_copy (Nat.le_of_ble_eq_true rfl) ?_
  rw [← h]
  exact G_eq (mEv_G (orc := mOrc (oL_Pl_copy N)) (ret := rtV) (blks := bl_Pl_copy) (cuts := []) wOKx (by decide) (oo_Pl_copy N) (RetOK_V rfl) bk_Pl_copy (mz_nil)) rfl
noncomputable def C_Pl_copy {ρ : Type} (N : Nat) : List Value → mS → (Option Value → mS → Option ρ) → Option ρ := fun vs s kk => pr1 vs fun a0 r0 => grd (isO Sx a0 4) (pr1 r0 fun a1 r1 => rv0 r1 ((f_Pl_copy N a0 a1 s).bind fun p => kk none p))
theorem cs_Pl_copy {ρ : Type} {t0 : ρ} {d : Nat} (N : Nat) (hd : 2 + 1 ≤ d) : CallOK Sx R0x oFx nx d t0 85 (C_Pl_copy N) := by
  intro vs s kk h0
  obtain ⟨a0, r0, rfl, h1⟩ := pr1_some h0
  obtain ⟨ho, h2⟩ := grd_some h1
  obtain ⟨a1, r1, rfl, h3⟩ := pr1_some h2
  obtain ⟨rfl, h4⟩ := rv0_some h3
  obtain ⟨p, hp, hk⟩ := Option.bind_eq_some_iff.mp h4
  exact ⟨_, _, _, hd, m_Pl_copy N a0 a1 hp, hk, fun qy hq hf => by cases y_Pl_copy.symm.trans hq; exact ⟨_, _, rfl, isO_spec ho⟩⟩
/-! METHOD PorterDoors$Hall.begin(LPorterDoors$Plan;)V -/
set_option maxRecDepth 20000 in
noncomputable def q_Ha_begin : mI := (⟨"PorterDoors$Hall", "begin", "(LPorterDoors$Plan;)V"⟩, prog_3_method_2_code, 3, none, 2, 647, 133, 1, 1, 645, 646)
theorem y_Ha_begin : mT[66]? = some q_Ha_begin := mT_at_1 (k := 26) rfl
noncomputable def bl_Ha_begin : List (Nat × List mO) := [(0, [o0 (.iconst 0), o0 (.istore_n 2)]),
  (2, [o0 (.iload_n 2), o0 (.bipush 102), o1 (.if_icmp .ge 16) 21, o0 (.aload_n 0), o2 (.getfield 11) 2 0, o0 (.iload_n 2), o0 (.iconst 0), o0 (.iastore), o0 (.iinc 2 1), o1 (.goto (-16)) 2]),
  (21, [o0 (.aload_n 0), o2 (.getfield 11) 2 0, o0 (.iconst 2), o0 (.aload_n 1), o2 (.getfield 15) 4 4, o0 (.iastore), o0 (.aload_n 1), o2 (.getfield 21) 4 5, o0 (.iconst 0), o0 (.aload_n 0), o2 (.getfield 11) 2 0, o0 (.bipush 28), o0 (.bipush 24), o2 (.invokestatic 24) 9999 0, o0 (.return_)])]
theorem bk_Ha_begin : okBlks q_Ha_begin bl_Ha_begin = true := by decide +kernel
noncomputable def oL_Ha_begin {ρ : Type} (N : Nat) : List (Nat × (List Value → mS → (Option Value → mS → Option ρ) → Option ρ)) := []
theorem oo_Ha_begin {ρ : Type} {t0 : ρ} (N : Nat) : OrcOK Sx R0x oFx nx 1 t0 (mOrc (oL_Ha_begin N)) := mOrc_OK (mz_nil)
noncomputable def H_Ha_begin_2 {ρ : Type} (k : (Nat × Nat × Int32 × mS) → Option ρ) : mL → List Value → mS → Option ρ := fun loc st s => lr1 loc 0 fun v0 => lr1 loc 1 fun v1 => li1 loc 2 fun v2 => rv0 st (k (v0, v1, v2, s))
noncomputable def f_Ha_begin_L2 (N : Nat) (k2 : (Nat × Nat × Int32 × mS) → Option (mS)) (x : Nat × Nat × Int32 × mS) : Option (mS) :=
  if x.2.2.1 < 102 then
    grd (isO Sx x.1 2) (
    grd (inb x.2.2.1 (aln Sx 0 (x.1 + 1))) (
    let s3 := sA x.2.2.2 (x.1 + 1) (ix x.2.2.1) 0
    k2 (x.1, x.2.1, (x.2.2.1 + 1), s3)))
  else
    grd (isO Sx x.1 2) (
    grd (isO Sx x.2.1 4) (
    grd (inb 2 (aln Sx 0 (x.1 + 1))) (
    let s1 := sA x.2.2.2 (x.1 + 1) 2 (gI x.2.2.2 404 x.2.1)
    grd (isO Sx x.2.1 4) (
    grd (isO Sx x.1 2) (
    grd (Nat.blt 0 (aln Sx 0 (x.2.1 + 1))) (
    grd (Nat.blt 0 (aln Sx 0 (x.1 + 1))) (
    grd (Nat.ble (0 + 24) (aln Sx 0 (x.2.1 + 1))) (
    grd (Nat.ble (28 + 24) (aln Sx 0 (x.1 + 1))) (
    let s2 := sC s1 (x.2.1 + 1) 0 (x.1 + 1) 28 24
    some s2)))))))))
set_option maxRecDepth 100000 in
set_option maxHeartbeats 4000000 in
theorem t_Ha_begin_2 (N : Nat) {s9 : mS} {k2 : (Nat × Nat × Int32 × mS) → Option (mS)} (hk2 : SCd Sx R0x oFx nx 1 q_Ha_begin (none, s9) s9 2 (H_Ha_begin_2 k2)) : SCd Sx R0x oFx nx 1 q_Ha_begin (none, s9) s9 2 (H_Ha_begin_2 (f_Ha_begin_L2 N k2)) := by
  intro loc st s
  refine G_lr (fun v0 h0 => ?_)
  refine G_lr (fun v1 h1 => ?_)
  refine G_li (fun v2 h2 => ?_)
  refine G_rv0 (fun e9 => ?_)
  subst e9
  refine G_sub (loc0 := [(0, .ref v0), (1, .ref v1), (2, .int v2)]) (List.forall_mem_cons.mpr ⟨h0, List.forall_mem_cons.mpr ⟨h1, List.forall_mem_cons.mpr ⟨h2, mz_nil⟩⟩⟩) ?_
  exact G_eq (mEv_G (orc := mOrc (oL_Ha_begin N)) (ret := rtV) (blks := bl_Ha_begin) (cuts := [(2, H_Ha_begin_2 k2)]) wOKx (by decide) (oo_Ha_begin N) (RetOK_V rfl) bk_Ha_begin (List.forall_mem_cons.mpr ⟨hk2, mz_nil⟩)) rfl
theorem s_Ha_begin_2 (N : Nat) {s9 : mS} : SCd Sx R0x oFx nx 1 q_Ha_begin (none, s9) s9 2 (H_Ha_begin_2 (mfix N (f_Ha_begin_L2 N))) := by
  refine mfix_SC (H := H_Ha_begin_2) (fun loc st s => ?_) (fun k hk => t_Ha_begin_2 N hk) N
  refine G_lr (fun v0 h0 => ?_)
  refine G_lr (fun v1 h1 => ?_)
  refine G_li (fun v2 h2 => ?_)
  refine G_rv0 (fun e9 => ?_)
  subst e9
  exact G_none
noncomputable def f_Ha_begin (N : Nat) (a0 : Nat) (a1 : Nat) (s : mS) : Option (mS) :=
  mfix N (f_Ha_begin_L2 N) (a0, a1, 0, s)
set_option maxRecDepth 100000 in
set_option maxHeartbeats 4000000 in
theorem m_Ha_begin (N : Nat) {s9 : mS} (a0 : Nat) (a1 : Nat) {s : mS} (h : f_Ha_begin N a0 a1 s = some s9) : MetM Sx R0x oFx nx 1 66 [.ref a0, .ref a1] s (none) s9 := by
  refine met_of_G (q := q_Ha_begin) (t0 := s9) y_Ha_begin (Nat.le_of_ble_eq_true rfl) ?_
  rw [← h]
  exact G_eq (mEv_G (orc := mOrc (oL_Ha_begin N)) (ret := rtV) (blks := bl_Ha_begin) (cuts := [(2, H_Ha_begin_2 (mfix N (f_Ha_begin_L2 N)))]) wOKx (by decide) (oo_Ha_begin N) (RetOK_V rfl) bk_Ha_begin (List.forall_mem_cons.mpr ⟨s_Ha_begin_2 N, mz_nil⟩)) rfl
noncomputable def C_Ha_begin {ρ : Type} (N : Nat) : List Value → mS → (Option Value → mS → Option ρ) → Option ρ := fun vs s kk => pr1 vs fun a0 r0 => grd (isO Sx a0 2) (pr1 r0 fun a1 r1 => rv0 r1 ((f_Ha_begin N a0 a1 s).bind fun p => kk none p))
theorem cs_Ha_begin {ρ : Type} {t0 : ρ} {d : Nat} (N : Nat) (hd : 1 + 1 ≤ d) : CallOK Sx R0x oFx nx d t0 66 (C_Ha_begin N) := by
  intro vs s kk h0
  obtain ⟨a0, r0, rfl, h1⟩ := pr1_some h0
  obtain ⟨ho, h2⟩ := grd_some h1
  obtain ⟨a1, r1, rfl, h3⟩ := pr1_some h2
  obtain ⟨rfl, h4⟩ := rv0_some h3
  obtain ⟨p, hp, hk⟩ := Option.bind_eq_some_iff.mp h4
  exact ⟨_, _, _, hd, m_Ha_begin N a0 a1 hp, hk, fun qy hq hf => by cases y_Ha_begin.symm.trans hq; exact ⟨_, _, rfl, isO_spec ho⟩⟩
/-! METHOD PorterDoors$Past.forget()V -/
set_option maxRecDepth 20000 in
noncomputable def q_Pa_forget : mI := (⟨"PorterDoors$Past", "forget", "()V"⟩, prog_4_method_2_code, 1, none, 3, 652, 134, 1, 0, 650, 651)
theorem y_Pa_forget : mT[76]? = some q_Pa_forget := mT_at_1 (k := 36) rfl
noncomputable def bl_Pa_forget : List (Nat × List mO) := [(0, [o0 (.aload_n 0), o0 (.iconst 0), o2 (.putfield 19) 3 2, o0 (.return_)])]
theorem bk_Pa_forget : okBlks q_Pa_forget bl_Pa_forget = true := by decide +kernel
noncomputable def oL_Pa_forget {ρ : Type} (N : Nat) : List (Nat × (List Value → mS → (Option Value → mS → Option ρ) → Option ρ)) := []
theorem oo_Pa_forget {ρ : Type} {t0 : ρ} (N : Nat) : OrcOK Sx R0x oFx nx 1 t0 (mOrc (oL_Pa_forget N)) := mOrc_OK (mz_nil)
noncomputable def f_Pa_forget (N : Nat) (s : mS) : Option (mS) :=
  let s1 := sI s 302 23 0
  some s1
set_option maxRecDepth 100000 in
set_option maxHeartbeats 4000000 in
theorem m_Pa_forget (N : Nat) {s9 : mS} {s : mS} (h : f_Pa_forget N s = some s9) : MetM Sx R0x oFx nx 1 76 [.ref 23] s (none) s9 := by
  refine met_of_G (q := q_Pa_forget) (t0 := s9) y_Pa_forget (Nat.le_of_ble_eq_true rfl) ?_
  rw [← h]
  exact G_eq (mEv_G (orc := mOrc (oL_Pa_forget N)) (ret := rtV) (blks := bl_Pa_forget) (cuts := []) wOKx (by decide) (oo_Pa_forget N) (RetOK_V rfl) bk_Pa_forget (mz_nil)) rfl
noncomputable def C_Pa_forget {ρ : Type} (N : Nat) : List Value → mS → (Option Value → mS → Option ρ) → Option ρ := fun vs s kk => sR vs 23 fun r0 => rv0 r0 ((f_Pa_forget N s).bind fun p => kk none p)
theorem cs_Pa_forget {ρ : Type} {t0 : ρ} {d : Nat} (N : Nat) (hd : 1 + 1 ≤ d) : CallOK Sx R0x oFx nx d t0 76 (C_Pa_forget N) := by
  intro vs s kk h0
  obtain ⟨r0, rfl, h1⟩ := sR_some h0
  obtain ⟨rfl, h2⟩ := rv0_some h1
  obtain ⟨p, hp, hk⟩ := Option.bind_eq_some_iff.mp h2
  exact ⟨_, _, _, hd, m_Pa_forget N hp, hk, fun qy hq hf => by cases y_Pa_forget.symm.trans hq; exact ⟨_, _, rfl, rfl⟩⟩
/-! METHOD PorterDoors$Sets.forgetSeen()V -/
set_option maxRecDepth 20000 in
noncomputable def q_Se_forgetSeen : mI := (⟨"PorterDoors$Sets", "forgetSeen", "()V"⟩, prog_9_method_3_code, 1, none, 8, 656, 138, 1, 0, 654, 655)
theorem y_Se_forgetSeen : mT[121]? = some q_Se_forgetSeen := mT_at_3 (k := 1) rfl
noncomputable def bl_Se_forgetSeen : List (Nat × List mO) := [(0, [o0 (.aload_n 0), o0 (.iconst 0), o2 (.putfield 29) 8 8, o0 (.aload_n 0), o0 (.iconst 0), o2 (.putfield 32) 8 9, o0 (.aload_n 0), o0 (.iconst 0), o2 (.putfield 35) 8 10, o0 (.aload_n 0), o0 (.iconst 0), o2 (.putfield 9) 8 3, o0 (.return_)])]
theorem bk_Se_forgetSeen : okBlks q_Se_forgetSeen bl_Se_forgetSeen = true := by decide +kernel
noncomputable def oL_Se_forgetSeen {ρ : Type} (N : Nat) : List (Nat × (List Value → mS → (Option Value → mS → Option ρ) → Option ρ)) := []
theorem oo_Se_forgetSeen {ρ : Type} {t0 : ρ} (N : Nat) : OrcOK Sx R0x oFx nx 1 t0 (mOrc (oL_Se_forgetSeen N)) := mOrc_OK (mz_nil)
noncomputable def f_Se_forgetSeen (N : Nat) (s : mS) : Option (mS) :=
  let s1 := sI s 808 37 0
  let s2 := sI s1 809 37 0
  let s3 := sI s2 810 37 0
  let s4 := sI s3 803 37 0
  some s4
set_option maxRecDepth 100000 in
set_option maxHeartbeats 4000000 in
theorem m_Se_forgetSeen (N : Nat) {s9 : mS} {s : mS} (h : f_Se_forgetSeen N s = some s9) : MetM Sx R0x oFx nx 1 121 [.ref 37] s (none) s9 := by
  refine met_of_G (q := q_Se_forgetSeen) (t0 := s9) y_Se_forgetSeen (Nat.le_of_ble_eq_true rfl) ?_
  rw [← h]
  exact G_eq (mEv_G (orc := mOrc (oL_Se_forgetSeen N)) (ret := rtV) (blks := bl_Se_forgetSeen) (cuts := []) wOKx (by decide) (oo_Se_forgetSeen N) (RetOK_V rfl) bk_Se_forgetSeen (mz_nil)) rfl
noncomputable def C_Se_forgetSeen {ρ : Type} (N : Nat) : List Value → mS → (Option Value → mS → Option ρ) → Option ρ := fun vs s kk => sR vs 37 fun r0 => rv0 r0 ((f_Se_forgetSeen N s).bind fun p => kk none p)
theorem cs_Se_forgetSeen {ρ : Type} {t0 : ρ} {d : Nat} (N : Nat) (hd : 1 + 1 ≤ d) : CallOK Sx R0x oFx nx d t0 121 (C_Se_forgetSeen N) := by
  intro vs s kk h0
  obtain ⟨r0, rfl, h1⟩ := sR_some h0
  obtain ⟨rfl, h2⟩ := rv0_some h1
  obtain ⟨p, hp, hk⟩ := Option.bind_eq_some_iff.mp h2
  exact ⟨_, _, _, hd, m_Se_forgetSeen N hp, hk, fun qy hq hf => by cases y_Se_forgetSeen.symm.trans hq; exact ⟨_, _, rfl, rfl⟩⟩
/-! METHOD PorterDoors$Rounds.forgetOrders()V -/
set_option maxRecDepth 20000 in
noncomputable def q_Ro_forgetOrders : mI := (⟨"PorterDoors$Rounds", "forgetOrders", "()V"⟩, prog_8_method_2_code, 2, none, 7, 664, 136, 1, 0, 662, 663)
theorem y_Ro_forgetOrders : mT[113]? = some q_Ro_forgetOrders := mT_at_2 (k := 33) rfl
noncomputable def bl_Ro_forgetOrders : List (Nat × List mO) := [(0, [o0 (.iconst 0), o0 (.istore_n 1)]),
  (2, [o0 (.iload_n 1), o0 (.aload_n 0), o2 (.getfield 15) 7 3, o0 (.arraylength), o1 (.if_icmp .ge 16) 24, o0 (.aload_n 0), o2 (.getfield 15) 7 3, o0 (.iload_n 1), o0 (.iconst 0), o0 (.iastore), o0 (.iinc 1 1), o1 (.goto (-19)) 2]),
  (24, [o0 (.return_)])]
theorem bk_Ro_forgetOrders : okBlks q_Ro_forgetOrders bl_Ro_forgetOrders = true := by decide +kernel
noncomputable def oL_Ro_forgetOrders {ρ : Type} (N : Nat) : List (Nat × (List Value → mS → (Option Value → mS → Option ρ) → Option ρ)) := []
theorem oo_Ro_forgetOrders {ρ : Type} {t0 : ρ} (N : Nat) : OrcOK Sx R0x oFx nx 1 t0 (mOrc (oL_Ro_forgetOrders N)) := mOrc_OK (mz_nil)
noncomputable def H_Ro_forgetOrders_2 {ρ : Type} (k : (Int32 × mS) → Option ρ) : mL → List Value → mS → Option ρ := fun loc st s => cR loc 0 29 (li1 loc 1 fun v0 => rv0 st (k (v0, s)))
noncomputable def f_Ro_forgetOrders_L2 (N : Nat) (k2 : (Int32 × mS) → Option (mS)) (x : Int32 × mS) : Option (mS) :=
  if x.1 < 640 then
    grd (inb x.1 640) (
    let s1 := sA x.2 31 (ix x.1) 0
    k2 ((x.1 + 1), s1))
  else
    some x.2
set_option maxRecDepth 100000 in
set_option maxHeartbeats 4000000 in
theorem t_Ro_forgetOrders_2 (N : Nat) {s9 : mS} {k2 : (Int32 × mS) → Option (mS)} (hk2 : SCd Sx R0x oFx nx 1 q_Ro_forgetOrders (none, s9) s9 2 (H_Ro_forgetOrders_2 k2)) : SCd Sx R0x oFx nx 1 q_Ro_forgetOrders (none, s9) s9 2 (H_Ro_forgetOrders_2 (f_Ro_forgetOrders_L2 N k2)) := by
  intro loc st s
  refine G_cR (fun h0 => ?_)
  refine G_li (fun v0 h1 => ?_)
  refine G_rv0 (fun e9 => ?_)
  subst e9
  refine G_sub (loc0 := [(0, .ref 29), (1, .int v0)]) (List.forall_mem_cons.mpr ⟨h0, List.forall_mem_cons.mpr ⟨h1, mz_nil⟩⟩) ?_
  exact G_eq (mEv_G (orc := mOrc (oL_Ro_forgetOrders N)) (ret := rtV) (blks := bl_Ro_forgetOrders) (cuts := [(2, H_Ro_forgetOrders_2 k2)]) wOKx (by decide) (oo_Ro_forgetOrders N) (RetOK_V rfl) bk_Ro_forgetOrders (List.forall_mem_cons.mpr ⟨hk2, mz_nil⟩)) rfl
theorem s_Ro_forgetOrders_2 (N : Nat) {s9 : mS} : SCd Sx R0x oFx nx 1 q_Ro_forgetOrders (none, s9) s9 2 (H_Ro_forgetOrders_2 (mfix N (f_Ro_forgetOrders_L2 N))) := by
  refine mfix_SC (H := H_Ro_forgetOrders_2) (fun loc st s => ?_) (fun k hk => t_Ro_forgetOrders_2 N hk) N
  refine G_cR (fun h0 => ?_)
  refine G_li (fun v0 h1 => ?_)
  refine G_rv0 (fun e9 => ?_)
  subst e9
  exact G_none
noncomputable def f_Ro_forgetOrders (N : Nat) (s : mS) : Option (mS) :=
  mfix N (f_Ro_forgetOrders_L2 N) (0, s)
set_option maxRecDepth 100000 in
set_option maxHeartbeats 4000000 in
theorem m_Ro_forgetOrders (N : Nat) {s9 : mS} {s : mS} (h : f_Ro_forgetOrders N s = some s9) : MetM Sx R0x oFx nx 1 113 [.ref 29] s (none) s9 := by
  refine met_of_G (q := q_Ro_forgetOrders) (t0 := s9) y_Ro_forgetOrders (Nat.le_of_ble_eq_true rfl) ?_
  rw [← h]
  exact G_eq (mEv_G (orc := mOrc (oL_Ro_forgetOrders N)) (ret := rtV) (blks := bl_Ro_forgetOrders) (cuts := [(2, H_Ro_forgetOrders_2 (mfix N (f_Ro_forgetOrders_L2 N)))]) wOKx (by decide) (oo_Ro_forgetOrders N) (RetOK_V rfl) bk_Ro_forgetOrders (List.forall_mem_cons.mpr ⟨s_Ro_forgetOrders_2 N, mz_nil⟩)) rfl
noncomputable def C_Ro_forgetOrders {ρ : Type} (N : Nat) : List Value → mS → (Option Value → mS → Option ρ) → Option ρ := fun vs s kk => sR vs 29 fun r0 => rv0 r0 ((f_Ro_forgetOrders N s).bind fun p => kk none p)
theorem cs_Ro_forgetOrders {ρ : Type} {t0 : ρ} {d : Nat} (N : Nat) (hd : 1 + 1 ≤ d) : CallOK Sx R0x oFx nx d t0 113 (C_Ro_forgetOrders N) := by
  intro vs s kk h0
  obtain ⟨r0, rfl, h1⟩ := sR_some h0
  obtain ⟨rfl, h2⟩ := rv0_some h1
  obtain ⟨p, hp, hk⟩ := Option.bind_eq_some_iff.mp h2
  exact ⟨_, _, _, hd, m_Ro_forgetOrders N hp, hk, fun qy hq hf => by cases y_Ro_forgetOrders.symm.trans hq; exact ⟨_, _, rfl, rfl⟩⟩
/-! METHOD PorterDoors$Ahead.forget()V -/
set_option maxRecDepth 20000 in
noncomputable def q_Ah_forget : mI := (⟨"PorterDoors$Ahead", "forget", "()V"⟩, prog_2_method_2_code, 1, none, 1, 668, 137, 1, 0, 666, 667)
theorem y_Ah_forget : mT[63]? = some q_Ah_forget := mT_at_1 (k := 23) rfl
noncomputable def bl_Ah_forget : List (Nat × List mO) := [(0, [o0 (.aload_n 0), o0 (.iconst (-1)), o2 (.putfield 25) 1 5, o0 (.return_)])]
theorem bk_Ah_forget : okBlks q_Ah_forget bl_Ah_forget = true := by decide +kernel
noncomputable def oL_Ah_forget {ρ : Type} (N : Nat) : List (Nat × (List Value → mS → (Option Value → mS → Option ρ) → Option ρ)) := []
theorem oo_Ah_forget {ρ : Type} {t0 : ρ} (N : Nat) : OrcOK Sx R0x oFx nx 1 t0 (mOrc (oL_Ah_forget N)) := mOrc_OK (mz_nil)
noncomputable def f_Ah_forget (N : Nat) (s : mS) : Option (mS) :=
  let s1 := sI s 105 32 (-1)
  some s1
set_option maxRecDepth 100000 in
set_option maxHeartbeats 4000000 in
theorem m_Ah_forget (N : Nat) {s9 : mS} {s : mS} (h : f_Ah_forget N s = some s9) : MetM Sx R0x oFx nx 1 63 [.ref 32] s (none) s9 := by
  refine met_of_G (q := q_Ah_forget) (t0 := s9) y_Ah_forget (Nat.le_of_ble_eq_true rfl) ?_
  rw [← h]
  exact G_eq (mEv_G (orc := mOrc (oL_Ah_forget N)) (ret := rtV) (blks := bl_Ah_forget) (cuts := []) wOKx (by decide) (oo_Ah_forget N) (RetOK_V rfl) bk_Ah_forget (mz_nil)) rfl
noncomputable def C_Ah_forget {ρ : Type} (N : Nat) : List Value → mS → (Option Value → mS → Option ρ) → Option ρ := fun vs s kk => sR vs 32 fun r0 => rv0 r0 ((f_Ah_forget N s).bind fun p => kk none p)
theorem cs_Ah_forget {ρ : Type} {t0 : ρ} {d : Nat} (N : Nat) (hd : 1 + 1 ≤ d) : CallOK Sx R0x oFx nx d t0 63 (C_Ah_forget N) := by
  intro vs s kk h0
  obtain ⟨r0, rfl, h1⟩ := sR_some h0
  obtain ⟨rfl, h2⟩ := rv0_some h1
  obtain ⟨p, hp, hk⟩ := Option.bind_eq_some_iff.mp h2
  exact ⟨_, _, _, hd, m_Ah_forget N hp, hk, fun qy hq hf => by cases y_Ah_forget.symm.trans hq; exact ⟨_, _, rfl, rfl⟩⟩
/-! METHOD PorterDoors$Sets.forget()V -/
set_option maxRecDepth 20000 in
noncomputable def q_Se_forget : mI := (⟨"PorterDoors$Sets", "forget", "()V"⟩, prog_9_method_2_code, 1, none, 8, 672, 138, 1, 0, 670, 671)
theorem y_Se_forget : mT[122]? = some q_Se_forget := mT_at_3 (k := 2) rfl
noncomputable def bl_Se_forget : List (Nat × List mO) := [(0, [o0 (.aload_n 0), o0 (.iconst 0), o2 (.putfield 9) 8 3, o0 (.return_)])]
theorem bk_Se_forget : okBlks q_Se_forget bl_Se_forget = true := by decide +kernel
noncomputable def oL_Se_forget {ρ : Type} (N : Nat) : List (Nat × (List Value → mS → (Option Value → mS → Option ρ) → Option ρ)) := []
theorem oo_Se_forget {ρ : Type} {t0 : ρ} (N : Nat) : OrcOK Sx R0x oFx nx 1 t0 (mOrc (oL_Se_forget N)) := mOrc_OK (mz_nil)
noncomputable def f_Se_forget (N : Nat) (s : mS) : Option (mS) :=
  let s1 := sI s 803 37 0
  some s1
set_option maxRecDepth 100000 in
set_option maxHeartbeats 4000000 in
theorem m_Se_forget (N : Nat) {s9 : mS} {s : mS} (h : f_Se_forget N s = some s9) : MetM Sx R0x oFx nx 1 122 [.ref 37] s (none) s9 := by
  refine met_of_G (q := q_Se_forget) (t0 := s9) y_Se_forget (Nat.le_of_ble_eq_true rfl) ?_
  rw [← h]
  exact G_eq (mEv_G (orc := mOrc (oL_Se_forget N)) (ret := rtV) (blks := bl_Se_forget) (cuts := []) wOKx (by decide) (oo_Se_forget N) (RetOK_V rfl) bk_Se_forget (mz_nil)) rfl
noncomputable def C_Se_forget {ρ : Type} (N : Nat) : List Value → mS → (Option Value → mS → Option ρ) → Option ρ := fun vs s kk => sR vs 37 fun r0 => rv0 r0 ((f_Se_forget N s).bind fun p => kk none p)
theorem cs_Se_forget {ρ : Type} {t0 : ρ} {d : Nat} (N : Nat) (hd : 1 + 1 ≤ d) : CallOK Sx R0x oFx nx d t0 122 (C_Se_forget N) := by
  intro vs s kk h0
  obtain ⟨r0, rfl, h1⟩ := sR_some h0
  obtain ⟨rfl, h2⟩ := rv0_some h1
  obtain ⟨p, hp, hk⟩ := Option.bind_eq_some_iff.mp h2
  exact ⟨_, _, _, hd, m_Se_forget N hp, hk, fun qy hq hf => by cases y_Se_forget.symm.trans hq; exact ⟨_, _, rfl, rfl⟩⟩
/-! METHOD PorterDoors.forgetReckoned()V -/
set_option maxRecDepth 20000 in
noncomputable def q_X_forgetReckoned : mI := (⟨"PorterDoors", "forgetReckoned", "()V"⟩, prog_1_method_46_code, 1, none, 0, 660, 129, 1, 0, 659, 19)
theorem y_X_forgetReckoned : mT[7]? = some q_X_forgetReckoned := mT_at_0 (k := 7) rfl
noncomputable def bl_X_forgetReckoned : List (Nat × List mO) := [(0, [o0 (.aload_n 0), o2 (.getfield 72) 0 10, o2 (.invokevirtual 336) 113 1, o0 (.aload_n 0), o2 (.getfield 81) 0 11, o2 (.invokevirtual 339) 63 1, o0 (.aload_n 0), o2 (.getfield 90) 0 12, o2 (.invokevirtual 340) 122 1, o0 (.return_)])]
theorem bk_X_forgetReckoned : okBlks q_X_forgetReckoned bl_X_forgetReckoned = true := by decide +kernel
noncomputable def oL_X_forgetReckoned {ρ : Type} (N : Nat) : List (Nat × (List Value → mS → (Option Value → mS → Option ρ) → Option ρ)) := [(113, C_Ro_forgetOrders N), (63, C_Ah_forget N), (122, C_Se_forget N)]
theorem oo_X_forgetReckoned {ρ : Type} {t0 : ρ} (N : Nat) : OrcOK Sx R0x oFx nx 2 t0 (mOrc (oL_X_forgetReckoned N)) := mOrc_OK (List.forall_mem_cons.mpr ⟨cs_Ro_forgetOrders N (by decide), List.forall_mem_cons.mpr ⟨cs_Ah_forget N (by decide), List.forall_mem_cons.mpr ⟨cs_Se_forget N (by decide), mz_nil⟩⟩⟩)
noncomputable def f_X_forgetReckoned (N : Nat) (s : mS) : Option (mS) :=
  (f_Ro_forgetOrders N s).bind fun p1 =>
  (f_Ah_forget N p1).bind fun p2 =>
  (f_Se_forget N p2).bind fun p3 =>
  some p3
set_option maxRecDepth 100000 in
set_option maxHeartbeats 4000000 in
theorem m_X_forgetReckoned (N : Nat) {s9 : mS} {s : mS} (h : f_X_forgetReckoned N s = some s9) : MetM Sx R0x oFx nx 2 7 [.ref 0] s (none) s9 := by
  refine met_of_G (q := q_X_forgetReckoned) (t0 := s9) y_X_forgetReckoned (Nat.le_of_ble_eq_true rfl) ?_
  rw [← h]
  exact G_eq (mEv_G (orc := mOrc (oL_X_forgetReckoned N)) (ret := rtV) (blks := bl_X_forgetReckoned) (cuts := []) wOKx (by decide) (oo_X_forgetReckoned N) (RetOK_V rfl) bk_X_forgetReckoned (mz_nil)) rfl
noncomputable def C_X_forgetReckoned {ρ : Type} (N : Nat) : List Value → mS → (Option Value → mS → Option ρ) → Option ρ := fun vs s kk => sR vs 0 fun r0 => rv0 r0 ((f_X_forgetReckoned N s).bind fun p => kk none p)
theorem cs_X_forgetReckoned {ρ : Type} {t0 : ρ} {d : Nat} (N : Nat) (hd : 2 + 1 ≤ d) : CallOK Sx R0x oFx nx d t0 7 (C_X_forgetReckoned N) := by
  intro vs s kk h0
  obtain ⟨r0, rfl, h1⟩ := sR_some h0
  obtain ⟨rfl, h2⟩ := rv0_some h1
  obtain ⟨p, hp, hk⟩ := Option.bind_eq_some_iff.mp h2
  exact ⟨_, _, _, hd, m_X_forgetReckoned N hp, hk, fun qy hq hf => by cases y_X_forgetReckoned.symm.trans hq; exact ⟨_, _, rfl, rfl⟩⟩
/-! METHOD PorterDoors.fault(I)I -/
set_option maxRecDepth 20000 in
noncomputable def q_X_fault : mI := (⟨"PorterDoors", "fault", "(I)I"⟩, prog_1_method_5_code, 2, (some .int), 0, 676, 129, 1, 1, 674, 675)
theorem y_X_fault : mT[8]? = some q_X_fault := mT_at_0 (k := 8) rfl
noncomputable def bl_X_fault : List (Nat × List mO) := [(0, [o0 (.iload_n 1), o1 (.ifCond .ne 11) 12, o0 (.aload_n 0), o2 (.getfield 39) 0 5, o2 (.getfield 135) 6 12, o0 (.ireturn)]),
  (12, [o0 (.iload_n 1), o0 (.iconst 1), o1 (.if_icmp .ne 13) 27, o0 (.aload_n 0), o2 (.getfield 39) 0 5, o2 (.getfield 153) 6 13, o1 (.goto 4) 28]),
  (27, [o0 (.iconst (-1))]),
  (28, [o0 (.ireturn)])]
theorem bk_X_fault : okBlks q_X_fault bl_X_fault = true := by decide +kernel
noncomputable def oL_X_fault {ρ : Type} (N : Nat) : List (Nat × (List Value → mS → (Option Value → mS → Option ρ) → Option ρ)) := []
theorem oo_X_fault {ρ : Type} {t0 : ρ} (N : Nat) : OrcOK Sx R0x oFx nx 1 t0 (mOrc (oL_X_fault N)) := mOrc_OK (mz_nil)
noncomputable def f_X_fault (N : Nat) (a1 : Int32) (s : mS) : Option (Int32 × mS) :=
  if a1 = 0 then
    some ((gI s 612 18), s)
  else
    if a1 = 1 then
      some ((gI s 613 18), s)
    else
      some ((-1), s)
set_option maxRecDepth 100000 in
set_option maxHeartbeats 4000000 in
theorem m_X_fault (N : Nat) {x9 : Int32} {s9 : mS} (a1 : Int32) {s : mS} (h : f_X_fault N a1 s = some (x9, s9)) : MetM Sx R0x oFx nx 1 8 [.ref 0, .int a1] s (some (.int x9)) s9 := by
  refine met_of_G (q := q_X_fault) (t0 := (x9, s9)) y_X_fault (Nat.le_of_ble_eq_true rfl) ?_
  rw [← h]
  exact G_eq (mEv_G (orc := mOrc (oL_X_fault N)) (ret := rtI) (blks := bl_X_fault) (cuts := []) wOKx (by decide) (oo_X_fault N) (RetOK_I rfl) bk_X_fault (mz_nil)) rfl
noncomputable def C_X_fault {ρ : Type} (N : Nat) : List Value → mS → (Option Value → mS → Option ρ) → Option ρ := fun vs s kk => sR vs 0 fun r0 => pi1 r0 fun a1 r1 => rv0 r1 ((f_X_fault N a1 s).bind fun p => kk (some (.int p.1)) p.2)
theorem cs_X_fault {ρ : Type} {t0 : ρ} {d : Nat} (N : Nat) (hd : 1 + 1 ≤ d) : CallOK Sx R0x oFx nx d t0 8 (C_X_fault N) := by
  intro vs s kk h0
  obtain ⟨r0, rfl, h1⟩ := sR_some h0
  obtain ⟨a1, r1, rfl, h2⟩ := pi1_some h1
  obtain ⟨rfl, h3⟩ := rv0_some h2
  obtain ⟨p, hp, hk⟩ := Option.bind_eq_some_iff.mp h3
  exact ⟨_, _, _, hd, m_X_fault N a1 hp, hk, fun qy hq hf => by cases y_X_fault.symm.trans hq; exact ⟨_, _, rfl, rfl⟩⟩
/-! METHOD PorterDoors$Hall.opened()I -/
set_option maxRecDepth 20000 in
noncomputable def q_Ha_opened : mI := (⟨"PorterDoors$Hall", "opened", "()I"⟩, prog_3_method_5_code, 1, (some .int), 2, 684, 133, 1, 0, 682, 683)
theorem y_Ha_opened : mT[67]? = some q_Ha_opened := mT_at_1 (k := 27) rfl
noncomputable def bl_Ha_opened : List (Nat × List mO) := [(0, [o0 (.aload_n 0), o2 (.getfield 11) 2 0, o0 (.iconst 2), o0 (.iaload), o2 (.invokestatic 30) 276 1, o0 (.ireturn)])]
theorem bk_Ha_opened : okBlks q_Ha_opened bl_Ha_opened = true := by decide +kernel
noncomputable def oL_Ha_opened {ρ : Type} (N : Nat) : List (Nat × (List Value → mS → (Option Value → mS → Option ρ) → Option ρ)) := [(276, C_Int_bitCount N)]
theorem oo_Ha_opened {ρ : Type} {t0 : ρ} (N : Nat) : OrcOK Sx R0x oFx nx 2 t0 (mOrc (oL_Ha_opened N)) := mOrc_OK (List.forall_mem_cons.mpr ⟨cs_Int_bitCount N wOKx (by decide), mz_nil⟩)
noncomputable def f_Ha_opened (N : Nat) (a0 : Nat) (s : mS) : Option (Int32 × mS) :=
  grd (isO Sx a0 2) (
  grd (inb 2 (aln Sx 0 (a0 + 1))) (
  (f_Int_bitCount N (gA s (a0 + 1) 2) s).bind fun p1 =>
  some (p1.1, p1.2)))
set_option maxRecDepth 100000 in
set_option maxHeartbeats 4000000 in
theorem m_Ha_opened (N : Nat) {x9 : Int32} {s9 : mS} (a0 : Nat) {s : mS} (h : f_Ha_opened N a0 s = some (x9, s9)) : MetM Sx R0x oFx nx 2 67 [.ref a0] s (some (.int x9)) s9 := by
  refine met_of_G (q := q_Ha_opened) (t0 := (x9, s9)) y_Ha_opened (Nat.le_of_ble_eq_true rfl) ?_
  rw [← h]
  exact G_eq (mEv_G (orc := mOrc (oL_Ha_opened N)) (ret := rtI) (blks := bl_Ha_opened) (cuts := []) wOKx (by decide) (oo_Ha_opened N) (RetOK_I rfl) bk_Ha_opened (mz_nil)) rfl
noncomputable def C_Ha_opened {ρ : Type} (N : Nat) : List Value → mS → (Option Value → mS → Option ρ) → Option ρ := fun vs s kk => pr1 vs fun a0 r0 => grd (isO Sx a0 2) (rv0 r0 ((f_Ha_opened N a0 s).bind fun p => kk (some (.int p.1)) p.2))
theorem cs_Ha_opened {ρ : Type} {t0 : ρ} {d : Nat} (N : Nat) (hd : 2 + 1 ≤ d) : CallOK Sx R0x oFx nx d t0 67 (C_Ha_opened N) := by
  intro vs s kk h0
  obtain ⟨a0, r0, rfl, h1⟩ := pr1_some h0
  obtain ⟨ho, h2⟩ := grd_some h1
  obtain ⟨rfl, h3⟩ := rv0_some h2
  obtain ⟨p, hp, hk⟩ := Option.bind_eq_some_iff.mp h3
  exact ⟨_, _, _, hd, m_Ha_opened N a0 hp, hk, fun qy hq hf => by cases y_Ha_opened.symm.trans hq; exact ⟨_, _, rfl, isO_spec ho⟩⟩
/-! METHOD PorterDoors$Hall.isJammed(II)Z -/
set_option maxRecDepth 20000 in
noncomputable def q_Ha_isJammed : mI := (⟨"PorterDoors$Hall", "isJammed", "(II)Z"⟩, prog_3_method_6_code, 3, (some .boolean), 2, 698, 133, 1, 2, 696, 697)
theorem y_Ha_isJammed : mT[68]? = some q_Ha_isJammed := mT_at_1 (k := 28) rfl
noncomputable def bl_Ha_isJammed : List (Nat × List mO) := [(0, [o0 (.iload_n 2), o1 (.ifCond .le 19) 20, o0 (.aload_n 0), o2 (.getfield 11) 2 0, o0 (.iconst 4), o0 (.iload_n 1), o0 (.iadd), o0 (.iaload), o0 (.iload_n 2), o1 (.if_icmp .lt 7) 20, o0 (.iconst 1), o1 (.goto 4) 21]),
  (20, [o0 (.iconst 0)]),
  (21, [o0 (.ireturn)])]
theorem bk_Ha_isJammed : okBlks q_Ha_isJammed bl_Ha_isJammed = true := by decide +kernel
noncomputable def oL_Ha_isJammed {ρ : Type} (N : Nat) : List (Nat × (List Value → mS → (Option Value → mS → Option ρ) → Option ρ)) := []
theorem oo_Ha_isJammed {ρ : Type} {t0 : ρ} (N : Nat) : OrcOK Sx R0x oFx nx 1 t0 (mOrc (oL_Ha_isJammed N)) := mOrc_OK (mz_nil)
noncomputable def f_Ha_isJammed (N : Nat) (a0 : Nat) (a1 : Int32) (a2 : Int32) (s : mS) : Option (Int32 × mS) :=
  if 0 < a2 then
    grd (isO Sx a0 2) (
    grd (inb (4 + a1) (aln Sx 0 (a0 + 1))) (
    if (gA s (a0 + 1) (ix (4 + a1))) < a2 then
      some (0, s)
    else
      some (1, s)))
  else
    some (0, s)
set_option maxRecDepth 100000 in
set_option maxHeartbeats 4000000 in
theorem m_Ha_isJammed (N : Nat) {x9 : Int32} {s9 : mS} (a0 : Nat) (a1 : Int32) (a2 : Int32) {s : mS} (h : f_Ha_isJammed N a0 a1 a2 s = some (x9, s9)) : MetM Sx R0x oFx nx 1 68 [.ref a0, .int a1, .int a2] s (some (.int x9)) s9 := by
  refine met_of_G (q := q_Ha_isJammed) (t0 := (x9, s9)) y_Ha_isJammed (Nat.le_of_ble_eq_true rfl) ?_
  rw [← h]
  exact G_eq (mEv_G (orc := mOrc (oL_Ha_isJammed N)) (ret := rtZ) (blks := bl_Ha_isJammed) (cuts := []) wOKx (by decide) (oo_Ha_isJammed N) (RetOK_Z rfl) bk_Ha_isJammed (mz_nil)) rfl
noncomputable def C_Ha_isJammed {ρ : Type} (N : Nat) : List Value → mS → (Option Value → mS → Option ρ) → Option ρ := fun vs s kk => pr1 vs fun a0 r0 => grd (isO Sx a0 2) (pi1 r0 fun a1 r1 => pi1 r1 fun a2 r2 => rv0 r2 ((f_Ha_isJammed N a0 a1 a2 s).bind fun p => kk (some (.int p.1)) p.2))
theorem cs_Ha_isJammed {ρ : Type} {t0 : ρ} {d : Nat} (N : Nat) (hd : 1 + 1 ≤ d) : CallOK Sx R0x oFx nx d t0 68 (C_Ha_isJammed N) := by
  intro vs s kk h0
  obtain ⟨a0, r0, rfl, h1⟩ := pr1_some h0
  obtain ⟨ho, h2⟩ := grd_some h1
  obtain ⟨a1, r1, rfl, h3⟩ := pi1_some h2
  obtain ⟨a2, r2, rfl, h4⟩ := pi1_some h3
  obtain ⟨rfl, h5⟩ := rv0_some h4
  obtain ⟨p, hp, hk⟩ := Option.bind_eq_some_iff.mp h5
  exact ⟨_, _, _, hd, m_Ha_isJammed N a0 a1 a2 hp, hk, fun qy hq hf => by cases y_Ha_isJammed.symm.trans hq; exact ⟨_, _, rfl, isO_spec ho⟩⟩
/-! METHOD PorterDoors.jammedDoors()I -/
set_option maxRecDepth 20000 in
noncomputable def q_X_jammedDoors : mI := (⟨"PorterDoors", "jammedDoors", "()I"⟩, prog_1_method_49_code, 3, (some .int), 0, 694, 129, 1, 0, 693, 20)
theorem y_X_jammedDoors : mT[10]? = some q_X_jammedDoors := mT_at_0 (k := 10) rfl
noncomputable def bl_X_jammedDoors : List (Nat × List mO) := [(0, [o0 (.iconst 0), o0 (.istore_n 1), o0 (.iconst 0), o0 (.istore_n 2)]),
  (4, [o0 (.iload_n 2), o0 (.aload_n 0), o2 (.getfield 20) 0 2, o2 (.getfield 156) 4 0, o1 (.if_icmp .ge 35) 47, o0 (.iload_n 1), o0 (.aload_n 0), o2 (.getfield 46) 0 6, o0 (.iload_n 2), o0 (.aload_n 0), o2 (.getfield 20) 0 2, o2 (.getfield 171) 4 2, o2 (.invokevirtual 197) 68 3, o1 (.ifCond .eq 7) 38, o0 (.iconst 1), o1 (.goto 4) 39]),
  (38, [o0 (.iconst 0)]),
  (39, [o0 (.iadd), o0 (.istore_n 1), o0 (.iinc 2 1), o1 (.goto (-40)) 4]),
  (47, [o0 (.iload_n 1), o0 (.ireturn)])]
theorem bk_X_jammedDoors : okBlks q_X_jammedDoors bl_X_jammedDoors = true := by decide +kernel
noncomputable def oL_X_jammedDoors {ρ : Type} (N : Nat) : List (Nat × (List Value → mS → (Option Value → mS → Option ρ) → Option ρ)) := [(68, C_Ha_isJammed N)]
theorem oo_X_jammedDoors {ρ : Type} {t0 : ρ} (N : Nat) : OrcOK Sx R0x oFx nx 2 t0 (mOrc (oL_X_jammedDoors N)) := mOrc_OK (List.forall_mem_cons.mpr ⟨cs_Ha_isJammed N (by decide), mz_nil⟩)
noncomputable def H_X_jammedDoors_4 {ρ : Type} (k : (Int32 × Int32 × mS) → Option ρ) : mL → List Value → mS → Option ρ := fun loc st s => cR loc 0 0 (li1 loc 1 fun v0 => li1 loc 2 fun v1 => rv0 st (k (v0, v1, s)))
noncomputable def f_X_jammedDoors_L4 (N : Nat) (k4 : (Int32 × Int32 × mS) → Option (Int32 × mS)) (x : Int32 × Int32 × mS) : Option (Int32 × mS) :=
  if x.2.1 < (gI x.2.2 400 2) then
    (f_Ha_isJammed N 19 x.2.1 (gI x.2.2 402 2) x.2.2).bind fun p1 =>
    if p1.1 = 0 then
      k4 ((x.1 + 0), (x.2.1 + 1), p1.2)
    else
      k4 ((x.1 + 1), (x.2.1 + 1), p1.2)
  else
    some (x.1, x.2.2)
set_option maxRecDepth 100000 in
set_option maxHeartbeats 4000000 in
theorem t_X_jammedDoors_4 (N : Nat) {x9 : Int32} {s9 : mS} {k4 : (Int32 × Int32 × mS) → Option (Int32 × mS)} (hk4 : SCd Sx R0x oFx nx 2 q_X_jammedDoors (some (.int x9), s9) (x9, s9) 4 (H_X_jammedDoors_4 k4)) : SCd Sx R0x oFx nx 2 q_X_jammedDoors (some (.int x9), s9) (x9, s9) 4 (H_X_jammedDoors_4 (f_X_jammedDoors_L4 N k4)) := by
  intro loc st s
  refine G_cR (fun h0 => ?_)
  refine G_li (fun v0 h1 => ?_)
  refine G_li (fun v1 h2 => ?_)
  refine G_rv0 (fun e9 => ?_)
  subst e9
  refine G_sub (loc0 := [(0, .ref 0), (1, .int v0), (2, .int v1)]) (List.forall_mem_cons.mpr ⟨h0, List.forall_mem_cons.mpr ⟨h1, List.forall_mem_cons.mpr ⟨h2, mz_nil⟩⟩⟩) ?_
  exact G_eq (mEv_G (orc := mOrc (oL_X_jammedDoors N)) (ret := rtI) (blks := bl_X_jammedDoors) (cuts := [(4, H_X_jammedDoors_4 k4)]) wOKx (by decide) (oo_X_jammedDoors N) (RetOK_I rfl) bk_X_jammedDoors (List.forall_mem_cons.mpr ⟨hk4, mz_nil⟩)) rfl
theorem s_X_jammedDoors_4 (N : Nat) {x9 : Int32} {s9 : mS} : SCd Sx R0x oFx nx 2 q_X_jammedDoors (some (.int x9), s9) (x9, s9) 4 (H_X_jammedDoors_4 (mfix N (f_X_jammedDoors_L4 N))) := by
  refine mfix_SC (H := H_X_jammedDoors_4) (fun loc st s => ?_) (fun k hk => t_X_jammedDoors_4 N hk) N
  refine G_cR (fun h0 => ?_)
  refine G_li (fun v0 h1 => ?_)
  refine G_li (fun v1 h2 => ?_)
  refine G_rv0 (fun e9 => ?_)
  subst e9
  exact G_none
noncomputable def f_X_jammedDoors (N : Nat) (s : mS) : Option (Int32 × mS) :=
  mfix N (f_X_jammedDoors_L4 N) (0, 0, s)
set_option maxRecDepth 100000 in
set_option maxHeartbeats 4000000 in
theorem m_X_jammedDoors (N : Nat) {x9 : Int32} {s9 : mS} {s : mS} (h : f_X_jammedDoors N s = some (x9, s9)) : MetM Sx R0x oFx nx 2 10 [.ref 0] s (some (.int x9)) s9 := by
  refine met_of_G (q := q_X_jammedDoors) (t0 := (x9, s9)) y_X_jammedDoors (Nat.le_of_ble_eq_true rfl) ?_
  rw [← h]
  exact G_eq (mEv_G (orc := mOrc (oL_X_jammedDoors N)) (ret := rtI) (blks := bl_X_jammedDoors) (cuts := [(4, H_X_jammedDoors_4 (mfix N (f_X_jammedDoors_L4 N)))]) wOKx (by decide) (oo_X_jammedDoors N) (RetOK_I rfl) bk_X_jammedDoors (List.forall_mem_cons.mpr ⟨s_X_jammedDoors_4 N, mz_nil⟩)) rfl
noncomputable def C_X_jammedDoors {ρ : Type} (N : Nat) : List Value → mS → (Option Value → mS → Option ρ) → Option ρ := fun vs s kk => sR vs 0 fun r0 => rv0 r0 ((f_X_jammedDoors N s).bind fun p => kk (some (.int p.1)) p.2)
theorem cs_X_jammedDoors {ρ : Type} {t0 : ρ} {d : Nat} (N : Nat) (hd : 2 + 1 ≤ d) : CallOK Sx R0x oFx nx d t0 10 (C_X_jammedDoors N) := by
  intro vs s kk h0
  obtain ⟨r0, rfl, h1⟩ := sR_some h0
  obtain ⟨rfl, h2⟩ := rv0_some h1
  obtain ⟨p, hp, hk⟩ := Option.bind_eq_some_iff.mp h2
  exact ⟨_, _, _, hd, m_X_jammedDoors N hp, hk, fun qy hq hf => by cases y_X_jammedDoors.symm.trans hq; exact ⟨_, _, rfl, rfl⟩⟩
/-! METHOD PorterDoors$Hall.keptTold()I -/
set_option maxRecDepth 20000 in
noncomputable def q_Ha_keptTold : mI := (⟨"PorterDoors$Hall", "keptTold", "()I"⟩, prog_3_method_9_code, 1, (some .int), 2, 702, 133, 1, 0, 700, 701)
theorem y_Ha_keptTold : mT[69]? = some q_Ha_keptTold := mT_at_1 (k := 29) rfl
noncomputable def bl_Ha_keptTold : List (Nat × List mO) := [(0, [o0 (.bipush 40), o0 (.aload_n 0), o2 (.getfield 11) 2 0, o0 (.iconst 3), o0 (.iaload), o2 (.invokestatic 40) 277 2, o0 (.ireturn)])]
theorem bk_Ha_keptTold : okBlks q_Ha_keptTold bl_Ha_keptTold = true := by decide +kernel
noncomputable def oL_Ha_keptTold {ρ : Type} (N : Nat) : List (Nat × (List Value → mS → (Option Value → mS → Option ρ) → Option ρ)) := [(277, C_Math_min N)]
theorem oo_Ha_keptTold {ρ : Type} {t0 : ρ} (N : Nat) : OrcOK Sx R0x oFx nx 2 t0 (mOrc (oL_Ha_keptTold N)) := mOrc_OK (List.forall_mem_cons.mpr ⟨cs_Math_min N wOKx (by decide), mz_nil⟩)
noncomputable def f_Ha_keptTold (N : Nat) (a0 : Nat) (s : mS) : Option (Int32 × mS) :=
  grd (isO Sx a0 2) (
  grd (inb 3 (aln Sx 0 (a0 + 1))) (
  (f_Math_min N 40 (gA s (a0 + 1) 3) s).bind fun p1 =>
  some (p1.1, p1.2)))
set_option maxRecDepth 100000 in
set_option maxHeartbeats 4000000 in
theorem m_Ha_keptTold (N : Nat) {x9 : Int32} {s9 : mS} (a0 : Nat) {s : mS} (h : f_Ha_keptTold N a0 s = some (x9, s9)) : MetM Sx R0x oFx nx 2 69 [.ref a0] s (some (.int x9)) s9 := by
  refine met_of_G (q := q_Ha_keptTold) (t0 := (x9, s9)) y_Ha_keptTold (Nat.le_of_ble_eq_true rfl) ?_
  rw [← h]
  exact G_eq (mEv_G (orc := mOrc (oL_Ha_keptTold N)) (ret := rtI) (blks := bl_Ha_keptTold) (cuts := []) wOKx (by decide) (oo_Ha_keptTold N) (RetOK_I rfl) bk_Ha_keptTold (mz_nil)) rfl
noncomputable def C_Ha_keptTold {ρ : Type} (N : Nat) : List Value → mS → (Option Value → mS → Option ρ) → Option ρ := fun vs s kk => pr1 vs fun a0 r0 => grd (isO Sx a0 2) (rv0 r0 ((f_Ha_keptTold N a0 s).bind fun p => kk (some (.int p.1)) p.2))
theorem cs_Ha_keptTold {ρ : Type} {t0 : ρ} {d : Nat} (N : Nat) (hd : 2 + 1 ≤ d) : CallOK Sx R0x oFx nx d t0 69 (C_Ha_keptTold N) := by
  intro vs s kk h0
  obtain ⟨a0, r0, rfl, h1⟩ := pr1_some h0
  obtain ⟨ho, h2⟩ := grd_some h1
  obtain ⟨rfl, h3⟩ := rv0_some h2
  obtain ⟨p, hp, hk⟩ := Option.bind_eq_some_iff.mp h3
  exact ⟨_, _, _, hd, m_Ha_keptTold N a0 hp, hk, fun qy hq hf => by cases y_Ha_keptTold.symm.trans hq; exact ⟨_, _, rfl, isO_spec ho⟩⟩
/-! METHOD PorterDoors.has(I)I -/
set_option maxRecDepth 20000 in
noncomputable def q_X_has : mI := (⟨"PorterDoors", "has", "(I)I"⟩, prog_1_method_6_code, 2, (some .int), 0, 680, 129, 1, 1, 678, 679)
theorem y_X_has : mT[9]? = some q_X_has := mT_at_0 (k := 9) rfl
noncomputable def bl_X_has : List (Nat × List mO) := [(0, [o0 (.iload_n 1), oS (.tableswitch 136 0 9 #[55, 63, 71, 81, 89, 94, 104, 112, 120, 128]) 137 [56, 64, 72, 82, 90, 95, 105, 113, 121, 129]]),
  (56, [o0 (.aload_n 0), o2 (.getfield 20) 0 2, o2 (.getfield 156) 4 0, o0 (.ireturn)]),
  (64, [o0 (.aload_n 0), o2 (.getfield 20) 0 2, o2 (.getfield 159) 4 1, o0 (.ireturn)]),
  (72, [o0 (.aload_n 0), o2 (.getfield 46) 0 6, o2 (.getfield 162) 2 0, o0 (.iconst 0), o0 (.iaload), o0 (.ireturn)]),
  (82, [o0 (.aload_n 0), o2 (.getfield 46) 0 6, o2 (.invokevirtual 165) 67 1, o0 (.ireturn)]),
  (90, [o0 (.aload_n 0), o2 (.invokevirtual 168) 10 1, o0 (.ireturn)]),
  (95, [o0 (.aload_n 0), o2 (.getfield 46) 0 6, o2 (.getfield 162) 2 0, o0 (.iconst 1), o0 (.iaload), o0 (.ireturn)]),
  (105, [o0 (.aload_n 0), o2 (.getfield 20) 0 2, o2 (.getfield 171) 4 2, o0 (.ireturn)]),
  (113, [o0 (.aload_n 0), o2 (.getfield 46) 0 6, o2 (.invokevirtual 174) 69 1, o0 (.ireturn)]),
  (121, [o0 (.aload_n 0), o2 (.getfield 90) 0 12, o2 (.getfield 177) 8 8, o0 (.ireturn)]),
  (129, [o0 (.aload_n 0), o2 (.getfield 56) 0 8, o2 (.getfield 180) 3 2, o0 (.ireturn)]),
  (137, [o0 (.iconst (-1)), o0 (.ireturn)])]
theorem bk_X_has : okBlks q_X_has bl_X_has = true := by decide +kernel
noncomputable def oL_X_has {ρ : Type} (N : Nat) : List (Nat × (List Value → mS → (Option Value → mS → Option ρ) → Option ρ)) := [(67, C_Ha_opened N), (10, C_X_jammedDoors N), (69, C_Ha_keptTold N)]
theorem oo_X_has {ρ : Type} {t0 : ρ} (N : Nat) : OrcOK Sx R0x oFx nx 3 t0 (mOrc (oL_X_has N)) := mOrc_OK (List.forall_mem_cons.mpr ⟨cs_Ha_opened N (by decide), List.forall_mem_cons.mpr ⟨cs_X_jammedDoors N (by decide), List.forall_mem_cons.mpr ⟨cs_Ha_keptTold N (by decide), mz_nil⟩⟩⟩)
noncomputable def f_X_has (N : Nat) (a1 : Int32) (s : mS) : Option (Int32 × mS) :=
  if a1 = 0 then
    some ((gI s 400 2), s)
  else if a1 = 1 then
    some ((gI s 401 2), s)
  else if a1 = 2 then
    some ((gA s 20 0), s)
  else if a1 = 3 then
    (f_Ha_opened N 19 s).bind fun p1 =>
    some (p1.1, p1.2)
  else if a1 = 4 then
    (f_X_jammedDoors N s).bind fun p2 =>
    some (p2.1, p2.2)
  else if a1 = 5 then
    some ((gA s 20 1), s)
  else if a1 = 6 then
    some ((gI s 402 2), s)
  else if a1 = 7 then
    (f_Ha_keptTold N 19 s).bind fun p3 =>
    some (p3.1, p3.2)
  else if a1 = 8 then
    some ((gI s 808 37), s)
  else if a1 = 9 then
    some ((gI s 302 23), s)
  else
    some ((-1), s)
set_option maxRecDepth 100000 in
set_option maxHeartbeats 4000000 in
theorem m_X_has (N : Nat) {x9 : Int32} {s9 : mS} (a1 : Int32) {s : mS} (h : f_X_has N a1 s = some (x9, s9)) : MetM Sx R0x oFx nx 3 9 [.ref 0, .int a1] s (some (.int x9)) s9 := by
  refine met_of_G (q := q_X_has) (t0 := (x9, s9)) y_X_has (Nat.le_of_ble_eq_true rfl) ?_
  rw [← h]
  exact G_eq (mEv_G (orc := mOrc (oL_X_has N)) (ret := rtI) (blks := bl_X_has) (cuts := []) wOKx (by decide) (oo_X_has N) (RetOK_I rfl) bk_X_has (mz_nil)) rfl
noncomputable def C_X_has {ρ : Type} (N : Nat) : List Value → mS → (Option Value → mS → Option ρ) → Option ρ := fun vs s kk => sR vs 0 fun r0 => pi1 r0 fun a1 r1 => rv0 r1 ((f_X_has N a1 s).bind fun p => kk (some (.int p.1)) p.2)
theorem cs_X_has {ρ : Type} {t0 : ρ} {d : Nat} (N : Nat) (hd : 3 + 1 ≤ d) : CallOK Sx R0x oFx nx d t0 9 (C_X_has N) := by
  intro vs s kk h0
  obtain ⟨r0, rfl, h1⟩ := sR_some h0
  obtain ⟨a1, r1, rfl, h2⟩ := pi1_some h1
  obtain ⟨rfl, h3⟩ := rv0_some h2
  obtain ⟨p, hp, hk⟩ := Option.bind_eq_some_iff.mp h3
  exact ⟨_, _, _, hd, m_X_has N a1 hp, hk, fun qy hq hf => by cases y_X_has.symm.trans hq; exact ⟨_, _, rfl, rfl⟩⟩
/-! METHOD PorterDoors.isPorter(I)Z -/
set_option maxRecDepth 20000 in
noncomputable def q_X_isPorter : mI := (⟨"PorterDoors", "isPorter", "(I)Z"⟩, prog_1_method_43_code, 2, (some .boolean), 0, 711, 129, 1, 1, 710, 21)
theorem y_X_isPorter : mT[12]? = some q_X_isPorter := mT_at_0 (k := 12) rfl
noncomputable def bl_X_isPorter : List (Nat × List mO) := [(0, [o0 (.iload_n 1), o1 (.ifCond .lt 18) 19, o0 (.iload_n 1), o0 (.aload_n 0), o2 (.getfield 20) 0 2, o2 (.getfield 159) 4 1, o1 (.if_icmp .ge 7) 19, o0 (.iconst 1), o1 (.goto 4) 20]),
  (19, [o0 (.iconst 0)]),
  (20, [o0 (.ireturn)])]
theorem bk_X_isPorter : okBlks q_X_isPorter bl_X_isPorter = true := by decide +kernel
noncomputable def oL_X_isPorter {ρ : Type} (N : Nat) : List (Nat × (List Value → mS → (Option Value → mS → Option ρ) → Option ρ)) := []
theorem oo_X_isPorter {ρ : Type} {t0 : ρ} (N : Nat) : OrcOK Sx R0x oFx nx 1 t0 (mOrc (oL_X_isPorter N)) := mOrc_OK (mz_nil)
noncomputable def f_X_isPorter (N : Nat) (a1 : Int32) (s : mS) : Option (Int32 × mS) :=
  if a1 < 0 then
    some (0, s)
  else
    if a1 < (gI s 401 2) then
      some (1, s)
    else
      some (0, s)
set_option maxRecDepth 100000 in
set_option maxHeartbeats 4000000 in
theorem m_X_isPorter (N : Nat) {x9 : Int32} {s9 : mS} (a1 : Int32) {s : mS} (h : f_X_isPorter N a1 s = some (x9, s9)) : MetM Sx R0x oFx nx 1 12 [.ref 0, .int a1] s (some (.int x9)) s9 := by
  refine met_of_G (q := q_X_isPorter) (t0 := (x9, s9)) y_X_isPorter (Nat.le_of_ble_eq_true rfl) ?_
  rw [← h]
  exact G_eq (mEv_G (orc := mOrc (oL_X_isPorter N)) (ret := rtZ) (blks := bl_X_isPorter) (cuts := []) wOKx (by decide) (oo_X_isPorter N) (RetOK_Z rfl) bk_X_isPorter (mz_nil)) rfl
noncomputable def C_X_isPorter {ρ : Type} (N : Nat) : List Value → mS → (Option Value → mS → Option ρ) → Option ρ := fun vs s kk => sR vs 0 fun r0 => pi1 r0 fun a1 r1 => rv0 r1 ((f_X_isPorter N a1 s).bind fun p => kk (some (.int p.1)) p.2)
theorem cs_X_isPorter {ρ : Type} {t0 : ρ} {d : Nat} (N : Nat) (hd : 1 + 1 ≤ d) : CallOK Sx R0x oFx nx d t0 12 (C_X_isPorter N) := by
  intro vs s kk h0
  obtain ⟨r0, rfl, h1⟩ := sR_some h0
  obtain ⟨a1, r1, rfl, h2⟩ := pi1_some h1
  obtain ⟨rfl, h3⟩ := rv0_some h2
  obtain ⟨p, hp, hk⟩ := Option.bind_eq_some_iff.mp h3
  exact ⟨_, _, _, hd, m_X_isPorter N a1 hp, hk, fun qy hq hf => by cases y_X_isPorter.symm.trans hq; exact ⟨_, _, rfl, rfl⟩⟩
/-! METHOD PorterDoors$Plan.letterOf(II)I -/
set_option maxRecDepth 20000 in
noncomputable def q_Pl_letterOf : mI := (⟨"PorterDoors$Plan", "letterOf", "(II)I"⟩, prog_5_method_7_code, 6, (some .int), 4, 715, 130, 1, 2, 713, 714)
theorem y_Pl_letterOf : mT[86]? = some q_Pl_letterOf := mT_at_2 (k := 6) rfl
noncomputable def bl_Pl_letterOf : List (Nat × List mO) := [(0, [o0 (.aload_n 0), o2 (.getfield 31) 4 6, o0 (.iload_n 1), o0 (.laload), o0 (.lstore_n 3), o0 (.iload_n 2), o0 (.istore 5)]),
  (10, [o0 (.iload 5), o0 (.iconst 5), o1 (.if_icmp .ge 15) 28, o0 (.lload_n 3), oC (.ldc2_w 79) (.long 100), o0 (.ldiv), o0 (.lstore_n 3), o0 (.iinc 5 1), o1 (.goto (-15)) 10]),
  (28, [o0 (.lload_n 3), oC (.ldc2_w 79) (.long 100), o0 (.lrem), o0 (.l2i), o0 (.ireturn)])]
theorem bk_Pl_letterOf : okBlks q_Pl_letterOf bl_Pl_letterOf = true := by decide +kernel
noncomputable def oL_Pl_letterOf {ρ : Type} (N : Nat) : List (Nat × (List Value → mS → (Option Value → mS → Option ρ) → Option ρ)) := []
theorem oo_Pl_letterOf {ρ : Type} {t0 : ρ} (N : Nat) : OrcOK Sx R0x oFx nx 1 t0 (mOrc (oL_Pl_letterOf N)) := mOrc_OK (mz_nil)
noncomputable def H_Pl_letterOf_10 {ρ : Type} (k : (Int64 × Int32 × mS) → Option ρ) : mL → List Value → mS → Option ρ := fun loc st s => ll1 loc 3 fun v0 => li1 loc 5 fun v1 => rv0 st (k (v0, v1, s))
noncomputable def f_Pl_letterOf_L10 (N : Nat) (k10 : (Int64 × Int32 × mS) → Option (Int32 × mS)) (x : Int64 × Int32 × mS) : Option (Int32 × mS) :=
  if x.2.1 < 5 then
    k10 ((x.1 / 100), (x.2.1 + 1), x.2.2)
  else
    some (((lrm x.1 100)).toInt32, x.2.2)
set_option maxRecDepth 100000 in
set_option maxHeartbeats 4000000 in
theorem t_Pl_letterOf_10 (N : Nat) {x9 : Int32} {s9 : mS} {k10 : (Int64 × Int32 × mS) → Option (Int32 × mS)} (hk10 : SCd Sx R0x oFx nx 1 q_Pl_letterOf (some (.int x9), s9) (x9, s9) 10 (H_Pl_letterOf_10 k10)) : SCd Sx R0x oFx nx 1 q_Pl_letterOf (some (.int x9), s9) (x9, s9) 10 (H_Pl_letterOf_10 (f_Pl_letterOf_L10 N k10)) := by
  intro loc st s
  refine G_ll (fun v0 h3 => ?_)
  refine G_li (fun v1 h5 => ?_)
  refine G_rv0 (fun e9 => ?_)
  subst e9
  refine G_sub (loc0 := [(3, .long v0), (5, .int v1)]) (List.forall_mem_cons.mpr ⟨h3, List.forall_mem_cons.mpr ⟨h5, mz_nil⟩⟩) ?_
  exact G_eq (mEv_G (orc := mOrc (oL_Pl_letterOf N)) (ret := rtI) (blks := bl_Pl_letterOf) (cuts := [(10, H_Pl_letterOf_10 k10)]) wOKx (by decide) (oo_Pl_letterOf N) (RetOK_I rfl) bk_Pl_letterOf (List.forall_mem_cons.mpr ⟨hk10, mz_nil⟩)) rfl
theorem s_Pl_letterOf_10 (N : Nat) {x9 : Int32} {s9 : mS} : SCd Sx R0x oFx nx 1 q_Pl_letterOf (some (.int x9), s9) (x9, s9) 10 (H_Pl_letterOf_10 (mfix N (f_Pl_letterOf_L10 N))) := by
  refine mfix_SC (H := H_Pl_letterOf_10) (fun loc st s => ?_) (fun k hk => t_Pl_letterOf_10 N hk) N
  refine G_ll (fun v0 h3 => ?_)
  refine G_li (fun v1 h5 => ?_)
  refine G_rv0 (fun e9 => ?_)
  subst e9
  exact G_none
noncomputable def f_Pl_letterOf (N : Nat) (a0 : Nat) (a1 : Int32) (a2 : Int32) (s : mS) : Option (Int32 × mS) :=
  grd (isO Sx a0 4) (
  grd (inb a1 (aln Sx 3 (a0 + 2))) (
  mfix N (f_Pl_letterOf_L10 N) ((gQ s (a0 + 2) (ix a1)), a2, s)))
set_option maxRecDepth 100000 in
set_option maxHeartbeats 4000000 in
theorem m_Pl_letterOf (N : Nat) {x9 : Int32} {s9 : mS} (a0 : Nat) (a1 : Int32) (a2 : Int32) {s : mS} (h : f_Pl_letterOf N a0 a1 a2 s = some (x9, s9)) : MetM Sx R0x oFx nx 1 86 [.ref a0, .int a1, .int a2] s (some (.int x9)) s9 := by
  refine met_of_G (q := q_Pl_letterOf) (t0 := (x9, s9)) y_Pl_letterOf (Nat.le_of_ble_eq_true rfl) ?_
  rw [← h]
  exact G_eq (mEv_G (orc := mOrc (oL_Pl_letterOf N)) (ret := rtI) (blks := bl_Pl_letterOf) (cuts := [(10, H_Pl_letterOf_10 (mfix N (f_Pl_letterOf_L10 N)))]) wOKx (by decide) (oo_Pl_letterOf N) (RetOK_I rfl) bk_Pl_letterOf (List.forall_mem_cons.mpr ⟨s_Pl_letterOf_10 N, mz_nil⟩)) rfl
noncomputable def C_Pl_letterOf {ρ : Type} (N : Nat) : List Value → mS → (Option Value → mS → Option ρ) → Option ρ := fun vs s kk => pr1 vs fun a0 r0 => grd (isO Sx a0 4) (pi1 r0 fun a1 r1 => pi1 r1 fun a2 r2 => rv0 r2 ((f_Pl_letterOf N a0 a1 a2 s).bind fun p => kk (some (.int p.1)) p.2))
theorem cs_Pl_letterOf {ρ : Type} {t0 : ρ} {d : Nat} (N : Nat) (hd : 1 + 1 ≤ d) : CallOK Sx R0x oFx nx d t0 86 (C_Pl_letterOf N) := by
  intro vs s kk h0
  obtain ⟨a0, r0, rfl, h1⟩ := pr1_some h0
  obtain ⟨ho, h2⟩ := grd_some h1
  obtain ⟨a1, r1, rfl, h3⟩ := pi1_some h2
  obtain ⟨a2, r2, rfl, h4⟩ := pi1_some h3
  obtain ⟨rfl, h5⟩ := rv0_some h4
  obtain ⟨p, hp, hk⟩ := Option.bind_eq_some_iff.mp h5
  exact ⟨_, _, _, hd, m_Pl_letterOf N a0 a1 a2 hp, hk, fun qy hq hf => by cases y_Pl_letterOf.symm.trans hq; exact ⟨_, _, rfl, isO_spec ho⟩⟩
/-! METHOD PorterDoors.letter(II)I -/
set_option maxRecDepth 20000 in
noncomputable def q_X_letter : mI := (⟨"PorterDoors", "letter", "(II)I"⟩, prog_1_method_7_code, 3, (some .int), 0, 707, 129, 1, 2, 705, 706)
theorem y_X_letter : mT[11]? = some q_X_letter := mT_at_0 (k := 11) rfl
noncomputable def bl_X_letter : List (Nat × List mO) := [(0, [o0 (.aload_n 0), o0 (.iload_n 1), o2 (.invokevirtual 183) 12 2, o1 (.ifCond .eq 24) 29, o0 (.iload_n 2), o1 (.ifCond .lt 20) 29, o0 (.iload_n 2), o0 (.iconst 5), o1 (.if_icmp .gt 15) 29, o0 (.aload_n 0), o2 (.getfield 20) 0 2, o0 (.iload_n 1), o0 (.iload_n 2), o2 (.invokevirtual 186) 86 3, o1 (.goto 4) 30]),
  (29, [o0 (.iconst (-1))]),
  (30, [o0 (.ireturn)])]
theorem bk_X_letter : okBlks q_X_letter bl_X_letter = true := by decide +kernel
noncomputable def oL_X_letter {ρ : Type} (N : Nat) : List (Nat × (List Value → mS → (Option Value → mS → Option ρ) → Option ρ)) := [(12, C_X_isPorter N), (86, C_Pl_letterOf N)]
theorem oo_X_letter {ρ : Type} {t0 : ρ} (N : Nat) : OrcOK Sx R0x oFx nx 2 t0 (mOrc (oL_X_letter N)) := mOrc_OK (List.forall_mem_cons.mpr ⟨cs_X_isPorter N (by decide), List.forall_mem_cons.mpr ⟨cs_Pl_letterOf N (by decide), mz_nil⟩⟩)
noncomputable def f_X_letter (N : Nat) (a1 : Int32) (a2 : Int32) (s : mS) : Option (Int32 × mS) :=
  (f_X_isPorter N a1 s).bind fun p1 =>
  if p1.1 = 0 then
    some ((-1), p1.2)
  else
    if a2 < 0 then
      some ((-1), p1.2)
    else
      if 5 < a2 then
        some ((-1), p1.2)
      else
        (f_Pl_letterOf N 2 a1 a2 p1.2).bind fun p2 =>
        some (p2.1, p2.2)
set_option maxRecDepth 100000 in
set_option maxHeartbeats 4000000 in
theorem m_X_letter (N : Nat) {x9 : Int32} {s9 : mS} (a1 : Int32) (a2 : Int32) {s : mS} (h : f_X_letter N a1 a2 s = some (x9, s9)) : MetM Sx R0x oFx nx 2 11 [.ref 0, .int a1, .int a2] s (some (.int x9)) s9 := by
  refine met_of_G (q := q_X_letter) (t0 := (x9, s9)) y_X_letter (Nat.le_of_ble_eq_true rfl) ?_
  rw [← h]
  exact G_eq (mEv_G (orc := mOrc (oL_X_letter N)) (ret := rtI) (blks := bl_X_letter) (cuts := []) wOKx (by decide) (oo_X_letter N) (RetOK_I rfl) bk_X_letter (mz_nil)) rfl
noncomputable def C_X_letter {ρ : Type} (N : Nat) : List Value → mS → (Option Value → mS → Option ρ) → Option ρ := fun vs s kk => sR vs 0 fun r0 => pi1 r0 fun a1 r1 => pi1 r1 fun a2 r2 => rv0 r2 ((f_X_letter N a1 a2 s).bind fun p => kk (some (.int p.1)) p.2)
theorem cs_X_letter {ρ : Type} {t0 : ρ} {d : Nat} (N : Nat) (hd : 2 + 1 ≤ d) : CallOK Sx R0x oFx nx d t0 11 (C_X_letter N) := by
  intro vs s kk h0
  obtain ⟨r0, rfl, h1⟩ := sR_some h0
  obtain ⟨a1, r1, rfl, h2⟩ := pi1_some h1
  obtain ⟨a2, r2, rfl, h3⟩ := pi1_some h2
  obtain ⟨rfl, h4⟩ := rv0_some h3
  obtain ⟨p, hp, hk⟩ := Option.bind_eq_some_iff.mp h4
  exact ⟨_, _, _, hd, m_X_letter N a1 a2 hp, hk, fun qy hq hf => by cases y_X_letter.symm.trans hq; exact ⟨_, _, rfl, rfl⟩⟩
/-! METHOD PorterDoors.isDoor(I)Z -/
set_option maxRecDepth 20000 in
noncomputable def q_X_isDoor : mI := (⟨"PorterDoors", "isDoor", "(I)Z"⟩, prog_1_method_42_code, 2, (some .boolean), 0, 723, 129, 1, 1, 722, 22)
theorem y_X_isDoor : mT[14]? = some q_X_isDoor := mT_at_0 (k := 14) rfl
noncomputable def bl_X_isDoor : List (Nat × List mO) := [(0, [o0 (.iload_n 1), o1 (.ifCond .lt 18) 19, o0 (.iload_n 1), o0 (.aload_n 0), o2 (.getfield 20) 0 2, o2 (.getfield 156) 4 0, o1 (.if_icmp .ge 7) 19, o0 (.iconst 1), o1 (.goto 4) 20]),
  (19, [o0 (.iconst 0)]),
  (20, [o0 (.ireturn)])]
theorem bk_X_isDoor : okBlks q_X_isDoor bl_X_isDoor = true := by decide +kernel
noncomputable def oL_X_isDoor {ρ : Type} (N : Nat) : List (Nat × (List Value → mS → (Option Value → mS → Option ρ) → Option ρ)) := []
theorem oo_X_isDoor {ρ : Type} {t0 : ρ} (N : Nat) : OrcOK Sx R0x oFx nx 1 t0 (mOrc (oL_X_isDoor N)) := mOrc_OK (mz_nil)
noncomputable def f_X_isDoor (N : Nat) (a1 : Int32) (s : mS) : Option (Int32 × mS) :=
  if a1 < 0 then
    some (0, s)
  else
    if a1 < (gI s 400 2) then
      some (1, s)
    else
      some (0, s)
set_option maxRecDepth 100000 in
set_option maxHeartbeats 4000000 in
theorem m_X_isDoor (N : Nat) {x9 : Int32} {s9 : mS} (a1 : Int32) {s : mS} (h : f_X_isDoor N a1 s = some (x9, s9)) : MetM Sx R0x oFx nx 1 14 [.ref 0, .int a1] s (some (.int x9)) s9 := by
  refine met_of_G (q := q_X_isDoor) (t0 := (x9, s9)) y_X_isDoor (Nat.le_of_ble_eq_true rfl) ?_
  rw [← h]
  exact G_eq (mEv_G (orc := mOrc (oL_X_isDoor N)) (ret := rtZ) (blks := bl_X_isDoor) (cuts := []) wOKx (by decide) (oo_X_isDoor N) (RetOK_Z rfl) bk_X_isDoor (mz_nil)) rfl
noncomputable def C_X_isDoor {ρ : Type} (N : Nat) : List Value → mS → (Option Value → mS → Option ρ) → Option ρ := fun vs s kk => sR vs 0 fun r0 => pi1 r0 fun a1 r1 => rv0 r1 ((f_X_isDoor N a1 s).bind fun p => kk (some (.int p.1)) p.2)
theorem cs_X_isDoor {ρ : Type} {t0 : ρ} {d : Nat} (N : Nat) (hd : 1 + 1 ≤ d) : CallOK Sx R0x oFx nx d t0 14 (C_X_isDoor N) := by
  intro vs s kk h0
  obtain ⟨r0, rfl, h1⟩ := sR_some h0
  obtain ⟨a1, r1, rfl, h2⟩ := pi1_some h1
  obtain ⟨rfl, h3⟩ := rv0_some h2
  obtain ⟨p, hp, hk⟩ := Option.bind_eq_some_iff.mp h3
  exact ⟨_, _, _, hd, m_X_isDoor N a1 hp, hk, fun qy hq hf => by cases y_X_isDoor.symm.trans hq; exact ⟨_, _, rfl, rfl⟩⟩
/-! METHOD PorterDoors$Hall.isOpen(I)I -/
set_option maxRecDepth 20000 in
noncomputable def q_Ha_isOpen : mI := (⟨"PorterDoors$Hall", "isOpen", "(I)I"⟩, prog_3_method_4_code, 2, (some .int), 2, 727, 133, 1, 1, 725, 726)
theorem y_Ha_isOpen : mT[70]? = some q_Ha_isOpen := mT_at_1 (k := 30) rfl
noncomputable def bl_Ha_isOpen : List (Nat × List mO) := [(0, [o0 (.aload_n 0), o2 (.getfield 11) 2 0, o0 (.iconst 2), o0 (.iaload), o0 (.iload_n 1), o0 (.ishr), o0 (.iconst 1), o0 (.iand), o0 (.ireturn)])]
theorem bk_Ha_isOpen : okBlks q_Ha_isOpen bl_Ha_isOpen = true := by decide +kernel
noncomputable def oL_Ha_isOpen {ρ : Type} (N : Nat) : List (Nat × (List Value → mS → (Option Value → mS → Option ρ) → Option ρ)) := []
theorem oo_Ha_isOpen {ρ : Type} {t0 : ρ} (N : Nat) : OrcOK Sx R0x oFx nx 1 t0 (mOrc (oL_Ha_isOpen N)) := mOrc_OK (mz_nil)
noncomputable def f_Ha_isOpen (N : Nat) (a0 : Nat) (a1 : Int32) (s : mS) : Option (Int32 × mS) :=
  grd (isO Sx a0 2) (
  grd (inb 2 (aln Sx 0 (a0 + 1))) (
  some (((irs (gA s (a0 + 1) 2) a1) &&& 1), s)))
set_option maxRecDepth 100000 in
set_option maxHeartbeats 4000000 in
theorem m_Ha_isOpen (N : Nat) {x9 : Int32} {s9 : mS} (a0 : Nat) (a1 : Int32) {s : mS} (h : f_Ha_isOpen N a0 a1 s = some (x9, s9)) : MetM Sx R0x oFx nx 1 70 [.ref a0, .int a1] s (some (.int x9)) s9 := by
  refine met_of_G (q := q_Ha_isOpen) (t0 := (x9, s9)) y_Ha_isOpen (Nat.le_of_ble_eq_true rfl) ?_
  rw [← h]
  exact G_eq (mEv_G (orc := mOrc (oL_Ha_isOpen N)) (ret := rtI) (blks := bl_Ha_isOpen) (cuts := []) wOKx (by decide) (oo_Ha_isOpen N) (RetOK_I rfl) bk_Ha_isOpen (mz_nil)) rfl
noncomputable def C_Ha_isOpen {ρ : Type} (N : Nat) : List Value → mS → (Option Value → mS → Option ρ) → Option ρ := fun vs s kk => pr1 vs fun a0 r0 => grd (isO Sx a0 2) (pi1 r0 fun a1 r1 => rv0 r1 ((f_Ha_isOpen N a0 a1 s).bind fun p => kk (some (.int p.1)) p.2))
theorem cs_Ha_isOpen {ρ : Type} {t0 : ρ} {d : Nat} (N : Nat) (hd : 1 + 1 ≤ d) : CallOK Sx R0x oFx nx d t0 70 (C_Ha_isOpen N) := by
  intro vs s kk h0
  obtain ⟨a0, r0, rfl, h1⟩ := pr1_some h0
  obtain ⟨ho, h2⟩ := grd_some h1
  obtain ⟨a1, r1, rfl, h3⟩ := pi1_some h2
  obtain ⟨rfl, h4⟩ := rv0_some h3
  obtain ⟨p, hp, hk⟩ := Option.bind_eq_some_iff.mp h4
  exact ⟨_, _, _, hd, m_Ha_isOpen N a0 a1 hp, hk, fun qy hq hf => by cases y_Ha_isOpen.symm.trans hq; exact ⟨_, _, rfl, isO_spec ho⟩⟩
/-! METHOD PorterDoors$Sums.standAt(LPorterDoors$Hall;II)V -/
set_option maxRecDepth 20000 in
noncomputable def q_Su_standAt : mI := (⟨"PorterDoors$Sums", "standAt", "(LPorterDoors$Hall;II)V"⟩, prog_10_method_2_code, 4, none, 9, 739, 135, 1, 3, 737, 738)
theorem y_Su_standAt : mT[136]? = some q_Su_standAt := mT_at_3 (k := 16) rfl
noncomputable def bl_Su_standAt : List (Nat × List mO) := [(0, [o0 (.aload_n 0), o2 (.getfield 11) 9 0, o0 (.bipush 13), o0 (.aload_n 1), o2 (.getfield 27) 2 0, o0 (.iconst 0), o0 (.iaload), o0 (.iastore), o0 (.aload_n 0), o2 (.getfield 11) 9 0, o0 (.bipush 9), o0 (.iload_n 2), o0 (.iastore), o0 (.aload_n 0), o2 (.getfield 11) 9 0, o0 (.bipush 10), o0 (.aload_n 1), o2 (.getfield 27) 2 0, o0 (.bipush 28), o0 (.iload_n 2), o0 (.iadd), o0 (.iaload), o0 (.iastore), o0 (.aload_n 0), o2 (.getfield 11) 9 0, o0 (.iconst 3), o0 (.aload_n 1), o0 (.iload_n 2), o2 (.invokevirtual 32) 70 2, o0 (.iastore), o0 (.aload_n 0), o2 (.getfield 11) 9 0, o0 (.bipush 11), o0 (.aload_n 1), o2 (.getfield 27) 2 0, o0 (.iconst 4), o0 (.iload_n 2), o0 (.iadd), o0 (.iaload), o0 (.iastore), o0 (.aload_n 0), o2 (.getfield 11) 9 0, o0 (.bipush 16), o0 (.aload_n 1), o0 (.iload_n 2), o0 (.iload_n 3), o2 (.invokevirtual 36) 68 3, o1 (.ifCond .eq 7) 82, o0 (.iconst 1), o1 (.goto 4) 83]),
  (82, [o0 (.iconst 0)]),
  (83, [o0 (.iastore), o0 (.return_)])]
theorem bk_Su_standAt : okBlks q_Su_standAt bl_Su_standAt = true := by decide +kernel
noncomputable def oL_Su_standAt {ρ : Type} (N : Nat) : List (Nat × (List Value → mS → (Option Value → mS → Option ρ) → Option ρ)) := [(70, C_Ha_isOpen N), (68, C_Ha_isJammed N)]
theorem oo_Su_standAt {ρ : Type} {t0 : ρ} (N : Nat) : OrcOK Sx R0x oFx nx 2 t0 (mOrc (oL_Su_standAt N)) := mOrc_OK (List.forall_mem_cons.mpr ⟨cs_Ha_isOpen N (by decide), List.forall_mem_cons.mpr ⟨cs_Ha_isJammed N (by decide), mz_nil⟩⟩)
noncomputable def f_Su_standAt (N : Nat) (a1 : Nat) (a2 : Int32) (a3 : Int32) (s : mS) : Option (mS) :=
  grd (isO Sx a1 2) (
  grd (inb 0 (aln Sx 0 (a1 + 1))) (
  let s1 := sA s 26 13 (gA s (a1 + 1) 0)
  let s2 := sA s1 26 9 a2
  grd (isO Sx a1 2) (
  grd (inb (28 + a2) (aln Sx 0 (a1 + 1))) (
  let s3 := sA s2 26 10 (gA s2 (a1 + 1) (ix (28 + a2)))
  grd (isO Sx a1 2) (
  (f_Ha_isOpen N a1 a2 s3).bind fun p4 =>
  let s5 := sA p4.2 26 3 p4.1
  grd (isO Sx a1 2) (
  grd (inb (4 + a2) (aln Sx 0 (a1 + 1))) (
  let s6 := sA s5 26 11 (gA s5 (a1 + 1) (ix (4 + a2)))
  grd (isO Sx a1 2) (
  (f_Ha_isJammed N a1 a2 a3 s6).bind fun p7 =>
  if p7.1 = 0 then
    let s8 := sA p7.2 26 16 0
    some s8
  else
    let s9 := sA p7.2 26 16 1
    some s9))))))))
set_option maxRecDepth 100000 in
set_option maxHeartbeats 4000000 in
theorem m_Su_standAt (N : Nat) {s9 : mS} (a1 : Nat) (a2 : Int32) (a3 : Int32) {s : mS} (h : f_Su_standAt N a1 a2 a3 s = some s9) : MetM Sx R0x oFx nx 2 136 [.ref 25, .ref a1, .int a2, .int a3] s (none) s9 := by
  refine met_of_G (q := q_Su_standAt) (t0 := s9) y_Su_standAt (Nat.le_of_ble_eq_true rfl) ?_
  rw [← h]
  exact G_eq (mEv_G (orc := mOrc (oL_Su_standAt N)) (ret := rtV) (blks := bl_Su_standAt) (cuts := []) wOKx (by decide) (oo_Su_standAt N) (RetOK_V rfl) bk_Su_standAt (mz_nil)) rfl
noncomputable def C_Su_standAt {ρ : Type} (N : Nat) : List Value → mS → (Option Value → mS → Option ρ) → Option ρ := fun vs s kk => sR vs 25 fun r0 => pr1 r0 fun a1 r1 => pi1 r1 fun a2 r2 => pi1 r2 fun a3 r3 => rv0 r3 ((f_Su_standAt N a1 a2 a3 s).bind fun p => kk none p)
theorem cs_Su_standAt {ρ : Type} {t0 : ρ} {d : Nat} (N : Nat) (hd : 2 + 1 ≤ d) : CallOK Sx R0x oFx nx d t0 136 (C_Su_standAt N) := by
  intro vs s kk h0
  obtain ⟨r0, rfl, h1⟩ := sR_some h0
  obtain ⟨a1, r1, rfl, h2⟩ := pr1_some h1
  obtain ⟨a2, r2, rfl, h3⟩ := pi1_some h2
  obtain ⟨a3, r3, rfl, h4⟩ := pi1_some h3
  obtain ⟨rfl, h5⟩ := rv0_some h4
  obtain ⟨p, hp, hk⟩ := Option.bind_eq_some_iff.mp h5
  exact ⟨_, _, _, hd, m_Su_standAt N a1 a2 a3 hp, hk, fun qy hq hf => by cases y_Su_standAt.symm.trans hq; exact ⟨_, _, rfl, rfl⟩⟩
/-! METHOD PorterDoors$Sums.isOfOne(I)Z -/
set_option maxRecDepth 20000 in
noncomputable def q_Su_isOfOne : mI := (⟨"PorterDoors$Sums", "isOfOne", "(I)Z"⟩, prog_10_method_5_code, 1, (some .boolean), 9, 748, 135, 0, 1, 747, 0)
theorem y_Su_isOfOne : mT[138]? = some q_Su_isOfOne := mT_at_3 (k := 18) rfl
noncomputable def bl_Su_isOfOne : List (Nat × List mO) := [(0, [o0 (.iload_n 0), o0 (.bipush 21), o1 (.if_icmp .eq 15) 18, o0 (.iload_n 0), o0 (.bipush 17), o1 (.if_icmp .eq 9) 18, o0 (.iload_n 0), o0 (.bipush 18), o1 (.if_icmp .ne 7) 22]),
  (18, [o0 (.iconst 1), o1 (.goto 4) 23]),
  (22, [o0 (.iconst 0)]),
  (23, [o0 (.ireturn)])]
theorem bk_Su_isOfOne : okBlks q_Su_isOfOne bl_Su_isOfOne = true := by decide +kernel
noncomputable def oL_Su_isOfOne {ρ : Type} (N : Nat) : List (Nat × (List Value → mS → (Option Value → mS → Option ρ) → Option ρ)) := []
theorem oo_Su_isOfOne {ρ : Type} {t0 : ρ} (N : Nat) : OrcOK Sx R0x oFx nx 1 t0 (mOrc (oL_Su_isOfOne N)) := mOrc_OK (mz_nil)
noncomputable def f_Su_isOfOne (N : Nat) (a0 : Int32) (s : mS) : Option (Int32 × mS) :=
  if a0 = 21 then
    some (1, s)
  else
    if a0 = 17 then
      some (1, s)
    else
      if a0 = 18 then
        some (1, s)
      else
        some (0, s)
set_option maxRecDepth 100000 in
set_option maxHeartbeats 4000000 in
theorem m_Su_isOfOne (N : Nat) {x9 : Int32} {s9 : mS} (a0 : Int32) {s : mS} (h : f_Su_isOfOne N a0 s = some (x9, s9)) : MetM Sx R0x oFx nx 1 138 [.int a0] s (some (.int x9)) s9 := by
  refine met_of_G (q := q_Su_isOfOne) (t0 := (x9, s9)) y_Su_isOfOne (Nat.le_of_ble_eq_true rfl) ?_
  rw [← h]
  exact G_eq (mEv_G (orc := mOrc (oL_Su_isOfOne N)) (ret := rtZ) (blks := bl_Su_isOfOne) (cuts := []) wOKx (by decide) (oo_Su_isOfOne N) (RetOK_Z rfl) bk_Su_isOfOne (mz_nil)) rfl
noncomputable def C_Su_isOfOne {ρ : Type} (N : Nat) : List Value → mS → (Option Value → mS → Option ρ) → Option ρ := fun vs s kk => pi1 vs fun a0 r0 => rv0 r0 ((f_Su_isOfOne N a0 s).bind fun p => kk (some (.int p.1)) p.2)
theorem cs_Su_isOfOne {ρ : Type} {t0 : ρ} {d : Nat} (N : Nat) (hd : 1 + 1 ≤ d) : CallOK Sx R0x oFx nx d t0 138 (C_Su_isOfOne N) := by
  intro vs s kk h0
  obtain ⟨a0, r0, rfl, h1⟩ := pi1_some h0
  obtain ⟨rfl, h2⟩ := rv0_some h1
  obtain ⟨p, hp, hk⟩ := Option.bind_eq_some_iff.mp h2
  exact ⟨_, _, _, hd, m_Su_isOfOne N a0 hp, hk, fun qy hq hf => by cases y_Su_isOfOne.symm.trans hq; exact absurd hf (by decide)⟩
/-! METHOD PorterDoors$Sums.single(II)I -/
set_option maxRecDepth 20000 in
noncomputable def q_Su_single : mI := (⟨"PorterDoors$Sums", "single", "(II)I"⟩, prog_10_method_6_code, 4, (some .int), 9, 752, 135, 1, 2, 751, 24)
theorem y_Su_single : mT[139]? = some q_Su_single := mT_at_3 (k := 19) rfl
noncomputable def bl_Su_single : List (Nat × List mO) := [(0, [o0 (.iload_n 1), o0 (.bipush 21), o1 (.if_icmp .ne 7) 10, o0 (.iconst 1), o0 (.iload_n 2), o0 (.isub), o0 (.ireturn)]),
  (10, [o0 (.iload_n 1), o0 (.bipush 17), o1 (.if_icmp .ne 47) 60, o0 (.iload_n 2), o1 (.ifCond .lt 16) 33, o0 (.iload_n 2), o0 (.aload_n 0), o2 (.getfield 17) 9 1, o0 (.arraylength), o1 (.if_icmp .ge 7) 33, o0 (.iconst 1), o1 (.goto 4) 34]),
  (33, [o0 (.iconst 0)]),
  (34, [o0 (.istore_n 3), o0 (.iload_n 3), o1 (.ifCond .eq 22) 58, o0 (.aload_n 0), o2 (.getfield 17) 9 1, o0 (.iload_n 2), o0 (.iaload), o0 (.aload_n 0), o2 (.getfield 11) 9 0, o0 (.bipush 9), o0 (.iaload), o0 (.ishr), o0 (.iconst 1), o0 (.iand), o1 (.goto 4) 59]),
  (58, [o0 (.iconst 0)]),
  (59, [o0 (.ireturn)]),
  (60, [o0 (.aload_n 0), o2 (.getfield 11) 9 0, o0 (.bipush 9), o0 (.iaload), o0 (.iload_n 2), o0 (.iadd), o0 (.istore_n 3), o0 (.iload_n 3), o1 (.ifCond .lt 20) 91, o0 (.iload_n 3), o0 (.bipush 24), o1 (.if_icmp .ge 14) 91, o0 (.aload_n 0), o2 (.getfield 20) 9 2, o0 (.iload_n 3), o0 (.ishr), o0 (.iconst 1), o0 (.iand), o1 (.goto 4) 92]),
  (91, [o0 (.iconst 0)]),
  (92, [o0 (.ireturn)])]
theorem bk_Su_single : okBlks q_Su_single bl_Su_single = true := by decide +kernel
noncomputable def oL_Su_single {ρ : Type} (N : Nat) : List (Nat × (List Value → mS → (Option Value → mS → Option ρ) → Option ρ)) := []
theorem oo_Su_single {ρ : Type} {t0 : ρ} (N : Nat) : OrcOK Sx R0x oFx nx 1 t0 (mOrc (oL_Su_single N)) := mOrc_OK (mz_nil)
noncomputable def H_Su_single_34 {ρ : Type} (k : (Int32 × Int32 × mS) → Option ρ) : mL → List Value → mS → Option ρ := fun loc st s => cR loc 0 25 (li1 loc 2 fun v0 => pi1 st fun w0 r0 => rv0 r0 (k (v0, w0, s)))
noncomputable def f_Su_single_j34 (N : Nat) (x : Int32 × Int32 × mS) : Option (Int32 × mS) :=
  if x.2.1 = 0 then
    some (0, x.2.2)
  else
    grd (inb x.1 10) (
    some (((irs (gA x.2.2 27 (ix x.1)) (gA x.2.2 26 9)) &&& 1), x.2.2))
set_option maxRecDepth 100000 in
set_option maxHeartbeats 4000000 in
theorem s_Su_single_34 (N : Nat) {x9 : Int32} {s9 : mS} : SCd Sx R0x oFx nx 1 q_Su_single (some (.int x9), s9) (x9, s9) 34 (H_Su_single_34 (f_Su_single_j34 N)) := by
  intro loc st s
  refine G_cR (fun h0 => ?_)
  refine G_li (fun v0 h2 => ?_)
  refine G_pi (fun w0 r0 e0 => ?_)
  refine G_rv0 (fun e9 => ?_)
  subst e9
  subst e0
  refine G_sub (loc0 := [(0, .ref 25), (2, .int v0)]) (List.forall_mem_cons.mpr ⟨h0, List.forall_mem_cons.mpr ⟨h2, mz_nil⟩⟩) ?_
  exact G_eq (mEv_G (orc := mOrc (oL_Su_single N)) (ret := rtI) (blks := bl_Su_single) (cuts := []) wOKx (by decide) (oo_Su_single N) (RetOK_I rfl) bk_Su_single (mz_nil)) rfl
noncomputable def f_Su_single (N : Nat) (a1 : Int32) (a2 : Int32) (s : mS) : Option (Int32 × mS) :=
  if a1 = 21 then
    some ((1 - a2), s)
  else
    if a1 = 17 then
      if a2 < 0 then
        f_Su_single_j34 N (a2, 0, s)
      else
        if a2 < 10 then
          f_Su_single_j34 N (a2, 1, s)
        else
          f_Su_single_j34 N (a2, 0, s)
    else
      if ((gA s 26 9) + a2) < 0 then
        some (0, s)
      else
        if ((gA s 26 9) + a2) < 24 then
          some (((irs (gI s 902 25) ((gA s 26 9) + a2)) &&& 1), s)
        else
          some (0, s)
set_option maxRecDepth 100000 in
set_option maxHeartbeats 4000000 in
theorem m_Su_single (N : Nat) {x9 : Int32} {s9 : mS} (a1 : Int32) (a2 : Int32) {s : mS} (h : f_Su_single N a1 a2 s = some (x9, s9)) : MetM Sx R0x oFx nx 1 139 [.ref 25, .int a1, .int a2] s (some (.int x9)) s9 := by
  refine met_of_G (q := q_Su_single) (t0 := (x9, s9)) y_Su_single (Nat.le_of_ble_eq_true rfl) ?_
  rw [← h]
  exact G_eq (mEv_G (orc := mOrc (oL_Su_single N)) (ret := rtI) (blks := bl_Su_single) (cuts := [(34, H_Su_single_34 (f_Su_single_j34 N))]) wOKx (by decide) (oo_Su_single N) (RetOK_I rfl) bk_Su_single (List.forall_mem_cons.mpr ⟨s_Su_single_34 N, mz_nil⟩)) rfl
noncomputable def C_Su_single {ρ : Type} (N : Nat) : List Value → mS → (Option Value → mS → Option ρ) → Option ρ := fun vs s kk => sR vs 25 fun r0 => pi1 r0 fun a1 r1 => pi1 r1 fun a2 r2 => rv0 r2 ((f_Su_single N a1 a2 s).bind fun p => kk (some (.int p.1)) p.2)
theorem cs_Su_single {ρ : Type} {t0 : ρ} {d : Nat} (N : Nat) (hd : 1 + 1 ≤ d) : CallOK Sx R0x oFx nx d t0 139 (C_Su_single N) := by
  intro vs s kk h0
  obtain ⟨r0, rfl, h1⟩ := sR_some h0
  obtain ⟨a1, r1, rfl, h2⟩ := pi1_some h1
  obtain ⟨a2, r2, rfl, h3⟩ := pi1_some h2
  obtain ⟨rfl, h4⟩ := rv0_some h3
  obtain ⟨p, hp, hk⟩ := Option.bind_eq_some_iff.mp h4
  exact ⟨_, _, _, hd, m_Su_single N a1 a2 hp, hk, fun qy hq hf => by cases y_Su_single.symm.trans hq; exact ⟨_, _, rfl, rfl⟩⟩
/-! METHOD PorterDoors$Sums.joined(III)I -/
set_option maxRecDepth 20000 in
noncomputable def q_Su_joined : mI := (⟨"PorterDoors$Sums", "joined", "(III)I"⟩, prog_10_method_7_code, 5, (some .int), 9, 755, 135, 0, 3, 754, 0)
theorem y_Su_joined : mT[140]? = some q_Su_joined := mT_at_3 (k := 20) rfl
noncomputable def bl_Su_joined : List (Nat × List mO) := [(0, [o0 (.iload_n 0), oS (.tableswitch 307 19 62 #[291, 287, 307, 307, 295, 301, 307, 307, 307, 307, 307, 307, 307, 307, 307, 307, 307, 307, 307, 307, 307, 307, 307, 219, 191, 307, 205, 307, 240, 307, 307, 307, 307, 307, 307, 307, 307, 307, 307, 307, 307, 254, 276, 265]) 308 [292, 288, 308, 308, 296, 302, 308, 308, 308, 308, 308, 308, 308, 308, 308, 308, 308, 308, 308, 308, 308, 308, 308, 220, 192, 308, 206, 308, 241, 308, 308, 308, 308, 308, 308, 308, 308, 308, 308, 308, 308, 255, 277, 266]]),
  (192, [oC (.ldc 64) (.int 1000000), oC (.ldc 65) (.int (-1000000)), o0 (.iload_n 1), o0 (.iload_n 2), o0 (.iadd), o2 (.invokestatic 66) 278 2, o2 (.invokestatic 71) 277 2, o0 (.ireturn)]),
  (206, [oC (.ldc 64) (.int 1000000), oC (.ldc 65) (.int (-1000000)), o0 (.iload_n 1), o0 (.iload_n 2), o0 (.isub), o2 (.invokestatic 66) 278 2, o2 (.invokestatic 71) 277 2, o0 (.ireturn)]),
  (220, [o0 (.iload_n 1), o0 (.i2l), o0 (.iload_n 2), o0 (.i2l), o0 (.lmul), o0 (.lstore_n 3), oC (.ldc2_w 74) (.long 1000000), oC (.ldc2_w 76) (.long (-1000000)), o0 (.lload_n 3), o2 (.invokestatic 78) 279 2, o2 (.invokestatic 81) 280 2, o0 (.l2i), o0 (.ireturn)]),
  (241, [o0 (.iload_n 2), o1 (.ifCond .ne 7) 249, o0 (.iconst 0), o1 (.goto 8) 254]),
  (249, [o0 (.iload_n 1), o0 (.iload_n 2), o2 (.invokestatic 83) 281 2]),
  (254, [o0 (.ireturn)]),
  (255, [o0 (.iload_n 1), o0 (.iload_n 2), o1 (.if_icmp .ge 7) 264, o0 (.iconst 1), o1 (.goto 4) 265]),
  (264, [o0 (.iconst 0)]),
  (265, [o0 (.ireturn)]),
  (266, [o0 (.iload_n 1), o0 (.iload_n 2), o1 (.if_icmp .le 7) 275, o0 (.iconst 1), o1 (.goto 4) 276]),
  (275, [o0 (.iconst 0)]),
  (276, [o0 (.ireturn)]),
  (277, [o0 (.iload_n 1), o0 (.iload_n 2), o1 (.if_icmp .ne 7) 286, o0 (.iconst 1), o1 (.goto 4) 287]),
  (286, [o0 (.iconst 0)]),
  (287, [o0 (.ireturn)]),
  (288, [o0 (.iload_n 1), o0 (.iload_n 2), o0 (.iand), o0 (.ireturn)]),
  (292, [o0 (.iload_n 1), o0 (.iload_n 2), o0 (.ior), o0 (.ireturn)]),
  (296, [o0 (.iload_n 1), o0 (.iload_n 2), o2 (.invokestatic 71) 277 2, o0 (.ireturn)]),
  (302, [o0 (.iload_n 1), o0 (.iload_n 2), o2 (.invokestatic 66) 278 2, o0 (.ireturn)]),
  (308, [o0 (.iconst 0), o0 (.ireturn)])]
theorem bk_Su_joined : okBlks q_Su_joined bl_Su_joined = true := by decide +kernel
noncomputable def oL_Su_joined {ρ : Type} (N : Nat) : List (Nat × (List Value → mS → (Option Value → mS → Option ρ) → Option ρ)) := [(278, C_Math_max N), (277, C_Math_min N), (279, C_Math_maxL N), (280, C_Math_minL N), (281, C_Math_floorDiv N)]
theorem oo_Su_joined {ρ : Type} {t0 : ρ} (N : Nat) : OrcOK Sx R0x oFx nx 2 t0 (mOrc (oL_Su_joined N)) := mOrc_OK (List.forall_mem_cons.mpr ⟨cs_Math_max N wOKx (by decide), List.forall_mem_cons.mpr ⟨cs_Math_min N wOKx (by decide), List.forall_mem_cons.mpr ⟨cs_Math_maxL N wOKx (by decide), List.forall_mem_cons.mpr ⟨cs_Math_minL N wOKx (by decide), List.forall_mem_cons.mpr ⟨cs_Math_floorDiv N wOKx (by decide), mz_nil⟩⟩⟩⟩⟩)
noncomputable def f_Su_joined (N : Nat) (a0 : Int32) (a1 : Int32) (a2 : Int32) (s : mS) : Option (Int32 × mS) :=
  if a0 = 19 then
    some ((a1 ||| a2), s)
  else if a0 = 20 then
    some ((a1 &&& a2), s)
  else if a0 = 21 then
    some (0, s)
  else if a0 = 22 then
    some (0, s)
  else if a0 = 23 then
    (f_Math_min N a1 a2 s).bind fun p1 =>
    some (p1.1, p1.2)
  else if a0 = 24 then
    (f_Math_max N a1 a2 s).bind fun p2 =>
    some (p2.1, p2.2)
  else if a0 = 25 then
    some (0, s)
  else if a0 = 26 then
    some (0, s)
  else if a0 = 27 then
    some (0, s)
  else if a0 = 28 then
    some (0, s)
  else if a0 = 29 then
    some (0, s)
  else if a0 = 30 then
    some (0, s)
  else if a0 = 31 then
    some (0, s)
  else if a0 = 32 then
    some (0, s)
  else if a0 = 33 then
    some (0, s)
  else if a0 = 34 then
    some (0, s)
  else if a0 = 35 then
    some (0, s)
  else if a0 = 36 then
    some (0, s)
  else if a0 = 37 then
    some (0, s)
  else if a0 = 38 then
    some (0, s)
  else if a0 = 39 then
    some (0, s)
  else if a0 = 40 then
    some (0, s)
  else if a0 = 41 then
    some (0, s)
  else if a0 = 42 then
    (f_Math_maxL N (-1000000) ((a1).toInt64 * (a2).toInt64) s).bind fun p3 =>
    (f_Math_minL N 1000000 p3.1 p3.2).bind fun p4 =>
    some ((p4.1).toInt32, p4.2)
  else if a0 = 43 then
    (f_Math_max N (-1000000) (a1 + a2) s).bind fun p5 =>
    (f_Math_min N 1000000 p5.1 p5.2).bind fun p6 =>
    some (p6.1, p6.2)
  else if a0 = 44 then
    some (0, s)
  else if a0 = 45 then
    (f_Math_max N (-1000000) (a1 - a2) s).bind fun p7 =>
    (f_Math_min N 1000000 p7.1 p7.2).bind fun p8 =>
    some (p8.1, p8.2)
  else if a0 = 46 then
    some (0, s)
  else if a0 = 47 then
    if a2 = 0 then
      some (0, s)
    else
      (f_Math_floorDiv N a1 a2 s).bind fun p9 =>
      some (p9.1, p9.2)
  else if a0 = 48 then
    some (0, s)
  else if a0 = 49 then
    some (0, s)
  else if a0 = 50 then
    some (0, s)
  else if a0 = 51 then
    some (0, s)
  else if a0 = 52 then
    some (0, s)
  else if a0 = 53 then
    some (0, s)
  else if a0 = 54 then
    some (0, s)
  else if a0 = 55 then
    some (0, s)
  else if a0 = 56 then
    some (0, s)
  else if a0 = 57 then
    some (0, s)
  else if a0 = 58 then
    some (0, s)
  else if a0 = 59 then
    some (0, s)
  else if a0 = 60 then
    if a1 < a2 then
      some (1, s)
    else
      some (0, s)
  else if a0 = 61 then
    if a1 = a2 then
      some (1, s)
    else
      some (0, s)
  else if a0 = 62 then
    if a2 < a1 then
      some (1, s)
    else
      some (0, s)
  else
    some (0, s)
set_option maxRecDepth 100000 in
set_option maxHeartbeats 4000000 in
theorem m_Su_joined (N : Nat) {x9 : Int32} {s9 : mS} (a0 : Int32) (a1 : Int32) (a2 : Int32) {s : mS} (h : f_Su_joined N a0 a1 a2 s = some (x9, s9)) : MetM Sx R0x oFx nx 2 140 [.int a0, .int a1, .int a2] s (some (.int x9)) s9 := by
  refine met_of_G (q := q_Su_joined) (t0 := (x9, s9)) y_Su_joined (Nat.le_of_ble_eq_true rfl) ?_
  rw [← h]
  exact G_eq (mEv_G (orc := mOrc (oL_Su_joined N)) (ret := rtI) (blks := bl_Su_joined) (cuts := []) wOKx (by decide) (oo_Su_joined N) (RetOK_I rfl) bk_Su_joined (mz_nil)) rfl
noncomputable def C_Su_joined {ρ : Type} (N : Nat) : List Value → mS → (Option Value → mS → Option ρ) → Option ρ := fun vs s kk => pi1 vs fun a0 r0 => pi1 r0 fun a1 r1 => pi1 r1 fun a2 r2 => rv0 r2 ((f_Su_joined N a0 a1 a2 s).bind fun p => kk (some (.int p.1)) p.2)
theorem cs_Su_joined {ρ : Type} {t0 : ρ} {d : Nat} (N : Nat) (hd : 2 + 1 ≤ d) : CallOK Sx R0x oFx nx d t0 140 (C_Su_joined N) := by
  intro vs s kk h0
  obtain ⟨a0, r0, rfl, h1⟩ := pi1_some h0
  obtain ⟨a1, r1, rfl, h2⟩ := pi1_some h1
  obtain ⟨a2, r2, rfl, h3⟩ := pi1_some h2
  obtain ⟨rfl, h4⟩ := rv0_some h3
  obtain ⟨p, hp, hk⟩ := Option.bind_eq_some_iff.mp h4
  exact ⟨_, _, _, hd, m_Su_joined N a0 a1 a2 hp, hk, fun qy hq hf => by cases y_Su_joined.symm.trans hq; exact absurd hf (by decide)⟩
/-! METHOD PorterDoors$Sums.worth(LPorterDoors$Program;II)I -/
set_option maxRecDepth 20000 in
noncomputable def q_Su_worth : mI := (⟨"PorterDoors$Sums", "worth", "(LPorterDoors$Program;II)I"⟩, prog_10_method_4_code, 7, (some .int), 9, 745, 135, 1, 3, 743, 744)
theorem y_Su_worth : mT[137]? = some q_Su_worth := mT_at_3 (k := 17) rfl
noncomputable def bl_Su_worth : List (Nat × List mO) := [(0, [o0 (.iconst 0), o0 (.istore 4), o0 (.iload_n 2), o0 (.istore 5)]),
  (6, [o0 (.iload 5), o1 (.ifCond .lt 193) 201, o0 (.iload 5), o0 (.iload_n 3), o1 (.if_icmp .ge 187) 201, o0 (.iload 5), o0 (.aload_n 1), o2 (.getfield 44) 5 1, o1 (.if_icmp .ge 178) 201, o0 (.aload_n 1), o2 (.getfield 49) 5 0, o0 (.iload 5), o0 (.iaload), o0 (.istore 6), o0 (.iload 6), o0 (.bipush 17), o1 (.if_icmp .ge 45) 84, o0 (.iload 4), o0 (.aload_n 0), o2 (.getfield 24) 9 3, o0 (.arraylength), o1 (.if_icmp .ge 35) 84, o0 (.aload_n 0), o2 (.getfield 24) 9 3, o0 (.iload 4), o0 (.iload 6), o1 (.ifCond .ge 10) 70, o0 (.iconst (-1)), o0 (.iload 6), o0 (.isub), o1 (.goto 10) 77]),
  (70, [o0 (.aload_n 0), o2 (.getfield 11) 9 0, o0 (.iload 6), o0 (.iaload)]),
  (77, [o0 (.iastore), o0 (.iinc 4 1), o1 (.goto 114) 195]),
  (84, [o0 (.iload 6), o0 (.bipush 22), o1 (.if_icmp .ne 27) 115, o0 (.iload 4), o0 (.aload_n 0), o2 (.getfield 24) 9 3, o0 (.arraylength), o1 (.if_icmp .ge 17) 115, o0 (.aload_n 0), o2 (.getfield 24) 9 3, o0 (.iload 4), o0 (.iconst 1), o0 (.iastore), o0 (.iinc 4 1), o1 (.goto 83) 195]),
  (115, [o0 (.iload 6), o2 (.invokestatic 52) 138 1, o1 (.ifCond .eq 36) 156, o0 (.iload 4), o0 (.iconst 1), o1 (.if_icmp .lt 30) 156, o0 (.aload_n 0), o2 (.getfield 24) 9 3, o0 (.iload 4), o0 (.iconst 1), o0 (.isub), o0 (.aload_n 0), o0 (.iload 6), o0 (.aload_n 0), o2 (.getfield 24) 9 3, o0 (.iload 4), o0 (.iconst 1), o0 (.isub), o0 (.iaload), o2 (.invokevirtual 56) 139 3, o0 (.iastore), o1 (.goto 42) 195]),
  (156, [o0 (.iload 4), o0 (.iconst 2), o1 (.if_icmp .lt 36) 195, o0 (.iinc 4 (-1)), o0 (.aload_n 0), o2 (.getfield 24) 9 3, o0 (.iload 4), o0 (.iconst 1), o0 (.isub), o0 (.iload 6), o0 (.aload_n 0), o2 (.getfield 24) 9 3, o0 (.iload 4), o0 (.iconst 1), o0 (.isub), o0 (.iaload), o0 (.aload_n 0), o2 (.getfield 24) 9 3, o0 (.iload 4), o0 (.iaload), o2 (.invokestatic 60) 140 3, o0 (.iastore)]),
  (195, [o0 (.iinc 5 1), o1 (.goto (-192)) 6]),
  (201, [o0 (.iload 4), o0 (.iconst 1), o1 (.if_icmp .ne 12) 216, o0 (.aload_n 0), o2 (.getfield 24) 9 3, o0 (.iconst 0), o0 (.iaload), o1 (.goto 4) 217]),
  (216, [o0 (.iconst 0)]),
  (217, [o0 (.ireturn)])]
theorem bk_Su_worth : okBlks q_Su_worth bl_Su_worth = true := by decide +kernel
noncomputable def oL_Su_worth {ρ : Type} (N : Nat) : List (Nat × (List Value → mS → (Option Value → mS → Option ρ) → Option ρ)) := [(138, C_Su_isOfOne N), (139, C_Su_single N), (140, C_Su_joined N)]
theorem oo_Su_worth {ρ : Type} {t0 : ρ} (N : Nat) : OrcOK Sx R0x oFx nx 3 t0 (mOrc (oL_Su_worth N)) := mOrc_OK (List.forall_mem_cons.mpr ⟨cs_Su_isOfOne N (by decide), List.forall_mem_cons.mpr ⟨cs_Su_single N (by decide), List.forall_mem_cons.mpr ⟨cs_Su_joined N (by decide), mz_nil⟩⟩⟩)
noncomputable def H_Su_worth_6 {ρ : Type} (k : (Nat × Int32 × Int32 × Int32 × mS) → Option ρ) : mL → List Value → mS → Option ρ := fun loc st s => cR loc 0 25 (lr1 loc 1 fun v0 => li1 loc 3 fun v1 => li1 loc 4 fun v2 => li1 loc 5 fun v3 => rv0 st (k (v0, v1, v2, v3, s)))
noncomputable def H_Su_worth_84 {ρ : Type} (k : (Nat × Int32 × Int32 × Int32 × Int32 × mS) → Option ρ) : mL → List Value → mS → Option ρ := fun loc st s => cR loc 0 25 (lr1 loc 1 fun v0 => li1 loc 3 fun v1 => li1 loc 4 fun v2 => li1 loc 5 fun v3 => li1 loc 6 fun v4 => rv0 st (k (v0, v1, v2, v3, v4, s)))
noncomputable def H_Su_worth_115 {ρ : Type} (k : (Nat × Int32 × Int32 × Int32 × Int32 × mS) → Option ρ) : mL → List Value → mS → Option ρ := fun loc st s => cR loc 0 25 (lr1 loc 1 fun v0 => li1 loc 3 fun v1 => li1 loc 4 fun v2 => li1 loc 5 fun v3 => li1 loc 6 fun v4 => rv0 st (k (v0, v1, v2, v3, v4, s)))
noncomputable def H_Su_worth_156 {ρ : Type} (k : (Nat × Int32 × Int32 × Int32 × Int32 × mS) → Option ρ) : mL → List Value → mS → Option ρ := fun loc st s => cR loc 0 25 (lr1 loc 1 fun v0 => li1 loc 3 fun v1 => li1 loc 4 fun v2 => li1 loc 5 fun v3 => li1 loc 6 fun v4 => rv0 st (k (v0, v1, v2, v3, v4, s)))
noncomputable def H_Su_worth_201 {ρ : Type} (k : (Int32 × mS) → Option ρ) : mL → List Value → mS → Option ρ := fun loc st s => cR loc 0 25 (li1 loc 4 fun v0 => rv0 st (k (v0, s)))
noncomputable def f_Su_worth_j156 (N : Nat) (k6 : (Nat × Int32 × Int32 × Int32 × mS) → Option (Int32 × mS)) (x : Nat × Int32 × Int32 × Int32 × Int32 × mS) : Option (Int32 × mS) :=
  if x.2.2.1 < 2 then
    k6 (x.1, x.2.1, x.2.2.1, (x.2.2.2.1 + 1), x.2.2.2.2.2)
  else
    grd (inb ((x.2.2.1 - 1) - 1) 50) (
    grd (inb (x.2.2.1 - 1) 50) (
    (f_Su_joined N x.2.2.2.2.1 (gA x.2.2.2.2.2 28 (ix ((x.2.2.1 - 1) - 1))) (gA x.2.2.2.2.2 28 (ix (x.2.2.1 - 1))) x.2.2.2.2.2).bind fun p1 =>
    grd (inb ((x.2.2.1 - 1) - 1) 50) (
    let s2 := sA p1.2 28 (ix ((x.2.2.1 - 1) - 1)) p1.1
    k6 (x.1, x.2.1, (x.2.2.1 - 1), (x.2.2.2.1 + 1), s2))))
set_option maxRecDepth 100000 in
set_option maxHeartbeats 4000000 in
theorem s_Su_worth_156 (N : Nat) {x9 : Int32} {s9 : mS} {k6 : (Nat × Int32 × Int32 × Int32 × mS) → Option (Int32 × mS)} (hk6 : SCd Sx R0x oFx nx 3 q_Su_worth (some (.int x9), s9) (x9, s9) 6 (H_Su_worth_6 k6)) : SCd Sx R0x oFx nx 3 q_Su_worth (some (.int x9), s9) (x9, s9) 156 (H_Su_worth_156 (f_Su_worth_j156 N k6)) := by
  intro loc st s
  refine G_cR (fun h0 => ?_)
  refine G_lr (fun v0 h1 => ?_)
  refine G_li (fun v1 h3 => ?_)
  refine G_li (fun v2 h4 => ?_)
  refine G_li (fun v3 h5 => ?_)
  refine G_li (fun v4 h6 => ?_)
  refine G_rv0 (fun e9 => ?_)
  subst e9
  refine G_sub (loc0 := [(0, .ref 25), (1, .ref v0), (3, .int v1), (4, .int v2), (5, .int v3), (6, .int v4)]) (List.forall_mem_cons.mpr ⟨h0, List.forall_mem_cons.mpr ⟨h1, List.forall_mem_cons.mpr ⟨h3, List.forall_mem_cons.mpr ⟨h4, List.forall_mem_cons.mpr ⟨h5, List.forall_mem_cons.mpr ⟨h6, mz_nil⟩⟩⟩⟩⟩⟩) ?_
  exact G_eq (mEv_G (orc := mOrc (oL_Su_worth N)) (ret := rtI) (blks := bl_Su_worth) (cuts := [(6, H_Su_worth_6 k6)]) wOKx (by decide) (oo_Su_worth N) (RetOK_I rfl) bk_Su_worth (List.forall_mem_cons.mpr ⟨hk6, mz_nil⟩)) rfl
noncomputable def f_Su_worth_j115 (N : Nat) (k6 : (Nat × Int32 × Int32 × Int32 × mS) → Option (Int32 × mS)) (x : Nat × Int32 × Int32 × Int32 × Int32 × mS) : Option (Int32 × mS) :=
  (f_Su_isOfOne N x.2.2.2.2.1 x.2.2.2.2.2).bind fun p1 =>
  if p1.1 = 0 then
    f_Su_worth_j156 N k6 (x.1, x.2.1, x.2.2.1, x.2.2.2.1, x.2.2.2.2.1, p1.2)
  else
    if x.2.2.1 < 1 then
      f_Su_worth_j156 N k6 (x.1, x.2.1, x.2.2.1, x.2.2.2.1, x.2.2.2.2.1, p1.2)
    else
      grd (inb (x.2.2.1 - 1) 50) (
      (f_Su_single N x.2.2.2.2.1 (gA p1.2 28 (ix (x.2.2.1 - 1))) p1.2).bind fun p2 =>
      grd (inb (x.2.2.1 - 1) 50) (
      let s3 := sA p2.2 28 (ix (x.2.2.1 - 1)) p2.1
      k6 (x.1, x.2.1, x.2.2.1, (x.2.2.2.1 + 1), s3)))
set_option maxRecDepth 100000 in
set_option maxHeartbeats 4000000 in
theorem s_Su_worth_115 (N : Nat) {x9 : Int32} {s9 : mS} {k6 : (Nat × Int32 × Int32 × Int32 × mS) → Option (Int32 × mS)} (hk6 : SCd Sx R0x oFx nx 3 q_Su_worth (some (.int x9), s9) (x9, s9) 6 (H_Su_worth_6 k6)) : SCd Sx R0x oFx nx 3 q_Su_worth (some (.int x9), s9) (x9, s9) 115 (H_Su_worth_115 (f_Su_worth_j115 N k6)) := by
  intro loc st s
  refine G_cR (fun h0 => ?_)
  refine G_lr (fun v0 h1 => ?_)
  refine G_li (fun v1 h3 => ?_)
  refine G_li (fun v2 h4 => ?_)
  refine G_li (fun v3 h5 => ?_)
  refine G_li (fun v4 h6 => ?_)
  refine G_rv0 (fun e9 => ?_)
  subst e9
  refine G_sub (loc0 := [(0, .ref 25), (1, .ref v0), (3, .int v1), (4, .int v2), (5, .int v3), (6, .int v4)]) (List.forall_mem_cons.mpr ⟨h0, List.forall_mem_cons.mpr ⟨h1, List.forall_mem_cons.mpr ⟨h3, List.forall_mem_cons.mpr ⟨h4, List.forall_mem_cons.mpr ⟨h5, List.forall_mem_cons.mpr ⟨h6, mz_nil⟩⟩⟩⟩⟩⟩) ?_
  exact G_eq (mEv_G (orc := mOrc (oL_Su_worth N)) (ret := rtI) (blks := bl_Su_worth) (cuts := [(6, H_Su_worth_6 k6), (156, H_Su_worth_156 (f_Su_worth_j156 N k6))]) wOKx (by decide) (oo_Su_worth N) (RetOK_I rfl) bk_Su_worth (List.forall_mem_cons.mpr ⟨hk6, List.forall_mem_cons.mpr ⟨s_Su_worth_156 N hk6, mz_nil⟩⟩)) rfl
noncomputable def f_Su_worth_j84 (N : Nat) (k6 : (Nat × Int32 × Int32 × Int32 × mS) → Option (Int32 × mS)) (x : Nat × Int32 × Int32 × Int32 × Int32 × mS) : Option (Int32 × mS) :=
  if x.2.2.2.2.1 = 22 then
    if x.2.2.1 < 50 then
      grd (inb x.2.2.1 50) (
      let s1 := sA x.2.2.2.2.2 28 (ix x.2.2.1) 1
      k6 (x.1, x.2.1, (x.2.2.1 + 1), (x.2.2.2.1 + 1), s1))
    else
      f_Su_worth_j115 N k6 (x.1, x.2.1, x.2.2.1, x.2.2.2.1, x.2.2.2.2.1, x.2.2.2.2.2)
  else
    f_Su_worth_j115 N k6 (x.1, x.2.1, x.2.2.1, x.2.2.2.1, x.2.2.2.2.1, x.2.2.2.2.2)
set_option maxRecDepth 100000 in
set_option maxHeartbeats 4000000 in
theorem s_Su_worth_84 (N : Nat) {x9 : Int32} {s9 : mS} {k6 : (Nat × Int32 × Int32 × Int32 × mS) → Option (Int32 × mS)} (hk6 : SCd Sx R0x oFx nx 3 q_Su_worth (some (.int x9), s9) (x9, s9) 6 (H_Su_worth_6 k6)) : SCd Sx R0x oFx nx 3 q_Su_worth (some (.int x9), s9) (x9, s9) 84 (H_Su_worth_84 (f_Su_worth_j84 N k6)) := by
  intro loc st s
  refine G_cR (fun h0 => ?_)
  refine G_lr (fun v0 h1 => ?_)
  refine G_li (fun v1 h3 => ?_)
  refine G_li (fun v2 h4 => ?_)
  refine G_li (fun v3 h5 => ?_)
  refine G_li (fun v4 h6 => ?_)
  refine G_rv0 (fun e9 => ?_)
  subst e9
  refine G_sub (loc0 := [(0, .ref 25), (1, .ref v0), (3, .int v1), (4, .int v2), (5, .int v3), (6, .int v4)]) (List.forall_mem_cons.mpr ⟨h0, List.forall_mem_cons.mpr ⟨h1, List.forall_mem_cons.mpr ⟨h3, List.forall_mem_cons.mpr ⟨h4, List.forall_mem_cons.mpr ⟨h5, List.forall_mem_cons.mpr ⟨h6, mz_nil⟩⟩⟩⟩⟩⟩) ?_
  exact G_eq (mEv_G (orc := mOrc (oL_Su_worth N)) (ret := rtI) (blks := bl_Su_worth) (cuts := [(6, H_Su_worth_6 k6), (115, H_Su_worth_115 (f_Su_worth_j115 N k6))]) wOKx (by decide) (oo_Su_worth N) (RetOK_I rfl) bk_Su_worth (List.forall_mem_cons.mpr ⟨hk6, List.forall_mem_cons.mpr ⟨s_Su_worth_115 N hk6, mz_nil⟩⟩)) rfl
noncomputable def f_Su_worth_j201 (N : Nat) (x : Int32 × mS) : Option (Int32 × mS) :=
  if x.1 = 1 then
    some ((gA x.2 28 0), x.2)
  else
    some (0, x.2)
set_option maxRecDepth 100000 in
set_option maxHeartbeats 4000000 in
theorem s_Su_worth_201 (N : Nat) {x9 : Int32} {s9 : mS} : SCd Sx R0x oFx nx 3 q_Su_worth (some (.int x9), s9) (x9, s9) 201 (H_Su_worth_201 (f_Su_worth_j201 N)) := by
  intro loc st s
  refine G_cR (fun h0 => ?_)
  refine G_li (fun v0 h4 => ?_)
  refine G_rv0 (fun e9 => ?_)
  subst e9
  refine G_sub (loc0 := [(0, .ref 25), (4, .int v0)]) (List.forall_mem_cons.mpr ⟨h0, List.forall_mem_cons.mpr ⟨h4, mz_nil⟩⟩) ?_
  exact G_eq (mEv_G (orc := mOrc (oL_Su_worth N)) (ret := rtI) (blks := bl_Su_worth) (cuts := []) wOKx (by decide) (oo_Su_worth N) (RetOK_I rfl) bk_Su_worth (mz_nil)) rfl
noncomputable def f_Su_worth_L6 (N : Nat) (k6 : (Nat × Int32 × Int32 × Int32 × mS) → Option (Int32 × mS)) (x : Nat × Int32 × Int32 × Int32 × mS) : Option (Int32 × mS) :=
  if x.2.2.2.1 < 0 then
    f_Su_worth_j201 N (x.2.2.1, x.2.2.2.2)
  else
    if x.2.2.2.1 < x.2.1 then
      grd (isO Sx x.1 5) (
      if x.2.2.2.1 < (gI x.2.2.2.2 501 x.1) then
        grd (isO Sx x.1 5) (
        grd (inb x.2.2.2.1 (aln Sx 0 (x.1 + 1))) (
        if (gA x.2.2.2.2 (x.1 + 1) (ix x.2.2.2.1)) < 17 then
          if x.2.2.1 < 50 then
            if (gA x.2.2.2.2 (x.1 + 1) (ix x.2.2.2.1)) < 0 then
              grd (inb x.2.2.1 50) (
              let s2 := sA x.2.2.2.2 28 (ix x.2.2.1) ((-1) - (gA x.2.2.2.2 (x.1 + 1) (ix x.2.2.2.1)))
              k6 (x.1, x.2.1, (x.2.2.1 + 1), (x.2.2.2.1 + 1), s2))
            else
              grd (inb (gA x.2.2.2.2 (x.1 + 1) (ix x.2.2.2.1)) 31) (
              grd (inb x.2.2.1 50) (
              let s1 := sA x.2.2.2.2 28 (ix x.2.2.1) (gA x.2.2.2.2 26 (ix (gA x.2.2.2.2 (x.1 + 1) (ix x.2.2.2.1))))
              k6 (x.1, x.2.1, (x.2.2.1 + 1), (x.2.2.2.1 + 1), s1)))
          else
            f_Su_worth_j84 N k6 (x.1, x.2.1, x.2.2.1, x.2.2.2.1, (gA x.2.2.2.2 (x.1 + 1) (ix x.2.2.2.1)), x.2.2.2.2)
        else
          f_Su_worth_j84 N k6 (x.1, x.2.1, x.2.2.1, x.2.2.2.1, (gA x.2.2.2.2 (x.1 + 1) (ix x.2.2.2.1)), x.2.2.2.2)))
      else
        f_Su_worth_j201 N (x.2.2.1, x.2.2.2.2))
    else
      f_Su_worth_j201 N (x.2.2.1, x.2.2.2.2)
set_option maxRecDepth 100000 in
set_option maxHeartbeats 4000000 in
theorem t_Su_worth_6 (N : Nat) {x9 : Int32} {s9 : mS} {k6 : (Nat × Int32 × Int32 × Int32 × mS) → Option (Int32 × mS)} (hk6 : SCd Sx R0x oFx nx 3 q_Su_worth (some (.int x9), s9) (x9, s9) 6 (H_Su_worth_6 k6)) : SCd Sx R0x oFx nx 3 q_Su_worth (some (.int x9), s9) (x9, s9) 6 (H_Su_worth_6 (f_Su_worth_L6 N k6)) := by
  intro loc st s
  refine G_cR (fun h0 => ?_)
  refine G_lr (fun v0 h1 => ?_)
  refine G_li (fun v1 h3 => ?_)
  refine G_li (fun v2 h4 => ?_)
  refine G_li (fun v3 h5 => ?_)
  refine G_rv0 (fun e9 => ?_)
  subst e9
  refine G_sub (loc0 := [(0, .ref 25), (1, .ref v0), (3, .int v1), (4, .int v2), (5, .int v3)]) (List.forall_mem_cons.mpr ⟨h0, List.forall_mem_cons.mpr ⟨h1, List.forall_mem_cons.mpr ⟨h3, List.forall_mem_cons.mpr ⟨h4, List.forall_mem_cons.mpr ⟨h5, mz_nil⟩⟩⟩⟩⟩) ?_
  exact G_eq (mEv_G (orc := mOrc (oL_Su_worth N)) (ret := rtI) (blks := bl_Su_worth) (cuts := [(6, H_Su_worth_6 k6), (84, H_Su_worth_84 (f_Su_worth_j84 N k6)), (201, H_Su_worth_201 (f_Su_worth_j201 N))]) wOKx (by decide) (oo_Su_worth N) (RetOK_I rfl) bk_Su_worth (List.forall_mem_cons.mpr ⟨hk6, List.forall_mem_cons.mpr ⟨s_Su_worth_84 N hk6, List.forall_mem_cons.mpr ⟨s_Su_worth_201 N, mz_nil⟩⟩⟩)) rfl
theorem s_Su_worth_6 (N : Nat) {x9 : Int32} {s9 : mS} : SCd Sx R0x oFx nx 3 q_Su_worth (some (.int x9), s9) (x9, s9) 6 (H_Su_worth_6 (mfix N (f_Su_worth_L6 N))) := by
  refine mfix_SC (H := H_Su_worth_6) (fun loc st s => ?_) (fun k hk => t_Su_worth_6 N hk) N
  refine G_cR (fun h0 => ?_)
  refine G_lr (fun v0 h1 => ?_)
  refine G_li (fun v1 h3 => ?_)
  refine G_li (fun v2 h4 => ?_)
  refine G_li (fun v3 h5 => ?_)
  refine G_rv0 (fun e9 => ?_)
  subst e9
  exact G_none
noncomputable def f_Su_worth (N : Nat) (a1 : Nat) (a2 : Int32) (a3 : Int32) (s : mS) : Option (Int32 × mS) :=
  mfix N (f_Su_worth_L6 N) (a1, a3, 0, a2, s)
set_option maxRecDepth 100000 in
set_option maxHeartbeats 4000000 in
theorem m_Su_worth (N : Nat) {x9 : Int32} {s9 : mS} (a1 : Nat) (a2 : Int32) (a3 : Int32) {s : mS} (h : f_Su_worth N a1 a2 a3 s = some (x9, s9)) : MetM Sx R0x oFx nx 3 137 [.ref 25, .ref a1, .int a2, .int a3] s (some (.int x9)) s9 := by
  refine met_of_G (q := q_Su_worth) (t0 := (x9, s9)) y_Su_worth (Nat.le_of_ble_eq_true rfl) ?_
  rw [← h]
  exact G_eq (mEv_G (orc := mOrc (oL_Su_worth N)) (ret := rtI) (blks := bl_Su_worth) (cuts := [(6, H_Su_worth_6 (mfix N (f_Su_worth_L6 N)))]) wOKx (by decide) (oo_Su_worth N) (RetOK_I rfl) bk_Su_worth (List.forall_mem_cons.mpr ⟨s_Su_worth_6 N, mz_nil⟩)) rfl
noncomputable def C_Su_worth {ρ : Type} (N : Nat) : List Value → mS → (Option Value → mS → Option ρ) → Option ρ := fun vs s kk => sR vs 25 fun r0 => pr1 r0 fun a1 r1 => pi1 r1 fun a2 r2 => pi1 r2 fun a3 r3 => rv0 r3 ((f_Su_worth N a1 a2 a3 s).bind fun p => kk (some (.int p.1)) p.2)
theorem cs_Su_worth {ρ : Type} {t0 : ρ} {d : Nat} (N : Nat) (hd : 3 + 1 ≤ d) : CallOK Sx R0x oFx nx d t0 137 (C_Su_worth N) := by
  intro vs s kk h0
  obtain ⟨r0, rfl, h1⟩ := sR_some h0
  obtain ⟨a1, r1, rfl, h2⟩ := pr1_some h1
  obtain ⟨a2, r2, rfl, h3⟩ := pi1_some h2
  obtain ⟨a3, r3, rfl, h4⟩ := pi1_some h3
  obtain ⟨rfl, h5⟩ := rv0_some h4
  obtain ⟨p, hp, hk⟩ := Option.bind_eq_some_iff.mp h5
  exact ⟨_, _, _, hd, m_Su_worth N a1 a2 a3 hp, hk, fun qy hq hf => by cases y_Su_worth.symm.trans hq; exact ⟨_, _, rfl, rfl⟩⟩
/-! METHOD PorterDoors$Rounds.orderOf(LPorterDoors$Hall;I)I -/
set_option maxRecDepth 20000 in
noncomputable def q_Ro_orderOf : mI := (⟨"PorterDoors$Rounds", "orderOf", "(LPorterDoors$Hall;I)I"⟩, prog_8_method_3_code, 8, (some .int), 7, 735, 136, 1, 2, 733, 734)
theorem y_Ro_orderOf : mT[114]? = some q_Ro_orderOf := mT_at_2 (k := 34) rfl
noncomputable def bl_Ro_orderOf : List (Nat × List mO) := [(0, [o0 (.aload_n 0), o2 (.getfield 18) 7 0, o2 (.getfield 26) 4 10, o0 (.iload_n 2), o0 (.ishr), o0 (.iconst 1), o0 (.iand), o1 (.ifCond .eq 7) 18, o0 (.iconst 1), o1 (.goto 4) 19]),
  (18, [o0 (.iconst 0)]),
  (19, [o0 (.istore_n 3), o0 (.iload_n 3), o1 (.ifCond .eq 12) 33, o0 (.aload_n 1), o2 (.getfield 32) 2 0, o0 (.iconst 0), o0 (.iaload), o1 (.goto 4) 34]),
  (33, [o0 (.iconst 0)]),
  (34, [o0 (.istore 4), o0 (.iload 4), o0 (.bipush 64), o0 (.irem), o0 (.bipush 10), o0 (.imul), o0 (.iload_n 2), o0 (.iadd), o0 (.istore 5), o0 (.aload_n 0), o2 (.getfield 15) 7 3, o0 (.iload 5), o0 (.iaload), o0 (.iload 4), o0 (.iconst 1), o0 (.iadd), o1 (.if_icmp .ne 11) 70, o0 (.aload_n 0), o2 (.getfield 11) 7 2, o0 (.iload 5), o0 (.iaload), o0 (.ireturn)]),
  (70, [o0 (.iconst 0), o0 (.istore 6), o0 (.iconst 0), o0 (.istore 7)]),
  (76, [o0 (.iload 7), o0 (.aload_n 0), o2 (.getfield 18) 7 0, o2 (.getfield 37) 4 0, o1 (.if_icmp .ge 70) 155, o0 (.aload_n 0), o2 (.getfield 22) 7 1, o0 (.aload_n 1), o0 (.iload 7), o0 (.aload_n 0), o2 (.getfield 18) 7 0, o2 (.getfield 40) 4 2, o2 (.invokevirtual 43) 136 4, o0 (.aload_n 0), o2 (.getfield 22) 7 1, o0 (.aload_n 0), o2 (.getfield 18) 7 0, o2 (.getfield 49) 4 7, o0 (.aload_n 0), o2 (.getfield 18) 7 0, o2 (.getfield 53) 4 8, o0 (.iload_n 2), o0 (.iaload), o0 (.aload_n 0), o2 (.getfield 18) 7 0, o2 (.getfield 56) 4 9, o0 (.iload_n 2), o0 (.iaload), o2 (.invokevirtual 59) 137 4, o1 (.ifCond .eq 12) 149, o0 (.iload 6), o0 (.iconst 1), o0 (.iload 7), o0 (.ishl), o0 (.ior), o0 (.istore 6)]),
  (149, [o0 (.iinc 7 1), o1 (.goto (-76)) 76]),
  (155, [o0 (.aload_n 0), o2 (.getfield 11) 7 2, o0 (.iload 5), o0 (.iload 6), o0 (.iastore), o0 (.aload_n 0), o2 (.getfield 15) 7 3, o0 (.iload 5), o0 (.iload 4), o0 (.iconst 1), o0 (.iadd), o0 (.iastore), o0 (.iload 6), o0 (.ireturn)])]
theorem bk_Ro_orderOf : okBlks q_Ro_orderOf bl_Ro_orderOf = true := by decide +kernel
noncomputable def oL_Ro_orderOf {ρ : Type} (N : Nat) : List (Nat × (List Value → mS → (Option Value → mS → Option ρ) → Option ρ)) := [(136, C_Su_standAt N), (137, C_Su_worth N)]
theorem oo_Ro_orderOf {ρ : Type} {t0 : ρ} (N : Nat) : OrcOK Sx R0x oFx nx 4 t0 (mOrc (oL_Ro_orderOf N)) := mOrc_OK (List.forall_mem_cons.mpr ⟨cs_Su_standAt N (by decide), List.forall_mem_cons.mpr ⟨cs_Su_worth N (by decide), mz_nil⟩⟩)
noncomputable def H_Ro_orderOf_19 {ρ : Type} (k : (Nat × Int32 × Int32 × mS) → Option ρ) : mL → List Value → mS → Option ρ := fun loc st s => cR loc 0 29 (lr1 loc 1 fun v0 => li1 loc 2 fun v1 => pi1 st fun w0 r0 => rv0 r0 (k (v0, v1, w0, s)))
noncomputable def H_Ro_orderOf_34 {ρ : Type} (k : (Nat × Int32 × Int32 × mS) → Option ρ) : mL → List Value → mS → Option ρ := fun loc st s => cR loc 0 29 (lr1 loc 1 fun v0 => li1 loc 2 fun v1 => pi1 st fun w0 r0 => rv0 r0 (k (v0, v1, w0, s)))
noncomputable def H_Ro_orderOf_76 {ρ : Type} (k : (Nat × Int32 × Int32 × Int32 × Int32 × Int32 × mS) → Option ρ) : mL → List Value → mS → Option ρ := fun loc st s => cR loc 0 29 (lr1 loc 1 fun v0 => li1 loc 2 fun v1 => li1 loc 4 fun v2 => li1 loc 5 fun v3 => li1 loc 6 fun v4 => li1 loc 7 fun v5 => rv0 st (k (v0, v1, v2, v3, v4, v5, s)))
noncomputable def f_Ro_orderOf_L76 (N : Nat) (k76 : (Nat × Int32 × Int32 × Int32 × Int32 × Int32 × mS) → Option (Int32 × mS)) (x : Nat × Int32 × Int32 × Int32 × Int32 × Int32 × mS) : Option (Int32 × mS) :=
  if x.2.2.2.2.2.1 < (gI x.2.2.2.2.2.2 400 2) then
    (f_Su_standAt N x.1 x.2.2.2.2.2.1 (gI x.2.2.2.2.2.2 402 2) x.2.2.2.2.2.2).bind fun p3 =>
    grd (inb x.2.1 12) (
    grd (inb x.2.1 12) (
    (f_Su_worth N 5 (gA p3 7 (ix x.2.1)) (gA p3 8 (ix x.2.1)) p3).bind fun p4 =>
    if p4.1 = 0 then
      k76 (x.1, x.2.1, x.2.2.1, x.2.2.2.1, x.2.2.2.2.1, (x.2.2.2.2.2.1 + 1), p4.2)
    else
      k76 (x.1, x.2.1, x.2.2.1, x.2.2.2.1, (x.2.2.2.2.1 ||| (ils 1 x.2.2.2.2.2.1)), (x.2.2.2.2.2.1 + 1), p4.2)))
  else
    grd (inb x.2.2.2.1 640) (
    let s1 := sA x.2.2.2.2.2.2 30 (ix x.2.2.2.1) x.2.2.2.2.1
    grd (inb x.2.2.2.1 640) (
    let s2 := sA s1 31 (ix x.2.2.2.1) (x.2.2.1 + 1)
    some (x.2.2.2.2.1, s2)))
set_option maxRecDepth 100000 in
set_option maxHeartbeats 4000000 in
theorem t_Ro_orderOf_76 (N : Nat) {x9 : Int32} {s9 : mS} {k76 : (Nat × Int32 × Int32 × Int32 × Int32 × Int32 × mS) → Option (Int32 × mS)} (hk76 : SCd Sx R0x oFx nx 4 q_Ro_orderOf (some (.int x9), s9) (x9, s9) 76 (H_Ro_orderOf_76 k76)) : SCd Sx R0x oFx nx 4 q_Ro_orderOf (some (.int x9), s9) (x9, s9) 76 (H_Ro_orderOf_76 (f_Ro_orderOf_L76 N k76)) := by
  intro loc st s
  refine G_cR (fun h0 => ?_)
  refine G_lr (fun v0 h1 => ?_)
  refine G_li (fun v1 h2 => ?_)
  refine G_li (fun v2 h4 => ?_)
  refine G_li (fun v3 h5 => ?_)
  refine G_li (fun v4 h6 => ?_)
  refine G_li (fun v5 h7 => ?_)
  refine G_rv0 (fun e9 => ?_)
  subst e9
  refine G_sub (loc0 := [(0, .ref 29), (1, .ref v0), (2, .int v1), (4, .int v2), (5, .int v3), (6, .int v4), (7, .int v5)]) (List.forall_mem_cons.mpr ⟨h0, List.forall_mem_cons.mpr ⟨h1, List.forall_mem_cons.mpr ⟨h2, List.forall_mem_cons.mpr ⟨h4, List.forall_mem_cons.mpr ⟨h5, List.forall_mem_cons.mpr ⟨h6, List.forall_mem_cons.mpr ⟨h7, mz_nil⟩⟩⟩⟩⟩⟩⟩) ?_
  exact G_eq (mEv_G (orc := mOrc (oL_Ro_orderOf N)) (ret := rtI) (blks := bl_Ro_orderOf) (cuts := [(76, H_Ro_orderOf_76 k76)]) wOKx (by decide) (oo_Ro_orderOf N) (RetOK_I rfl) bk_Ro_orderOf (List.forall_mem_cons.mpr ⟨hk76, mz_nil⟩)) rfl
theorem s_Ro_orderOf_76 (N : Nat) {x9 : Int32} {s9 : mS} : SCd Sx R0x oFx nx 4 q_Ro_orderOf (some (.int x9), s9) (x9, s9) 76 (H_Ro_orderOf_76 (mfix N (f_Ro_orderOf_L76 N))) := by
  refine mfix_SC (H := H_Ro_orderOf_76) (fun loc st s => ?_) (fun k hk => t_Ro_orderOf_76 N hk) N
  refine G_cR (fun h0 => ?_)
  refine G_lr (fun v0 h1 => ?_)
  refine G_li (fun v1 h2 => ?_)
  refine G_li (fun v2 h4 => ?_)
  refine G_li (fun v3 h5 => ?_)
  refine G_li (fun v4 h6 => ?_)
  refine G_li (fun v5 h7 => ?_)
  refine G_rv0 (fun e9 => ?_)
  subst e9
  exact G_none
noncomputable def f_Ro_orderOf_j34 (N : Nat) (x : Nat × Int32 × Int32 × mS) : Option (Int32 × mS) :=
  grd (inb (((irm x.2.2.1 64) * 10) + x.2.1) 640) (
  if (gA x.2.2.2 31 (ix (((irm x.2.2.1 64) * 10) + x.2.1))) = (x.2.2.1 + 1) then
    grd (inb (((irm x.2.2.1 64) * 10) + x.2.1) 640) (
    some ((gA x.2.2.2 30 (ix (((irm x.2.2.1 64) * 10) + x.2.1))), x.2.2.2))
  else
    mfix N (f_Ro_orderOf_L76 N) (x.1, x.2.1, x.2.2.1, (((irm x.2.2.1 64) * 10) + x.2.1), 0, 0, x.2.2.2))
set_option maxRecDepth 100000 in
set_option maxHeartbeats 4000000 in
theorem s_Ro_orderOf_34 (N : Nat) {x9 : Int32} {s9 : mS} : SCd Sx R0x oFx nx 4 q_Ro_orderOf (some (.int x9), s9) (x9, s9) 34 (H_Ro_orderOf_34 (f_Ro_orderOf_j34 N)) := by
  intro loc st s
  refine G_cR (fun h0 => ?_)
  refine G_lr (fun v0 h1 => ?_)
  refine G_li (fun v1 h2 => ?_)
  refine G_pi (fun w0 r0 e0 => ?_)
  refine G_rv0 (fun e9 => ?_)
  subst e9
  subst e0
  refine G_sub (loc0 := [(0, .ref 29), (1, .ref v0), (2, .int v1)]) (List.forall_mem_cons.mpr ⟨h0, List.forall_mem_cons.mpr ⟨h1, List.forall_mem_cons.mpr ⟨h2, mz_nil⟩⟩⟩) ?_
  exact G_eq (mEv_G (orc := mOrc (oL_Ro_orderOf N)) (ret := rtI) (blks := bl_Ro_orderOf) (cuts := [(76, H_Ro_orderOf_76 (mfix N (f_Ro_orderOf_L76 N)))]) wOKx (by decide) (oo_Ro_orderOf N) (RetOK_I rfl) bk_Ro_orderOf (List.forall_mem_cons.mpr ⟨s_Ro_orderOf_76 N, mz_nil⟩)) rfl
noncomputable def f_Ro_orderOf_j19 (N : Nat) (x : Nat × Int32 × Int32 × mS) : Option (Int32 × mS) :=
  if x.2.2.1 = 0 then
    f_Ro_orderOf_j34 N (x.1, x.2.1, 0, x.2.2.2)
  else
    grd (isO Sx x.1 2) (
    grd (inb 0 (aln Sx 0 (x.1 + 1))) (
    f_Ro_orderOf_j34 N (x.1, x.2.1, (gA x.2.2.2 (x.1 + 1) 0), x.2.2.2)))
set_option maxRecDepth 100000 in
set_option maxHeartbeats 4000000 in
theorem s_Ro_orderOf_19 (N : Nat) {x9 : Int32} {s9 : mS} : SCd Sx R0x oFx nx 4 q_Ro_orderOf (some (.int x9), s9) (x9, s9) 19 (H_Ro_orderOf_19 (f_Ro_orderOf_j19 N)) := by
  intro loc st s
  refine G_cR (fun h0 => ?_)
  refine G_lr (fun v0 h1 => ?_)
  refine G_li (fun v1 h2 => ?_)
  refine G_pi (fun w0 r0 e0 => ?_)
  refine G_rv0 (fun e9 => ?_)
  subst e9
  subst e0
  refine G_sub (loc0 := [(0, .ref 29), (1, .ref v0), (2, .int v1)]) (List.forall_mem_cons.mpr ⟨h0, List.forall_mem_cons.mpr ⟨h1, List.forall_mem_cons.mpr ⟨h2, mz_nil⟩⟩⟩) ?_
  exact G_eq (mEv_G (orc := mOrc (oL_Ro_orderOf N)) (ret := rtI) (blks := bl_Ro_orderOf) (cuts := [(34, H_Ro_orderOf_34 (f_Ro_orderOf_j34 N))]) wOKx (by decide) (oo_Ro_orderOf N) (RetOK_I rfl) bk_Ro_orderOf (List.forall_mem_cons.mpr ⟨s_Ro_orderOf_34 N, mz_nil⟩)) rfl
noncomputable def f_Ro_orderOf (N : Nat) (a1 : Nat) (a2 : Int32) (s : mS) : Option (Int32 × mS) :=
  if ((irs (gI s 410 2) a2) &&& 1) = 0 then
    f_Ro_orderOf_j19 N (a1, a2, 0, s)
  else
    f_Ro_orderOf_j19 N (a1, a2, 1, s)
set_option maxRecDepth 100000 in
set_option maxHeartbeats 4000000 in
theorem m_Ro_orderOf (N : Nat) {x9 : Int32} {s9 : mS} (a1 : Nat) (a2 : Int32) {s : mS} (h : f_Ro_orderOf N a1 a2 s = some (x9, s9)) : MetM Sx R0x oFx nx 4 114 [.ref 29, .ref a1, .int a2] s (some (.int x9)) s9 := by
  refine met_of_G (q := q_Ro_orderOf) (t0 := (x9, s9)) y_Ro_orderOf (Nat.le_of_ble_eq_true rfl) ?_
  rw [← h]
  exact G_eq (mEv_G (orc := mOrc (oL_Ro_orderOf N)) (ret := rtI) (blks := bl_Ro_orderOf) (cuts := [(19, H_Ro_orderOf_19 (f_Ro_orderOf_j19 N))]) wOKx (by decide) (oo_Ro_orderOf N) (RetOK_I rfl) bk_Ro_orderOf (List.forall_mem_cons.mpr ⟨s_Ro_orderOf_19 N, mz_nil⟩)) rfl
noncomputable def C_Ro_orderOf {ρ : Type} (N : Nat) : List Value → mS → (Option Value → mS → Option ρ) → Option ρ := fun vs s kk => sR vs 29 fun r0 => pr1 r0 fun a1 r1 => pi1 r1 fun a2 r2 => rv0 r2 ((f_Ro_orderOf N a1 a2 s).bind fun p => kk (some (.int p.1)) p.2)
theorem cs_Ro_orderOf {ρ : Type} {t0 : ρ} {d : Nat} (N : Nat) (hd : 4 + 1 ≤ d) : CallOK Sx R0x oFx nx d t0 114 (C_Ro_orderOf N) := by
  intro vs s kk h0
  obtain ⟨r0, rfl, h1⟩ := sR_some h0
  obtain ⟨a1, r1, rfl, h2⟩ := pr1_some h1
  obtain ⟨a2, r2, rfl, h3⟩ := pi1_some h2
  obtain ⟨rfl, h4⟩ := rv0_some h3
  obtain ⟨p, hp, hk⟩ := Option.bind_eq_some_iff.mp h4
  exact ⟨_, _, _, hd, m_Ro_orderOf N a1 a2 hp, hk, fun qy hq hf => by cases y_Ro_orderOf.symm.trans hq; exact ⟨_, _, rfl, rfl⟩⟩
/-! METHOD PorterDoors.portersOf(I)I -/
set_option maxRecDepth 20000 in
noncomputable def q_X_portersOf : mI := (⟨"PorterDoors", "portersOf", "(I)I"⟩, prog_1_method_50_code, 4, (some .int), 0, 731, 129, 1, 1, 730, 23)
theorem y_X_portersOf : mT[15]? = some q_X_portersOf := mT_at_0 (k := 15) rfl
noncomputable def bl_X_portersOf : List (Nat × List mO) := [(0, [o0 (.iconst 0), o0 (.istore_n 2), o0 (.iconst 0), o0 (.istore_n 3)]),
  (4, [o0 (.iload_n 3), o0 (.aload_n 0), o2 (.getfield 20) 0 2, o2 (.getfield 159) 4 1, o1 (.if_icmp .ge 28) 40, o0 (.iload_n 2), o0 (.aload_n 0), o2 (.getfield 72) 0 10, o0 (.aload_n 0), o2 (.getfield 46) 0 6, o0 (.iload_n 3), o2 (.invokevirtual 204) 114 3, o0 (.iload_n 1), o0 (.ishr), o0 (.iconst 1), o0 (.iand), o0 (.iadd), o0 (.istore_n 2), o0 (.iinc 3 1), o1 (.goto (-33)) 4]),
  (40, [o0 (.iload_n 2), o0 (.ireturn)])]
theorem bk_X_portersOf : okBlks q_X_portersOf bl_X_portersOf = true := by decide +kernel
noncomputable def oL_X_portersOf {ρ : Type} (N : Nat) : List (Nat × (List Value → mS → (Option Value → mS → Option ρ) → Option ρ)) := [(114, C_Ro_orderOf N)]
theorem oo_X_portersOf {ρ : Type} {t0 : ρ} (N : Nat) : OrcOK Sx R0x oFx nx 5 t0 (mOrc (oL_X_portersOf N)) := mOrc_OK (List.forall_mem_cons.mpr ⟨cs_Ro_orderOf N (by decide), mz_nil⟩)
noncomputable def H_X_portersOf_4 {ρ : Type} (k : (Int32 × Int32 × Int32 × mS) → Option ρ) : mL → List Value → mS → Option ρ := fun loc st s => cR loc 0 0 (li1 loc 1 fun v0 => li1 loc 2 fun v1 => li1 loc 3 fun v2 => rv0 st (k (v0, v1, v2, s)))
noncomputable def f_X_portersOf_L4 (N : Nat) (k4 : (Int32 × Int32 × Int32 × mS) → Option (Int32 × mS)) (x : Int32 × Int32 × Int32 × mS) : Option (Int32 × mS) :=
  if x.2.2.1 < (gI x.2.2.2 401 2) then
    (f_Ro_orderOf N 19 x.2.2.1 x.2.2.2).bind fun p1 =>
    k4 (x.1, (x.2.1 + ((irs p1.1 x.1) &&& 1)), (x.2.2.1 + 1), p1.2)
  else
    some (x.2.1, x.2.2.2)
set_option maxRecDepth 100000 in
set_option maxHeartbeats 4000000 in
theorem t_X_portersOf_4 (N : Nat) {x9 : Int32} {s9 : mS} {k4 : (Int32 × Int32 × Int32 × mS) → Option (Int32 × mS)} (hk4 : SCd Sx R0x oFx nx 5 q_X_portersOf (some (.int x9), s9) (x9, s9) 4 (H_X_portersOf_4 k4)) : SCd Sx R0x oFx nx 5 q_X_portersOf (some (.int x9), s9) (x9, s9) 4 (H_X_portersOf_4 (f_X_portersOf_L4 N k4)) := by
  intro loc st s
  refine G_cR (fun h0 => ?_)
  refine G_li (fun v0 h1 => ?_)
  refine G_li (fun v1 h2 => ?_)
  refine G_li (fun v2 h3 => ?_)
  refine G_rv0 (fun e9 => ?_)
  subst e9
  refine G_sub (loc0 := [(0, .ref 0), (1, .int v0), (2, .int v1), (3, .int v2)]) (List.forall_mem_cons.mpr ⟨h0, List.forall_mem_cons.mpr ⟨h1, List.forall_mem_cons.mpr ⟨h2, List.forall_mem_cons.mpr ⟨h3, mz_nil⟩⟩⟩⟩) ?_
  exact G_eq (mEv_G (orc := mOrc (oL_X_portersOf N)) (ret := rtI) (blks := bl_X_portersOf) (cuts := [(4, H_X_portersOf_4 k4)]) wOKx (by decide) (oo_X_portersOf N) (RetOK_I rfl) bk_X_portersOf (List.forall_mem_cons.mpr ⟨hk4, mz_nil⟩)) rfl
theorem s_X_portersOf_4 (N : Nat) {x9 : Int32} {s9 : mS} : SCd Sx R0x oFx nx 5 q_X_portersOf (some (.int x9), s9) (x9, s9) 4 (H_X_portersOf_4 (mfix N (f_X_portersOf_L4 N))) := by
  refine mfix_SC (H := H_X_portersOf_4) (fun loc st s => ?_) (fun k hk => t_X_portersOf_4 N hk) N
  refine G_cR (fun h0 => ?_)
  refine G_li (fun v0 h1 => ?_)
  refine G_li (fun v1 h2 => ?_)
  refine G_li (fun v2 h3 => ?_)
  refine G_rv0 (fun e9 => ?_)
  subst e9
  exact G_none
noncomputable def f_X_portersOf (N : Nat) (a1 : Int32) (s : mS) : Option (Int32 × mS) :=
  mfix N (f_X_portersOf_L4 N) (a1, 0, 0, s)
set_option maxRecDepth 100000 in
set_option maxHeartbeats 4000000 in
theorem m_X_portersOf (N : Nat) {x9 : Int32} {s9 : mS} (a1 : Int32) {s : mS} (h : f_X_portersOf N a1 s = some (x9, s9)) : MetM Sx R0x oFx nx 5 15 [.ref 0, .int a1] s (some (.int x9)) s9 := by
  refine met_of_G (q := q_X_portersOf) (t0 := (x9, s9)) y_X_portersOf (Nat.le_of_ble_eq_true rfl) ?_
  rw [← h]
  exact G_eq (mEv_G (orc := mOrc (oL_X_portersOf N)) (ret := rtI) (blks := bl_X_portersOf) (cuts := [(4, H_X_portersOf_4 (mfix N (f_X_portersOf_L4 N)))]) wOKx (by decide) (oo_X_portersOf N) (RetOK_I rfl) bk_X_portersOf (List.forall_mem_cons.mpr ⟨s_X_portersOf_4 N, mz_nil⟩)) rfl
noncomputable def C_X_portersOf {ρ : Type} (N : Nat) : List Value → mS → (Option Value → mS → Option ρ) → Option ρ := fun vs s kk => sR vs 0 fun r0 => pi1 r0 fun a1 r1 => rv0 r1 ((f_X_portersOf N a1 s).bind fun p => kk (some (.int p.1)) p.2)
theorem cs_X_portersOf {ρ : Type} {t0 : ρ} {d : Nat} (N : Nat) (hd : 5 + 1 ≤ d) : CallOK Sx R0x oFx nx d t0 15 (C_X_portersOf N) := by
  intro vs s kk h0
  obtain ⟨r0, rfl, h1⟩ := sR_some h0
  obtain ⟨a1, r1, rfl, h2⟩ := pi1_some h1
  obtain ⟨rfl, h3⟩ := rv0_some h2
  obtain ⟨p, hp, hk⟩ := Option.bind_eq_some_iff.mp h3
  exact ⟨_, _, _, hd, m_X_portersOf N a1 hp, hk, fun qy hq hf => by cases y_X_portersOf.symm.trans hq; exact ⟨_, _, rfl, rfl⟩⟩
/-! METHOD PorterDoors.door(II)I -/
set_option maxRecDepth 20000 in
noncomputable def q_X_door : mI := (⟨"PorterDoors", "door", "(II)I"⟩, prog_1_method_8_code, 3, (some .int), 0, 719, 129, 1, 2, 717, 718)
theorem y_X_door : mT[13]? = some q_X_door := mT_at_0 (k := 13) rfl
noncomputable def bl_X_door : List (Nat × List mO) := [(0, [o0 (.aload_n 0), o0 (.iload_n 1), o2 (.invokevirtual 190) 14 2, o1 (.ifCond .ne 5) 10, o0 (.iconst (-1)), o0 (.ireturn)]),
  (10, [o0 (.iload_n 2), oS (.tableswitch 97 0 4 #[33, 42, 55, 67, 91]) 108 [44, 53, 66, 78, 102]]),
  (44, [o0 (.aload_n 0), o2 (.getfield 46) 0 6, o0 (.iload_n 1), o2 (.invokevirtual 193) 70 2, o0 (.ireturn)]),
  (53, [o0 (.aload_n 0), o2 (.getfield 46) 0 6, o2 (.getfield 162) 2 0, o0 (.bipush 28), o0 (.iload_n 1), o0 (.iadd), o0 (.iaload), o0 (.ireturn)]),
  (66, [o0 (.aload_n 0), o2 (.getfield 46) 0 6, o2 (.getfield 162) 2 0, o0 (.iconst 4), o0 (.iload_n 1), o0 (.iadd), o0 (.iaload), o0 (.ireturn)]),
  (78, [o0 (.aload_n 0), o2 (.getfield 46) 0 6, o0 (.iload_n 1), o0 (.aload_n 0), o2 (.getfield 20) 0 2, o2 (.getfield 171) 4 2, o2 (.invokevirtual 197) 68 3, o1 (.ifCond .eq 7) 100, o0 (.iconst 1), o1 (.goto 4) 101]),
  (100, [o0 (.iconst 0)]),
  (101, [o0 (.ireturn)]),
  (102, [o0 (.aload_n 0), o0 (.iload_n 1), o2 (.invokevirtual 201) 15 2, o0 (.ireturn)]),
  (108, [o0 (.iconst (-1)), o0 (.ireturn)])]
theorem bk_X_door : okBlks q_X_door bl_X_door = true := by decide +kernel
noncomputable def oL_X_door {ρ : Type} (N : Nat) : List (Nat × (List Value → mS → (Option Value → mS → Option ρ) → Option ρ)) := [(14, C_X_isDoor N), (70, C_Ha_isOpen N), (68, C_Ha_isJammed N), (15, C_X_portersOf N)]
theorem oo_X_door {ρ : Type} {t0 : ρ} (N : Nat) : OrcOK Sx R0x oFx nx 6 t0 (mOrc (oL_X_door N)) := mOrc_OK (List.forall_mem_cons.mpr ⟨cs_X_isDoor N (by decide), List.forall_mem_cons.mpr ⟨cs_Ha_isOpen N (by decide), List.forall_mem_cons.mpr ⟨cs_Ha_isJammed N (by decide), List.forall_mem_cons.mpr ⟨cs_X_portersOf N (by decide), mz_nil⟩⟩⟩⟩)
noncomputable def f_X_door (N : Nat) (a1 : Int32) (a2 : Int32) (s : mS) : Option (Int32 × mS) :=
  (f_X_isDoor N a1 s).bind fun p1 =>
  if p1.1 = 0 then
    some ((-1), p1.2)
  else
    if a2 = 0 then
      (f_Ha_isOpen N 19 a1 p1.2).bind fun p2 =>
      some (p2.1, p2.2)
    else if a2 = 1 then
      grd (inb (28 + a1) 102) (
      some ((gA p1.2 20 (ix (28 + a1))), p1.2))
    else if a2 = 2 then
      grd (inb (4 + a1) 102) (
      some ((gA p1.2 20 (ix (4 + a1))), p1.2))
    else if a2 = 3 then
      (f_Ha_isJammed N 19 a1 (gI p1.2 402 2) p1.2).bind fun p3 =>
      if p3.1 = 0 then
        some (0, p3.2)
      else
        some (1, p3.2)
    else if a2 = 4 then
      (f_X_portersOf N a1 p1.2).bind fun p4 =>
      some (p4.1, p4.2)
    else
      some ((-1), p1.2)
set_option maxRecDepth 100000 in
set_option maxHeartbeats 4000000 in
theorem m_X_door (N : Nat) {x9 : Int32} {s9 : mS} (a1 : Int32) (a2 : Int32) {s : mS} (h : f_X_door N a1 a2 s = some (x9, s9)) : MetM Sx R0x oFx nx 6 13 [.ref 0, .int a1, .int a2] s (some (.int x9)) s9 := by
  refine met_of_G (q := q_X_door) (t0 := (x9, s9)) y_X_door (Nat.le_of_ble_eq_true rfl) ?_
  rw [← h]
  exact G_eq (mEv_G (orc := mOrc (oL_X_door N)) (ret := rtI) (blks := bl_X_door) (cuts := []) wOKx (by decide) (oo_X_door N) (RetOK_I rfl) bk_X_door (mz_nil)) rfl
noncomputable def C_X_door {ρ : Type} (N : Nat) : List Value → mS → (Option Value → mS → Option ρ) → Option ρ := fun vs s kk => sR vs 0 fun r0 => pi1 r0 fun a1 r1 => pi1 r1 fun a2 r2 => rv0 r2 ((f_X_door N a1 a2 s).bind fun p => kk (some (.int p.1)) p.2)
theorem cs_X_door {ρ : Type} {t0 : ρ} {d : Nat} (N : Nat) (hd : 6 + 1 ≤ d) : CallOK Sx R0x oFx nx d t0 13 (C_X_door N) := by
  intro vs s kk h0
  obtain ⟨r0, rfl, h1⟩ := sR_some h0
  obtain ⟨a1, r1, rfl, h2⟩ := pi1_some h1
  obtain ⟨a2, r2, rfl, h3⟩ := pi1_some h2
  obtain ⟨rfl, h4⟩ := rv0_some h3
  obtain ⟨p, hp, hk⟩ := Option.bind_eq_some_iff.mp h4
  exact ⟨_, _, _, hd, m_X_door N a1 a2 hp, hk, fun qy hq hf => by cases y_X_door.symm.trans hq; exact ⟨_, _, rfl, rfl⟩⟩
/-! METHOD PorterDoors$Sums.standWith(LPorterDoors$Hall;I)V -/
set_option maxRecDepth 20000 in
noncomputable def q_Su_standWith : mI := (⟨"PorterDoors$Sums", "standWith", "(LPorterDoors$Hall;I)V"⟩, prog_10_method_3_code, 3, none, 9, 785, 135, 1, 2, 783, 784)
theorem y_Su_standWith : mT[141]? = some q_Su_standWith := mT_at_3 (k := 21) rfl
noncomputable def bl_Su_standWith : List (Nat × List mO) := [(0, [o0 (.aload_n 0), o2 (.getfield 11) 9 0, o0 (.bipush 13), o0 (.aload_n 1), o2 (.getfield 27) 2 0, o0 (.iconst 0), o0 (.iaload), o0 (.iastore), o0 (.aload_n 0), o2 (.getfield 11) 9 0, o0 (.bipush 12), o0 (.iload_n 2), o0 (.iastore), o0 (.aload_n 0), o2 (.getfield 11) 9 0, o0 (.bipush 14), o0 (.aload_n 1), o2 (.invokevirtual 40) 67 1, o0 (.iastore), o0 (.aload_n 0), o2 (.getfield 11) 9 0, o0 (.bipush 15), o0 (.aload_n 1), o2 (.getfield 27) 2 0, o0 (.bipush 52), o0 (.iload_n 2), o0 (.iadd), o0 (.iaload), o0 (.iastore), o0 (.return_)])]
theorem bk_Su_standWith : okBlks q_Su_standWith bl_Su_standWith = true := by decide +kernel
noncomputable def oL_Su_standWith {ρ : Type} (N : Nat) : List (Nat × (List Value → mS → (Option Value → mS → Option ρ) → Option ρ)) := [(67, C_Ha_opened N)]
theorem oo_Su_standWith {ρ : Type} {t0 : ρ} (N : Nat) : OrcOK Sx R0x oFx nx 3 t0 (mOrc (oL_Su_standWith N)) := mOrc_OK (List.forall_mem_cons.mpr ⟨cs_Ha_opened N (by decide), mz_nil⟩)
noncomputable def f_Su_standWith (N : Nat) (a1 : Nat) (a2 : Int32) (s : mS) : Option (mS) :=
  grd (isO Sx a1 2) (
  grd (inb 0 (aln Sx 0 (a1 + 1))) (
  let s1 := sA s 26 13 (gA s (a1 + 1) 0)
  let s2 := sA s1 26 12 a2
  grd (isO Sx a1 2) (
  (f_Ha_opened N a1 s2).bind fun p3 =>
  let s4 := sA p3.2 26 14 p3.1
  grd (isO Sx a1 2) (
  grd (inb (52 + a2) (aln Sx 0 (a1 + 1))) (
  let s5 := sA s4 26 15 (gA s4 (a1 + 1) (ix (52 + a2)))
  some s5)))))
set_option maxRecDepth 100000 in
set_option maxHeartbeats 4000000 in
theorem m_Su_standWith (N : Nat) {s9 : mS} (a1 : Nat) (a2 : Int32) {s : mS} (h : f_Su_standWith N a1 a2 s = some s9) : MetM Sx R0x oFx nx 3 141 [.ref 25, .ref a1, .int a2] s (none) s9 := by
  refine met_of_G (q := q_Su_standWith) (t0 := s9) y_Su_standWith (Nat.le_of_ble_eq_true rfl) ?_
  rw [← h]
  exact G_eq (mEv_G (orc := mOrc (oL_Su_standWith N)) (ret := rtV) (blks := bl_Su_standWith) (cuts := []) wOKx (by decide) (oo_Su_standWith N) (RetOK_V rfl) bk_Su_standWith (mz_nil)) rfl
noncomputable def C_Su_standWith {ρ : Type} (N : Nat) : List Value → mS → (Option Value → mS → Option ρ) → Option ρ := fun vs s kk => sR vs 25 fun r0 => pr1 r0 fun a1 r1 => pi1 r1 fun a2 r2 => rv0 r2 ((f_Su_standWith N a1 a2 s).bind fun p => kk none p)
theorem cs_Su_standWith {ρ : Type} {t0 : ρ} {d : Nat} (N : Nat) (hd : 3 + 1 ≤ d) : CallOK Sx R0x oFx nx d t0 141 (C_Su_standWith N) := by
  intro vs s kk h0
  obtain ⟨r0, rfl, h1⟩ := sR_some h0
  obtain ⟨a1, r1, rfl, h2⟩ := pr1_some h1
  obtain ⟨a2, r2, rfl, h3⟩ := pi1_some h2
  obtain ⟨rfl, h4⟩ := rv0_some h3
  obtain ⟨p, hp, hk⟩ := Option.bind_eq_some_iff.mp h4
  exact ⟨_, _, _, hd, m_Su_standWith N a1 a2 hp, hk, fun qy hq hf => by cases y_Su_standWith.symm.trans hq; exact ⟨_, _, rfl, rfl⟩⟩
/-! METHOD PorterDoors$Rounds.isWilling(LPorterDoors$Hall;I)Z -/
set_option maxRecDepth 20000 in
noncomputable def q_Ro_isWilling : mI := (⟨"PorterDoors$Rounds", "isWilling", "(LPorterDoors$Hall;I)Z"⟩, prog_8_method_5_code, 3, (some .boolean), 7, 781, 136, 1, 2, 779, 780)
theorem y_Ro_isWilling : mT[115]? = some q_Ro_isWilling := mT_at_2 (k := 35) rfl
noncomputable def bl_Ro_isWilling : List (Nat × List mO) := [(0, [o0 (.aload_n 0), o2 (.getfield 22) 7 1, o0 (.aload_n 1), o0 (.iload_n 2), o2 (.invokevirtual 74) 141 3, o0 (.aload_n 0), o2 (.getfield 22) 7 1, o0 (.aload_n 0), o2 (.getfield 18) 7 0, o2 (.getfield 49) 4 7, o0 (.aload_n 0), o2 (.getfield 18) 7 0, o2 (.getfield 53) 4 8, o0 (.bipush 10), o0 (.iaload), o0 (.aload_n 0), o2 (.getfield 18) 7 0, o2 (.getfield 56) 4 9, o0 (.bipush 10), o0 (.iaload), o2 (.invokevirtual 59) 137 4, o1 (.ifCond .eq 7) 50, o0 (.iconst 1), o1 (.goto 4) 51]),
  (50, [o0 (.iconst 0)]),
  (51, [o0 (.ireturn)])]
theorem bk_Ro_isWilling : okBlks q_Ro_isWilling bl_Ro_isWilling = true := by decide +kernel
noncomputable def oL_Ro_isWilling {ρ : Type} (N : Nat) : List (Nat × (List Value → mS → (Option Value → mS → Option ρ) → Option ρ)) := [(141, C_Su_standWith N), (137, C_Su_worth N)]
theorem oo_Ro_isWilling {ρ : Type} {t0 : ρ} (N : Nat) : OrcOK Sx R0x oFx nx 4 t0 (mOrc (oL_Ro_isWilling N)) := mOrc_OK (List.forall_mem_cons.mpr ⟨cs_Su_standWith N (by decide), List.forall_mem_cons.mpr ⟨cs_Su_worth N (by decide), mz_nil⟩⟩)
noncomputable def f_Ro_isWilling (N : Nat) (a1 : Nat) (a2 : Int32) (s : mS) : Option (Int32 × mS) :=
  (f_Su_standWith N a1 a2 s).bind fun p1 =>
  (f_Su_worth N 5 (gA p1 7 10) (gA p1 8 10) p1).bind fun p2 =>
  if p2.1 = 0 then
    some (0, p2.2)
  else
    some (1, p2.2)
set_option maxRecDepth 100000 in
set_option maxHeartbeats 4000000 in
theorem m_Ro_isWilling (N : Nat) {x9 : Int32} {s9 : mS} (a1 : Nat) (a2 : Int32) {s : mS} (h : f_Ro_isWilling N a1 a2 s = some (x9, s9)) : MetM Sx R0x oFx nx 4 115 [.ref 29, .ref a1, .int a2] s (some (.int x9)) s9 := by
  refine met_of_G (q := q_Ro_isWilling) (t0 := (x9, s9)) y_Ro_isWilling (Nat.le_of_ble_eq_true rfl) ?_
  rw [← h]
  exact G_eq (mEv_G (orc := mOrc (oL_Ro_isWilling N)) (ret := rtZ) (blks := bl_Ro_isWilling) (cuts := []) wOKx (by decide) (oo_Ro_isWilling N) (RetOK_Z rfl) bk_Ro_isWilling (mz_nil)) rfl
noncomputable def C_Ro_isWilling {ρ : Type} (N : Nat) : List Value → mS → (Option Value → mS → Option ρ) → Option ρ := fun vs s kk => sR vs 29 fun r0 => pr1 r0 fun a1 r1 => pi1 r1 fun a2 r2 => rv0 r2 ((f_Ro_isWilling N a1 a2 s).bind fun p => kk (some (.int p.1)) p.2)
theorem cs_Ro_isWilling {ρ : Type} {t0 : ρ} {d : Nat} (N : Nat) (hd : 4 + 1 ≤ d) : CallOK Sx R0x oFx nx d t0 115 (C_Ro_isWilling N) := by
  intro vs s kk h0
  obtain ⟨r0, rfl, h1⟩ := sR_some h0
  obtain ⟨a1, r1, rfl, h2⟩ := pr1_some h1
  obtain ⟨a2, r2, rfl, h3⟩ := pi1_some h2
  obtain ⟨rfl, h4⟩ := rv0_some h3
  obtain ⟨p, hp, hk⟩ := Option.bind_eq_some_iff.mp h4
  exact ⟨_, _, _, hd, m_Ro_isWilling N a1 a2 hp, hk, fun qy hq hf => by cases y_Ro_isWilling.symm.trans hq; exact ⟨_, _, rfl, rfl⟩⟩
/-! METHOD PorterDoors.porter(II)I -/
set_option maxRecDepth 20000 in
noncomputable def q_X_porter : mI := (⟨"PorterDoors", "porter", "(II)I"⟩, prog_1_method_9_code, 3, (some .int), 0, 776, 129, 1, 2, 774, 775)
theorem y_X_porter : mT[16]? = some q_X_porter := mT_at_0 (k := 16) rfl
noncomputable def bl_X_porter : List (Nat × List mO) := [(0, [o0 (.aload_n 0), o0 (.iload_n 1), o2 (.invokevirtual 183) 12 2, o1 (.ifCond .ne 5) 10, o0 (.iconst (-1)), o0 (.ireturn)]),
  (10, [o0 (.iload_n 2), oS (.tableswitch 75 0 2 #[25, 38, 54]) 86 [36, 49, 65]]),
  (36, [o0 (.aload_n 0), o2 (.getfield 46) 0 6, o2 (.getfield 162) 2 0, o0 (.bipush 52), o0 (.iload_n 1), o0 (.iadd), o0 (.iaload), o0 (.ireturn)]),
  (49, [o0 (.aload_n 0), o2 (.getfield 72) 0 10, o0 (.aload_n 0), o2 (.getfield 46) 0 6, o0 (.iload_n 1), o2 (.invokevirtual 204) 114 3, o2 (.invokestatic 208) 276 1, o0 (.ireturn)]),
  (65, [o0 (.aload_n 0), o2 (.getfield 72) 0 10, o0 (.aload_n 0), o2 (.getfield 46) 0 6, o0 (.iload_n 1), o2 (.invokevirtual 213) 115 3, o1 (.ifCond .eq 7) 84, o0 (.iconst 1), o1 (.goto 4) 85]),
  (84, [o0 (.iconst 0)]),
  (85, [o0 (.ireturn)]),
  (86, [o0 (.iconst (-1)), o0 (.ireturn)])]
theorem bk_X_porter : okBlks q_X_porter bl_X_porter = true := by decide +kernel
noncomputable def oL_X_porter {ρ : Type} (N : Nat) : List (Nat × (List Value → mS → (Option Value → mS → Option ρ) → Option ρ)) := [(12, C_X_isPorter N), (114, C_Ro_orderOf N), (276, C_Int_bitCount N), (115, C_Ro_isWilling N)]
theorem oo_X_porter {ρ : Type} {t0 : ρ} (N : Nat) : OrcOK Sx R0x oFx nx 5 t0 (mOrc (oL_X_porter N)) := mOrc_OK (List.forall_mem_cons.mpr ⟨cs_X_isPorter N (by decide), List.forall_mem_cons.mpr ⟨cs_Ro_orderOf N (by decide), List.forall_mem_cons.mpr ⟨cs_Int_bitCount N wOKx (by decide), List.forall_mem_cons.mpr ⟨cs_Ro_isWilling N (by decide), mz_nil⟩⟩⟩⟩)
noncomputable def f_X_porter (N : Nat) (a1 : Int32) (a2 : Int32) (s : mS) : Option (Int32 × mS) :=
  (f_X_isPorter N a1 s).bind fun p1 =>
  if p1.1 = 0 then
    some ((-1), p1.2)
  else
    if a2 = 0 then
      grd (inb (52 + a1) 102) (
      some ((gA p1.2 20 (ix (52 + a1))), p1.2))
    else if a2 = 1 then
      (f_Ro_orderOf N 19 a1 p1.2).bind fun p2 =>
      (f_Int_bitCount N p2.1 p2.2).bind fun p3 =>
      some (p3.1, p3.2)
    else if a2 = 2 then
      (f_Ro_isWilling N 19 a1 p1.2).bind fun p4 =>
      if p4.1 = 0 then
        some (0, p4.2)
      else
        some (1, p4.2)
    else
      some ((-1), p1.2)
set_option maxRecDepth 100000 in
set_option maxHeartbeats 4000000 in
theorem m_X_porter (N : Nat) {x9 : Int32} {s9 : mS} (a1 : Int32) (a2 : Int32) {s : mS} (h : f_X_porter N a1 a2 s = some (x9, s9)) : MetM Sx R0x oFx nx 5 16 [.ref 0, .int a1, .int a2] s (some (.int x9)) s9 := by
  refine met_of_G (q := q_X_porter) (t0 := (x9, s9)) y_X_porter (Nat.le_of_ble_eq_true rfl) ?_
  rw [← h]
  exact G_eq (mEv_G (orc := mOrc (oL_X_porter N)) (ret := rtI) (blks := bl_X_porter) (cuts := []) wOKx (by decide) (oo_X_porter N) (RetOK_I rfl) bk_X_porter (mz_nil)) rfl
noncomputable def C_X_porter {ρ : Type} (N : Nat) : List Value → mS → (Option Value → mS → Option ρ) → Option ρ := fun vs s kk => sR vs 0 fun r0 => pi1 r0 fun a1 r1 => pi1 r1 fun a2 r2 => rv0 r2 ((f_X_porter N a1 a2 s).bind fun p => kk (some (.int p.1)) p.2)
theorem cs_X_porter {ρ : Type} {t0 : ρ} {d : Nat} (N : Nat) (hd : 5 + 1 ≤ d) : CallOK Sx R0x oFx nx d t0 16 (C_X_porter N) := by
  intro vs s kk h0
  obtain ⟨r0, rfl, h1⟩ := sR_some h0
  obtain ⟨a1, r1, rfl, h2⟩ := pi1_some h1
  obtain ⟨a2, r2, rfl, h3⟩ := pi1_some h2
  obtain ⟨rfl, h4⟩ := rv0_some h3
  obtain ⟨p, hp, hk⟩ := Option.bind_eq_some_iff.mp h4
  exact ⟨_, _, _, hd, m_X_porter N a1 a2 hp, hk, fun qy hq hf => by cases y_X_porter.symm.trans hq; exact ⟨_, _, rfl, rfl⟩⟩
/-! METHOD PorterDoors.order(I)I -/
set_option maxRecDepth 20000 in
noncomputable def q_X_order : mI := (⟨"PorterDoors", "order", "(I)I"⟩, prog_1_method_10_code, 2, (some .int), 0, 790, 129, 1, 1, 788, 789)
theorem y_X_order : mT[17]? = some q_X_order := mT_at_0 (k := 17) rfl
noncomputable def bl_X_order : List (Nat × List mO) := [(0, [o0 (.aload_n 0), o0 (.iload_n 1), o2 (.invokevirtual 183) 12 2, o1 (.ifCond .eq 18) 23, o0 (.aload_n 0), o2 (.getfield 72) 0 10, o0 (.aload_n 0), o2 (.getfield 46) 0 6, o0 (.iload_n 1), o2 (.invokevirtual 204) 114 3, o1 (.goto 4) 24]),
  (23, [o0 (.iconst (-1))]),
  (24, [o0 (.ireturn)])]
theorem bk_X_order : okBlks q_X_order bl_X_order = true := by decide +kernel
noncomputable def oL_X_order {ρ : Type} (N : Nat) : List (Nat × (List Value → mS → (Option Value → mS → Option ρ) → Option ρ)) := [(12, C_X_isPorter N), (114, C_Ro_orderOf N)]
theorem oo_X_order {ρ : Type} {t0 : ρ} (N : Nat) : OrcOK Sx R0x oFx nx 5 t0 (mOrc (oL_X_order N)) := mOrc_OK (List.forall_mem_cons.mpr ⟨cs_X_isPorter N (by decide), List.forall_mem_cons.mpr ⟨cs_Ro_orderOf N (by decide), mz_nil⟩⟩)
noncomputable def f_X_order (N : Nat) (a1 : Int32) (s : mS) : Option (Int32 × mS) :=
  (f_X_isPorter N a1 s).bind fun p1 =>
  if p1.1 = 0 then
    some ((-1), p1.2)
  else
    (f_Ro_orderOf N 19 a1 p1.2).bind fun p2 =>
    some (p2.1, p2.2)
set_option maxRecDepth 100000 in
set_option maxHeartbeats 4000000 in
theorem m_X_order (N : Nat) {x9 : Int32} {s9 : mS} (a1 : Int32) {s : mS} (h : f_X_order N a1 s = some (x9, s9)) : MetM Sx R0x oFx nx 5 17 [.ref 0, .int a1] s (some (.int x9)) s9 := by
  refine met_of_G (q := q_X_order) (t0 := (x9, s9)) y_X_order (Nat.le_of_ble_eq_true rfl) ?_
  rw [← h]
  exact G_eq (mEv_G (orc := mOrc (oL_X_order N)) (ret := rtI) (blks := bl_X_order) (cuts := []) wOKx (by decide) (oo_X_order N) (RetOK_I rfl) bk_X_order (mz_nil)) rfl
noncomputable def C_X_order {ρ : Type} (N : Nat) : List Value → mS → (Option Value → mS → Option ρ) → Option ρ := fun vs s kk => sR vs 0 fun r0 => pi1 r0 fun a1 r1 => rv0 r1 ((f_X_order N a1 s).bind fun p => kk (some (.int p.1)) p.2)
theorem cs_X_order {ρ : Type} {t0 : ρ} {d : Nat} (N : Nat) (hd : 5 + 1 ≤ d) : CallOK Sx R0x oFx nx d t0 17 (C_X_order N) := by
  intro vs s kk h0
  obtain ⟨r0, rfl, h1⟩ := sR_some h0
  obtain ⟨a1, r1, rfl, h2⟩ := pi1_some h1
  obtain ⟨rfl, h3⟩ := rv0_some h2
  obtain ⟨p, hp, hk⟩ := Option.bind_eq_some_iff.mp h3
  exact ⟨_, _, _, hd, m_X_order N a1 hp, hk, fun qy hq hf => by cases y_X_order.symm.trans hq; exact ⟨_, _, rfl, rfl⟩⟩
/-! METHOD PorterDoors$Hall.keptAt(II)I -/
set_option maxRecDepth 20000 in
noncomputable def q_Ha_keptAt : mI := (⟨"PorterDoors$Hall", "keptAt", "(II)I"⟩, prog_3_method_10_code, 5, (some .int), 2, 798, 133, 1, 2, 796, 797)
theorem y_Ha_keptAt : mT[71]? = some q_Ha_keptAt := mT_at_1 (k := 31) rfl
noncomputable def bl_Ha_keptAt : List (Nat × List mO) := [(0, [o0 (.aload_n 0), o2 (.getfield 11) 2 0, o0 (.bipush 62), o0 (.aload_n 0), o2 (.getfield 11) 2 0, o0 (.iconst 3), o0 (.iaload), o0 (.aload_n 0), o2 (.invokevirtual 46) 69 1, o0 (.isub), o0 (.iload_n 1), o0 (.iadd), o0 (.bipush 40), o0 (.irem), o0 (.iadd), o0 (.iaload), o0 (.istore_n 3), o0 (.bipush 25), o0 (.istore 4), o0 (.iload_n 2), oS (.tableswitch 47 0 2 #[26, 34, 42]) 77 [56, 64, 72]]),
  (56, [o0 (.iload_n 3), o0 (.iload 4), o0 (.idiv), o0 (.bipush 10), o0 (.idiv), o0 (.ireturn)]),
  (64, [o0 (.iload_n 3), o0 (.iload 4), o0 (.idiv), o0 (.bipush 10), o0 (.irem), o0 (.ireturn)]),
  (72, [o0 (.iload_n 3), o0 (.iload 4), o0 (.irem), o0 (.ireturn)]),
  (77, [o0 (.iconst (-1)), o0 (.ireturn)])]
theorem bk_Ha_keptAt : okBlks q_Ha_keptAt bl_Ha_keptAt = true := by decide +kernel
noncomputable def oL_Ha_keptAt {ρ : Type} (N : Nat) : List (Nat × (List Value → mS → (Option Value → mS → Option ρ) → Option ρ)) := [(69, C_Ha_keptTold N)]
theorem oo_Ha_keptAt {ρ : Type} {t0 : ρ} (N : Nat) : OrcOK Sx R0x oFx nx 3 t0 (mOrc (oL_Ha_keptAt N)) := mOrc_OK (List.forall_mem_cons.mpr ⟨cs_Ha_keptTold N (by decide), mz_nil⟩)
noncomputable def f_Ha_keptAt (N : Nat) (a0 : Nat) (a1 : Int32) (a2 : Int32) (s : mS) : Option (Int32 × mS) :=
  grd (isO Sx a0 2) (
  grd (isO Sx a0 2) (
  grd (inb 3 (aln Sx 0 (a0 + 1))) (
  grd (isO Sx a0 2) (
  (f_Ha_keptTold N a0 s).bind fun p1 =>
  grd (inb (62 + (irm (((gA s (a0 + 1) 3) - p1.1) + a1) 40)) (aln Sx 0 (a0 + 1))) (
  let v2 := (gA p1.2 (a0 + 1) (ix (62 + (irm (((gA s (a0 + 1) 3) - p1.1) + a1) 40))))
  if a2 = 0 then
    some (((v2 / 25) / 10), p1.2)
  else if a2 = 1 then
    some ((irm (v2 / 25) 10), p1.2)
  else if a2 = 2 then
    some ((irm v2 25), p1.2)
  else
    some ((-1), p1.2))))))
set_option maxRecDepth 100000 in
set_option maxHeartbeats 4000000 in
theorem m_Ha_keptAt (N : Nat) {x9 : Int32} {s9 : mS} (a0 : Nat) (a1 : Int32) (a2 : Int32) {s : mS} (h : f_Ha_keptAt N a0 a1 a2 s = some (x9, s9)) : MetM Sx R0x oFx nx 3 71 [.ref a0, .int a1, .int a2] s (some (.int x9)) s9 := by
  refine met_of_G (q := q_Ha_keptAt) (t0 := (x9, s9)) y_Ha_keptAt (Nat.le_of_ble_eq_true rfl) ?_
  rw [← h]
  exact G_eq (mEv_G (orc := mOrc (oL_Ha_keptAt N)) (ret := rtI) (blks := bl_Ha_keptAt) (cuts := []) wOKx (by decide) (oo_Ha_keptAt N) (RetOK_I rfl) bk_Ha_keptAt (mz_nil)) rfl
noncomputable def C_Ha_keptAt {ρ : Type} (N : Nat) : List Value → mS → (Option Value → mS → Option ρ) → Option ρ := fun vs s kk => pr1 vs fun a0 r0 => grd (isO Sx a0 2) (pi1 r0 fun a1 r1 => pi1 r1 fun a2 r2 => rv0 r2 ((f_Ha_keptAt N a0 a1 a2 s).bind fun p => kk (some (.int p.1)) p.2))
theorem cs_Ha_keptAt {ρ : Type} {t0 : ρ} {d : Nat} (N : Nat) (hd : 3 + 1 ≤ d) : CallOK Sx R0x oFx nx d t0 71 (C_Ha_keptAt N) := by
  intro vs s kk h0
  obtain ⟨a0, r0, rfl, h1⟩ := pr1_some h0
  obtain ⟨ho, h2⟩ := grd_some h1
  obtain ⟨a1, r1, rfl, h3⟩ := pi1_some h2
  obtain ⟨a2, r2, rfl, h4⟩ := pi1_some h3
  obtain ⟨rfl, h5⟩ := rv0_some h4
  obtain ⟨p, hp, hk⟩ := Option.bind_eq_some_iff.mp h5
  exact ⟨_, _, _, hd, m_Ha_keptAt N a0 a1 a2 hp, hk, fun qy hq hf => by cases y_Ha_keptAt.symm.trans hq; exact ⟨_, _, rfl, isO_spec ho⟩⟩
/-! METHOD PorterDoors.kept(II)I -/
set_option maxRecDepth 20000 in
noncomputable def q_X_kept : mI := (⟨"PorterDoors", "kept", "(II)I"⟩, prog_1_method_11_code, 3, (some .int), 0, 794, 129, 1, 2, 792, 793)
theorem y_X_kept : mT[18]? = some q_X_kept := mT_at_0 (k := 18) rfl
noncomputable def bl_X_kept : List (Nat × List mO) := [(0, [o0 (.iload_n 1), o1 (.ifCond .lt 26) 27, o0 (.iload_n 1), o0 (.aload_n 0), o2 (.getfield 46) 0 6, o2 (.invokevirtual 174) 69 1, o1 (.if_icmp .ge 15) 27, o0 (.aload_n 0), o2 (.getfield 46) 0 6, o0 (.iload_n 1), o0 (.iload_n 2), o2 (.invokevirtual 217) 71 3, o1 (.goto 4) 28]),
  (27, [o0 (.iconst (-1))]),
  (28, [o0 (.ireturn)])]
theorem bk_X_kept : okBlks q_X_kept bl_X_kept = true := by decide +kernel
noncomputable def oL_X_kept {ρ : Type} (N : Nat) : List (Nat × (List Value → mS → (Option Value → mS → Option ρ) → Option ρ)) := [(69, C_Ha_keptTold N), (71, C_Ha_keptAt N)]
theorem oo_X_kept {ρ : Type} {t0 : ρ} (N : Nat) : OrcOK Sx R0x oFx nx 4 t0 (mOrc (oL_X_kept N)) := mOrc_OK (List.forall_mem_cons.mpr ⟨cs_Ha_keptTold N (by decide), List.forall_mem_cons.mpr ⟨cs_Ha_keptAt N (by decide), mz_nil⟩⟩)
noncomputable def f_X_kept (N : Nat) (a1 : Int32) (a2 : Int32) (s : mS) : Option (Int32 × mS) :=
  if a1 < 0 then
    some ((-1), s)
  else
    (f_Ha_keptTold N 19 s).bind fun p1 =>
    if a1 < p1.1 then
      (f_Ha_keptAt N 19 a1 a2 p1.2).bind fun p2 =>
      some (p2.1, p2.2)
    else
      some ((-1), p1.2)
set_option maxRecDepth 100000 in
set_option maxHeartbeats 4000000 in
theorem m_X_kept (N : Nat) {x9 : Int32} {s9 : mS} (a1 : Int32) (a2 : Int32) {s : mS} (h : f_X_kept N a1 a2 s = some (x9, s9)) : MetM Sx R0x oFx nx 4 18 [.ref 0, .int a1, .int a2] s (some (.int x9)) s9 := by
  refine met_of_G (q := q_X_kept) (t0 := (x9, s9)) y_X_kept (Nat.le_of_ble_eq_true rfl) ?_
  rw [← h]
  exact G_eq (mEv_G (orc := mOrc (oL_X_kept N)) (ret := rtI) (blks := bl_X_kept) (cuts := []) wOKx (by decide) (oo_X_kept N) (RetOK_I rfl) bk_X_kept (mz_nil)) rfl
noncomputable def C_X_kept {ρ : Type} (N : Nat) : List Value → mS → (Option Value → mS → Option ρ) → Option ρ := fun vs s kk => sR vs 0 fun r0 => pi1 r0 fun a1 r1 => pi1 r1 fun a2 r2 => rv0 r2 ((f_X_kept N a1 a2 s).bind fun p => kk (some (.int p.1)) p.2)
theorem cs_X_kept {ρ : Type} {t0 : ρ} {d : Nat} (N : Nat) (hd : 4 + 1 ≤ d) : CallOK Sx R0x oFx nx d t0 18 (C_X_kept N) := by
  intro vs s kk h0
  obtain ⟨r0, rfl, h1⟩ := sR_some h0
  obtain ⟨a1, r1, rfl, h2⟩ := pi1_some h1
  obtain ⟨a2, r2, rfl, h3⟩ := pi1_some h2
  obtain ⟨rfl, h4⟩ := rv0_some h3
  obtain ⟨p, hp, hk⟩ := Option.bind_eq_some_iff.mp h4
  exact ⟨_, _, _, hd, m_X_kept N a1 a2 hp, hk, fun qy hq hf => by cases y_X_kept.symm.trans hq; exact ⟨_, _, rfl, rfl⟩⟩
/-! METHOD PorterDoors.isTold()Z -/
set_option maxRecDepth 20000 in
noncomputable def q_X_isTold : mI := (⟨"PorterDoors", "isTold", "()Z"⟩, prog_1_method_41_code, 1, (some .boolean), 0, 807, 129, 1, 0, 806, 25)
theorem y_X_isTold : mT[20]? = some q_X_isTold := mT_at_0 (k := 20) rfl
noncomputable def bl_X_isTold : List (Nat × List mO) := [(0, [o0 (.aload_n 0), o2 (.getfield 20) 0 2, o2 (.getfield 156) 4 0, o1 (.ifCond .le 7) 14, o0 (.iconst 1), o1 (.goto 4) 15]),
  (14, [o0 (.iconst 0)]),
  (15, [o0 (.ireturn)])]
theorem bk_X_isTold : okBlks q_X_isTold bl_X_isTold = true := by decide +kernel
noncomputable def oL_X_isTold {ρ : Type} (N : Nat) : List (Nat × (List Value → mS → (Option Value → mS → Option ρ) → Option ρ)) := []
theorem oo_X_isTold {ρ : Type} {t0 : ρ} (N : Nat) : OrcOK Sx R0x oFx nx 1 t0 (mOrc (oL_X_isTold N)) := mOrc_OK (mz_nil)
noncomputable def f_X_isTold (N : Nat) (s : mS) : Option (Int32 × mS) :=
  if 0 < (gI s 400 2) then
    some (1, s)
  else
    some (0, s)
set_option maxRecDepth 100000 in
set_option maxHeartbeats 4000000 in
theorem m_X_isTold (N : Nat) {x9 : Int32} {s9 : mS} {s : mS} (h : f_X_isTold N s = some (x9, s9)) : MetM Sx R0x oFx nx 1 20 [.ref 0] s (some (.int x9)) s9 := by
  refine met_of_G (q := q_X_isTold) (t0 := (x9, s9)) y_X_isTold (Nat.le_of_ble_eq_true rfl) ?_
  rw [← h]
  exact G_eq (mEv_G (orc := mOrc (oL_X_isTold N)) (ret := rtZ) (blks := bl_X_isTold) (cuts := []) wOKx (by decide) (oo_X_isTold N) (RetOK_Z rfl) bk_X_isTold (mz_nil)) rfl
noncomputable def C_X_isTold {ρ : Type} (N : Nat) : List Value → mS → (Option Value → mS → Option ρ) → Option ρ := fun vs s kk => sR vs 0 fun r0 => rv0 r0 ((f_X_isTold N s).bind fun p => kk (some (.int p.1)) p.2)
theorem cs_X_isTold {ρ : Type} {t0 : ρ} {d : Nat} (N : Nat) (hd : 1 + 1 ≤ d) : CallOK Sx R0x oFx nx d t0 20 (C_X_isTold N) := by
  intro vs s kk h0
  obtain ⟨r0, rfl, h1⟩ := sR_some h0
  obtain ⟨rfl, h2⟩ := rv0_some h1
  obtain ⟨p, hp, hk⟩ := Option.bind_eq_some_iff.mp h2
  exact ⟨_, _, _, hd, m_X_isTold N hp, hk, fun qy hq hf => by cases y_X_isTold.symm.trans hq; exact ⟨_, _, rfl, rfl⟩⟩
/-! METHOD PorterDoors$Hall.copy(LPorterDoors$Hall;)V -/
set_option maxRecDepth 20000 in
noncomputable def q_Ha_copy : mI := (⟨"PorterDoors$Hall", "copy", "(LPorterDoors$Hall;)V"⟩, prog_3_method_3_code, 2, none, 2, 815, 133, 1, 1, 813, 814)
theorem y_Ha_copy : mT[72]? = some q_Ha_copy := mT_at_1 (k := 32) rfl
noncomputable def bl_Ha_copy : List (Nat × List mO) := [(0, [o0 (.aload_n 1), o2 (.getfield 11) 2 0, o0 (.iconst 0), o0 (.aload_n 0), o2 (.getfield 11) 2 0, o0 (.iconst 0), o0 (.bipush 102), o2 (.invokestatic 24) 9999 0, o0 (.return_)])]
theorem bk_Ha_copy : okBlks q_Ha_copy bl_Ha_copy = true := by decide +kernel
noncomputable def oL_Ha_copy {ρ : Type} (N : Nat) : List (Nat × (List Value → mS → (Option Value → mS → Option ρ) → Option ρ)) := []
theorem oo_Ha_copy {ρ : Type} {t0 : ρ} (N : Nat) : OrcOK Sx R0x oFx nx 1 t0 (mOrc (oL_Ha_copy N)) := mOrc_OK (mz_nil)
noncomputable def f_Ha_copy (N : Nat) (a0 : Nat) (a1 : Nat) (s : mS) : Option (mS) :=
  grd (isO Sx a1 2) (
  grd (isO Sx a0 2) (
  grd (Nat.blt 0 (aln Sx 0 (a1 + 1))) (
  grd (Nat.blt 0 (aln Sx 0 (a0 + 1))) (
  grd (Nat.ble (0 + 102) (aln Sx 0 (a1 + 1))) (
  grd (Nat.ble (0 + 102) (aln Sx 0 (a0 + 1))) (
  let s1 := sC s (a1 + 1) 0 (a0 + 1) 0 102
  some s1))))))
set_option maxRecDepth 100000 in
set_option maxHeartbeats 4000000 in
theorem m_Ha_copy (N : Nat) {s9 : mS} (a0 : Nat) (a1 : Nat) {s : mS} (h : f_Ha_copy N a0 a1 s = some s9) : MetM Sx R0x oFx nx 1 72 [.ref a0, .ref a1] s (none) s9 := by
  refine met_of_G (q := q_Ha_copy) (t0 := s9) y_Ha_copy (Nat.le_of_ble_eq_true rfl) ?_
  rw [← h]
  exact G_eq (mEv_G (orc := mOrc (oL_Ha_copy N)) (ret := rtV) (blks := bl_Ha_copy) (cuts := []) wOKx (by decide) (oo_Ha_copy N) (RetOK_V rfl) bk_Ha_copy (mz_nil)) rfl
noncomputable def C_Ha_copy {ρ : Type} (N : Nat) : List Value → mS → (Option Value → mS → Option ρ) → Option ρ := fun vs s kk => pr1 vs fun a0 r0 => grd (isO Sx a0 2) (pr1 r0 fun a1 r1 => rv0 r1 ((f_Ha_copy N a0 a1 s).bind fun p => kk none p))
theorem cs_Ha_copy {ρ : Type} {t0 : ρ} {d : Nat} (N : Nat) (hd : 1 + 1 ≤ d) : CallOK Sx R0x oFx nx d t0 72 (C_Ha_copy N) := by
  intro vs s kk h0
  obtain ⟨a0, r0, rfl, h1⟩ := pr1_some h0
  obtain ⟨ho, h2⟩ := grd_some h1
  obtain ⟨a1, r1, rfl, h3⟩ := pr1_some h2
  obtain ⟨rfl, h4⟩ := rv0_some h3
  obtain ⟨p, hp, hk⟩ := Option.bind_eq_some_iff.mp h4
  exact ⟨_, _, _, hd, m_Ha_copy N a0 a1 hp, hk, fun qy hq hf => by cases y_Ha_copy.symm.trans hq; exact ⟨_, _, rfl, isO_spec ho⟩⟩
/-! METHOD PorterDoors$Hall.swing(II)Z -/
set_option maxRecDepth 20000 in
noncomputable def q_Ha_swing : mI := (⟨"PorterDoors$Hall", "swing", "(II)Z"⟩, prog_3_method_7_code, 3, (some .boolean), 2, 829, 133, 1, 2, 827, 828)
theorem y_Ha_swing : mT[73]? = some q_Ha_swing := mT_at_1 (k := 33) rfl
noncomputable def bl_Ha_swing : List (Nat × List mO) := [(0, [o0 (.aload_n 0), o0 (.iload_n 1), o0 (.iload_n 2), o2 (.invokevirtual 36) 68 3, o1 (.ifCond .eq 5) 11, o0 (.iconst 0), o0 (.ireturn)]),
  (11, [o0 (.aload_n 0), o2 (.getfield 11) 2 0, o0 (.iconst 2), o0 (.dup2), o0 (.iaload), o0 (.iconst 1), o0 (.iload_n 1), o0 (.ishl), o0 (.ixor), o0 (.iastore), o0 (.aload_n 0), o2 (.getfield 11) 2 0, o0 (.iconst 4), o0 (.iload_n 1), o0 (.iadd), o0 (.bipush 99), o0 (.aload_n 0), o2 (.getfield 11) 2 0, o0 (.iconst 4), o0 (.iload_n 1), o0 (.iadd), o0 (.iaload), o0 (.iconst 1), o0 (.iadd), o2 (.invokestatic 40) 277 2, o0 (.iastore), o0 (.iconst 1), o0 (.ireturn)])]
theorem bk_Ha_swing : okBlks q_Ha_swing bl_Ha_swing = true := by decide +kernel
noncomputable def oL_Ha_swing {ρ : Type} (N : Nat) : List (Nat × (List Value → mS → (Option Value → mS → Option ρ) → Option ρ)) := [(68, C_Ha_isJammed N), (277, C_Math_min N)]
theorem oo_Ha_swing {ρ : Type} {t0 : ρ} (N : Nat) : OrcOK Sx R0x oFx nx 2 t0 (mOrc (oL_Ha_swing N)) := mOrc_OK (List.forall_mem_cons.mpr ⟨cs_Ha_isJammed N (by decide), List.forall_mem_cons.mpr ⟨cs_Math_min N wOKx (by decide), mz_nil⟩⟩)
noncomputable def f_Ha_swing (N : Nat) (a0 : Nat) (a1 : Int32) (a2 : Int32) (s : mS) : Option (Int32 × mS) :=
  grd (isO Sx a0 2) (
  (f_Ha_isJammed N a0 a1 a2 s).bind fun p1 =>
  if p1.1 = 0 then
    grd (isO Sx a0 2) (
    grd (inb 2 (aln Sx 0 (a0 + 1))) (
    grd (inb 2 (aln Sx 0 (a0 + 1))) (
    let s2 := sA p1.2 (a0 + 1) 2 ((gA p1.2 (a0 + 1) 2) ^^^ (ils 1 a1))
    grd (isO Sx a0 2) (
    grd (isO Sx a0 2) (
    grd (inb (4 + a1) (aln Sx 0 (a0 + 1))) (
    (f_Math_min N 99 ((gA s2 (a0 + 1) (ix (4 + a1))) + 1) s2).bind fun p3 =>
    grd (inb (4 + a1) (aln Sx 0 (a0 + 1))) (
    let s4 := sA p3.2 (a0 + 1) (ix (4 + a1)) p3.1
    some (1, s4))))))))
  else
    some (0, p1.2))
set_option maxRecDepth 100000 in
set_option maxHeartbeats 4000000 in
theorem m_Ha_swing (N : Nat) {x9 : Int32} {s9 : mS} (a0 : Nat) (a1 : Int32) (a2 : Int32) {s : mS} (h : f_Ha_swing N a0 a1 a2 s = some (x9, s9)) : MetM Sx R0x oFx nx 2 73 [.ref a0, .int a1, .int a2] s (some (.int x9)) s9 := by
  refine met_of_G (q := q_Ha_swing) (t0 := (x9, s9)) y_Ha_swing (Nat.le_of_ble_eq_true rfl) ?_
  rw [← h]
  exact G_eq (mEv_G (orc := mOrc (oL_Ha_swing N)) (ret := rtZ) (blks := bl_Ha_swing) (cuts := []) wOKx (by decide) (oo_Ha_swing N) (RetOK_Z rfl) bk_Ha_swing (mz_nil)) rfl
noncomputable def C_Ha_swing {ρ : Type} (N : Nat) : List Value → mS → (Option Value → mS → Option ρ) → Option ρ := fun vs s kk => pr1 vs fun a0 r0 => grd (isO Sx a0 2) (pi1 r0 fun a1 r1 => pi1 r1 fun a2 r2 => rv0 r2 ((f_Ha_swing N a0 a1 a2 s).bind fun p => kk (some (.int p.1)) p.2))
theorem cs_Ha_swing {ρ : Type} {t0 : ρ} {d : Nat} (N : Nat) (hd : 2 + 1 ≤ d) : CallOK Sx R0x oFx nx d t0 73 (C_Ha_swing N) := by
  intro vs s kk h0
  obtain ⟨a0, r0, rfl, h1⟩ := pr1_some h0
  obtain ⟨ho, h2⟩ := grd_some h1
  obtain ⟨a1, r1, rfl, h3⟩ := pi1_some h2
  obtain ⟨a2, r2, rfl, h4⟩ := pi1_some h3
  obtain ⟨rfl, h5⟩ := rv0_some h4
  obtain ⟨p, hp, hk⟩ := Option.bind_eq_some_iff.mp h5
  exact ⟨_, _, _, hd, m_Ha_swing N a0 a1 a2 hp, hk, fun qy hq hf => by cases y_Ha_swing.symm.trans hq; exact ⟨_, _, rfl, isO_spec ho⟩⟩
/-! METHOD PorterDoors$Rounds.walk(LPorterDoors$Hall;I)I -/
set_option maxRecDepth 20000 in
noncomputable def q_Ro_walk : mI := (⟨"PorterDoors$Rounds", "walk", "(LPorterDoors$Hall;I)I"⟩, prog_8_method_6_code, 6, (some .int), 7, 824, 136, 1, 2, 822, 823)
theorem y_Ro_walk : mT[117]? = some q_Ro_walk := mT_at_2 (k := 37) rfl
noncomputable def bl_Ro_walk : List (Nat × List mO) := [(0, [o0 (.aload_n 0), o0 (.aload_n 1), o0 (.iload_n 2), o2 (.invokevirtual 67) 114 3, o0 (.istore_n 3), o0 (.iconst 0), o0 (.istore 4), o0 (.iconst 0), o0 (.istore 5)]),
  (13, [o0 (.iload 5), o0 (.aload_n 0), o2 (.getfield 18) 7 0, o2 (.getfield 37) 4 0, o1 (.if_icmp .ge 37) 59, o0 (.iload_n 3), o0 (.iload 5), o0 (.ishr), o0 (.iconst 1), o0 (.iand), o1 (.ifCond .eq 22) 53, o0 (.aload_n 1), o0 (.iload 5), o0 (.aload_n 0), o2 (.getfield 18) 7 0, o2 (.getfield 40) 4 2, o2 (.invokevirtual 78) 73 3, o1 (.ifCond .eq 6) 53, o0 (.iinc 4 1)]),
  (53, [o0 (.iinc 5 1), o1 (.goto (-43)) 13]),
  (59, [o0 (.iload 4), o0 (.ireturn)])]
theorem bk_Ro_walk : okBlks q_Ro_walk bl_Ro_walk = true := by decide +kernel
noncomputable def oL_Ro_walk {ρ : Type} (N : Nat) : List (Nat × (List Value → mS → (Option Value → mS → Option ρ) → Option ρ)) := [(114, C_Ro_orderOf N), (73, C_Ha_swing N)]
theorem oo_Ro_walk {ρ : Type} {t0 : ρ} (N : Nat) : OrcOK Sx R0x oFx nx 5 t0 (mOrc (oL_Ro_walk N)) := mOrc_OK (List.forall_mem_cons.mpr ⟨cs_Ro_orderOf N (by decide), List.forall_mem_cons.mpr ⟨cs_Ha_swing N (by decide), mz_nil⟩⟩)
noncomputable def H_Ro_walk_13 {ρ : Type} (k : (Nat × Int32 × Int32 × Int32 × mS) → Option ρ) : mL → List Value → mS → Option ρ := fun loc st s => cR loc 0 29 (lr1 loc 1 fun v0 => li1 loc 3 fun v1 => li1 loc 4 fun v2 => li1 loc 5 fun v3 => rv0 st (k (v0, v1, v2, v3, s)))
noncomputable def f_Ro_walk_L13 (N : Nat) (k13 : (Nat × Int32 × Int32 × Int32 × mS) → Option (Int32 × mS)) (x : Nat × Int32 × Int32 × Int32 × mS) : Option (Int32 × mS) :=
  if x.2.2.2.1 < (gI x.2.2.2.2 400 2) then
    if ((irs x.2.1 x.2.2.2.1) &&& 1) = 0 then
      k13 (x.1, x.2.1, x.2.2.1, (x.2.2.2.1 + 1), x.2.2.2.2)
    else
      grd (isO Sx x.1 2) (
      (f_Ha_swing N x.1 x.2.2.2.1 (gI x.2.2.2.2 402 2) x.2.2.2.2).bind fun p1 =>
      if p1.1 = 0 then
        k13 (x.1, x.2.1, x.2.2.1, (x.2.2.2.1 + 1), p1.2)
      else
        k13 (x.1, x.2.1, (x.2.2.1 + 1), (x.2.2.2.1 + 1), p1.2))
  else
    some (x.2.2.1, x.2.2.2.2)
set_option maxRecDepth 100000 in
set_option maxHeartbeats 4000000 in
theorem t_Ro_walk_13 (N : Nat) {x9 : Int32} {s9 : mS} {k13 : (Nat × Int32 × Int32 × Int32 × mS) → Option (Int32 × mS)} (hk13 : SCd Sx R0x oFx nx 5 q_Ro_walk (some (.int x9), s9) (x9, s9) 13 (H_Ro_walk_13 k13)) : SCd Sx R0x oFx nx 5 q_Ro_walk (some (.int x9), s9) (x9, s9) 13 (H_Ro_walk_13 (f_Ro_walk_L13 N k13)) := by
  intro loc st s
  refine G_cR (fun h0 => ?_)
  refine G_lr (fun v0 h1 => ?_)
  refine G_li (fun v1 h3 => ?_)
  refine G_li (fun v2 h4 => ?_)
  refine G_li (fun v3 h5 => ?_)
  refine G_rv0 (fun e9 => ?_)
  subst e9
  refine G_sub (loc0 := [(0, .ref 29), (1, .ref v0), (3, .int v1), (4, .int v2), (5, .int v3)]) (List.forall_mem_cons.mpr ⟨h0, List.forall_mem_cons.mpr ⟨h1, List.forall_mem_cons.mpr ⟨h3, List.forall_mem_cons.mpr ⟨h4, List.forall_mem_cons.mpr ⟨h5, mz_nil⟩⟩⟩⟩⟩) ?_
  exact G_eq (mEv_G (orc := mOrc (oL_Ro_walk N)) (ret := rtI) (blks := bl_Ro_walk) (cuts := [(13, H_Ro_walk_13 k13)]) wOKx (by decide) (oo_Ro_walk N) (RetOK_I rfl) bk_Ro_walk (List.forall_mem_cons.mpr ⟨hk13, mz_nil⟩)) rfl
theorem s_Ro_walk_13 (N : Nat) {x9 : Int32} {s9 : mS} : SCd Sx R0x oFx nx 5 q_Ro_walk (some (.int x9), s9) (x9, s9) 13 (H_Ro_walk_13 (mfix N (f_Ro_walk_L13 N))) := by
  refine mfix_SC (H := H_Ro_walk_13) (fun loc st s => ?_) (fun k hk => t_Ro_walk_13 N hk) N
  refine G_cR (fun h0 => ?_)
  refine G_lr (fun v0 h1 => ?_)
  refine G_li (fun v1 h3 => ?_)
  refine G_li (fun v2 h4 => ?_)
  refine G_li (fun v3 h5 => ?_)
  refine G_rv0 (fun e9 => ?_)
  subst e9
  exact G_none
noncomputable def f_Ro_walk (N : Nat) (a1 : Nat) (a2 : Int32) (s : mS) : Option (Int32 × mS) :=
  (f_Ro_orderOf N a1 a2 s).bind fun p1 =>
  mfix N (f_Ro_walk_L13 N) (a1, p1.1, 0, 0, p1.2)
set_option maxRecDepth 100000 in
set_option maxHeartbeats 4000000 in
theorem m_Ro_walk (N : Nat) {x9 : Int32} {s9 : mS} (a1 : Nat) (a2 : Int32) {s : mS} (h : f_Ro_walk N a1 a2 s = some (x9, s9)) : MetM Sx R0x oFx nx 5 117 [.ref 29, .ref a1, .int a2] s (some (.int x9)) s9 := by
  refine met_of_G (q := q_Ro_walk) (t0 := (x9, s9)) y_Ro_walk (Nat.le_of_ble_eq_true rfl) ?_
  rw [← h]
  exact G_eq (mEv_G (orc := mOrc (oL_Ro_walk N)) (ret := rtI) (blks := bl_Ro_walk) (cuts := [(13, H_Ro_walk_13 (mfix N (f_Ro_walk_L13 N)))]) wOKx (by decide) (oo_Ro_walk N) (RetOK_I rfl) bk_Ro_walk (List.forall_mem_cons.mpr ⟨s_Ro_walk_13 N, mz_nil⟩)) rfl
noncomputable def C_Ro_walk {ρ : Type} (N : Nat) : List Value → mS → (Option Value → mS → Option ρ) → Option ρ := fun vs s kk => sR vs 29 fun r0 => pr1 r0 fun a1 r1 => pi1 r1 fun a2 r2 => rv0 r2 ((f_Ro_walk N a1 a2 s).bind fun p => kk (some (.int p.1)) p.2)
theorem cs_Ro_walk {ρ : Type} {t0 : ρ} {d : Nat} (N : Nat) (hd : 5 + 1 ≤ d) : CallOK Sx R0x oFx nx d t0 117 (C_Ro_walk N) := by
  intro vs s kk h0
  obtain ⟨r0, rfl, h1⟩ := sR_some h0
  obtain ⟨a1, r1, rfl, h2⟩ := pr1_some h1
  obtain ⟨a2, r2, rfl, h3⟩ := pi1_some h2
  obtain ⟨rfl, h4⟩ := rv0_some h3
  obtain ⟨p, hp, hk⟩ := Option.bind_eq_some_iff.mp h4
  exact ⟨_, _, _, hd, m_Ro_walk N a1 a2 hp, hk, fun qy hq hf => by cases y_Ro_walk.symm.trans hq; exact ⟨_, _, rfl, rfl⟩⟩
/-! METHOD PorterDoors$Hall.keepWalk(II)V -/
set_option maxRecDepth 20000 in
noncomputable def q_Ha_keepWalk : mI := (⟨"PorterDoors$Hall", "keepWalk", "(II)V"⟩, prog_3_method_8_code, 4, none, 2, 834, 133, 1, 2, 832, 833)
theorem y_Ha_keepWalk : mT[74]? = some q_Ha_keepWalk := mT_at_1 (k := 34) rfl
noncomputable def bl_Ha_keepWalk : List (Nat × List mO) := [(0, [o0 (.bipush 62), o0 (.aload_n 0), o2 (.getfield 11) 2 0, o0 (.iconst 3), o0 (.iaload), o0 (.bipush 40), o0 (.irem), o0 (.iadd), o0 (.istore_n 3), o0 (.aload_n 0), o2 (.getfield 11) 2 0, o0 (.iload_n 3), o0 (.aload_n 0), o2 (.getfield 11) 2 0, o0 (.iconst 0), o0 (.iaload), o0 (.bipush 10), o0 (.imul), o0 (.iload_n 1), o0 (.iadd), o0 (.bipush 25), o0 (.imul), o0 (.iload_n 2), o0 (.iadd), o0 (.iastore), o0 (.aload_n 0), o2 (.getfield 11) 2 0, o0 (.iconst 3), o0 (.dup2), o0 (.iaload), o0 (.iconst 1), o0 (.iadd), o0 (.iastore), o0 (.return_)])]
theorem bk_Ha_keepWalk : okBlks q_Ha_keepWalk bl_Ha_keepWalk = true := by decide +kernel
noncomputable def oL_Ha_keepWalk {ρ : Type} (N : Nat) : List (Nat × (List Value → mS → (Option Value → mS → Option ρ) → Option ρ)) := []
theorem oo_Ha_keepWalk {ρ : Type} {t0 : ρ} (N : Nat) : OrcOK Sx R0x oFx nx 1 t0 (mOrc (oL_Ha_keepWalk N)) := mOrc_OK (mz_nil)
noncomputable def f_Ha_keepWalk (N : Nat) (a0 : Nat) (a1 : Int32) (a2 : Int32) (s : mS) : Option (mS) :=
  grd (isO Sx a0 2) (
  grd (inb 3 (aln Sx 0 (a0 + 1))) (
  grd (isO Sx a0 2) (
  grd (isO Sx a0 2) (
  grd (inb 0 (aln Sx 0 (a0 + 1))) (
  grd (inb (62 + (irm (gA s (a0 + 1) 3) 40)) (aln Sx 0 (a0 + 1))) (
  let s1 := sA s (a0 + 1) (ix (62 + (irm (gA s (a0 + 1) 3) 40))) (((((gA s (a0 + 1) 0) * 10) + a1) * 25) + a2)
  grd (isO Sx a0 2) (
  grd (inb 3 (aln Sx 0 (a0 + 1))) (
  grd (inb 3 (aln Sx 0 (a0 + 1))) (
  let s2 := sA s1 (a0 + 1) 3 ((gA s1 (a0 + 1) 3) + 1)
  some s2)))))))))
set_option maxRecDepth 100000 in
set_option maxHeartbeats 4000000 in
theorem m_Ha_keepWalk (N : Nat) {s9 : mS} (a0 : Nat) (a1 : Int32) (a2 : Int32) {s : mS} (h : f_Ha_keepWalk N a0 a1 a2 s = some s9) : MetM Sx R0x oFx nx 1 74 [.ref a0, .int a1, .int a2] s (none) s9 := by
  refine met_of_G (q := q_Ha_keepWalk) (t0 := s9) y_Ha_keepWalk (Nat.le_of_ble_eq_true rfl) ?_
  rw [← h]
  exact G_eq (mEv_G (orc := mOrc (oL_Ha_keepWalk N)) (ret := rtV) (blks := bl_Ha_keepWalk) (cuts := []) wOKx (by decide) (oo_Ha_keepWalk N) (RetOK_V rfl) bk_Ha_keepWalk (mz_nil)) rfl
noncomputable def C_Ha_keepWalk {ρ : Type} (N : Nat) : List Value → mS → (Option Value → mS → Option ρ) → Option ρ := fun vs s kk => pr1 vs fun a0 r0 => grd (isO Sx a0 2) (pi1 r0 fun a1 r1 => pi1 r1 fun a2 r2 => rv0 r2 ((f_Ha_keepWalk N a0 a1 a2 s).bind fun p => kk none p))
theorem cs_Ha_keepWalk {ρ : Type} {t0 : ρ} {d : Nat} (N : Nat) (hd : 1 + 1 ≤ d) : CallOK Sx R0x oFx nx d t0 74 (C_Ha_keepWalk N) := by
  intro vs s kk h0
  obtain ⟨a0, r0, rfl, h1⟩ := pr1_some h0
  obtain ⟨ho, h2⟩ := grd_some h1
  obtain ⟨a1, r1, rfl, h3⟩ := pi1_some h2
  obtain ⟨a2, r2, rfl, h4⟩ := pi1_some h3
  obtain ⟨rfl, h5⟩ := rv0_some h4
  obtain ⟨p, hp, hk⟩ := Option.bind_eq_some_iff.mp h5
  exact ⟨_, _, _, hd, m_Ha_keepWalk N a0 a1 a2 hp, hk, fun qy hq hf => by cases y_Ha_keepWalk.symm.trans hq; exact ⟨_, _, rfl, isO_spec ho⟩⟩
/-! METHOD PorterDoors$Rounds.comeCold(LPorterDoors$Hall;)V -/
set_option maxRecDepth 20000 in
noncomputable def q_Ro_comeCold : mI := (⟨"PorterDoors$Rounds", "comeCold", "(LPorterDoors$Hall;)V"⟩, prog_8_method_8_code, 5, none, 7, 839, 136, 1, 1, 838, 26)
theorem y_Ro_comeCold : mT[118]? = some q_Ro_comeCold := mT_at_2 (k := 38) rfl
noncomputable def bl_Ro_comeCold : List (Nat × List mO) := [(0, [o0 (.iconst 0), o0 (.istore_n 2)]),
  (2, [o0 (.iload_n 2), o0 (.aload_n 0), o2 (.getfield 18) 7 0, o2 (.getfield 37) 4 0, o1 (.if_icmp .ge 92) 102, o0 (.aload_n 0), o2 (.getfield 22) 7 1, o0 (.aload_n 1), o0 (.iload_n 2), o0 (.aload_n 0), o2 (.getfield 18) 7 0, o2 (.getfield 40) 4 2, o2 (.invokevirtual 43) 136 4, o0 (.aload_n 0), o2 (.getfield 22) 7 1, o0 (.aload_n 0), o2 (.getfield 18) 7 0, o2 (.getfield 49) 4 7, o0 (.aload_n 0), o2 (.getfield 18) 7 0, o2 (.getfield 53) 4 8, o0 (.bipush 11), o0 (.iaload), o0 (.aload_n 0), o2 (.getfield 18) 7 0, o2 (.getfield 56) 4 9, o0 (.bipush 11), o0 (.iaload), o2 (.invokevirtual 59) 137 4, o0 (.istore_n 3), o0 (.iconst 0), o0 (.bipush 99), o0 (.iload_n 3), o2 (.invokestatic 93) 277 2, o2 (.invokestatic 103) 278 2, o0 (.istore 4), o0 (.aload_n 1), o2 (.getfield 32) 2 0, o0 (.iconst 1), oC (.ldc 106) (.int 999999), o0 (.aload_n 1), o2 (.getfield 32) 2 0, o0 (.iconst 1), o0 (.iaload), o0 (.iload 4), o0 (.iadd), o2 (.invokestatic 93) 277 2, o0 (.iastore), o0 (.iinc 2 1), o1 (.goto (-97)) 2]),
  (102, [o0 (.return_)])]
theorem bk_Ro_comeCold : okBlks q_Ro_comeCold bl_Ro_comeCold = true := by decide +kernel
noncomputable def oL_Ro_comeCold {ρ : Type} (N : Nat) : List (Nat × (List Value → mS → (Option Value → mS → Option ρ) → Option ρ)) := [(136, C_Su_standAt N), (137, C_Su_worth N), (277, C_Math_min N), (278, C_Math_max N)]
theorem oo_Ro_comeCold {ρ : Type} {t0 : ρ} (N : Nat) : OrcOK Sx R0x oFx nx 4 t0 (mOrc (oL_Ro_comeCold N)) := mOrc_OK (List.forall_mem_cons.mpr ⟨cs_Su_standAt N (by decide), List.forall_mem_cons.mpr ⟨cs_Su_worth N (by decide), List.forall_mem_cons.mpr ⟨cs_Math_min N wOKx (by decide), List.forall_mem_cons.mpr ⟨cs_Math_max N wOKx (by decide), mz_nil⟩⟩⟩⟩)
noncomputable def H_Ro_comeCold_2 {ρ : Type} (k : (Nat × Int32 × mS) → Option ρ) : mL → List Value → mS → Option ρ := fun loc st s => cR loc 0 29 (lr1 loc 1 fun v0 => li1 loc 2 fun v1 => rv0 st (k (v0, v1, s)))
noncomputable def f_Ro_comeCold_L2 (N : Nat) (k2 : (Nat × Int32 × mS) → Option (mS)) (x : Nat × Int32 × mS) : Option (mS) :=
  if x.2.1 < (gI x.2.2 400 2) then
    (f_Su_standAt N x.1 x.2.1 (gI x.2.2 402 2) x.2.2).bind fun p1 =>
    (f_Su_worth N 5 (gA p1 7 11) (gA p1 8 11) p1).bind fun p2 =>
    (f_Math_min N 99 p2.1 p2.2).bind fun p3 =>
    (f_Math_max N 0 p3.1 p3.2).bind fun p4 =>
    grd (isO Sx x.1 2) (
    grd (isO Sx x.1 2) (
    grd (inb 1 (aln Sx 0 (x.1 + 1))) (
    (f_Math_min N 999999 ((gA p4.2 (x.1 + 1) 1) + p4.1) p4.2).bind fun p5 =>
    grd (inb 1 (aln Sx 0 (x.1 + 1))) (
    let s6 := sA p5.2 (x.1 + 1) 1 p5.1
    k2 (x.1, (x.2.1 + 1), s6)))))
  else
    some x.2.2
set_option maxRecDepth 100000 in
set_option maxHeartbeats 4000000 in
theorem t_Ro_comeCold_2 (N : Nat) {s9 : mS} {k2 : (Nat × Int32 × mS) → Option (mS)} (hk2 : SCd Sx R0x oFx nx 4 q_Ro_comeCold (none, s9) s9 2 (H_Ro_comeCold_2 k2)) : SCd Sx R0x oFx nx 4 q_Ro_comeCold (none, s9) s9 2 (H_Ro_comeCold_2 (f_Ro_comeCold_L2 N k2)) := by
  intro loc st s
  refine G_cR (fun h0 => ?_)
  refine G_lr (fun v0 h1 => ?_)
  refine G_li (fun v1 h2 => ?_)
  refine G_rv0 (fun e9 => ?_)
  subst e9
  refine G_sub (loc0 := [(0, .ref 29), (1, .ref v0), (2, .int v1)]) (List.forall_mem_cons.mpr ⟨h0, List.forall_mem_cons.mpr ⟨h1, List.forall_mem_cons.mpr ⟨h2, mz_nil⟩⟩⟩) ?_
  exact G_eq (mEv_G (orc := mOrc (oL_Ro_comeCold N)) (ret := rtV) (blks := bl_Ro_comeCold) (cuts := [(2, H_Ro_comeCold_2 k2)]) wOKx (by decide) (oo_Ro_comeCold N) (RetOK_V rfl) bk_Ro_comeCold (List.forall_mem_cons.mpr ⟨hk2, mz_nil⟩)) rfl
theorem s_Ro_comeCold_2 (N : Nat) {s9 : mS} : SCd Sx R0x oFx nx 4 q_Ro_comeCold (none, s9) s9 2 (H_Ro_comeCold_2 (mfix N (f_Ro_comeCold_L2 N))) := by
  refine mfix_SC (H := H_Ro_comeCold_2) (fun loc st s => ?_) (fun k hk => t_Ro_comeCold_2 N hk) N
  refine G_cR (fun h0 => ?_)
  refine G_lr (fun v0 h1 => ?_)
  refine G_li (fun v1 h2 => ?_)
  refine G_rv0 (fun e9 => ?_)
  subst e9
  exact G_none
noncomputable def f_Ro_comeCold (N : Nat) (a1 : Nat) (s : mS) : Option (mS) :=
  mfix N (f_Ro_comeCold_L2 N) (a1, 0, s)
set_option maxRecDepth 100000 in
set_option maxHeartbeats 4000000 in
theorem m_Ro_comeCold (N : Nat) {s9 : mS} (a1 : Nat) {s : mS} (h : f_Ro_comeCold N a1 s = some s9) : MetM Sx R0x oFx nx 4 118 [.ref 29, .ref a1] s (none) s9 := by
  refine met_of_G (q := q_Ro_comeCold) (t0 := s9) y_Ro_comeCold (Nat.le_of_ble_eq_true rfl) ?_
  rw [← h]
  exact G_eq (mEv_G (orc := mOrc (oL_Ro_comeCold N)) (ret := rtV) (blks := bl_Ro_comeCold) (cuts := [(2, H_Ro_comeCold_2 (mfix N (f_Ro_comeCold_L2 N)))]) wOKx (by decide) (oo_Ro_comeCold N) (RetOK_V rfl) bk_Ro_comeCold (List.forall_mem_cons.mpr ⟨s_Ro_comeCold_2 N, mz_nil⟩)) rfl
noncomputable def C_Ro_comeCold {ρ : Type} (N : Nat) : List Value → mS → (Option Value → mS → Option ρ) → Option ρ := fun vs s kk => sR vs 29 fun r0 => pr1 r0 fun a1 r1 => rv0 r1 ((f_Ro_comeCold N a1 s).bind fun p => kk none p)
theorem cs_Ro_comeCold {ρ : Type} {t0 : ρ} {d : Nat} (N : Nat) (hd : 4 + 1 ≤ d) : CallOK Sx R0x oFx nx d t0 118 (C_Ro_comeCold N) := by
  intro vs s kk h0
  obtain ⟨r0, rfl, h1⟩ := sR_some h0
  obtain ⟨a1, r1, rfl, h2⟩ := pr1_some h1
  obtain ⟨rfl, h3⟩ := rv0_some h2
  obtain ⟨p, hp, hk⟩ := Option.bind_eq_some_iff.mp h3
  exact ⟨_, _, _, hd, m_Ro_comeCold N a1 hp, hk, fun qy hq hf => by cases y_Ro_comeCold.symm.trans hq; exact ⟨_, _, rfl, rfl⟩⟩
/-! METHOD PorterDoors$Rounds.pass(LPorterDoors$Hall;I)I -/
set_option maxRecDepth 20000 in
noncomputable def q_Ro_pass : mI := (⟨"PorterDoors$Rounds", "pass", "(LPorterDoors$Hall;I)I"⟩, prog_8_method_7_code, 6, (some .int), 7, 819, 136, 1, 2, 817, 818)
theorem y_Ro_pass : mT[116]? = some q_Ro_pass := mT_at_2 (k := 36) rfl
noncomputable def bl_Ro_pass : List (Nat × List mO) := [(0, [o0 (.iconst 0), o0 (.istore_n 3), o0 (.iconst 0), o0 (.istore 4)]),
  (5, [o0 (.iload 4), o0 (.aload_n 0), o2 (.getfield 18) 7 0, o2 (.getfield 64) 4 1, o1 (.if_icmp .ge 75) 89, o0 (.iconst 0), o0 (.istore 5), o0 (.iload 4), o0 (.iload_n 2), o1 (.if_icmp .eq 48) 71, o0 (.aload_n 0), o0 (.aload_n 1), o0 (.iload 4), o2 (.invokevirtual 82) 115 3, o1 (.ifCond .eq 38) 71, o0 (.aload_n 1), o0 (.iload 4), o0 (.aload_n 0), o0 (.aload_n 1), o0 (.iload 4), o2 (.invokevirtual 86) 117 3, o2 (.invokevirtual 89) 74 3, o0 (.bipush 99), o0 (.aload_n 1), o2 (.getfield 32) 2 0, o0 (.bipush 52), o0 (.iload 4), o0 (.iadd), o0 (.iaload), o0 (.iconst 1), o0 (.iadd), o2 (.invokestatic 93) 277 2, o0 (.istore 5), o0 (.iinc 3 1)]),
  (71, [o0 (.aload_n 1), o2 (.getfield 32) 2 0, o0 (.bipush 52), o0 (.iload 4), o0 (.iadd), o0 (.iload 5), o0 (.iastore), o0 (.iinc 4 1), o1 (.goto (-81)) 5]),
  (89, [o0 (.aload_n 0), o0 (.aload_n 1), o2 (.invokevirtual 99) 118 2, o0 (.aload_n 1), o2 (.getfield 32) 2 0, o0 (.iconst 0), o0 (.sipush 999), o0 (.aload_n 1), o2 (.getfield 32) 2 0, o0 (.iconst 0), o0 (.iaload), o0 (.iconst 1), o0 (.iadd), o2 (.invokestatic 93) 277 2, o0 (.iastore), o0 (.iload_n 3), o0 (.ireturn)])]
theorem bk_Ro_pass : okBlks q_Ro_pass bl_Ro_pass = true := by decide +kernel
noncomputable def oL_Ro_pass {ρ : Type} (N : Nat) : List (Nat × (List Value → mS → (Option Value → mS → Option ρ) → Option ρ)) := [(115, C_Ro_isWilling N), (117, C_Ro_walk N), (74, C_Ha_keepWalk N), (277, C_Math_min N), (118, C_Ro_comeCold N)]
theorem oo_Ro_pass {ρ : Type} {t0 : ρ} (N : Nat) : OrcOK Sx R0x oFx nx 6 t0 (mOrc (oL_Ro_pass N)) := mOrc_OK (List.forall_mem_cons.mpr ⟨cs_Ro_isWilling N (by decide), List.forall_mem_cons.mpr ⟨cs_Ro_walk N (by decide), List.forall_mem_cons.mpr ⟨cs_Ha_keepWalk N (by decide), List.forall_mem_cons.mpr ⟨cs_Math_min N wOKx (by decide), List.forall_mem_cons.mpr ⟨cs_Ro_comeCold N (by decide), mz_nil⟩⟩⟩⟩⟩)
noncomputable def H_Ro_pass_5 {ρ : Type} (k : (Nat × Int32 × Int32 × Int32 × mS) → Option ρ) : mL → List Value → mS → Option ρ := fun loc st s => cR loc 0 29 (lr1 loc 1 fun v0 => li1 loc 2 fun v1 => li1 loc 3 fun v2 => li1 loc 4 fun v3 => rv0 st (k (v0, v1, v2, v3, s)))
noncomputable def H_Ro_pass_71 {ρ : Type} (k : (Nat × Int32 × Int32 × Int32 × Int32 × mS) → Option ρ) : mL → List Value → mS → Option ρ := fun loc st s => cR loc 0 29 (lr1 loc 1 fun v0 => li1 loc 2 fun v1 => li1 loc 3 fun v2 => li1 loc 4 fun v3 => li1 loc 5 fun v4 => rv0 st (k (v0, v1, v2, v3, v4, s)))
noncomputable def f_Ro_pass_j71 (N : Nat) (k5 : (Nat × Int32 × Int32 × Int32 × mS) → Option (Int32 × mS)) (x : Nat × Int32 × Int32 × Int32 × Int32 × mS) : Option (Int32 × mS) :=
  grd (isO Sx x.1 2) (
  grd (inb (52 + x.2.2.2.1) (aln Sx 0 (x.1 + 1))) (
  let s1 := sA x.2.2.2.2.2 (x.1 + 1) (ix (52 + x.2.2.2.1)) x.2.2.2.2.1
  k5 (x.1, x.2.1, x.2.2.1, (x.2.2.2.1 + 1), s1)))
set_option maxRecDepth 100000 in
set_option maxHeartbeats 4000000 in
theorem s_Ro_pass_71 (N : Nat) {x9 : Int32} {s9 : mS} {k5 : (Nat × Int32 × Int32 × Int32 × mS) → Option (Int32 × mS)} (hk5 : SCd Sx R0x oFx nx 6 q_Ro_pass (some (.int x9), s9) (x9, s9) 5 (H_Ro_pass_5 k5)) : SCd Sx R0x oFx nx 6 q_Ro_pass (some (.int x9), s9) (x9, s9) 71 (H_Ro_pass_71 (f_Ro_pass_j71 N k5)) := by
  intro loc st s
  refine G_cR (fun h0 => ?_)
  refine G_lr (fun v0 h1 => ?_)
  refine G_li (fun v1 h2 => ?_)
  refine G_li (fun v2 h3 => ?_)
  refine G_li (fun v3 h4 => ?_)
  refine G_li (fun v4 h5 => ?_)
  refine G_rv0 (fun e9 => ?_)
  subst e9
  refine G_sub (loc0 := [(0, .ref 29), (1, .ref v0), (2, .int v1), (3, .int v2), (4, .int v3), (5, .int v4)]) (List.forall_mem_cons.mpr ⟨h0, List.forall_mem_cons.mpr ⟨h1, List.forall_mem_cons.mpr ⟨h2, List.forall_mem_cons.mpr ⟨h3, List.forall_mem_cons.mpr ⟨h4, List.forall_mem_cons.mpr ⟨h5, mz_nil⟩⟩⟩⟩⟩⟩) ?_
  exact G_eq (mEv_G (orc := mOrc (oL_Ro_pass N)) (ret := rtI) (blks := bl_Ro_pass) (cuts := [(5, H_Ro_pass_5 k5)]) wOKx (by decide) (oo_Ro_pass N) (RetOK_I rfl) bk_Ro_pass (List.forall_mem_cons.mpr ⟨hk5, mz_nil⟩)) rfl
noncomputable def f_Ro_pass_L5 (N : Nat) (k5 : (Nat × Int32 × Int32 × Int32 × mS) → Option (Int32 × mS)) (x : Nat × Int32 × Int32 × Int32 × mS) : Option (Int32 × mS) :=
  if x.2.2.2.1 < (gI x.2.2.2.2 401 2) then
    if x.2.2.2.1 = x.2.1 then
      f_Ro_pass_j71 N k5 (x.1, x.2.1, x.2.2.1, x.2.2.2.1, 0, x.2.2.2.2)
    else
      (f_Ro_isWilling N x.1 x.2.2.2.1 x.2.2.2.2).bind fun p4 =>
      if p4.1 = 0 then
        f_Ro_pass_j71 N k5 (x.1, x.2.1, x.2.2.1, x.2.2.2.1, 0, p4.2)
      else
        (f_Ro_walk N x.1 x.2.2.2.1 p4.2).bind fun p5 =>
        grd (isO Sx x.1 2) (
        (f_Ha_keepWalk N x.1 x.2.2.2.1 p5.1 p5.2).bind fun p6 =>
        grd (isO Sx x.1 2) (
        grd (inb (52 + x.2.2.2.1) (aln Sx 0 (x.1 + 1))) (
        (f_Math_min N 99 ((gA p6 (x.1 + 1) (ix (52 + x.2.2.2.1))) + 1) p6).bind fun p7 =>
        f_Ro_pass_j71 N k5 (x.1, x.2.1, (x.2.2.1 + 1), x.2.2.2.1, p7.1, p7.2))))
  else
    (f_Ro_comeCold N x.1 x.2.2.2.2).bind fun p1 =>
    grd (isO Sx x.1 2) (
    grd (isO Sx x.1 2) (
    grd (inb 0 (aln Sx 0 (x.1 + 1))) (
    (f_Math_min N 999 ((gA p1 (x.1 + 1) 0) + 1) p1).bind fun p2 =>
    grd (inb 0 (aln Sx 0 (x.1 + 1))) (
    let s3 := sA p2.2 (x.1 + 1) 0 p2.1
    some (x.2.2.1, s3)))))
set_option maxRecDepth 100000 in
set_option maxHeartbeats 4000000 in
theorem t_Ro_pass_5 (N : Nat) {x9 : Int32} {s9 : mS} {k5 : (Nat × Int32 × Int32 × Int32 × mS) → Option (Int32 × mS)} (hk5 : SCd Sx R0x oFx nx 6 q_Ro_pass (some (.int x9), s9) (x9, s9) 5 (H_Ro_pass_5 k5)) : SCd Sx R0x oFx nx 6 q_Ro_pass (some (.int x9), s9) (x9, s9) 5 (H_Ro_pass_5 (f_Ro_pass_L5 N k5)) := by
  intro loc st s
  refine G_cR (fun h0 => ?_)
  refine G_lr (fun v0 h1 => ?_)
  refine G_li (fun v1 h2 => ?_)
  refine G_li (fun v2 h3 => ?_)
  refine G_li (fun v3 h4 => ?_)
  refine G_rv0 (fun e9 => ?_)
  subst e9
  refine G_sub (loc0 := [(0, .ref 29), (1, .ref v0), (2, .int v1), (3, .int v2), (4, .int v3)]) (List.forall_mem_cons.mpr ⟨h0, List.forall_mem_cons.mpr ⟨h1, List.forall_mem_cons.mpr ⟨h2, List.forall_mem_cons.mpr ⟨h3, List.forall_mem_cons.mpr ⟨h4, mz_nil⟩⟩⟩⟩⟩) ?_
  exact G_eq (mEv_G (orc := mOrc (oL_Ro_pass N)) (ret := rtI) (blks := bl_Ro_pass) (cuts := [(71, H_Ro_pass_71 (f_Ro_pass_j71 N k5))]) wOKx (by decide) (oo_Ro_pass N) (RetOK_I rfl) bk_Ro_pass (List.forall_mem_cons.mpr ⟨s_Ro_pass_71 N hk5, mz_nil⟩)) rfl
theorem s_Ro_pass_5 (N : Nat) {x9 : Int32} {s9 : mS} : SCd Sx R0x oFx nx 6 q_Ro_pass (some (.int x9), s9) (x9, s9) 5 (H_Ro_pass_5 (mfix N (f_Ro_pass_L5 N))) := by
  refine mfix_SC (H := H_Ro_pass_5) (fun loc st s => ?_) (fun k hk => t_Ro_pass_5 N hk) N
  refine G_cR (fun h0 => ?_)
  refine G_lr (fun v0 h1 => ?_)
  refine G_li (fun v1 h2 => ?_)
  refine G_li (fun v2 h3 => ?_)
  refine G_li (fun v3 h4 => ?_)
  refine G_rv0 (fun e9 => ?_)
  subst e9
  exact G_none
noncomputable def f_Ro_pass (N : Nat) (a1 : Nat) (a2 : Int32) (s : mS) : Option (Int32 × mS) :=
  mfix N (f_Ro_pass_L5 N) (a1, a2, 0, 0, s)
set_option maxRecDepth 100000 in
set_option maxHeartbeats 4000000 in
theorem m_Ro_pass (N : Nat) {x9 : Int32} {s9 : mS} (a1 : Nat) (a2 : Int32) {s : mS} (h : f_Ro_pass N a1 a2 s = some (x9, s9)) : MetM Sx R0x oFx nx 6 116 [.ref 29, .ref a1, .int a2] s (some (.int x9)) s9 := by
  refine met_of_G (q := q_Ro_pass) (t0 := (x9, s9)) y_Ro_pass (Nat.le_of_ble_eq_true rfl) ?_
  rw [← h]
  exact G_eq (mEv_G (orc := mOrc (oL_Ro_pass N)) (ret := rtI) (blks := bl_Ro_pass) (cuts := [(5, H_Ro_pass_5 (mfix N (f_Ro_pass_L5 N)))]) wOKx (by decide) (oo_Ro_pass N) (RetOK_I rfl) bk_Ro_pass (List.forall_mem_cons.mpr ⟨s_Ro_pass_5 N, mz_nil⟩)) rfl
noncomputable def C_Ro_pass {ρ : Type} (N : Nat) : List Value → mS → (Option Value → mS → Option ρ) → Option ρ := fun vs s kk => sR vs 29 fun r0 => pr1 r0 fun a1 r1 => pi1 r1 fun a2 r2 => rv0 r2 ((f_Ro_pass N a1 a2 s).bind fun p => kk (some (.int p.1)) p.2)
theorem cs_Ro_pass {ρ : Type} {t0 : ρ} {d : Nat} (N : Nat) (hd : 6 + 1 ≤ d) : CallOK Sx R0x oFx nx d t0 116 (C_Ro_pass N) := by
  intro vs s kk h0
  obtain ⟨r0, rfl, h1⟩ := sR_some h0
  obtain ⟨a1, r1, rfl, h2⟩ := pr1_some h1
  obtain ⟨a2, r2, rfl, h3⟩ := pi1_some h2
  obtain ⟨rfl, h4⟩ := rv0_some h3
  obtain ⟨p, hp, hk⟩ := Option.bind_eq_some_iff.mp h4
  exact ⟨_, _, _, hd, m_Ro_pass N a1 a2 hp, hk, fun qy hq hf => by cases y_Ro_pass.symm.trans hq; exact ⟨_, _, rfl, rfl⟩⟩
/-! METHOD PorterDoors$Ahead.reaches(I)Z -/
set_option maxRecDepth 20000 in
noncomputable def q_Ah_reaches : mI := (⟨"PorterDoors$Ahead", "reaches", "(I)Z"⟩, prog_2_method_3_code, 2, (some .boolean), 1, 811, 137, 1, 1, 809, 810)
theorem y_Ah_reaches : mT[64]? = some q_Ah_reaches := mT_at_1 (k := 24) rfl
noncomputable def bl_Ah_reaches : List (Nat × List mO) := [(0, [o0 (.iload_n 1), o1 (.ifCond .lt 26) 27, o0 (.iload_n 1), o0 (.bipush 60), o1 (.if_icmp .gt 20) 27, o0 (.aload_n 0), o2 (.getfield 29) 1 0, o2 (.getfield 36) 2 0, o0 (.iconst 0), o0 (.iaload), o0 (.iload_n 1), o0 (.iadd), o0 (.sipush 999), o1 (.if_icmp .le 5) 29]),
  (27, [o0 (.iconst 0), o0 (.ireturn)]),
  (29, [o0 (.aload_n 0), o2 (.getfield 25) 1 5, o0 (.iload_n 1), o1 (.if_icmp .ge 87) 121, o0 (.aload_n 0), o2 (.getfield 25) 1 5, o0 (.iconst (-1)), o1 (.if_icmp .ne 17) 59, o0 (.aload_n 0), o2 (.getfield 12) 1 1, o0 (.aload_n 0), o2 (.getfield 29) 1 0, o2 (.invokevirtual 39) 72 2, o1 (.goto 16) 72]),
  (59, [o0 (.aload_n 0), o2 (.getfield 32) 1 2, o0 (.aload_n 0), o2 (.getfield 12) 1 1, o0 (.iconst (-1)), o2 (.invokevirtual 43) 116 3, o0 (.pop)]),
  (72, [o0 (.aload_n 0), o0 (.dup), o2 (.getfield 25) 1 5, o0 (.iconst 1), o0 (.iadd), o2 (.putfield 25) 1 5, o0 (.aload_n 0), o2 (.getfield 18) 1 3, o0 (.aload_n 0), o2 (.getfield 25) 1 5, o0 (.aload_n 0), o2 (.getfield 12) 1 1, o2 (.getfield 36) 2 0, o0 (.iconst 2), o0 (.iaload), o0 (.iastore), o0 (.aload_n 0), o2 (.getfield 22) 1 4, o0 (.aload_n 0), o2 (.getfield 25) 1 5, o0 (.aload_n 0), o2 (.getfield 12) 1 1, o2 (.getfield 36) 2 0, o0 (.iconst 1), o0 (.iaload), o0 (.iastore), o1 (.goto (-89)) 29]),
  (121, [o0 (.iconst 1), o0 (.ireturn)])]
theorem bk_Ah_reaches : okBlks q_Ah_reaches bl_Ah_reaches = true := by decide +kernel
noncomputable def oL_Ah_reaches {ρ : Type} (N : Nat) : List (Nat × (List Value → mS → (Option Value → mS → Option ρ) → Option ρ)) := [(72, C_Ha_copy N), (116, C_Ro_pass N)]
theorem oo_Ah_reaches {ρ : Type} {t0 : ρ} (N : Nat) : OrcOK Sx R0x oFx nx 7 t0 (mOrc (oL_Ah_reaches N)) := mOrc_OK (List.forall_mem_cons.mpr ⟨cs_Ha_copy N (by decide), List.forall_mem_cons.mpr ⟨cs_Ro_pass N (by decide), mz_nil⟩⟩)
noncomputable def H_Ah_reaches_29 {ρ : Type} (k : (Int32 × mS) → Option ρ) : mL → List Value → mS → Option ρ := fun loc st s => cR loc 0 32 (li1 loc 1 fun v0 => rv0 st (k (v0, s)))
noncomputable def H_Ah_reaches_72 {ρ : Type} (k : (Int32 × mS) → Option ρ) : mL → List Value → mS → Option ρ := fun loc st s => cR loc 0 32 (li1 loc 1 fun v0 => rv0 st (k (v0, s)))
noncomputable def f_Ah_reaches_j72 (N : Nat) (k29 : (Int32 × mS) → Option (Int32 × mS)) (x : Int32 × mS) : Option (Int32 × mS) :=
  let s1 := sI x.2 105 32 ((gI x.2 105 32) + 1)
  grd (inb (gI s1 105 32) 61) (
  let s2 := sA s1 35 (ix (gI s1 105 32)) (gA s1 34 2)
  grd (inb (gI s2 105 32) 61) (
  let s3 := sA s2 36 (ix (gI s2 105 32)) (gA s2 34 1)
  k29 (x.1, s3)))
set_option maxRecDepth 100000 in
set_option maxHeartbeats 4000000 in
theorem s_Ah_reaches_72 (N : Nat) {x9 : Int32} {s9 : mS} {k29 : (Int32 × mS) → Option (Int32 × mS)} (hk29 : SCd Sx R0x oFx nx 7 q_Ah_reaches (some (.int x9), s9) (x9, s9) 29 (H_Ah_reaches_29 k29)) : SCd Sx R0x oFx nx 7 q_Ah_reaches (some (.int x9), s9) (x9, s9) 72 (H_Ah_reaches_72 (f_Ah_reaches_j72 N k29)) := by
  intro loc st s
  refine G_cR (fun h0 => ?_)
  refine G_li (fun v0 h1 => ?_)
  refine G_rv0 (fun e9 => ?_)
  subst e9
  refine G_sub (loc0 := [(0, .ref 32), (1, .int v0)]) (List.forall_mem_cons.mpr ⟨h0, List.forall_mem_cons.mpr ⟨h1, mz_nil⟩⟩) ?_
  exact G_eq (mEv_G (orc := mOrc (oL_Ah_reaches N)) (ret := rtZ) (blks := bl_Ah_reaches) (cuts := [(29, H_Ah_reaches_29 k29)]) wOKx (by decide) (oo_Ah_reaches N) (RetOK_Z rfl) bk_Ah_reaches (List.forall_mem_cons.mpr ⟨hk29, mz_nil⟩)) rfl
noncomputable def f_Ah_reaches_L29 (N : Nat) (k29 : (Int32 × mS) → Option (Int32 × mS)) (x : Int32 × mS) : Option (Int32 × mS) :=
  if (gI x.2 105 32) < x.1 then
    if (gI x.2 105 32) = (-1) then
      (f_Ha_copy N 33 19 x.2).bind fun p2 =>
      f_Ah_reaches_j72 N k29 (x.1, p2)
    else
      (f_Ro_pass N 33 (-1) x.2).bind fun p1 =>
      f_Ah_reaches_j72 N k29 (x.1, p1.2)
  else
    some (1, x.2)
set_option maxRecDepth 100000 in
set_option maxHeartbeats 4000000 in
theorem t_Ah_reaches_29 (N : Nat) {x9 : Int32} {s9 : mS} {k29 : (Int32 × mS) → Option (Int32 × mS)} (hk29 : SCd Sx R0x oFx nx 7 q_Ah_reaches (some (.int x9), s9) (x9, s9) 29 (H_Ah_reaches_29 k29)) : SCd Sx R0x oFx nx 7 q_Ah_reaches (some (.int x9), s9) (x9, s9) 29 (H_Ah_reaches_29 (f_Ah_reaches_L29 N k29)) := by
  intro loc st s
  refine G_cR (fun h0 => ?_)
  refine G_li (fun v0 h1 => ?_)
  refine G_rv0 (fun e9 => ?_)
  subst e9
  refine G_sub (loc0 := [(0, .ref 32), (1, .int v0)]) (List.forall_mem_cons.mpr ⟨h0, List.forall_mem_cons.mpr ⟨h1, mz_nil⟩⟩) ?_
  exact G_eq (mEv_G (orc := mOrc (oL_Ah_reaches N)) (ret := rtZ) (blks := bl_Ah_reaches) (cuts := [(72, H_Ah_reaches_72 (f_Ah_reaches_j72 N k29))]) wOKx (by decide) (oo_Ah_reaches N) (RetOK_Z rfl) bk_Ah_reaches (List.forall_mem_cons.mpr ⟨s_Ah_reaches_72 N hk29, mz_nil⟩)) rfl
theorem s_Ah_reaches_29 (N : Nat) {x9 : Int32} {s9 : mS} : SCd Sx R0x oFx nx 7 q_Ah_reaches (some (.int x9), s9) (x9, s9) 29 (H_Ah_reaches_29 (mfix N (f_Ah_reaches_L29 N))) := by
  refine mfix_SC (H := H_Ah_reaches_29) (fun loc st s => ?_) (fun k hk => t_Ah_reaches_29 N hk) N
  refine G_cR (fun h0 => ?_)
  refine G_li (fun v0 h1 => ?_)
  refine G_rv0 (fun e9 => ?_)
  subst e9
  exact G_none
noncomputable def f_Ah_reaches (N : Nat) (a1 : Int32) (s : mS) : Option (Int32 × mS) :=
  if a1 < 0 then
    some (0, s)
  else
    if 60 < a1 then
      some (0, s)
    else
      if 999 < ((gA s 20 0) + a1) then
        some (0, s)
      else
        mfix N (f_Ah_reaches_L29 N) (a1, s)
set_option maxRecDepth 100000 in
set_option maxHeartbeats 4000000 in
theorem m_Ah_reaches (N : Nat) {x9 : Int32} {s9 : mS} (a1 : Int32) {s : mS} (h : f_Ah_reaches N a1 s = some (x9, s9)) : MetM Sx R0x oFx nx 7 64 [.ref 32, .int a1] s (some (.int x9)) s9 := by
  refine met_of_G (q := q_Ah_reaches) (t0 := (x9, s9)) y_Ah_reaches (Nat.le_of_ble_eq_true rfl) ?_
  rw [← h]
  exact G_eq (mEv_G (orc := mOrc (oL_Ah_reaches N)) (ret := rtZ) (blks := bl_Ah_reaches) (cuts := [(29, H_Ah_reaches_29 (mfix N (f_Ah_reaches_L29 N)))]) wOKx (by decide) (oo_Ah_reaches N) (RetOK_Z rfl) bk_Ah_reaches (List.forall_mem_cons.mpr ⟨s_Ah_reaches_29 N, mz_nil⟩)) rfl
noncomputable def C_Ah_reaches {ρ : Type} (N : Nat) : List Value → mS → (Option Value → mS → Option ρ) → Option ρ := fun vs s kk => sR vs 32 fun r0 => pi1 r0 fun a1 r1 => rv0 r1 ((f_Ah_reaches N a1 s).bind fun p => kk (some (.int p.1)) p.2)
theorem cs_Ah_reaches {ρ : Type} {t0 : ρ} {d : Nat} (N : Nat) (hd : 7 + 1 ≤ d) : CallOK Sx R0x oFx nx d t0 64 (C_Ah_reaches N) := by
  intro vs s kk h0
  obtain ⟨r0, rfl, h1⟩ := sR_some h0
  obtain ⟨a1, r1, rfl, h2⟩ := pi1_some h1
  obtain ⟨rfl, h3⟩ := rv0_some h2
  obtain ⟨p, hp, hk⟩ := Option.bind_eq_some_iff.mp h3
  exact ⟨_, _, _, hd, m_Ah_reaches N a1 hp, hk, fun qy hq hf => by cases y_Ah_reaches.symm.trans hq; exact ⟨_, _, rfl, rfl⟩⟩
/-! METHOD PorterDoors.later(I)I -/
set_option maxRecDepth 20000 in
noncomputable def q_X_later : mI := (⟨"PorterDoors", "later", "(I)I"⟩, prog_1_method_12_code, 2, (some .int), 0, 803, 129, 1, 1, 801, 802)
theorem y_X_later : mT[19]? = some q_X_later := mT_at_0 (k := 19) rfl
noncomputable def bl_X_later : List (Nat × List mO) := [(0, [o0 (.aload_n 0), o2 (.invokevirtual 220) 20 1, o1 (.ifCond .eq 26) 30, o0 (.aload_n 0), o2 (.getfield 81) 0 11, o0 (.iload_n 1), o2 (.invokevirtual 223) 64 2, o1 (.ifCond .eq 15) 30, o0 (.aload_n 0), o2 (.getfield 81) 0 11, o2 (.getfield 226) 1 3, o0 (.iload_n 1), o0 (.iaload), o1 (.goto 4) 31]),
  (30, [o0 (.iconst (-1))]),
  (31, [o0 (.ireturn)])]
theorem bk_X_later : okBlks q_X_later bl_X_later = true := by decide +kernel
noncomputable def oL_X_later {ρ : Type} (N : Nat) : List (Nat × (List Value → mS → (Option Value → mS → Option ρ) → Option ρ)) := [(20, C_X_isTold N), (64, C_Ah_reaches N)]
theorem oo_X_later {ρ : Type} {t0 : ρ} (N : Nat) : OrcOK Sx R0x oFx nx 8 t0 (mOrc (oL_X_later N)) := mOrc_OK (List.forall_mem_cons.mpr ⟨cs_X_isTold N (by decide), List.forall_mem_cons.mpr ⟨cs_Ah_reaches N (by decide), mz_nil⟩⟩)
noncomputable def f_X_later (N : Nat) (a1 : Int32) (s : mS) : Option (Int32 × mS) :=
  (f_X_isTold N s).bind fun p1 =>
  if p1.1 = 0 then
    some ((-1), p1.2)
  else
    (f_Ah_reaches N a1 p1.2).bind fun p2 =>
    if p2.1 = 0 then
      some ((-1), p2.2)
    else
      grd (inb a1 61) (
      some ((gA p2.2 35 (ix a1)), p2.2))
set_option maxRecDepth 100000 in
set_option maxHeartbeats 4000000 in
theorem m_X_later (N : Nat) {x9 : Int32} {s9 : mS} (a1 : Int32) {s : mS} (h : f_X_later N a1 s = some (x9, s9)) : MetM Sx R0x oFx nx 8 19 [.ref 0, .int a1] s (some (.int x9)) s9 := by
  refine met_of_G (q := q_X_later) (t0 := (x9, s9)) y_X_later (Nat.le_of_ble_eq_true rfl) ?_
  rw [← h]
  exact G_eq (mEv_G (orc := mOrc (oL_X_later N)) (ret := rtI) (blks := bl_X_later) (cuts := []) wOKx (by decide) (oo_X_later N) (RetOK_I rfl) bk_X_later (mz_nil)) rfl
noncomputable def C_X_later {ρ : Type} (N : Nat) : List Value → mS → (Option Value → mS → Option ρ) → Option ρ := fun vs s kk => sR vs 0 fun r0 => pi1 r0 fun a1 r1 => rv0 r1 ((f_X_later N a1 s).bind fun p => kk (some (.int p.1)) p.2)
theorem cs_X_later {ρ : Type} {t0 : ρ} {d : Nat} (N : Nat) (hd : 8 + 1 ≤ d) : CallOK Sx R0x oFx nx d t0 19 (C_X_later N) := by
  intro vs s kk h0
  obtain ⟨r0, rfl, h1⟩ := sR_some h0
  obtain ⟨a1, r1, rfl, h2⟩ := pi1_some h1
  obtain ⟨rfl, h3⟩ := rv0_some h2
  obtain ⟨p, hp, hk⟩ := Option.bind_eq_some_iff.mp h3
  exact ⟨_, _, _, hd, m_X_later N a1 hp, hk, fun qy hq hf => by cases y_X_later.symm.trans hq; exact ⟨_, _, rfl, rfl⟩⟩
/-! METHOD PorterDoors.cold(I)I -/
set_option maxRecDepth 20000 in
noncomputable def q_X_cold : mI := (⟨"PorterDoors", "cold", "(I)I"⟩, prog_1_method_13_code, 2, (some .int), 0, 845, 129, 1, 1, 843, 844)
theorem y_X_cold : mT[21]? = some q_X_cold := mT_at_0 (k := 21) rfl
noncomputable def bl_X_cold : List (Nat × List mO) := [(0, [o0 (.aload_n 0), o2 (.invokevirtual 220) 20 1, o1 (.ifCond .eq 26) 30, o0 (.aload_n 0), o2 (.getfield 81) 0 11, o0 (.iload_n 1), o2 (.invokevirtual 223) 64 2, o1 (.ifCond .eq 15) 30, o0 (.aload_n 0), o2 (.getfield 81) 0 11, o2 (.getfield 229) 1 4, o0 (.iload_n 1), o0 (.iaload), o1 (.goto 4) 31]),
  (30, [o0 (.iconst (-1))]),
  (31, [o0 (.ireturn)])]
theorem bk_X_cold : okBlks q_X_cold bl_X_cold = true := by decide +kernel
noncomputable def oL_X_cold {ρ : Type} (N : Nat) : List (Nat × (List Value → mS → (Option Value → mS → Option ρ) → Option ρ)) := [(20, C_X_isTold N), (64, C_Ah_reaches N)]
theorem oo_X_cold {ρ : Type} {t0 : ρ} (N : Nat) : OrcOK Sx R0x oFx nx 8 t0 (mOrc (oL_X_cold N)) := mOrc_OK (List.forall_mem_cons.mpr ⟨cs_X_isTold N (by decide), List.forall_mem_cons.mpr ⟨cs_Ah_reaches N (by decide), mz_nil⟩⟩)
noncomputable def f_X_cold (N : Nat) (a1 : Int32) (s : mS) : Option (Int32 × mS) :=
  (f_X_isTold N s).bind fun p1 =>
  if p1.1 = 0 then
    some ((-1), p1.2)
  else
    (f_Ah_reaches N a1 p1.2).bind fun p2 =>
    if p2.1 = 0 then
      some ((-1), p2.2)
    else
      grd (inb a1 61) (
      some ((gA p2.2 36 (ix a1)), p2.2))
set_option maxRecDepth 100000 in
set_option maxHeartbeats 4000000 in
theorem m_X_cold (N : Nat) {x9 : Int32} {s9 : mS} (a1 : Int32) {s : mS} (h : f_X_cold N a1 s = some (x9, s9)) : MetM Sx R0x oFx nx 8 21 [.ref 0, .int a1] s (some (.int x9)) s9 := by
  refine met_of_G (q := q_X_cold) (t0 := (x9, s9)) y_X_cold (Nat.le_of_ble_eq_true rfl) ?_
  rw [← h]
  exact G_eq (mEv_G (orc := mOrc (oL_X_cold N)) (ret := rtI) (blks := bl_X_cold) (cuts := []) wOKx (by decide) (oo_X_cold N) (RetOK_I rfl) bk_X_cold (mz_nil)) rfl
noncomputable def C_X_cold {ρ : Type} (N : Nat) : List Value → mS → (Option Value → mS → Option ρ) → Option ρ := fun vs s kk => sR vs 0 fun r0 => pi1 r0 fun a1 r1 => rv0 r1 ((f_X_cold N a1 s).bind fun p => kk (some (.int p.1)) p.2)
theorem cs_X_cold {ρ : Type} {t0 : ρ} {d : Nat} (N : Nat) (hd : 8 + 1 ≤ d) : CallOK Sx R0x oFx nx d t0 21 (C_X_cold N) := by
  intro vs s kk h0
  obtain ⟨r0, rfl, h1⟩ := sR_some h0
  obtain ⟨a1, r1, rfl, h2⟩ := pi1_some h1
  obtain ⟨rfl, h3⟩ := rv0_some h2
  obtain ⟨p, hp, hk⟩ := Option.bind_eq_some_iff.mp h3
  exact ⟨_, _, _, hd, m_X_cold N a1 hp, hk, fun qy hq hf => by cases y_X_cold.symm.trans hq; exact ⟨_, _, rfl, rfl⟩⟩
/-! METHOD PorterDoors.back()I -/
set_option maxRecDepth 20000 in
noncomputable def q_X_back : mI := (⟨"PorterDoors", "back", "()I"⟩, prog_1_method_14_code, 3, (some .int), 0, 849, 129, 1, 0, 847, 848)
theorem y_X_back : mT[22]? = some q_X_back := mT_at_0 (k := 22) rfl
noncomputable def bl_X_back : List (Nat × List mO) := [(0, [o0 (.aload_n 0), o2 (.getfield 46) 0 6, o2 (.getfield 162) 2 0, o0 (.iconst 2), o0 (.iaload), o0 (.istore_n 1), o0 (.iconst 1), o0 (.istore_n 2)]),
  (12, [o0 (.iload_n 2), o0 (.bipush 60), o1 (.if_icmp .gt 42) 57, o0 (.aload_n 0), o2 (.invokevirtual 220) 20 1, o1 (.ifCond .eq 35) 57, o0 (.aload_n 0), o2 (.getfield 81) 0 11, o0 (.iload_n 2), o2 (.invokevirtual 223) 64 2, o1 (.ifCond .eq 24) 57, o0 (.aload_n 0), o2 (.getfield 81) 0 11, o2 (.getfield 226) 1 3, o0 (.iload_n 2), o0 (.iaload), o0 (.iload_n 1), o1 (.if_icmp .ne 5) 51, o0 (.iload_n 2), o0 (.ireturn)]),
  (51, [o0 (.iinc 2 1), o1 (.goto (-42)) 12]),
  (57, [o0 (.iconst (-1)), o0 (.ireturn)])]
theorem bk_X_back : okBlks q_X_back bl_X_back = true := by decide +kernel
noncomputable def oL_X_back {ρ : Type} (N : Nat) : List (Nat × (List Value → mS → (Option Value → mS → Option ρ) → Option ρ)) := [(20, C_X_isTold N), (64, C_Ah_reaches N)]
theorem oo_X_back {ρ : Type} {t0 : ρ} (N : Nat) : OrcOK Sx R0x oFx nx 8 t0 (mOrc (oL_X_back N)) := mOrc_OK (List.forall_mem_cons.mpr ⟨cs_X_isTold N (by decide), List.forall_mem_cons.mpr ⟨cs_Ah_reaches N (by decide), mz_nil⟩⟩)
noncomputable def H_X_back_12 {ρ : Type} (k : (Int32 × Int32 × mS) → Option ρ) : mL → List Value → mS → Option ρ := fun loc st s => cR loc 0 0 (li1 loc 1 fun v0 => li1 loc 2 fun v1 => rv0 st (k (v0, v1, s)))
noncomputable def f_X_back_L12 (N : Nat) (k12 : (Int32 × Int32 × mS) → Option (Int32 × mS)) (x : Int32 × Int32 × mS) : Option (Int32 × mS) :=
  if 60 < x.2.1 then
    some ((-1), x.2.2)
  else
    (f_X_isTold N x.2.2).bind fun p1 =>
    if p1.1 = 0 then
      some ((-1), p1.2)
    else
      (f_Ah_reaches N x.2.1 p1.2).bind fun p2 =>
      if p2.1 = 0 then
        some ((-1), p2.2)
      else
        grd (inb x.2.1 61) (
        if (gA p2.2 35 (ix x.2.1)) = x.1 then
          some (x.2.1, p2.2)
        else
          k12 (x.1, (x.2.1 + 1), p2.2))
set_option maxRecDepth 100000 in
set_option maxHeartbeats 4000000 in
theorem t_X_back_12 (N : Nat) {x9 : Int32} {s9 : mS} {k12 : (Int32 × Int32 × mS) → Option (Int32 × mS)} (hk12 : SCd Sx R0x oFx nx 8 q_X_back (some (.int x9), s9) (x9, s9) 12 (H_X_back_12 k12)) : SCd Sx R0x oFx nx 8 q_X_back (some (.int x9), s9) (x9, s9) 12 (H_X_back_12 (f_X_back_L12 N k12)) := by
  intro loc st s
  refine G_cR (fun h0 => ?_)
  refine G_li (fun v0 h1 => ?_)
  refine G_li (fun v1 h2 => ?_)
  refine G_rv0 (fun e9 => ?_)
  subst e9
  refine G_sub (loc0 := [(0, .ref 0), (1, .int v0), (2, .int v1)]) (List.forall_mem_cons.mpr ⟨h0, List.forall_mem_cons.mpr ⟨h1, List.forall_mem_cons.mpr ⟨h2, mz_nil⟩⟩⟩) ?_
  exact G_eq (mEv_G (orc := mOrc (oL_X_back N)) (ret := rtI) (blks := bl_X_back) (cuts := [(12, H_X_back_12 k12)]) wOKx (by decide) (oo_X_back N) (RetOK_I rfl) bk_X_back (List.forall_mem_cons.mpr ⟨hk12, mz_nil⟩)) rfl
theorem s_X_back_12 (N : Nat) {x9 : Int32} {s9 : mS} : SCd Sx R0x oFx nx 8 q_X_back (some (.int x9), s9) (x9, s9) 12 (H_X_back_12 (mfix N (f_X_back_L12 N))) := by
  refine mfix_SC (H := H_X_back_12) (fun loc st s => ?_) (fun k hk => t_X_back_12 N hk) N
  refine G_cR (fun h0 => ?_)
  refine G_li (fun v0 h1 => ?_)
  refine G_li (fun v1 h2 => ?_)
  refine G_rv0 (fun e9 => ?_)
  subst e9
  exact G_none
noncomputable def f_X_back (N : Nat) (s : mS) : Option (Int32 × mS) :=
  mfix N (f_X_back_L12 N) ((gA s 20 2), 1, s)
set_option maxRecDepth 100000 in
set_option maxHeartbeats 4000000 in
theorem m_X_back (N : Nat) {x9 : Int32} {s9 : mS} {s : mS} (h : f_X_back N s = some (x9, s9)) : MetM Sx R0x oFx nx 8 22 [.ref 0] s (some (.int x9)) s9 := by
  refine met_of_G (q := q_X_back) (t0 := (x9, s9)) y_X_back (Nat.le_of_ble_eq_true rfl) ?_
  rw [← h]
  exact G_eq (mEv_G (orc := mOrc (oL_X_back N)) (ret := rtI) (blks := bl_X_back) (cuts := [(12, H_X_back_12 (mfix N (f_X_back_L12 N)))]) wOKx (by decide) (oo_X_back N) (RetOK_I rfl) bk_X_back (List.forall_mem_cons.mpr ⟨s_X_back_12 N, mz_nil⟩)) rfl
noncomputable def C_X_back {ρ : Type} (N : Nat) : List Value → mS → (Option Value → mS → Option ρ) → Option ρ := fun vs s kk => sR vs 0 fun r0 => rv0 r0 ((f_X_back N s).bind fun p => kk (some (.int p.1)) p.2)
theorem cs_X_back {ρ : Type} {t0 : ρ} {d : Nat} (N : Nat) (hd : 8 + 1 ≤ d) : CallOK Sx R0x oFx nx d t0 22 (C_X_back N) := by
  intro vs s kk h0
  obtain ⟨r0, rfl, h1⟩ := sR_some h0
  obtain ⟨rfl, h2⟩ := rv0_some h1
  obtain ⟨p, hp, hk⟩ := Option.bind_eq_some_iff.mp h2
  exact ⟨_, _, _, hd, m_X_back N hp, hk, fun qy hq hf => by cases y_X_back.symm.trans hq; exact ⟨_, _, rfl, rfl⟩⟩
/-! METHOD PorterDoors.row()I -/
set_option maxRecDepth 20000 in
noncomputable def q_X_row : mI := (⟨"PorterDoors", "row", "()I"⟩, prog_1_method_15_code, 4, (some .int), 0, 853, 129, 1, 0, 851, 852)
theorem y_X_row : mT[23]? = some q_X_row := mT_at_0 (k := 23) rfl
noncomputable def bl_X_row : List (Nat × List mO) := [(0, [o0 (.aload_n 0), o2 (.invokevirtual 220) 20 1, o1 (.ifCond .ne 5) 9, o0 (.iconst (-1)), o0 (.ireturn)]),
  (9, [o0 (.iconst 0), o0 (.istore_n 1), o0 (.iconst 0), o0 (.istore_n 2), o0 (.iconst 0), o0 (.istore_n 3)]),
  (15, [o0 (.iload_n 3), o0 (.aload_n 0), o2 (.getfield 20) 0 2, o2 (.getfield 156) 4 0, o1 (.if_icmp .ge 35) 58, o0 (.aload_n 0), o2 (.getfield 46) 0 6, o0 (.iload_n 3), o2 (.invokevirtual 193) 70 2, o0 (.iconst 1), o1 (.if_icmp .ne 9) 44, o0 (.iload_n 2), o0 (.iconst 1), o0 (.iadd), o1 (.goto 4) 45]),
  (44, [o0 (.iconst 0)]),
  (45, [o0 (.istore_n 2), o0 (.iload_n 1), o0 (.iload_n 2), o2 (.invokestatic 232) 278 2, o0 (.istore_n 1), o0 (.iinc 3 1), o1 (.goto (-40)) 15]),
  (58, [o0 (.iload_n 1), o0 (.ireturn)])]
theorem bk_X_row : okBlks q_X_row bl_X_row = true := by decide +kernel
noncomputable def oL_X_row {ρ : Type} (N : Nat) : List (Nat × (List Value → mS → (Option Value → mS → Option ρ) → Option ρ)) := [(20, C_X_isTold N), (70, C_Ha_isOpen N), (278, C_Math_max N)]
theorem oo_X_row {ρ : Type} {t0 : ρ} (N : Nat) : OrcOK Sx R0x oFx nx 2 t0 (mOrc (oL_X_row N)) := mOrc_OK (List.forall_mem_cons.mpr ⟨cs_X_isTold N (by decide), List.forall_mem_cons.mpr ⟨cs_Ha_isOpen N (by decide), List.forall_mem_cons.mpr ⟨cs_Math_max N wOKx (by decide), mz_nil⟩⟩⟩)
noncomputable def H_X_row_15 {ρ : Type} (k : (Int32 × Int32 × Int32 × mS) → Option ρ) : mL → List Value → mS → Option ρ := fun loc st s => cR loc 0 0 (li1 loc 1 fun v0 => li1 loc 2 fun v1 => li1 loc 3 fun v2 => rv0 st (k (v0, v1, v2, s)))
noncomputable def H_X_row_45 {ρ : Type} (k : (Int32 × Int32 × Int32 × mS) → Option ρ) : mL → List Value → mS → Option ρ := fun loc st s => cR loc 0 0 (li1 loc 1 fun v0 => li1 loc 3 fun v1 => pi1 st fun w0 r0 => rv0 r0 (k (v0, v1, w0, s)))
noncomputable def f_X_row_j45 (N : Nat) (k15 : (Int32 × Int32 × Int32 × mS) → Option (Int32 × mS)) (x : Int32 × Int32 × Int32 × mS) : Option (Int32 × mS) :=
  (f_Math_max N x.1 x.2.2.1 x.2.2.2).bind fun p1 =>
  k15 (p1.1, x.2.2.1, (x.2.1 + 1), p1.2)
set_option maxRecDepth 100000 in
set_option maxHeartbeats 4000000 in
theorem s_X_row_45 (N : Nat) {x9 : Int32} {s9 : mS} {k15 : (Int32 × Int32 × Int32 × mS) → Option (Int32 × mS)} (hk15 : SCd Sx R0x oFx nx 2 q_X_row (some (.int x9), s9) (x9, s9) 15 (H_X_row_15 k15)) : SCd Sx R0x oFx nx 2 q_X_row (some (.int x9), s9) (x9, s9) 45 (H_X_row_45 (f_X_row_j45 N k15)) := by
  intro loc st s
  refine G_cR (fun h0 => ?_)
  refine G_li (fun v0 h1 => ?_)
  refine G_li (fun v1 h3 => ?_)
  refine G_pi (fun w0 r0 e0 => ?_)
  refine G_rv0 (fun e9 => ?_)
  subst e9
  subst e0
  refine G_sub (loc0 := [(0, .ref 0), (1, .int v0), (3, .int v1)]) (List.forall_mem_cons.mpr ⟨h0, List.forall_mem_cons.mpr ⟨h1, List.forall_mem_cons.mpr ⟨h3, mz_nil⟩⟩⟩) ?_
  exact G_eq (mEv_G (orc := mOrc (oL_X_row N)) (ret := rtI) (blks := bl_X_row) (cuts := [(15, H_X_row_15 k15)]) wOKx (by decide) (oo_X_row N) (RetOK_I rfl) bk_X_row (List.forall_mem_cons.mpr ⟨hk15, mz_nil⟩)) rfl
noncomputable def f_X_row_L15 (N : Nat) (k15 : (Int32 × Int32 × Int32 × mS) → Option (Int32 × mS)) (x : Int32 × Int32 × Int32 × mS) : Option (Int32 × mS) :=
  if x.2.2.1 < (gI x.2.2.2 400 2) then
    (f_Ha_isOpen N 19 x.2.2.1 x.2.2.2).bind fun p1 =>
    if p1.1 = 1 then
      f_X_row_j45 N k15 (x.1, x.2.2.1, (x.2.1 + 1), p1.2)
    else
      f_X_row_j45 N k15 (x.1, x.2.2.1, 0, p1.2)
  else
    some (x.1, x.2.2.2)
set_option maxRecDepth 100000 in
set_option maxHeartbeats 4000000 in
theorem t_X_row_15 (N : Nat) {x9 : Int32} {s9 : mS} {k15 : (Int32 × Int32 × Int32 × mS) → Option (Int32 × mS)} (hk15 : SCd Sx R0x oFx nx 2 q_X_row (some (.int x9), s9) (x9, s9) 15 (H_X_row_15 k15)) : SCd Sx R0x oFx nx 2 q_X_row (some (.int x9), s9) (x9, s9) 15 (H_X_row_15 (f_X_row_L15 N k15)) := by
  intro loc st s
  refine G_cR (fun h0 => ?_)
  refine G_li (fun v0 h1 => ?_)
  refine G_li (fun v1 h2 => ?_)
  refine G_li (fun v2 h3 => ?_)
  refine G_rv0 (fun e9 => ?_)
  subst e9
  refine G_sub (loc0 := [(0, .ref 0), (1, .int v0), (2, .int v1), (3, .int v2)]) (List.forall_mem_cons.mpr ⟨h0, List.forall_mem_cons.mpr ⟨h1, List.forall_mem_cons.mpr ⟨h2, List.forall_mem_cons.mpr ⟨h3, mz_nil⟩⟩⟩⟩) ?_
  exact G_eq (mEv_G (orc := mOrc (oL_X_row N)) (ret := rtI) (blks := bl_X_row) (cuts := [(45, H_X_row_45 (f_X_row_j45 N k15))]) wOKx (by decide) (oo_X_row N) (RetOK_I rfl) bk_X_row (List.forall_mem_cons.mpr ⟨s_X_row_45 N hk15, mz_nil⟩)) rfl
theorem s_X_row_15 (N : Nat) {x9 : Int32} {s9 : mS} : SCd Sx R0x oFx nx 2 q_X_row (some (.int x9), s9) (x9, s9) 15 (H_X_row_15 (mfix N (f_X_row_L15 N))) := by
  refine mfix_SC (H := H_X_row_15) (fun loc st s => ?_) (fun k hk => t_X_row_15 N hk) N
  refine G_cR (fun h0 => ?_)
  refine G_li (fun v0 h1 => ?_)
  refine G_li (fun v1 h2 => ?_)
  refine G_li (fun v2 h3 => ?_)
  refine G_rv0 (fun e9 => ?_)
  subst e9
  exact G_none
noncomputable def f_X_row (N : Nat) (s : mS) : Option (Int32 × mS) :=
  (f_X_isTold N s).bind fun p1 =>
  if p1.1 = 0 then
    some ((-1), p1.2)
  else
    mfix N (f_X_row_L15 N) (0, 0, 0, p1.2)
set_option maxRecDepth 100000 in
set_option maxHeartbeats 4000000 in
theorem m_X_row (N : Nat) {x9 : Int32} {s9 : mS} {s : mS} (h : f_X_row N s = some (x9, s9)) : MetM Sx R0x oFx nx 2 23 [.ref 0] s (some (.int x9)) s9 := by
  refine met_of_G (q := q_X_row) (t0 := (x9, s9)) y_X_row (Nat.le_of_ble_eq_true rfl) ?_
  rw [← h]
  exact G_eq (mEv_G (orc := mOrc (oL_X_row N)) (ret := rtI) (blks := bl_X_row) (cuts := [(15, H_X_row_15 (mfix N (f_X_row_L15 N)))]) wOKx (by decide) (oo_X_row N) (RetOK_I rfl) bk_X_row (List.forall_mem_cons.mpr ⟨s_X_row_15 N, mz_nil⟩)) rfl
noncomputable def C_X_row {ρ : Type} (N : Nat) : List Value → mS → (Option Value → mS → Option ρ) → Option ρ := fun vs s kk => sR vs 0 fun r0 => rv0 r0 ((f_X_row N s).bind fun p => kk (some (.int p.1)) p.2)
theorem cs_X_row {ρ : Type} {t0 : ρ} {d : Nat} (N : Nat) (hd : 2 + 1 ≤ d) : CallOK Sx R0x oFx nx d t0 23 (C_X_row N) := by
  intro vs s kk h0
  obtain ⟨r0, rfl, h1⟩ := sR_some h0
  obtain ⟨rfl, h2⟩ := rv0_some h1
  obtain ⟨p, hp, hk⟩ := Option.bind_eq_some_iff.mp h2
  exact ⟨_, _, _, hd, m_X_row N hp, hk, fun qy hq hf => by cases y_X_row.symm.trans hq; exact ⟨_, _, rfl, rfl⟩⟩
/-! METHOD PorterDoors$Sets.doorsBehind(I)I -/
set_option maxRecDepth 20000 in
noncomputable def q_Se_doorsBehind : mI := (⟨"PorterDoors$Sets", "doorsBehind", "(I)I"⟩, prog_9_method_7_code, 2, (some .int), 8, 871, 138, 1, 1, 870, 28)
theorem y_Se_doorsBehind : mT[125]? = some q_Se_doorsBehind := mT_at_3 (k := 5) rfl
noncomputable def bl_Se_doorsBehind : List (Nat × List mO) := [(0, [o0 (.aload_n 0), o2 (.getfield 42) 8 1, o2 (.getfield 68) 2 0, o0 (.iconst 2), o0 (.iaload), o0 (.aload_n 0), o2 (.getfield 19) 8 5, o0 (.iload_n 1), o0 (.iaload), o0 (.ixor), o0 (.ireturn)])]
theorem bk_Se_doorsBehind : okBlks q_Se_doorsBehind bl_Se_doorsBehind = true := by decide +kernel
noncomputable def oL_Se_doorsBehind {ρ : Type} (N : Nat) : List (Nat × (List Value → mS → (Option Value → mS → Option ρ) → Option ρ)) := []
theorem oo_Se_doorsBehind {ρ : Type} {t0 : ρ} (N : Nat) : OrcOK Sx R0x oFx nx 1 t0 (mOrc (oL_Se_doorsBehind N)) := mOrc_OK (mz_nil)
noncomputable def f_Se_doorsBehind (N : Nat) (a1 : Int32) (s : mS) : Option (Int32 × mS) :=
  grd (inb a1 1024) (
  some (((gA s 20 2) ^^^ (gA s 38 (ix a1))), s))
set_option maxRecDepth 100000 in
set_option maxHeartbeats 4000000 in
theorem m_Se_doorsBehind (N : Nat) {x9 : Int32} {s9 : mS} (a1 : Int32) {s : mS} (h : f_Se_doorsBehind N a1 s = some (x9, s9)) : MetM Sx R0x oFx nx 1 125 [.ref 37, .int a1] s (some (.int x9)) s9 := by
  refine met_of_G (q := q_Se_doorsBehind) (t0 := (x9, s9)) y_Se_doorsBehind (Nat.le_of_ble_eq_true rfl) ?_
  rw [← h]
  exact G_eq (mEv_G (orc := mOrc (oL_Se_doorsBehind N)) (ret := rtI) (blks := bl_Se_doorsBehind) (cuts := []) wOKx (by decide) (oo_Se_doorsBehind N) (RetOK_I rfl) bk_Se_doorsBehind (mz_nil)) rfl
noncomputable def C_Se_doorsBehind {ρ : Type} (N : Nat) : List Value → mS → (Option Value → mS → Option ρ) → Option ρ := fun vs s kk => sR vs 37 fun r0 => pi1 r0 fun a1 r1 => rv0 r1 ((f_Se_doorsBehind N a1 s).bind fun p => kk (some (.int p.1)) p.2)
theorem cs_Se_doorsBehind {ρ : Type} {t0 : ρ} {d : Nat} (N : Nat) (hd : 1 + 1 ≤ d) : CallOK Sx R0x oFx nx d t0 125 (C_Se_doorsBehind N) := by
  intro vs s kk h0
  obtain ⟨r0, rfl, h1⟩ := sR_some h0
  obtain ⟨a1, r1, rfl, h2⟩ := pi1_some h1
  obtain ⟨rfl, h3⟩ := rv0_some h2
  obtain ⟨p, hp, hk⟩ := Option.bind_eq_some_iff.mp h3
  exact ⟨_, _, _, hd, m_Se_doorsBehind N a1 hp, hk, fun qy hq hf => by cases y_Se_doorsBehind.symm.trans hq; exact ⟨_, _, rfl, rfl⟩⟩
/-! METHOD PorterDoors$Sets.reckonFits()V -/
set_option maxRecDepth 20000 in
noncomputable def q_Se_reckonFits : mI := (⟨"PorterDoors$Sets", "reckonFits", "()V"⟩, prog_9_method_6_code, 3, none, 8, 867, 138, 1, 0, 866, 27)
theorem y_Se_reckonFits : mT[124]? = some q_Se_reckonFits := mT_at_3 (k := 4) rfl
noncomputable def bl_Se_reckonFits : List (Nat × List mO) := [(0, [o0 (.aload_n 0), o0 (.iconst 0), o2 (.putfield 23) 8 6, o0 (.iconst 0), o0 (.istore_n 1)]),
  (7, [o0 (.iload_n 1), o0 (.aload_n 0), o2 (.getfield 15) 8 4, o1 (.if_icmp .ge 57) 69, o0 (.aload_n 0), o0 (.iload_n 1), o2 (.invokevirtual 64) 125 2, o0 (.istore_n 2), o0 (.iload_n 2), o0 (.aload_n 0), o2 (.getfield 32) 8 9, o0 (.iand), o0 (.aload_n 0), o2 (.getfield 32) 8 9, o1 (.if_icmp .ne 32) 63, o0 (.iload_n 2), o0 (.aload_n 0), o2 (.getfield 35) 8 10, o0 (.iand), o1 (.ifCond .ne 23) 63, o0 (.aload_n 0), o2 (.getfield 26) 8 7, o0 (.aload_n 0), o2 (.getfield 23) 8 6, o0 (.iload_n 1), o0 (.iastore), o0 (.aload_n 0), o0 (.dup), o2 (.getfield 23) 8 6, o0 (.iconst 1), o0 (.iadd), o2 (.putfield 23) 8 6]),
  (63, [o0 (.iinc 1 1), o1 (.goto (-59)) 7]),
  (69, [o0 (.return_)])]
theorem bk_Se_reckonFits : okBlks q_Se_reckonFits bl_Se_reckonFits = true := by decide +kernel
noncomputable def oL_Se_reckonFits {ρ : Type} (N : Nat) : List (Nat × (List Value → mS → (Option Value → mS → Option ρ) → Option ρ)) := [(125, C_Se_doorsBehind N)]
theorem oo_Se_reckonFits {ρ : Type} {t0 : ρ} (N : Nat) : OrcOK Sx R0x oFx nx 2 t0 (mOrc (oL_Se_reckonFits N)) := mOrc_OK (List.forall_mem_cons.mpr ⟨cs_Se_doorsBehind N (by decide), mz_nil⟩)
noncomputable def H_Se_reckonFits_7 {ρ : Type} (k : (Int32 × mS) → Option ρ) : mL → List Value → mS → Option ρ := fun loc st s => cR loc 0 37 (li1 loc 1 fun v0 => rv0 st (k (v0, s)))
noncomputable def f_Se_reckonFits_L7 (N : Nat) (k7 : (Int32 × mS) → Option (mS)) (x : Int32 × mS) : Option (mS) :=
  if x.1 < (gI x.2 804 37) then
    (f_Se_doorsBehind N x.1 x.2).bind fun p1 =>
    if (p1.1 &&& (gI p1.2 809 37)) = (gI p1.2 809 37) then
      if (p1.1 &&& (gI p1.2 810 37)) = 0 then
        grd (inb (gI p1.2 806 37) 1024) (
        let s2 := sA p1.2 39 (ix (gI p1.2 806 37)) x.1
        let s3 := sI s2 806 37 ((gI s2 806 37) + 1)
        k7 ((x.1 + 1), s3))
      else
        k7 ((x.1 + 1), p1.2)
    else
      k7 ((x.1 + 1), p1.2)
  else
    some x.2
set_option maxRecDepth 100000 in
set_option maxHeartbeats 4000000 in
theorem t_Se_reckonFits_7 (N : Nat) {s9 : mS} {k7 : (Int32 × mS) → Option (mS)} (hk7 : SCd Sx R0x oFx nx 2 q_Se_reckonFits (none, s9) s9 7 (H_Se_reckonFits_7 k7)) : SCd Sx R0x oFx nx 2 q_Se_reckonFits (none, s9) s9 7 (H_Se_reckonFits_7 (f_Se_reckonFits_L7 N k7)) := by
  intro loc st s
  refine G_cR (fun h0 => ?_)
  refine G_li (fun v0 h1 => ?_)
  refine G_rv0 (fun e9 => ?_)
  subst e9
  refine G_sub (loc0 := [(0, .ref 37), (1, .int v0)]) (List.forall_mem_cons.mpr ⟨h0, List.forall_mem_cons.mpr ⟨h1, mz_nil⟩⟩) ?_
  exact G_eq (mEv_G (orc := mOrc (oL_Se_reckonFits N)) (ret := rtV) (blks := bl_Se_reckonFits) (cuts := [(7, H_Se_reckonFits_7 k7)]) wOKx (by decide) (oo_Se_reckonFits N) (RetOK_V rfl) bk_Se_reckonFits (List.forall_mem_cons.mpr ⟨hk7, mz_nil⟩)) rfl
theorem s_Se_reckonFits_7 (N : Nat) {s9 : mS} : SCd Sx R0x oFx nx 2 q_Se_reckonFits (none, s9) s9 7 (H_Se_reckonFits_7 (mfix N (f_Se_reckonFits_L7 N))) := by
  refine mfix_SC (H := H_Se_reckonFits_7) (fun loc st s => ?_) (fun k hk => t_Se_reckonFits_7 N hk) N
  refine G_cR (fun h0 => ?_)
  refine G_li (fun v0 h1 => ?_)
  refine G_rv0 (fun e9 => ?_)
  subst e9
  exact G_none
noncomputable def f_Se_reckonFits (N : Nat) (s : mS) : Option (mS) :=
  let s1 := sI s 806 37 0
  mfix N (f_Se_reckonFits_L7 N) (0, s1)
set_option maxRecDepth 100000 in
set_option maxHeartbeats 4000000 in
theorem m_Se_reckonFits (N : Nat) {s9 : mS} {s : mS} (h : f_Se_reckonFits N s = some s9) : MetM Sx R0x oFx nx 2 124 [.ref 37] s (none) s9 := by
  refine met_of_G (q := q_Se_reckonFits) (t0 := s9) y_Se_reckonFits (Nat.le_of_ble_eq_true rfl) ?_
  rw [← h]
  exact G_eq (mEv_G (orc := mOrc (oL_Se_reckonFits N)) (ret := rtV) (blks := bl_Se_reckonFits) (cuts := [(7, H_Se_reckonFits_7 (mfix N (f_Se_reckonFits_L7 N)))]) wOKx (by decide) (oo_Se_reckonFits N) (RetOK_V rfl) bk_Se_reckonFits (List.forall_mem_cons.mpr ⟨s_Se_reckonFits_7 N, mz_nil⟩)) rfl
noncomputable def C_Se_reckonFits {ρ : Type} (N : Nat) : List Value → mS → (Option Value → mS → Option ρ) → Option ρ := fun vs s kk => sR vs 37 fun r0 => rv0 r0 ((f_Se_reckonFits N s).bind fun p => kk none p)
theorem cs_Se_reckonFits {ρ : Type} {t0 : ρ} {d : Nat} (N : Nat) (hd : 2 + 1 ≤ d) : CallOK Sx R0x oFx nx d t0 124 (C_Se_reckonFits N) := by
  intro vs s kk h0
  obtain ⟨r0, rfl, h1⟩ := sR_some h0
  obtain ⟨rfl, h2⟩ := rv0_some h1
  obtain ⟨p, hp, hk⟩ := Option.bind_eq_some_iff.mp h2
  exact ⟨_, _, _, hd, m_Se_reckonFits N hp, hk, fun qy hq hf => by cases y_Se_reckonFits.symm.trans hq; exact ⟨_, _, rfl, rfl⟩⟩
/-! METHOD PorterDoors$Sets.reckon()V -/
set_option maxRecDepth 20000 in
noncomputable def q_Se_reckon : mI := (⟨"PorterDoors$Sets", "reckon", "()V"⟩, prog_9_method_5_code, 4, none, 8, 862, 138, 1, 0, 860, 861)
theorem y_Se_reckon : mT[123]? = some q_Se_reckon := mT_at_3 (k := 3) rfl
noncomputable def bl_Se_reckon : List (Nat × List mO) := [(0, [o0 (.aload_n 0), o2 (.getfield 9) 8 3, o1 (.ifCond .eq 4) 8, o0 (.return_)]),
  (8, [o0 (.aload_n 0), o0 (.iconst 1), o2 (.putfield 15) 8 4, o0 (.aload_n 0), o2 (.getfield 19) 8 5, o0 (.iconst 0), o0 (.iconst 0), o0 (.iastore), o0 (.iconst 0), o0 (.istore_n 1)]),
  (22, [o0 (.iload_n 1), o0 (.aload_n 0), o2 (.getfield 38) 8 0, o2 (.getfield 50) 4 1, o1 (.if_icmp .ge 79) 109, o0 (.iconst 2), o0 (.aload_n 0), o2 (.getfield 15) 8 4, o0 (.imul), o0 (.sipush 1024), o1 (.if_icmp .gt 67) 109, o0 (.aload_n 0), o2 (.getfield 46) 8 2, o0 (.aload_n 0), o2 (.getfield 42) 8 1, o0 (.iload_n 1), o2 (.invokevirtual 55) 114 3, o0 (.istore_n 2), o0 (.iconst 0), o0 (.istore_n 3)]),
  (60, [o0 (.iload_n 3), o0 (.aload_n 0), o2 (.getfield 15) 8 4, o1 (.if_icmp .ge 28) 93, o0 (.aload_n 0), o2 (.getfield 19) 8 5, o0 (.aload_n 0), o2 (.getfield 15) 8 4, o0 (.iload_n 3), o0 (.iadd), o0 (.aload_n 0), o2 (.getfield 19) 8 5, o0 (.iload_n 3), o0 (.iaload), o0 (.iload_n 2), o0 (.ixor), o0 (.iastore), o0 (.iinc 3 1), o1 (.goto (-30)) 60]),
  (93, [o0 (.aload_n 0), o0 (.dup), o2 (.getfield 15) 8 4, o0 (.iconst 2), o0 (.imul), o2 (.putfield 15) 8 4, o0 (.iinc 1 1), o1 (.goto (-84)) 22]),
  (109, [o0 (.aload_n 0), o2 (.invokevirtual 61) 124 1, o0 (.aload_n 0), o0 (.iconst 1), o2 (.putfield 9) 8 3, o0 (.return_)])]
theorem bk_Se_reckon : okBlks q_Se_reckon bl_Se_reckon = true := by decide +kernel
noncomputable def oL_Se_reckon {ρ : Type} (N : Nat) : List (Nat × (List Value → mS → (Option Value → mS → Option ρ) → Option ρ)) := [(114, C_Ro_orderOf N), (124, C_Se_reckonFits N)]
theorem oo_Se_reckon {ρ : Type} {t0 : ρ} (N : Nat) : OrcOK Sx R0x oFx nx 5 t0 (mOrc (oL_Se_reckon N)) := mOrc_OK (List.forall_mem_cons.mpr ⟨cs_Ro_orderOf N (by decide), List.forall_mem_cons.mpr ⟨cs_Se_reckonFits N (by decide), mz_nil⟩⟩)
noncomputable def H_Se_reckon_22 {ρ : Type} (k : (Int32 × mS) → Option ρ) : mL → List Value → mS → Option ρ := fun loc st s => cR loc 0 37 (li1 loc 1 fun v0 => rv0 st (k (v0, s)))
noncomputable def H_Se_reckon_60 {ρ : Type} (k : (Int32 × Int32 × Int32 × mS) → Option ρ) : mL → List Value → mS → Option ρ := fun loc st s => cR loc 0 37 (li1 loc 1 fun v0 => li1 loc 2 fun v1 => li1 loc 3 fun v2 => rv0 st (k (v0, v1, v2, s)))
noncomputable def H_Se_reckon_109 {ρ : Type} (k : mS → Option ρ) : mL → List Value → mS → Option ρ := fun loc st s => cR loc 0 37 (rv0 st (k s))
noncomputable def f_Se_reckon_L60 (N : Nat) (k22 : (Int32 × mS) → Option (mS)) (k60 : (Int32 × Int32 × Int32 × mS) → Option (mS)) (x : Int32 × Int32 × Int32 × mS) : Option (mS) :=
  if x.2.2.1 < (gI x.2.2.2 804 37) then
    grd (inb x.2.2.1 1024) (
    grd (inb ((gI x.2.2.2 804 37) + x.2.2.1) 1024) (
    let s2 := sA x.2.2.2 38 (ix ((gI x.2.2.2 804 37) + x.2.2.1)) ((gA x.2.2.2 38 (ix x.2.2.1)) ^^^ x.2.1)
    k60 (x.1, x.2.1, (x.2.2.1 + 1), s2)))
  else
    let s1 := sI x.2.2.2 804 37 ((gI x.2.2.2 804 37) * 2)
    k22 ((x.1 + 1), s1)
set_option maxRecDepth 100000 in
set_option maxHeartbeats 4000000 in
theorem t_Se_reckon_60 (N : Nat) {s9 : mS} {k22 : (Int32 × mS) → Option (mS)} (hk22 : SCd Sx R0x oFx nx 5 q_Se_reckon (none, s9) s9 22 (H_Se_reckon_22 k22)) {k60 : (Int32 × Int32 × Int32 × mS) → Option (mS)} (hk60 : SCd Sx R0x oFx nx 5 q_Se_reckon (none, s9) s9 60 (H_Se_reckon_60 k60)) : SCd Sx R0x oFx nx 5 q_Se_reckon (none, s9) s9 60 (H_Se_reckon_60 (f_Se_reckon_L60 N k22 k60)) := by
  intro loc st s
  refine G_cR (fun h0 => ?_)
  refine G_li (fun v0 h1 => ?_)
  refine G_li (fun v1 h2 => ?_)
  refine G_li (fun v2 h3 => ?_)
  refine G_rv0 (fun e9 => ?_)
  subst e9
  refine G_sub (loc0 := [(0, .ref 37), (1, .int v0), (2, .int v1), (3, .int v2)]) (List.forall_mem_cons.mpr ⟨h0, List.forall_mem_cons.mpr ⟨h1, List.forall_mem_cons.mpr ⟨h2, List.forall_mem_cons.mpr ⟨h3, mz_nil⟩⟩⟩⟩) ?_
  exact G_eq (mEv_G (orc := mOrc (oL_Se_reckon N)) (ret := rtV) (blks := bl_Se_reckon) (cuts := [(22, H_Se_reckon_22 k22), (60, H_Se_reckon_60 k60)]) wOKx (by decide) (oo_Se_reckon N) (RetOK_V rfl) bk_Se_reckon (List.forall_mem_cons.mpr ⟨hk22, List.forall_mem_cons.mpr ⟨hk60, mz_nil⟩⟩)) rfl
theorem s_Se_reckon_60 (N : Nat) {s9 : mS} {k22 : (Int32 × mS) → Option (mS)} (hk22 : SCd Sx R0x oFx nx 5 q_Se_reckon (none, s9) s9 22 (H_Se_reckon_22 k22)) : SCd Sx R0x oFx nx 5 q_Se_reckon (none, s9) s9 60 (H_Se_reckon_60 (mfix N (f_Se_reckon_L60 N k22))) := by
  refine mfix_SC (H := H_Se_reckon_60) (fun loc st s => ?_) (fun k hk => t_Se_reckon_60 N hk22 hk) N
  refine G_cR (fun h0 => ?_)
  refine G_li (fun v0 h1 => ?_)
  refine G_li (fun v1 h2 => ?_)
  refine G_li (fun v2 h3 => ?_)
  refine G_rv0 (fun e9 => ?_)
  subst e9
  exact G_none
noncomputable def f_Se_reckon_j109 (N : Nat) (x : mS) : Option (mS) :=
  (f_Se_reckonFits N x).bind fun p1 =>
  let s2 := sI p1 803 37 1
  some s2
set_option maxRecDepth 100000 in
set_option maxHeartbeats 4000000 in
theorem s_Se_reckon_109 (N : Nat) {s9 : mS} : SCd Sx R0x oFx nx 5 q_Se_reckon (none, s9) s9 109 (H_Se_reckon_109 (f_Se_reckon_j109 N)) := by
  intro loc st s
  refine G_cR (fun h0 => ?_)
  refine G_rv0 (fun e9 => ?_)
  subst e9
  refine G_sub (loc0 := [(0, .ref 37)]) (List.forall_mem_cons.mpr ⟨h0, mz_nil⟩) ?_
  exact G_eq (mEv_G (orc := mOrc (oL_Se_reckon N)) (ret := rtV) (blks := bl_Se_reckon) (cuts := []) wOKx (by decide) (oo_Se_reckon N) (RetOK_V rfl) bk_Se_reckon (mz_nil)) rfl
noncomputable def f_Se_reckon_L22 (N : Nat) (k22 : (Int32 × mS) → Option (mS)) (x : Int32 × mS) : Option (mS) :=
  if x.1 < (gI x.2 401 2) then
    if 1024 < (2 * (gI x.2 804 37)) then
      f_Se_reckon_j109 N x.2
    else
      (f_Ro_orderOf N 19 x.1 x.2).bind fun p1 =>
      mfix N (f_Se_reckon_L60 N k22) (x.1, p1.1, 0, p1.2)
  else
    f_Se_reckon_j109 N x.2
set_option maxRecDepth 100000 in
set_option maxHeartbeats 4000000 in
theorem t_Se_reckon_22 (N : Nat) {s9 : mS} {k22 : (Int32 × mS) → Option (mS)} (hk22 : SCd Sx R0x oFx nx 5 q_Se_reckon (none, s9) s9 22 (H_Se_reckon_22 k22)) : SCd Sx R0x oFx nx 5 q_Se_reckon (none, s9) s9 22 (H_Se_reckon_22 (f_Se_reckon_L22 N k22)) := by
  intro loc st s
  refine G_cR (fun h0 => ?_)
  refine G_li (fun v0 h1 => ?_)
  refine G_rv0 (fun e9 => ?_)
  subst e9
  refine G_sub (loc0 := [(0, .ref 37), (1, .int v0)]) (List.forall_mem_cons.mpr ⟨h0, List.forall_mem_cons.mpr ⟨h1, mz_nil⟩⟩) ?_
  exact G_eq (mEv_G (orc := mOrc (oL_Se_reckon N)) (ret := rtV) (blks := bl_Se_reckon) (cuts := [(60, H_Se_reckon_60 (mfix N (f_Se_reckon_L60 N k22))), (109, H_Se_reckon_109 (f_Se_reckon_j109 N))]) wOKx (by decide) (oo_Se_reckon N) (RetOK_V rfl) bk_Se_reckon (List.forall_mem_cons.mpr ⟨s_Se_reckon_60 N hk22, List.forall_mem_cons.mpr ⟨s_Se_reckon_109 N, mz_nil⟩⟩)) rfl
theorem s_Se_reckon_22 (N : Nat) {s9 : mS} : SCd Sx R0x oFx nx 5 q_Se_reckon (none, s9) s9 22 (H_Se_reckon_22 (mfix N (f_Se_reckon_L22 N))) := by
  refine mfix_SC (H := H_Se_reckon_22) (fun loc st s => ?_) (fun k hk => t_Se_reckon_22 N hk) N
  refine G_cR (fun h0 => ?_)
  refine G_li (fun v0 h1 => ?_)
  refine G_rv0 (fun e9 => ?_)
  subst e9
  exact G_none
noncomputable def f_Se_reckon (N : Nat) (s : mS) : Option (mS) :=
  if (gI s 803 37) = 0 then
    let s1 := sI s 804 37 1
    let s2 := sA s1 38 0 0
    mfix N (f_Se_reckon_L22 N) (0, s2)
  else
    some s
set_option maxRecDepth 100000 in
set_option maxHeartbeats 4000000 in
theorem m_Se_reckon (N : Nat) {s9 : mS} {s : mS} (h : f_Se_reckon N s = some s9) : MetM Sx R0x oFx nx 5 123 [.ref 37] s (none) s9 := by
  refine met_of_G (q := q_Se_reckon) (t0 := s9) y_Se_reckon (Nat.le_of_ble_eq_true rfl) ?_
  rw [← h]
  exact G_eq (mEv_G (orc := mOrc (oL_Se_reckon N)) (ret := rtV) (blks := bl_Se_reckon) (cuts := [(22, H_Se_reckon_22 (mfix N (f_Se_reckon_L22 N)))]) wOKx (by decide) (oo_Se_reckon N) (RetOK_V rfl) bk_Se_reckon (List.forall_mem_cons.mpr ⟨s_Se_reckon_22 N, mz_nil⟩)) rfl
noncomputable def C_Se_reckon {ρ : Type} (N : Nat) : List Value → mS → (Option Value → mS → Option ρ) → Option ρ := fun vs s kk => sR vs 37 fun r0 => rv0 r0 ((f_Se_reckon N s).bind fun p => kk none p)
theorem cs_Se_reckon {ρ : Type} {t0 : ρ} {d : Nat} (N : Nat) (hd : 5 + 1 ≤ d) : CallOK Sx R0x oFx nx d t0 123 (C_Se_reckon N) := by
  intro vs s kk h0
  obtain ⟨r0, rfl, h1⟩ := sR_some h0
  obtain ⟨rfl, h2⟩ := rv0_some h1
  obtain ⟨p, hp, hk⟩ := Option.bind_eq_some_iff.mp h2
  exact ⟨_, _, _, hd, m_Se_reckon N hp, hk, fun qy hq hf => by cases y_Se_reckon.symm.trans hq; exact ⟨_, _, rfl, rfl⟩⟩
/-! METHOD PorterDoors.changes(I)I -/
set_option maxRecDepth 20000 in
noncomputable def q_X_changes : mI := (⟨"PorterDoors", "changes", "(I)I"⟩, prog_1_method_16_code, 2, (some .int), 0, 858, 129, 1, 1, 856, 857)
theorem y_X_changes : mT[24]? = some q_X_changes := mT_at_0 (k := 24) rfl
noncomputable def bl_X_changes : List (Nat × List mO) := [(0, [o0 (.aload_n 0), o2 (.invokevirtual 220) 20 1, o1 (.ifCond .ne 5) 9, o0 (.iconst (-1)), o0 (.ireturn)]),
  (9, [o0 (.aload_n 0), o2 (.getfield 90) 0 12, o2 (.invokevirtual 237) 123 1, o0 (.iload_n 1), o1 (.ifCond .lt 26) 43, o0 (.iload_n 1), o0 (.aload_n 0), o2 (.getfield 90) 0 12, o2 (.getfield 240) 8 4, o1 (.if_icmp .ge 15) 43, o0 (.aload_n 0), o2 (.getfield 90) 0 12, o2 (.getfield 241) 8 5, o0 (.iload_n 1), o0 (.iaload), o1 (.goto 4) 44]),
  (43, [o0 (.iconst (-1))]),
  (44, [o0 (.ireturn)])]
theorem bk_X_changes : okBlks q_X_changes bl_X_changes = true := by decide +kernel
noncomputable def oL_X_changes {ρ : Type} (N : Nat) : List (Nat × (List Value → mS → (Option Value → mS → Option ρ) → Option ρ)) := [(20, C_X_isTold N), (123, C_Se_reckon N)]
theorem oo_X_changes {ρ : Type} {t0 : ρ} (N : Nat) : OrcOK Sx R0x oFx nx 6 t0 (mOrc (oL_X_changes N)) := mOrc_OK (List.forall_mem_cons.mpr ⟨cs_X_isTold N (by decide), List.forall_mem_cons.mpr ⟨cs_Se_reckon N (by decide), mz_nil⟩⟩)
noncomputable def f_X_changes (N : Nat) (a1 : Int32) (s : mS) : Option (Int32 × mS) :=
  (f_X_isTold N s).bind fun p1 =>
  if p1.1 = 0 then
    some ((-1), p1.2)
  else
    (f_Se_reckon N p1.2).bind fun p2 =>
    if a1 < 0 then
      some ((-1), p2)
    else
      if a1 < (gI p2 804 37) then
        grd (inb a1 1024) (
        some ((gA p2 38 (ix a1)), p2))
      else
        some ((-1), p2)
set_option maxRecDepth 100000 in
set_option maxHeartbeats 4000000 in
theorem m_X_changes (N : Nat) {x9 : Int32} {s9 : mS} (a1 : Int32) {s : mS} (h : f_X_changes N a1 s = some (x9, s9)) : MetM Sx R0x oFx nx 6 24 [.ref 0, .int a1] s (some (.int x9)) s9 := by
  refine met_of_G (q := q_X_changes) (t0 := (x9, s9)) y_X_changes (Nat.le_of_ble_eq_true rfl) ?_
  rw [← h]
  exact G_eq (mEv_G (orc := mOrc (oL_X_changes N)) (ret := rtI) (blks := bl_X_changes) (cuts := []) wOKx (by decide) (oo_X_changes N) (RetOK_I rfl) bk_X_changes (mz_nil)) rfl
noncomputable def C_X_changes {ρ : Type} (N : Nat) : List Value → mS → (Option Value → mS → Option ρ) → Option ρ := fun vs s kk => sR vs 0 fun r0 => pi1 r0 fun a1 r1 => rv0 r1 ((f_X_changes N a1 s).bind fun p => kk (some (.int p.1)) p.2)
theorem cs_X_changes {ρ : Type} {t0 : ρ} {d : Nat} (N : Nat) (hd : 6 + 1 ≤ d) : CallOK Sx R0x oFx nx d t0 24 (C_X_changes N) := by
  intro vs s kk h0
  obtain ⟨r0, rfl, h1⟩ := sR_some h0
  obtain ⟨a1, r1, rfl, h2⟩ := pi1_some h1
  obtain ⟨rfl, h3⟩ := rv0_some h2
  obtain ⟨p, hp, hk⟩ := Option.bind_eq_some_iff.mp h3
  exact ⟨_, _, _, hd, m_X_changes N a1 hp, hk, fun qy hq hf => by cases y_X_changes.symm.trans hq; exact ⟨_, _, rfl, rfl⟩⟩
/-! METHOD PorterDoors.allDoors()I -/
set_option maxRecDepth 20000 in
noncomputable def q_X_allDoors : mI := (⟨"PorterDoors", "allDoors", "()I"⟩, prog_1_method_45_code, 1, (some .int), 0, 879, 129, 1, 0, 878, 29)
theorem y_X_allDoors : mT[26]? = some q_X_allDoors := mT_at_0 (k := 26) rfl
noncomputable def bl_X_allDoors : List (Nat × List mO) := [(0, [o0 (.iconst 1), o0 (.aload_n 0), o2 (.getfield 20) 0 2, o2 (.getfield 156) 4 0, o0 (.ishl), o0 (.iconst 1), o0 (.isub), o0 (.ireturn)])]
theorem bk_X_allDoors : okBlks q_X_allDoors bl_X_allDoors = true := by decide +kernel
noncomputable def oL_X_allDoors {ρ : Type} (N : Nat) : List (Nat × (List Value → mS → (Option Value → mS → Option ρ) → Option ρ)) := []
theorem oo_X_allDoors {ρ : Type} {t0 : ρ} (N : Nat) : OrcOK Sx R0x oFx nx 1 t0 (mOrc (oL_X_allDoors N)) := mOrc_OK (mz_nil)
noncomputable def f_X_allDoors (N : Nat) (s : mS) : Option (Int32 × mS) :=
  some (((ils 1 (gI s 400 2)) - 1), s)
set_option maxRecDepth 100000 in
set_option maxHeartbeats 4000000 in
theorem m_X_allDoors (N : Nat) {x9 : Int32} {s9 : mS} {s : mS} (h : f_X_allDoors N s = some (x9, s9)) : MetM Sx R0x oFx nx 1 26 [.ref 0] s (some (.int x9)) s9 := by
  refine met_of_G (q := q_X_allDoors) (t0 := (x9, s9)) y_X_allDoors (Nat.le_of_ble_eq_true rfl) ?_
  rw [← h]
  exact G_eq (mEv_G (orc := mOrc (oL_X_allDoors N)) (ret := rtI) (blks := bl_X_allDoors) (cuts := []) wOKx (by decide) (oo_X_allDoors N) (RetOK_I rfl) bk_X_allDoors (mz_nil)) rfl
noncomputable def C_X_allDoors {ρ : Type} (N : Nat) : List Value → mS → (Option Value → mS → Option ρ) → Option ρ := fun vs s kk => sR vs 0 fun r0 => rv0 r0 ((f_X_allDoors N s).bind fun p => kk (some (.int p.1)) p.2)
theorem cs_X_allDoors {ρ : Type} {t0 : ρ} {d : Nat} (N : Nat) (hd : 1 + 1 ≤ d) : CallOK Sx R0x oFx nx d t0 26 (C_X_allDoors N) := by
  intro vs s kk h0
  obtain ⟨r0, rfl, h1⟩ := sR_some h0
  obtain ⟨rfl, h2⟩ := rv0_some h1
  obtain ⟨p, hp, hk⟩ := Option.bind_eq_some_iff.mp h2
  exact ⟨_, _, _, hd, m_X_allDoors N hp, hk, fun qy hq hf => by cases y_X_allDoors.symm.trans hq; exact ⟨_, _, rfl, rfl⟩⟩
/-! METHOD PorterDoors$Sets.isFewer(II)Z -/
set_option maxRecDepth 20000 in
noncomputable def q_Se_isFewer : mI := (⟨"PorterDoors$Sets", "isFewer", "(II)Z"⟩, prog_9_method_12_code, 2, (some .boolean), 8, 887, 138, 0, 2, 886, 0)
theorem y_Se_isFewer : mT[127]? = some q_Se_isFewer := mT_at_3 (k := 7) rfl
noncomputable def bl_Se_isFewer : List (Nat × List mO) := [(0, [o0 (.iload_n 0), o2 (.invokestatic 73) 276 1, o0 (.iload_n 1), o2 (.invokestatic 73) 276 1, o1 (.if_icmp .ge 7) 15, o0 (.iconst 1), o1 (.goto 4) 16]),
  (15, [o0 (.iconst 0)]),
  (16, [o0 (.ireturn)])]
theorem bk_Se_isFewer : okBlks q_Se_isFewer bl_Se_isFewer = true := by decide +kernel
noncomputable def oL_Se_isFewer {ρ : Type} (N : Nat) : List (Nat × (List Value → mS → (Option Value → mS → Option ρ) → Option ρ)) := [(276, C_Int_bitCount N)]
theorem oo_Se_isFewer {ρ : Type} {t0 : ρ} (N : Nat) : OrcOK Sx R0x oFx nx 2 t0 (mOrc (oL_Se_isFewer N)) := mOrc_OK (List.forall_mem_cons.mpr ⟨cs_Int_bitCount N wOKx (by decide), mz_nil⟩)
noncomputable def f_Se_isFewer (N : Nat) (a0 : Int32) (a1 : Int32) (s : mS) : Option (Int32 × mS) :=
  (f_Int_bitCount N a0 s).bind fun p1 =>
  (f_Int_bitCount N a1 p1.2).bind fun p2 =>
  if p1.1 < p2.1 then
    some (1, p2.2)
  else
    some (0, p2.2)
set_option maxRecDepth 100000 in
set_option maxHeartbeats 4000000 in
theorem m_Se_isFewer (N : Nat) {x9 : Int32} {s9 : mS} (a0 : Int32) (a1 : Int32) {s : mS} (h : f_Se_isFewer N a0 a1 s = some (x9, s9)) : MetM Sx R0x oFx nx 2 127 [.int a0, .int a1] s (some (.int x9)) s9 := by
  refine met_of_G (q := q_Se_isFewer) (t0 := (x9, s9)) y_Se_isFewer (Nat.le_of_ble_eq_true rfl) ?_
  rw [← h]
  exact G_eq (mEv_G (orc := mOrc (oL_Se_isFewer N)) (ret := rtZ) (blks := bl_Se_isFewer) (cuts := []) wOKx (by decide) (oo_Se_isFewer N) (RetOK_Z rfl) bk_Se_isFewer (mz_nil)) rfl
noncomputable def C_Se_isFewer {ρ : Type} (N : Nat) : List Value → mS → (Option Value → mS → Option ρ) → Option ρ := fun vs s kk => pi1 vs fun a0 r0 => pi1 r0 fun a1 r1 => rv0 r1 ((f_Se_isFewer N a0 a1 s).bind fun p => kk (some (.int p.1)) p.2)
theorem cs_Se_isFewer {ρ : Type} {t0 : ρ} {d : Nat} (N : Nat) (hd : 2 + 1 ≤ d) : CallOK Sx R0x oFx nx d t0 127 (C_Se_isFewer N) := by
  intro vs s kk h0
  obtain ⟨a0, r0, rfl, h1⟩ := pi1_some h0
  obtain ⟨a1, r1, rfl, h2⟩ := pi1_some h1
  obtain ⟨rfl, h3⟩ := rv0_some h2
  obtain ⟨p, hp, hk⟩ := Option.bind_eq_some_iff.mp h3
  exact ⟨_, _, _, hd, m_Se_isFewer N a0 a1 hp, hk, fun qy hq hf => by cases y_Se_isFewer.symm.trans hq; exact absurd hf (by decide)⟩
/-! METHOD PorterDoors$Sets.fewest(II)I -/
set_option maxRecDepth 20000 in
noncomputable def q_Se_fewest : mI := (⟨"PorterDoors$Sets", "fewest", "(II)I"⟩, prog_9_method_9_code, 5, (some .int), 8, 883, 138, 1, 2, 881, 882)
theorem y_Se_fewest : mT[126]? = some q_Se_fewest := mT_at_3 (k := 6) rfl
noncomputable def bl_Se_fewest : List (Nat × List mO) := [(0, [o0 (.aload_n 0), o2 (.invokevirtual 78) 123 1, o0 (.iconst (-1)), o0 (.istore_n 3), o0 (.iconst 0), o0 (.istore 4)]),
  (9, [o0 (.iload 4), o0 (.aload_n 0), o2 (.getfield 15) 8 4, o1 (.if_icmp .ge 39) 54, o0 (.aload_n 0), o2 (.getfield 19) 8 5, o0 (.iload 4), o0 (.iaload), o0 (.iload_n 1), o0 (.iand), o0 (.iload_n 2), o1 (.if_icmp .ne 20) 48, o0 (.iload_n 3), o0 (.iconst (-1)), o1 (.if_icmp .eq 12) 45, o0 (.iload 4), o0 (.iload_n 3), o2 (.invokestatic 81) 127 2, o1 (.ifCond .eq 6) 48]),
  (45, [o0 (.iload 4), o0 (.istore_n 3)]),
  (48, [o0 (.iinc 4 1), o1 (.goto (-42)) 9]),
  (54, [o0 (.iload_n 3), o0 (.ireturn)])]
theorem bk_Se_fewest : okBlks q_Se_fewest bl_Se_fewest = true := by decide +kernel
noncomputable def oL_Se_fewest {ρ : Type} (N : Nat) : List (Nat × (List Value → mS → (Option Value → mS → Option ρ) → Option ρ)) := [(123, C_Se_reckon N), (127, C_Se_isFewer N)]
theorem oo_Se_fewest {ρ : Type} {t0 : ρ} (N : Nat) : OrcOK Sx R0x oFx nx 6 t0 (mOrc (oL_Se_fewest N)) := mOrc_OK (List.forall_mem_cons.mpr ⟨cs_Se_reckon N (by decide), List.forall_mem_cons.mpr ⟨cs_Se_isFewer N (by decide), mz_nil⟩⟩)
noncomputable def H_Se_fewest_9 {ρ : Type} (k : (Int32 × Int32 × Int32 × Int32 × mS) → Option ρ) : mL → List Value → mS → Option ρ := fun loc st s => cR loc 0 37 (li1 loc 1 fun v0 => li1 loc 2 fun v1 => li1 loc 3 fun v2 => li1 loc 4 fun v3 => rv0 st (k (v0, v1, v2, v3, s)))
noncomputable def f_Se_fewest_L9 (N : Nat) (k9 : (Int32 × Int32 × Int32 × Int32 × mS) → Option (Int32 × mS)) (x : Int32 × Int32 × Int32 × Int32 × mS) : Option (Int32 × mS) :=
  if x.2.2.2.1 < (gI x.2.2.2.2 804 37) then
    grd (inb x.2.2.2.1 1024) (
    if ((gA x.2.2.2.2 38 (ix x.2.2.2.1)) &&& x.1) = x.2.1 then
      if x.2.2.1 = (-1) then
        k9 (x.1, x.2.1, x.2.2.2.1, (x.2.2.2.1 + 1), x.2.2.2.2)
      else
        (f_Se_isFewer N x.2.2.2.1 x.2.2.1 x.2.2.2.2).bind fun p1 =>
        if p1.1 = 0 then
          k9 (x.1, x.2.1, x.2.2.1, (x.2.2.2.1 + 1), p1.2)
        else
          k9 (x.1, x.2.1, x.2.2.2.1, (x.2.2.2.1 + 1), p1.2)
    else
      k9 (x.1, x.2.1, x.2.2.1, (x.2.2.2.1 + 1), x.2.2.2.2))
  else
    some (x.2.2.1, x.2.2.2.2)
set_option maxRecDepth 100000 in
set_option maxHeartbeats 4000000 in
theorem t_Se_fewest_9 (N : Nat) {x9 : Int32} {s9 : mS} {k9 : (Int32 × Int32 × Int32 × Int32 × mS) → Option (Int32 × mS)} (hk9 : SCd Sx R0x oFx nx 6 q_Se_fewest (some (.int x9), s9) (x9, s9) 9 (H_Se_fewest_9 k9)) : SCd Sx R0x oFx nx 6 q_Se_fewest (some (.int x9), s9) (x9, s9) 9 (H_Se_fewest_9 (f_Se_fewest_L9 N k9)) := by
  intro loc st s
  refine G_cR (fun h0 => ?_)
  refine G_li (fun v0 h1 => ?_)
  refine G_li (fun v1 h2 => ?_)
  refine G_li (fun v2 h3 => ?_)
  refine G_li (fun v3 h4 => ?_)
  refine G_rv0 (fun e9 => ?_)
  subst e9
  refine G_sub (loc0 := [(0, .ref 37), (1, .int v0), (2, .int v1), (3, .int v2), (4, .int v3)]) (List.forall_mem_cons.mpr ⟨h0, List.forall_mem_cons.mpr ⟨h1, List.forall_mem_cons.mpr ⟨h2, List.forall_mem_cons.mpr ⟨h3, List.forall_mem_cons.mpr ⟨h4, mz_nil⟩⟩⟩⟩⟩) ?_
  exact G_eq (mEv_G (orc := mOrc (oL_Se_fewest N)) (ret := rtI) (blks := bl_Se_fewest) (cuts := [(9, H_Se_fewest_9 k9)]) wOKx (by decide) (oo_Se_fewest N) (RetOK_I rfl) bk_Se_fewest (List.forall_mem_cons.mpr ⟨hk9, mz_nil⟩)) rfl
theorem s_Se_fewest_9 (N : Nat) {x9 : Int32} {s9 : mS} : SCd Sx R0x oFx nx 6 q_Se_fewest (some (.int x9), s9) (x9, s9) 9 (H_Se_fewest_9 (mfix N (f_Se_fewest_L9 N))) := by
  refine mfix_SC (H := H_Se_fewest_9) (fun loc st s => ?_) (fun k hk => t_Se_fewest_9 N hk) N
  refine G_cR (fun h0 => ?_)
  refine G_li (fun v0 h1 => ?_)
  refine G_li (fun v1 h2 => ?_)
  refine G_li (fun v2 h3 => ?_)
  refine G_li (fun v3 h4 => ?_)
  refine G_rv0 (fun e9 => ?_)
  subst e9
  exact G_none
noncomputable def f_Se_fewest (N : Nat) (a1 : Int32) (a2 : Int32) (s : mS) : Option (Int32 × mS) :=
  (f_Se_reckon N s).bind fun p1 =>
  mfix N (f_Se_fewest_L9 N) (a1, a2, (-1), 0, p1)
set_option maxRecDepth 100000 in
set_option maxHeartbeats 4000000 in
theorem m_Se_fewest (N : Nat) {x9 : Int32} {s9 : mS} (a1 : Int32) (a2 : Int32) {s : mS} (h : f_Se_fewest N a1 a2 s = some (x9, s9)) : MetM Sx R0x oFx nx 6 126 [.ref 37, .int a1, .int a2] s (some (.int x9)) s9 := by
  refine met_of_G (q := q_Se_fewest) (t0 := (x9, s9)) y_Se_fewest (Nat.le_of_ble_eq_true rfl) ?_
  rw [← h]
  exact G_eq (mEv_G (orc := mOrc (oL_Se_fewest N)) (ret := rtI) (blks := bl_Se_fewest) (cuts := [(9, H_Se_fewest_9 (mfix N (f_Se_fewest_L9 N)))]) wOKx (by decide) (oo_Se_fewest N) (RetOK_I rfl) bk_Se_fewest (List.forall_mem_cons.mpr ⟨s_Se_fewest_9 N, mz_nil⟩)) rfl
noncomputable def C_Se_fewest {ρ : Type} (N : Nat) : List Value → mS → (Option Value → mS → Option ρ) → Option ρ := fun vs s kk => sR vs 37 fun r0 => pi1 r0 fun a1 r1 => pi1 r1 fun a2 r2 => rv0 r2 ((f_Se_fewest N a1 a2 s).bind fun p => kk (some (.int p.1)) p.2)
theorem cs_Se_fewest {ρ : Type} {t0 : ρ} {d : Nat} (N : Nat) (hd : 6 + 1 ≤ d) : CallOK Sx R0x oFx nx d t0 126 (C_Se_fewest N) := by
  intro vs s kk h0
  obtain ⟨r0, rfl, h1⟩ := sR_some h0
  obtain ⟨a1, r1, rfl, h2⟩ := pi1_some h1
  obtain ⟨a2, r2, rfl, h3⟩ := pi1_some h2
  obtain ⟨rfl, h4⟩ := rv0_some h3
  obtain ⟨p, hp, hk⟩ := Option.bind_eq_some_iff.mp h4
  exact ⟨_, _, _, hd, m_Se_fewest N a1 a2 hp, hk, fun qy hq hf => by cases y_Se_fewest.symm.trans hq; exact ⟨_, _, rfl, rfl⟩⟩
/-! METHOD PorterDoors.sends(II)I -/
set_option maxRecDepth 20000 in
noncomputable def q_X_sends : mI := (⟨"PorterDoors", "sends", "(II)I"⟩, prog_1_method_17_code, 4, (some .int), 0, 875, 129, 1, 2, 873, 874)
theorem y_X_sends : mT[25]? = some q_X_sends := mT_at_0 (k := 25) rfl
noncomputable def bl_X_sends : List (Nat × List mO) := [(0, [o0 (.aload_n 0), o2 (.invokevirtual 244) 26 1, o0 (.istore_n 3), o0 (.aload_n 0), o2 (.invokevirtual 220) 20 1, o1 (.ifCond .eq 19) 28, o0 (.iload_n 1), o0 (.iload_n 3), o0 (.iconst (-1)), o0 (.ixor), o0 (.iand), o1 (.ifCond .ne 11) 28, o0 (.iload_n 2), o0 (.iload_n 1), o0 (.iconst (-1)), o0 (.ixor), o0 (.iand), o1 (.ifCond .eq 5) 30]),
  (28, [o0 (.iconst (-1)), o0 (.ireturn)]),
  (30, [o0 (.aload_n 0), o2 (.getfield 90) 0 12, o0 (.iload_n 1), o0 (.aload_n 0), o2 (.getfield 46) 0 6, o2 (.getfield 162) 2 0, o0 (.iconst 2), o0 (.iaload), o0 (.iload_n 1), o0 (.iand), o0 (.iload_n 2), o0 (.ixor), o2 (.invokevirtual 247) 126 3, o0 (.ireturn)])]
theorem bk_X_sends : okBlks q_X_sends bl_X_sends = true := by decide +kernel
noncomputable def oL_X_sends {ρ : Type} (N : Nat) : List (Nat × (List Value → mS → (Option Value → mS → Option ρ) → Option ρ)) := [(26, C_X_allDoors N), (20, C_X_isTold N), (126, C_Se_fewest N)]
theorem oo_X_sends {ρ : Type} {t0 : ρ} (N : Nat) : OrcOK Sx R0x oFx nx 7 t0 (mOrc (oL_X_sends N)) := mOrc_OK (List.forall_mem_cons.mpr ⟨cs_X_allDoors N (by decide), List.forall_mem_cons.mpr ⟨cs_X_isTold N (by decide), List.forall_mem_cons.mpr ⟨cs_Se_fewest N (by decide), mz_nil⟩⟩⟩)
noncomputable def f_X_sends (N : Nat) (a1 : Int32) (a2 : Int32) (s : mS) : Option (Int32 × mS) :=
  (f_X_allDoors N s).bind fun p1 =>
  (f_X_isTold N p1.2).bind fun p2 =>
  if p2.1 = 0 then
    some ((-1), p2.2)
  else
    if (a1 &&& (p1.1 ^^^ (-1))) = 0 then
      if (a2 &&& (a1 ^^^ (-1))) = 0 then
        (f_Se_fewest N a1 (((gA p2.2 20 2) &&& a1) ^^^ a2) p2.2).bind fun p3 =>
        some (p3.1, p3.2)
      else
        some ((-1), p2.2)
    else
      some ((-1), p2.2)
set_option maxRecDepth 100000 in
set_option maxHeartbeats 4000000 in
theorem m_X_sends (N : Nat) {x9 : Int32} {s9 : mS} (a1 : Int32) (a2 : Int32) {s : mS} (h : f_X_sends N a1 a2 s = some (x9, s9)) : MetM Sx R0x oFx nx 7 25 [.ref 0, .int a1, .int a2] s (some (.int x9)) s9 := by
  refine met_of_G (q := q_X_sends) (t0 := (x9, s9)) y_X_sends (Nat.le_of_ble_eq_true rfl) ?_
  rw [← h]
  exact G_eq (mEv_G (orc := mOrc (oL_X_sends N)) (ret := rtI) (blks := bl_X_sends) (cuts := []) wOKx (by decide) (oo_X_sends N) (RetOK_I rfl) bk_X_sends (mz_nil)) rfl
noncomputable def C_X_sends {ρ : Type} (N : Nat) : List Value → mS → (Option Value → mS → Option ρ) → Option ρ := fun vs s kk => sR vs 0 fun r0 => pi1 r0 fun a1 r1 => pi1 r1 fun a2 r2 => rv0 r2 ((f_X_sends N a1 a2 s).bind fun p => kk (some (.int p.1)) p.2)
theorem cs_X_sends {ρ : Type} {t0 : ρ} {d : Nat} (N : Nat) (hd : 7 + 1 ≤ d) : CallOK Sx R0x oFx nx d t0 25 (C_X_sends N) := by
  intro vs s kk h0
  obtain ⟨r0, rfl, h1⟩ := sR_some h0
  obtain ⟨a1, r1, rfl, h2⟩ := pi1_some h1
  obtain ⟨a2, r2, rfl, h3⟩ := pi1_some h2
  obtain ⟨rfl, h4⟩ := rv0_some h3
  obtain ⟨p, hp, hk⟩ := Option.bind_eq_some_iff.mp h4
  exact ⟨_, _, _, hd, m_X_sends N a1 a2 hp, hk, fun qy hq hf => by cases y_X_sends.symm.trans hq; exact ⟨_, _, rfl, rfl⟩⟩
/-! METHOD PorterDoors$Sets.changingNone()I -/
set_option maxRecDepth 20000 in
noncomputable def q_Se_changingNone : mI := (⟨"PorterDoors$Sets", "changingNone", "()I"⟩, prog_9_method_10_code, 3, (some .int), 8, 896, 138, 1, 0, 894, 895)
theorem y_Se_changingNone : mT[128]? = some q_Se_changingNone := mT_at_3 (k := 8) rfl
noncomputable def bl_Se_changingNone : List (Nat × List mO) := [(0, [o0 (.aload_n 0), o2 (.invokevirtual 78) 123 1, o0 (.iconst 0), o0 (.istore_n 1), o0 (.iconst 0), o0 (.istore_n 2)]),
  (8, [o0 (.iload_n 2), o0 (.aload_n 0), o2 (.getfield 15) 8 4, o1 (.if_icmp .ge 26) 39, o0 (.iload_n 1), o0 (.aload_n 0), o2 (.getfield 19) 8 5, o0 (.iload_n 2), o0 (.iaload), o1 (.ifCond .ne 7) 30, o0 (.iconst 1), o1 (.goto 4) 31]),
  (30, [o0 (.iconst 0)]),
  (31, [o0 (.iadd), o0 (.istore_n 1), o0 (.iinc 2 1), o1 (.goto (-28)) 8]),
  (39, [o0 (.iload_n 1), o0 (.ireturn)])]
theorem bk_Se_changingNone : okBlks q_Se_changingNone bl_Se_changingNone = true := by decide +kernel
noncomputable def oL_Se_changingNone {ρ : Type} (N : Nat) : List (Nat × (List Value → mS → (Option Value → mS → Option ρ) → Option ρ)) := [(123, C_Se_reckon N)]
theorem oo_Se_changingNone {ρ : Type} {t0 : ρ} (N : Nat) : OrcOK Sx R0x oFx nx 6 t0 (mOrc (oL_Se_changingNone N)) := mOrc_OK (List.forall_mem_cons.mpr ⟨cs_Se_reckon N (by decide), mz_nil⟩)
noncomputable def H_Se_changingNone_8 {ρ : Type} (k : (Int32 × Int32 × mS) → Option ρ) : mL → List Value → mS → Option ρ := fun loc st s => cR loc 0 37 (li1 loc 1 fun v0 => li1 loc 2 fun v1 => rv0 st (k (v0, v1, s)))
noncomputable def f_Se_changingNone_L8 (N : Nat) (k8 : (Int32 × Int32 × mS) → Option (Int32 × mS)) (x : Int32 × Int32 × mS) : Option (Int32 × mS) :=
  if x.2.1 < (gI x.2.2 804 37) then
    grd (inb x.2.1 1024) (
    if (gA x.2.2 38 (ix x.2.1)) = 0 then
      k8 ((x.1 + 1), (x.2.1 + 1), x.2.2)
    else
      k8 ((x.1 + 0), (x.2.1 + 1), x.2.2))
  else
    some (x.1, x.2.2)
set_option maxRecDepth 100000 in
set_option maxHeartbeats 4000000 in
theorem t_Se_changingNone_8 (N : Nat) {x9 : Int32} {s9 : mS} {k8 : (Int32 × Int32 × mS) → Option (Int32 × mS)} (hk8 : SCd Sx R0x oFx nx 6 q_Se_changingNone (some (.int x9), s9) (x9, s9) 8 (H_Se_changingNone_8 k8)) : SCd Sx R0x oFx nx 6 q_Se_changingNone (some (.int x9), s9) (x9, s9) 8 (H_Se_changingNone_8 (f_Se_changingNone_L8 N k8)) := by
  intro loc st s
  refine G_cR (fun h0 => ?_)
  refine G_li (fun v0 h1 => ?_)
  refine G_li (fun v1 h2 => ?_)
  refine G_rv0 (fun e9 => ?_)
  subst e9
  refine G_sub (loc0 := [(0, .ref 37), (1, .int v0), (2, .int v1)]) (List.forall_mem_cons.mpr ⟨h0, List.forall_mem_cons.mpr ⟨h1, List.forall_mem_cons.mpr ⟨h2, mz_nil⟩⟩⟩) ?_
  exact G_eq (mEv_G (orc := mOrc (oL_Se_changingNone N)) (ret := rtI) (blks := bl_Se_changingNone) (cuts := [(8, H_Se_changingNone_8 k8)]) wOKx (by decide) (oo_Se_changingNone N) (RetOK_I rfl) bk_Se_changingNone (List.forall_mem_cons.mpr ⟨hk8, mz_nil⟩)) rfl
theorem s_Se_changingNone_8 (N : Nat) {x9 : Int32} {s9 : mS} : SCd Sx R0x oFx nx 6 q_Se_changingNone (some (.int x9), s9) (x9, s9) 8 (H_Se_changingNone_8 (mfix N (f_Se_changingNone_L8 N))) := by
  refine mfix_SC (H := H_Se_changingNone_8) (fun loc st s => ?_) (fun k hk => t_Se_changingNone_8 N hk) N
  refine G_cR (fun h0 => ?_)
  refine G_li (fun v0 h1 => ?_)
  refine G_li (fun v1 h2 => ?_)
  refine G_rv0 (fun e9 => ?_)
  subst e9
  exact G_none
noncomputable def f_Se_changingNone (N : Nat) (s : mS) : Option (Int32 × mS) :=
  (f_Se_reckon N s).bind fun p1 =>
  mfix N (f_Se_changingNone_L8 N) (0, 0, p1)
set_option maxRecDepth 100000 in
set_option maxHeartbeats 4000000 in
theorem m_Se_changingNone (N : Nat) {x9 : Int32} {s9 : mS} {s : mS} (h : f_Se_changingNone N s = some (x9, s9)) : MetM Sx R0x oFx nx 6 128 [.ref 37] s (some (.int x9)) s9 := by
  refine met_of_G (q := q_Se_changingNone) (t0 := (x9, s9)) y_Se_changingNone (Nat.le_of_ble_eq_true rfl) ?_
  rw [← h]
  exact G_eq (mEv_G (orc := mOrc (oL_Se_changingNone N)) (ret := rtI) (blks := bl_Se_changingNone) (cuts := [(8, H_Se_changingNone_8 (mfix N (f_Se_changingNone_L8 N)))]) wOKx (by decide) (oo_Se_changingNone N) (RetOK_I rfl) bk_Se_changingNone (List.forall_mem_cons.mpr ⟨s_Se_changingNone_8 N, mz_nil⟩)) rfl
noncomputable def C_Se_changingNone {ρ : Type} (N : Nat) : List Value → mS → (Option Value → mS → Option ρ) → Option ρ := fun vs s kk => sR vs 37 fun r0 => rv0 r0 ((f_Se_changingNone N s).bind fun p => kk (some (.int p.1)) p.2)
theorem cs_Se_changingNone {ρ : Type} {t0 : ρ} {d : Nat} (N : Nat) (hd : 6 + 1 ≤ d) : CallOK Sx R0x oFx nx d t0 128 (C_Se_changingNone N) := by
  intro vs s kk h0
  obtain ⟨r0, rfl, h1⟩ := sR_some h0
  obtain ⟨rfl, h2⟩ := rv0_some h1
  obtain ⟨p, hp, hk⟩ := Option.bind_eq_some_iff.mp h2
  exact ⟨_, _, _, hd, m_Se_changingNone N hp, hk, fun qy hq hf => by cases y_Se_changingNone.symm.trans hq; exact ⟨_, _, rfl, rfl⟩⟩
/-! METHOD PorterDoors.alike()I -/
set_option maxRecDepth 20000 in
noncomputable def q_X_alike : mI := (⟨"PorterDoors", "alike", "()I"⟩, prog_1_method_18_code, 1, (some .int), 0, 892, 129, 1, 0, 890, 891)
theorem y_X_alike : mT[27]? = some q_X_alike := mT_at_0 (k := 27) rfl
noncomputable def bl_X_alike : List (Nat × List mO) := [(0, [o0 (.aload_n 0), o2 (.invokevirtual 220) 20 1, o1 (.ifCond .eq 13) 17, o0 (.aload_n 0), o2 (.getfield 90) 0 12, o2 (.invokevirtual 250) 128 1, o1 (.goto 4) 18]),
  (17, [o0 (.iconst (-1))]),
  (18, [o0 (.ireturn)])]
theorem bk_X_alike : okBlks q_X_alike bl_X_alike = true := by decide +kernel
noncomputable def oL_X_alike {ρ : Type} (N : Nat) : List (Nat × (List Value → mS → (Option Value → mS → Option ρ) → Option ρ)) := [(20, C_X_isTold N), (128, C_Se_changingNone N)]
theorem oo_X_alike {ρ : Type} {t0 : ρ} (N : Nat) : OrcOK Sx R0x oFx nx 7 t0 (mOrc (oL_X_alike N)) := mOrc_OK (List.forall_mem_cons.mpr ⟨cs_X_isTold N (by decide), List.forall_mem_cons.mpr ⟨cs_Se_changingNone N (by decide), mz_nil⟩⟩)
noncomputable def f_X_alike (N : Nat) (s : mS) : Option (Int32 × mS) :=
  (f_X_isTold N s).bind fun p1 =>
  if p1.1 = 0 then
    some ((-1), p1.2)
  else
    (f_Se_changingNone N p1.2).bind fun p2 =>
    some (p2.1, p2.2)
set_option maxRecDepth 100000 in
set_option maxHeartbeats 4000000 in
theorem m_X_alike (N : Nat) {x9 : Int32} {s9 : mS} {s : mS} (h : f_X_alike N s = some (x9, s9)) : MetM Sx R0x oFx nx 7 27 [.ref 0] s (some (.int x9)) s9 := by
  refine met_of_G (q := q_X_alike) (t0 := (x9, s9)) y_X_alike (Nat.le_of_ble_eq_true rfl) ?_
  rw [← h]
  exact G_eq (mEv_G (orc := mOrc (oL_X_alike N)) (ret := rtI) (blks := bl_X_alike) (cuts := []) wOKx (by decide) (oo_X_alike N) (RetOK_I rfl) bk_X_alike (mz_nil)) rfl
noncomputable def C_X_alike {ρ : Type} (N : Nat) : List Value → mS → (Option Value → mS → Option ρ) → Option ρ := fun vs s kk => sR vs 0 fun r0 => rv0 r0 ((f_X_alike N s).bind fun p => kk (some (.int p.1)) p.2)
theorem cs_X_alike {ρ : Type} {t0 : ρ} {d : Nat} (N : Nat) (hd : 7 + 1 ≤ d) : CallOK Sx R0x oFx nx d t0 27 (C_X_alike N) := by
  intro vs s kk h0
  obtain ⟨r0, rfl, h1⟩ := sR_some h0
  obtain ⟨rfl, h2⟩ := rv0_some h1
  obtain ⟨p, hp, hk⟩ := Option.bind_eq_some_iff.mp h2
  exact ⟨_, _, _, hd, m_X_alike N hp, hk, fun qy hq hf => by cases y_X_alike.symm.trans hq; exact ⟨_, _, rfl, rfl⟩⟩
/-! METHOD PorterDoors.alone(I)I -/
set_option maxRecDepth 20000 in
noncomputable def q_X_alone : mI := (⟨"PorterDoors", "alone", "(I)I"⟩, prog_1_method_19_code, 2, (some .int), 0, 900, 129, 1, 1, 898, 899)
theorem y_X_alone : mT[28]? = some q_X_alone := mT_at_0 (k := 28) rfl
noncomputable def bl_X_alone : List (Nat × List mO) := [(0, [o0 (.aload_n 0), o0 (.iload_n 1), o2 (.invokevirtual 190) 14 2, o1 (.ifCond .eq 20) 25, o0 (.aload_n 0), o2 (.getfield 90) 0 12, o0 (.aload_n 0), o2 (.invokevirtual 244) 26 1, o0 (.iconst 1), o0 (.iload_n 1), o0 (.ishl), o2 (.invokevirtual 247) 126 3, o1 (.goto 4) 26]),
  (25, [o0 (.iconst (-1))]),
  (26, [o0 (.ireturn)])]
theorem bk_X_alone : okBlks q_X_alone bl_X_alone = true := by decide +kernel
noncomputable def oL_X_alone {ρ : Type} (N : Nat) : List (Nat × (List Value → mS → (Option Value → mS → Option ρ) → Option ρ)) := [(14, C_X_isDoor N), (26, C_X_allDoors N), (126, C_Se_fewest N)]
theorem oo_X_alone {ρ : Type} {t0 : ρ} (N : Nat) : OrcOK Sx R0x oFx nx 7 t0 (mOrc (oL_X_alone N)) := mOrc_OK (List.forall_mem_cons.mpr ⟨cs_X_isDoor N (by decide), List.forall_mem_cons.mpr ⟨cs_X_allDoors N (by decide), List.forall_mem_cons.mpr ⟨cs_Se_fewest N (by decide), mz_nil⟩⟩⟩)
noncomputable def f_X_alone (N : Nat) (a1 : Int32) (s : mS) : Option (Int32 × mS) :=
  (f_X_isDoor N a1 s).bind fun p1 =>
  if p1.1 = 0 then
    some ((-1), p1.2)
  else
    (f_X_allDoors N p1.2).bind fun p2 =>
    (f_Se_fewest N p2.1 (ils 1 a1) p2.2).bind fun p3 =>
    some (p3.1, p3.2)
set_option maxRecDepth 100000 in
set_option maxHeartbeats 4000000 in
theorem m_X_alone (N : Nat) {x9 : Int32} {s9 : mS} (a1 : Int32) {s : mS} (h : f_X_alone N a1 s = some (x9, s9)) : MetM Sx R0x oFx nx 7 28 [.ref 0, .int a1] s (some (.int x9)) s9 := by
  refine met_of_G (q := q_X_alone) (t0 := (x9, s9)) y_X_alone (Nat.le_of_ble_eq_true rfl) ?_
  rw [← h]
  exact G_eq (mEv_G (orc := mOrc (oL_X_alone N)) (ret := rtI) (blks := bl_X_alone) (cuts := []) wOKx (by decide) (oo_X_alone N) (RetOK_I rfl) bk_X_alone (mz_nil)) rfl
noncomputable def C_X_alone {ρ : Type} (N : Nat) : List Value → mS → (Option Value → mS → Option ρ) → Option ρ := fun vs s kk => sR vs 0 fun r0 => pi1 r0 fun a1 r1 => rv0 r1 ((f_X_alone N a1 s).bind fun p => kk (some (.int p.1)) p.2)
theorem cs_X_alone {ρ : Type} {t0 : ρ} {d : Nat} (N : Nat) (hd : 7 + 1 ≤ d) : CallOK Sx R0x oFx nx d t0 28 (C_X_alone N) := by
  intro vs s kk h0
  obtain ⟨r0, rfl, h1⟩ := sR_some h0
  obtain ⟨a1, r1, rfl, h2⟩ := pi1_some h1
  obtain ⟨rfl, h3⟩ := rv0_some h2
  obtain ⟨p, hp, hk⟩ := Option.bind_eq_some_iff.mp h3
  exact ⟨_, _, _, hd, m_X_alone N a1 hp, hk, fun qy hq hf => by cases y_X_alone.symm.trans hq; exact ⟨_, _, rfl, rfl⟩⟩
/-! METHOD PorterDoors$Sets.openBehind(I)I -/
set_option maxRecDepth 20000 in
noncomputable def q_Se_openBehind : mI := (⟨"PorterDoors$Sets", "openBehind", "(I)I"⟩, prog_9_method_8_code, 2, (some .int), 8, 912, 138, 1, 1, 910, 911)
theorem y_Se_openBehind : mT[130]? = some q_Se_openBehind := mT_at_3 (k := 10) rfl
noncomputable def bl_Se_openBehind : List (Nat × List mO) := [(0, [o0 (.aload_n 0), o0 (.iload_n 1), o2 (.invokevirtual 64) 125 2, o2 (.invokestatic 73) 276 1, o0 (.ireturn)])]
theorem bk_Se_openBehind : okBlks q_Se_openBehind bl_Se_openBehind = true := by decide +kernel
noncomputable def oL_Se_openBehind {ρ : Type} (N : Nat) : List (Nat × (List Value → mS → (Option Value → mS → Option ρ) → Option ρ)) := [(125, C_Se_doorsBehind N), (276, C_Int_bitCount N)]
theorem oo_Se_openBehind {ρ : Type} {t0 : ρ} (N : Nat) : OrcOK Sx R0x oFx nx 2 t0 (mOrc (oL_Se_openBehind N)) := mOrc_OK (List.forall_mem_cons.mpr ⟨cs_Se_doorsBehind N (by decide), List.forall_mem_cons.mpr ⟨cs_Int_bitCount N wOKx (by decide), mz_nil⟩⟩)
noncomputable def f_Se_openBehind (N : Nat) (a1 : Int32) (s : mS) : Option (Int32 × mS) :=
  (f_Se_doorsBehind N a1 s).bind fun p1 =>
  (f_Int_bitCount N p1.1 p1.2).bind fun p2 =>
  some (p2.1, p2.2)
set_option maxRecDepth 100000 in
set_option maxHeartbeats 4000000 in
theorem m_Se_openBehind (N : Nat) {x9 : Int32} {s9 : mS} (a1 : Int32) {s : mS} (h : f_Se_openBehind N a1 s = some (x9, s9)) : MetM Sx R0x oFx nx 2 130 [.ref 37, .int a1] s (some (.int x9)) s9 := by
  refine met_of_G (q := q_Se_openBehind) (t0 := (x9, s9)) y_Se_openBehind (Nat.le_of_ble_eq_true rfl) ?_
  rw [← h]
  exact G_eq (mEv_G (orc := mOrc (oL_Se_openBehind N)) (ret := rtI) (blks := bl_Se_openBehind) (cuts := []) wOKx (by decide) (oo_Se_openBehind N) (RetOK_I rfl) bk_Se_openBehind (mz_nil)) rfl
noncomputable def C_Se_openBehind {ρ : Type} (N : Nat) : List Value → mS → (Option Value → mS → Option ρ) → Option ρ := fun vs s kk => sR vs 37 fun r0 => pi1 r0 fun a1 r1 => rv0 r1 ((f_Se_openBehind N a1 s).bind fun p => kk (some (.int p.1)) p.2)
theorem cs_Se_openBehind {ρ : Type} {t0 : ρ} {d : Nat} (N : Nat) (hd : 2 + 1 ≤ d) : CallOK Sx R0x oFx nx d t0 130 (C_Se_openBehind N) := by
  intro vs s kk h0
  obtain ⟨r0, rfl, h1⟩ := sR_some h0
  obtain ⟨a1, r1, rfl, h2⟩ := pi1_some h1
  obtain ⟨rfl, h3⟩ := rv0_some h2
  obtain ⟨p, hp, hk⟩ := Option.bind_eq_some_iff.mp h3
  exact ⟨_, _, _, hd, m_Se_openBehind N a1 hp, hk, fun qy hq hf => by cases y_Se_openBehind.symm.trans hq; exact ⟨_, _, rfl, rfl⟩⟩
/-! METHOD PorterDoors$Sets.widestSet()I -/
set_option maxRecDepth 20000 in
noncomputable def q_Se_widestSet : mI := (⟨"PorterDoors$Sets", "widestSet", "()I"⟩, prog_9_method_11_code, 5, (some .int), 8, 908, 138, 1, 0, 906, 907)
theorem y_Se_widestSet : mT[129]? = some q_Se_widestSet := mT_at_3 (k := 9) rfl
noncomputable def bl_Se_widestSet : List (Nat × List mO) := [(0, [o0 (.aload_n 0), o2 (.invokevirtual 78) 123 1, o0 (.iconst 0), o0 (.istore_n 1), o0 (.aload_n 0), o0 (.iconst 0), o2 (.invokevirtual 85) 130 2, o0 (.istore_n 2), o0 (.iconst 1), o0 (.istore_n 3)]),
  (14, [o0 (.iload_n 3), o0 (.aload_n 0), o2 (.getfield 15) 8 4, o1 (.if_icmp .ge 41) 60, o0 (.aload_n 0), o0 (.iload_n 3), o2 (.invokevirtual 85) 130 2, o0 (.istore 4), o0 (.iload 4), o0 (.iload_n 2), o1 (.if_icmp .gt 17) 49, o0 (.iload 4), o0 (.iload_n 2), o1 (.if_icmp .ne 16) 54, o0 (.iload_n 3), o0 (.iload_n 1), o2 (.invokestatic 81) 127 2, o1 (.ifCond .eq 8) 54]),
  (49, [o0 (.iload_n 3), o0 (.istore_n 1), o0 (.iload 4), o0 (.istore_n 2)]),
  (54, [o0 (.iinc 3 1), o1 (.goto (-43)) 14]),
  (60, [o0 (.iload_n 1), o0 (.ireturn)])]
theorem bk_Se_widestSet : okBlks q_Se_widestSet bl_Se_widestSet = true := by decide +kernel
noncomputable def oL_Se_widestSet {ρ : Type} (N : Nat) : List (Nat × (List Value → mS → (Option Value → mS → Option ρ) → Option ρ)) := [(123, C_Se_reckon N), (130, C_Se_openBehind N), (127, C_Se_isFewer N)]
theorem oo_Se_widestSet {ρ : Type} {t0 : ρ} (N : Nat) : OrcOK Sx R0x oFx nx 6 t0 (mOrc (oL_Se_widestSet N)) := mOrc_OK (List.forall_mem_cons.mpr ⟨cs_Se_reckon N (by decide), List.forall_mem_cons.mpr ⟨cs_Se_openBehind N (by decide), List.forall_mem_cons.mpr ⟨cs_Se_isFewer N (by decide), mz_nil⟩⟩⟩)
noncomputable def H_Se_widestSet_14 {ρ : Type} (k : (Int32 × Int32 × Int32 × mS) → Option ρ) : mL → List Value → mS → Option ρ := fun loc st s => cR loc 0 37 (li1 loc 1 fun v0 => li1 loc 2 fun v1 => li1 loc 3 fun v2 => rv0 st (k (v0, v1, v2, s)))
noncomputable def f_Se_widestSet_L14 (N : Nat) (k14 : (Int32 × Int32 × Int32 × mS) → Option (Int32 × mS)) (x : Int32 × Int32 × Int32 × mS) : Option (Int32 × mS) :=
  if x.2.2.1 < (gI x.2.2.2 804 37) then
    (f_Se_openBehind N x.2.2.1 x.2.2.2).bind fun p1 =>
    if x.2.1 < p1.1 then
      k14 (x.2.2.1, p1.1, (x.2.2.1 + 1), p1.2)
    else
      if p1.1 = x.2.1 then
        (f_Se_isFewer N x.2.2.1 x.1 p1.2).bind fun p2 =>
        if p2.1 = 0 then
          k14 (x.1, x.2.1, (x.2.2.1 + 1), p2.2)
        else
          k14 (x.2.2.1, p1.1, (x.2.2.1 + 1), p2.2)
      else
        k14 (x.1, x.2.1, (x.2.2.1 + 1), p1.2)
  else
    some (x.1, x.2.2.2)
set_option maxRecDepth 100000 in
set_option maxHeartbeats 4000000 in
theorem t_Se_widestSet_14 (N : Nat) {x9 : Int32} {s9 : mS} {k14 : (Int32 × Int32 × Int32 × mS) → Option (Int32 × mS)} (hk14 : SCd Sx R0x oFx nx 6 q_Se_widestSet (some (.int x9), s9) (x9, s9) 14 (H_Se_widestSet_14 k14)) : SCd Sx R0x oFx nx 6 q_Se_widestSet (some (.int x9), s9) (x9, s9) 14 (H_Se_widestSet_14 (f_Se_widestSet_L14 N k14)) := by
  intro loc st s
  refine G_cR (fun h0 => ?_)
  refine G_li (fun v0 h1 => ?_)
  refine G_li (fun v1 h2 => ?_)
  refine G_li (fun v2 h3 => ?_)
  refine G_rv0 (fun e9 => ?_)
  subst e9
  refine G_sub (loc0 := [(0, .ref 37), (1, .int v0), (2, .int v1), (3, .int v2)]) (List.forall_mem_cons.mpr ⟨h0, List.forall_mem_cons.mpr ⟨h1, List.forall_mem_cons.mpr ⟨h2, List.forall_mem_cons.mpr ⟨h3, mz_nil⟩⟩⟩⟩) ?_
  exact G_eq (mEv_G (orc := mOrc (oL_Se_widestSet N)) (ret := rtI) (blks := bl_Se_widestSet) (cuts := [(14, H_Se_widestSet_14 k14)]) wOKx (by decide) (oo_Se_widestSet N) (RetOK_I rfl) bk_Se_widestSet (List.forall_mem_cons.mpr ⟨hk14, mz_nil⟩)) rfl
theorem s_Se_widestSet_14 (N : Nat) {x9 : Int32} {s9 : mS} : SCd Sx R0x oFx nx 6 q_Se_widestSet (some (.int x9), s9) (x9, s9) 14 (H_Se_widestSet_14 (mfix N (f_Se_widestSet_L14 N))) := by
  refine mfix_SC (H := H_Se_widestSet_14) (fun loc st s => ?_) (fun k hk => t_Se_widestSet_14 N hk) N
  refine G_cR (fun h0 => ?_)
  refine G_li (fun v0 h1 => ?_)
  refine G_li (fun v1 h2 => ?_)
  refine G_li (fun v2 h3 => ?_)
  refine G_rv0 (fun e9 => ?_)
  subst e9
  exact G_none
noncomputable def f_Se_widestSet (N : Nat) (s : mS) : Option (Int32 × mS) :=
  (f_Se_reckon N s).bind fun p1 =>
  (f_Se_openBehind N 0 p1).bind fun p2 =>
  mfix N (f_Se_widestSet_L14 N) (0, p2.1, 1, p2.2)
set_option maxRecDepth 100000 in
set_option maxHeartbeats 4000000 in
theorem m_Se_widestSet (N : Nat) {x9 : Int32} {s9 : mS} {s : mS} (h : f_Se_widestSet N s = some (x9, s9)) : MetM Sx R0x oFx nx 6 129 [.ref 37] s (some (.int x9)) s9 := by
  refine met_of_G (q := q_Se_widestSet) (t0 := (x9, s9)) y_Se_widestSet (Nat.le_of_ble_eq_true rfl) ?_
  rw [← h]
  exact G_eq (mEv_G (orc := mOrc (oL_Se_widestSet N)) (ret := rtI) (blks := bl_Se_widestSet) (cuts := [(14, H_Se_widestSet_14 (mfix N (f_Se_widestSet_L14 N)))]) wOKx (by decide) (oo_Se_widestSet N) (RetOK_I rfl) bk_Se_widestSet (List.forall_mem_cons.mpr ⟨s_Se_widestSet_14 N, mz_nil⟩)) rfl
noncomputable def C_Se_widestSet {ρ : Type} (N : Nat) : List Value → mS → (Option Value → mS → Option ρ) → Option ρ := fun vs s kk => sR vs 37 fun r0 => rv0 r0 ((f_Se_widestSet N s).bind fun p => kk (some (.int p.1)) p.2)
theorem cs_Se_widestSet {ρ : Type} {t0 : ρ} {d : Nat} (N : Nat) (hd : 6 + 1 ≤ d) : CallOK Sx R0x oFx nx d t0 129 (C_Se_widestSet N) := by
  intro vs s kk h0
  obtain ⟨r0, rfl, h1⟩ := sR_some h0
  obtain ⟨rfl, h2⟩ := rv0_some h1
  obtain ⟨p, hp, hk⟩ := Option.bind_eq_some_iff.mp h2
  exact ⟨_, _, _, hd, m_Se_widestSet N hp, hk, fun qy hq hf => by cases y_Se_widestSet.symm.trans hq; exact ⟨_, _, rfl, rfl⟩⟩
/-! METHOD PorterDoors.widest(I)I -/
set_option maxRecDepth 20000 in
noncomputable def q_X_widest : mI := (⟨"PorterDoors", "widest", "(I)I"⟩, prog_1_method_20_code, 3, (some .int), 0, 904, 129, 1, 1, 902, 903)
theorem y_X_widest : mT[29]? = some q_X_widest := mT_at_0 (k := 29) rfl
noncomputable def bl_X_widest : List (Nat × List mO) := [(0, [o0 (.aload_n 0), o2 (.invokevirtual 220) 20 1, o1 (.ifCond .eq 12) 16, o0 (.iload_n 1), o1 (.ifCond .lt 8) 16, o0 (.iload_n 1), o0 (.iconst 1), o1 (.if_icmp .le 5) 18]),
  (16, [o0 (.iconst (-1)), o0 (.ireturn)]),
  (18, [o0 (.aload_n 0), o2 (.getfield 90) 0 12, o2 (.invokevirtual 253) 129 1, o0 (.istore_n 2), o0 (.iload_n 1), o1 (.ifCond .ne 7) 34, o0 (.iload_n 2), o1 (.goto 11) 42]),
  (34, [o0 (.aload_n 0), o2 (.getfield 90) 0 12, o0 (.iload_n 2), o2 (.invokevirtual 256) 130 2]),
  (42, [o0 (.ireturn)])]
theorem bk_X_widest : okBlks q_X_widest bl_X_widest = true := by decide +kernel
noncomputable def oL_X_widest {ρ : Type} (N : Nat) : List (Nat × (List Value → mS → (Option Value → mS → Option ρ) → Option ρ)) := [(20, C_X_isTold N), (129, C_Se_widestSet N), (130, C_Se_openBehind N)]
theorem oo_X_widest {ρ : Type} {t0 : ρ} (N : Nat) : OrcOK Sx R0x oFx nx 7 t0 (mOrc (oL_X_widest N)) := mOrc_OK (List.forall_mem_cons.mpr ⟨cs_X_isTold N (by decide), List.forall_mem_cons.mpr ⟨cs_Se_widestSet N (by decide), List.forall_mem_cons.mpr ⟨cs_Se_openBehind N (by decide), mz_nil⟩⟩⟩)
noncomputable def f_X_widest (N : Nat) (a1 : Int32) (s : mS) : Option (Int32 × mS) :=
  (f_X_isTold N s).bind fun p1 =>
  if p1.1 = 0 then
    some ((-1), p1.2)
  else
    if a1 < 0 then
      some ((-1), p1.2)
    else
      if 1 < a1 then
        some ((-1), p1.2)
      else
        (f_Se_widestSet N p1.2).bind fun p2 =>
        if a1 = 0 then
          some (p2.1, p2.2)
        else
          (f_Se_openBehind N p2.1 p2.2).bind fun p3 =>
          some (p3.1, p3.2)
set_option maxRecDepth 100000 in
set_option maxHeartbeats 4000000 in
theorem m_X_widest (N : Nat) {x9 : Int32} {s9 : mS} (a1 : Int32) {s : mS} (h : f_X_widest N a1 s = some (x9, s9)) : MetM Sx R0x oFx nx 7 29 [.ref 0, .int a1] s (some (.int x9)) s9 := by
  refine met_of_G (q := q_X_widest) (t0 := (x9, s9)) y_X_widest (Nat.le_of_ble_eq_true rfl) ?_
  rw [← h]
  exact G_eq (mEv_G (orc := mOrc (oL_X_widest N)) (ret := rtI) (blks := bl_X_widest) (cuts := []) wOKx (by decide) (oo_X_widest N) (RetOK_I rfl) bk_X_widest (mz_nil)) rfl
noncomputable def C_X_widest {ρ : Type} (N : Nat) : List Value → mS → (Option Value → mS → Option ρ) → Option ρ := fun vs s kk => sR vs 0 fun r0 => pi1 r0 fun a1 r1 => rv0 r1 ((f_X_widest N a1 s).bind fun p => kk (some (.int p.1)) p.2)
theorem cs_X_widest {ρ : Type} {t0 : ρ} {d : Nat} (N : Nat) (hd : 7 + 1 ≤ d) : CallOK Sx R0x oFx nx d t0 29 (C_X_widest N) := by
  intro vs s kk h0
  obtain ⟨r0, rfl, h1⟩ := sR_some h0
  obtain ⟨a1, r1, rfl, h2⟩ := pi1_some h1
  obtain ⟨rfl, h3⟩ := rv0_some h2
  obtain ⟨p, hp, hk⟩ := Option.bind_eq_some_iff.mp h3
  exact ⟨_, _, _, hd, m_X_widest N a1 hp, hk, fun qy hq hf => by cases y_X_widest.symm.trans hq; exact ⟨_, _, rfl, rfl⟩⟩
/-! METHOD PorterDoors.isWithinNights(I)Z -/
set_option maxRecDepth 20000 in
noncomputable def q_X_isWithinNights : mI := (⟨"PorterDoors", "isWithinNights", "(I)Z"⟩, prog_1_method_44_code, 2, (some .boolean), 0, 921, 129, 1, 1, 920, 30)
theorem y_X_isWithinNights : mT[31]? = some q_X_isWithinNights := mT_at_0 (k := 31) rfl
noncomputable def bl_X_isWithinNights : List (Nat × List mO) := [(0, [o0 (.aload_n 0), o2 (.getfield 46) 0 6, o2 (.getfield 162) 2 0, o0 (.iconst 0), o0 (.iaload), o0 (.iload_n 1), o0 (.iadd), o0 (.sipush 999), o1 (.if_icmp .gt 7) 21, o0 (.iconst 1), o1 (.goto 4) 22]),
  (21, [o0 (.iconst 0)]),
  (22, [o0 (.ireturn)])]
theorem bk_X_isWithinNights : okBlks q_X_isWithinNights bl_X_isWithinNights = true := by decide +kernel
noncomputable def oL_X_isWithinNights {ρ : Type} (N : Nat) : List (Nat × (List Value → mS → (Option Value → mS → Option ρ) → Option ρ)) := []
theorem oo_X_isWithinNights {ρ : Type} {t0 : ρ} (N : Nat) : OrcOK Sx R0x oFx nx 1 t0 (mOrc (oL_X_isWithinNights N)) := mOrc_OK (mz_nil)
noncomputable def f_X_isWithinNights (N : Nat) (a1 : Int32) (s : mS) : Option (Int32 × mS) :=
  if 999 < ((gA s 20 0) + a1) then
    some (0, s)
  else
    some (1, s)
set_option maxRecDepth 100000 in
set_option maxHeartbeats 4000000 in
theorem m_X_isWithinNights (N : Nat) {x9 : Int32} {s9 : mS} (a1 : Int32) {s : mS} (h : f_X_isWithinNights N a1 s = some (x9, s9)) : MetM Sx R0x oFx nx 1 31 [.ref 0, .int a1] s (some (.int x9)) s9 := by
  refine met_of_G (q := q_X_isWithinNights) (t0 := (x9, s9)) y_X_isWithinNights (Nat.le_of_ble_eq_true rfl) ?_
  rw [← h]
  exact G_eq (mEv_G (orc := mOrc (oL_X_isWithinNights N)) (ret := rtZ) (blks := bl_X_isWithinNights) (cuts := []) wOKx (by decide) (oo_X_isWithinNights N) (RetOK_Z rfl) bk_X_isWithinNights (mz_nil)) rfl
noncomputable def C_X_isWithinNights {ρ : Type} (N : Nat) : List Value → mS → (Option Value → mS → Option ρ) → Option ρ := fun vs s kk => sR vs 0 fun r0 => pi1 r0 fun a1 r1 => rv0 r1 ((f_X_isWithinNights N a1 s).bind fun p => kk (some (.int p.1)) p.2)
theorem cs_X_isWithinNights {ρ : Type} {t0 : ρ} {d : Nat} (N : Nat) (hd : 1 + 1 ≤ d) : CallOK Sx R0x oFx nx d t0 31 (C_X_isWithinNights N) := by
  intro vs s kk h0
  obtain ⟨r0, rfl, h1⟩ := sR_some h0
  obtain ⟨a1, r1, rfl, h2⟩ := pi1_some h1
  obtain ⟨rfl, h3⟩ := rv0_some h2
  obtain ⟨p, hp, hk⟩ := Option.bind_eq_some_iff.mp h3
  exact ⟨_, _, _, hd, m_X_isWithinNights N a1 hp, hk, fun qy hq hf => by cases y_X_isWithinNights.symm.trans hq; exact ⟨_, _, rfl, rfl⟩⟩
/-! METHOD PorterDoors.coldWithout(II)I -/
set_option maxRecDepth 20000 in
noncomputable def q_X_coldWithout : mI := (⟨"PorterDoors", "coldWithout", "(II)I"⟩, prog_1_method_51_code, 4, (some .int), 0, 925, 129, 1, 2, 924, 31)
theorem y_X_coldWithout : mT[32]? = some q_X_coldWithout := mT_at_0 (k := 32) rfl
noncomputable def bl_X_coldWithout : List (Nat × List mO) := [(0, [o0 (.aload_n 0), o2 (.getfield 50) 0 7, o0 (.aload_n 0), o2 (.getfield 46) 0 6, o2 (.invokevirtual 341) 72 2, o0 (.iconst 0), o0 (.istore_n 3)]),
  (13, [o0 (.iload_n 3), o0 (.iload_n 2), o1 (.if_icmp .ge 22) 37, o0 (.aload_n 0), o2 (.getfield 72) 0 10, o0 (.aload_n 0), o2 (.getfield 50) 0 7, o0 (.iload_n 1), o2 (.invokevirtual 303) 116 3, o0 (.pop), o0 (.iinc 3 1), o1 (.goto (-21)) 13]),
  (37, [o0 (.aload_n 0), o2 (.getfield 50) 0 7, o2 (.getfield 162) 2 0, o0 (.iconst 1), o0 (.iaload), o0 (.ireturn)])]
theorem bk_X_coldWithout : okBlks q_X_coldWithout bl_X_coldWithout = true := by decide +kernel
noncomputable def oL_X_coldWithout {ρ : Type} (N : Nat) : List (Nat × (List Value → mS → (Option Value → mS → Option ρ) → Option ρ)) := [(72, C_Ha_copy N), (116, C_Ro_pass N)]
theorem oo_X_coldWithout {ρ : Type} {t0 : ρ} (N : Nat) : OrcOK Sx R0x oFx nx 7 t0 (mOrc (oL_X_coldWithout N)) := mOrc_OK (List.forall_mem_cons.mpr ⟨cs_Ha_copy N (by decide), List.forall_mem_cons.mpr ⟨cs_Ro_pass N (by decide), mz_nil⟩⟩)
noncomputable def H_X_coldWithout_13 {ρ : Type} (k : (Int32 × Int32 × Int32 × mS) → Option ρ) : mL → List Value → mS → Option ρ := fun loc st s => cR loc 0 0 (li1 loc 1 fun v0 => li1 loc 2 fun v1 => li1 loc 3 fun v2 => rv0 st (k (v0, v1, v2, s)))
noncomputable def f_X_coldWithout_L13 (N : Nat) (k13 : (Int32 × Int32 × Int32 × mS) → Option (Int32 × mS)) (x : Int32 × Int32 × Int32 × mS) : Option (Int32 × mS) :=
  if x.2.2.1 < x.2.1 then
    (f_Ro_pass N 21 x.1 x.2.2.2).bind fun p1 =>
    k13 (x.1, x.2.1, (x.2.2.1 + 1), p1.2)
  else
    some ((gA x.2.2.2 22 1), x.2.2.2)
set_option maxRecDepth 100000 in
set_option maxHeartbeats 4000000 in
theorem t_X_coldWithout_13 (N : Nat) {x9 : Int32} {s9 : mS} {k13 : (Int32 × Int32 × Int32 × mS) → Option (Int32 × mS)} (hk13 : SCd Sx R0x oFx nx 7 q_X_coldWithout (some (.int x9), s9) (x9, s9) 13 (H_X_coldWithout_13 k13)) : SCd Sx R0x oFx nx 7 q_X_coldWithout (some (.int x9), s9) (x9, s9) 13 (H_X_coldWithout_13 (f_X_coldWithout_L13 N k13)) := by
  intro loc st s
  refine G_cR (fun h0 => ?_)
  refine G_li (fun v0 h1 => ?_)
  refine G_li (fun v1 h2 => ?_)
  refine G_li (fun v2 h3 => ?_)
  refine G_rv0 (fun e9 => ?_)
  subst e9
  refine G_sub (loc0 := [(0, .ref 0), (1, .int v0), (2, .int v1), (3, .int v2)]) (List.forall_mem_cons.mpr ⟨h0, List.forall_mem_cons.mpr ⟨h1, List.forall_mem_cons.mpr ⟨h2, List.forall_mem_cons.mpr ⟨h3, mz_nil⟩⟩⟩⟩) ?_
  exact G_eq (mEv_G (orc := mOrc (oL_X_coldWithout N)) (ret := rtI) (blks := bl_X_coldWithout) (cuts := [(13, H_X_coldWithout_13 k13)]) wOKx (by decide) (oo_X_coldWithout N) (RetOK_I rfl) bk_X_coldWithout (List.forall_mem_cons.mpr ⟨hk13, mz_nil⟩)) rfl
theorem s_X_coldWithout_13 (N : Nat) {x9 : Int32} {s9 : mS} : SCd Sx R0x oFx nx 7 q_X_coldWithout (some (.int x9), s9) (x9, s9) 13 (H_X_coldWithout_13 (mfix N (f_X_coldWithout_L13 N))) := by
  refine mfix_SC (H := H_X_coldWithout_13) (fun loc st s => ?_) (fun k hk => t_X_coldWithout_13 N hk) N
  refine G_cR (fun h0 => ?_)
  refine G_li (fun v0 h1 => ?_)
  refine G_li (fun v1 h2 => ?_)
  refine G_li (fun v2 h3 => ?_)
  refine G_rv0 (fun e9 => ?_)
  subst e9
  exact G_none
noncomputable def f_X_coldWithout (N : Nat) (a1 : Int32) (a2 : Int32) (s : mS) : Option (Int32 × mS) :=
  (f_Ha_copy N 21 19 s).bind fun p1 =>
  mfix N (f_X_coldWithout_L13 N) (a1, a2, 0, p1)
set_option maxRecDepth 100000 in
set_option maxHeartbeats 4000000 in
theorem m_X_coldWithout (N : Nat) {x9 : Int32} {s9 : mS} (a1 : Int32) (a2 : Int32) {s : mS} (h : f_X_coldWithout N a1 a2 s = some (x9, s9)) : MetM Sx R0x oFx nx 7 32 [.ref 0, .int a1, .int a2] s (some (.int x9)) s9 := by
  refine met_of_G (q := q_X_coldWithout) (t0 := (x9, s9)) y_X_coldWithout (Nat.le_of_ble_eq_true rfl) ?_
  rw [← h]
  exact G_eq (mEv_G (orc := mOrc (oL_X_coldWithout N)) (ret := rtI) (blks := bl_X_coldWithout) (cuts := [(13, H_X_coldWithout_13 (mfix N (f_X_coldWithout_L13 N)))]) wOKx (by decide) (oo_X_coldWithout N) (RetOK_I rfl) bk_X_coldWithout (List.forall_mem_cons.mpr ⟨s_X_coldWithout_13 N, mz_nil⟩)) rfl
noncomputable def C_X_coldWithout {ρ : Type} (N : Nat) : List Value → mS → (Option Value → mS → Option ρ) → Option ρ := fun vs s kk => sR vs 0 fun r0 => pi1 r0 fun a1 r1 => pi1 r1 fun a2 r2 => rv0 r2 ((f_X_coldWithout N a1 a2 s).bind fun p => kk (some (.int p.1)) p.2)
theorem cs_X_coldWithout {ρ : Type} {t0 : ρ} {d : Nat} (N : Nat) (hd : 7 + 1 ≤ d) : CallOK Sx R0x oFx nx d t0 32 (C_X_coldWithout N) := by
  intro vs s kk h0
  obtain ⟨r0, rfl, h1⟩ := sR_some h0
  obtain ⟨a1, r1, rfl, h2⟩ := pi1_some h1
  obtain ⟨a2, r2, rfl, h3⟩ := pi1_some h2
  obtain ⟨rfl, h4⟩ := rv0_some h3
  obtain ⟨p, hp, hk⟩ := Option.bind_eq_some_iff.mp h4
  exact ⟨_, _, _, hd, m_X_coldWithout N a1 a2 hp, hk, fun qy hq hf => by cases y_X_coldWithout.symm.trans hq; exact ⟨_, _, rfl, rfl⟩⟩
/-! METHOD PorterDoors.rest(II)I -/
set_option maxRecDepth 20000 in
noncomputable def q_X_rest : mI := (⟨"PorterDoors", "rest", "(II)I"⟩, prog_1_method_21_code, 7, (some .int), 0, 917, 129, 1, 2, 915, 916)
theorem y_X_rest : mT[30]? = some q_X_rest := mT_at_0 (k := 30) rfl
noncomputable def bl_X_rest : List (Nat × List mO) := [(0, [o0 (.aload_n 0), o2 (.getfield 20) 0 2, o2 (.getfield 159) 4 1, o1 (.ifCond .eq 31) 38, o0 (.iload_n 1), o0 (.iconst 1), o1 (.if_icmp .lt 26) 38, o0 (.iload_n 1), o0 (.bipush 40), o1 (.if_icmp .gt 20) 38, o0 (.aload_n 0), o0 (.iload_n 1), o2 (.invokevirtual 259) 31 2, o1 (.ifCond .eq 12) 38, o0 (.iload_n 2), o1 (.ifCond .lt 8) 38, o0 (.iload_n 2), o0 (.iconst 1), o1 (.if_icmp .le 5) 40]),
  (38, [o0 (.iconst (-1)), o0 (.ireturn)]),
  (40, [o0 (.iconst 0), o0 (.istore_n 3), o0 (.aload_n 0), o0 (.iconst 0), o0 (.iload_n 1), o2 (.invokevirtual 262) 32 3, o0 (.istore 4), o0 (.iconst 1), o0 (.istore 5)]),
  (53, [o0 (.iload 5), o0 (.aload_n 0), o2 (.getfield 20) 0 2, o2 (.getfield 159) 4 1, o1 (.if_icmp .ge 32) 94, o0 (.aload_n 0), o0 (.iload 5), o0 (.iload_n 1), o2 (.invokevirtual 262) 32 3, o0 (.istore 6), o0 (.iload 6), o0 (.iload 4), o1 (.if_icmp .ge 10) 88, o0 (.iload 6), o0 (.istore 4), o0 (.iload 5), o0 (.istore_n 3)]),
  (88, [o0 (.iinc 5 1), o1 (.goto (-38)) 53]),
  (94, [o0 (.iload_n 2), o1 (.ifCond .ne 7) 102, o0 (.iload_n 3), o1 (.goto 5) 104]),
  (102, [o0 (.iload 4)]),
  (104, [o0 (.ireturn)])]
theorem bk_X_rest : okBlks q_X_rest bl_X_rest = true := by decide +kernel
noncomputable def oL_X_rest {ρ : Type} (N : Nat) : List (Nat × (List Value → mS → (Option Value → mS → Option ρ) → Option ρ)) := [(31, C_X_isWithinNights N), (32, C_X_coldWithout N)]
theorem oo_X_rest {ρ : Type} {t0 : ρ} (N : Nat) : OrcOK Sx R0x oFx nx 8 t0 (mOrc (oL_X_rest N)) := mOrc_OK (List.forall_mem_cons.mpr ⟨cs_X_isWithinNights N (by decide), List.forall_mem_cons.mpr ⟨cs_X_coldWithout N (by decide), mz_nil⟩⟩)
noncomputable def H_X_rest_53 {ρ : Type} (k : (Int32 × Int32 × Int32 × Int32 × Int32 × mS) → Option ρ) : mL → List Value → mS → Option ρ := fun loc st s => cR loc 0 0 (li1 loc 1 fun v0 => li1 loc 2 fun v1 => li1 loc 3 fun v2 => li1 loc 4 fun v3 => li1 loc 5 fun v4 => rv0 st (k (v0, v1, v2, v3, v4, s)))
noncomputable def f_X_rest_L53 (N : Nat) (k53 : (Int32 × Int32 × Int32 × Int32 × Int32 × mS) → Option (Int32 × mS)) (x : Int32 × Int32 × Int32 × Int32 × Int32 × mS) : Option (Int32 × mS) :=
  if x.2.2.2.2.1 < (gI x.2.2.2.2.2 401 2) then
    (f_X_coldWithout N x.2.2.2.2.1 x.1 x.2.2.2.2.2).bind fun p1 =>
    if p1.1 < x.2.2.2.1 then
      k53 (x.1, x.2.1, x.2.2.2.2.1, p1.1, (x.2.2.2.2.1 + 1), p1.2)
    else
      k53 (x.1, x.2.1, x.2.2.1, x.2.2.2.1, (x.2.2.2.2.1 + 1), p1.2)
  else
    if x.2.1 = 0 then
      some (x.2.2.1, x.2.2.2.2.2)
    else
      some (x.2.2.2.1, x.2.2.2.2.2)
set_option maxRecDepth 100000 in
set_option maxHeartbeats 4000000 in
theorem t_X_rest_53 (N : Nat) {x9 : Int32} {s9 : mS} {k53 : (Int32 × Int32 × Int32 × Int32 × Int32 × mS) → Option (Int32 × mS)} (hk53 : SCd Sx R0x oFx nx 8 q_X_rest (some (.int x9), s9) (x9, s9) 53 (H_X_rest_53 k53)) : SCd Sx R0x oFx nx 8 q_X_rest (some (.int x9), s9) (x9, s9) 53 (H_X_rest_53 (f_X_rest_L53 N k53)) := by
  intro loc st s
  refine G_cR (fun h0 => ?_)
  refine G_li (fun v0 h1 => ?_)
  refine G_li (fun v1 h2 => ?_)
  refine G_li (fun v2 h3 => ?_)
  refine G_li (fun v3 h4 => ?_)
  refine G_li (fun v4 h5 => ?_)
  refine G_rv0 (fun e9 => ?_)
  subst e9
  refine G_sub (loc0 := [(0, .ref 0), (1, .int v0), (2, .int v1), (3, .int v2), (4, .int v3), (5, .int v4)]) (List.forall_mem_cons.mpr ⟨h0, List.forall_mem_cons.mpr ⟨h1, List.forall_mem_cons.mpr ⟨h2, List.forall_mem_cons.mpr ⟨h3, List.forall_mem_cons.mpr ⟨h4, List.forall_mem_cons.mpr ⟨h5, mz_nil⟩⟩⟩⟩⟩⟩) ?_
  exact G_eq (mEv_G (orc := mOrc (oL_X_rest N)) (ret := rtI) (blks := bl_X_rest) (cuts := [(53, H_X_rest_53 k53)]) wOKx (by decide) (oo_X_rest N) (RetOK_I rfl) bk_X_rest (List.forall_mem_cons.mpr ⟨hk53, mz_nil⟩)) rfl
theorem s_X_rest_53 (N : Nat) {x9 : Int32} {s9 : mS} : SCd Sx R0x oFx nx 8 q_X_rest (some (.int x9), s9) (x9, s9) 53 (H_X_rest_53 (mfix N (f_X_rest_L53 N))) := by
  refine mfix_SC (H := H_X_rest_53) (fun loc st s => ?_) (fun k hk => t_X_rest_53 N hk) N
  refine G_cR (fun h0 => ?_)
  refine G_li (fun v0 h1 => ?_)
  refine G_li (fun v1 h2 => ?_)
  refine G_li (fun v2 h3 => ?_)
  refine G_li (fun v3 h4 => ?_)
  refine G_li (fun v4 h5 => ?_)
  refine G_rv0 (fun e9 => ?_)
  subst e9
  exact G_none
noncomputable def f_X_rest (N : Nat) (a1 : Int32) (a2 : Int32) (s : mS) : Option (Int32 × mS) :=
  if (gI s 401 2) = 0 then
    some ((-1), s)
  else
    if a1 < 1 then
      some ((-1), s)
    else
      if 40 < a1 then
        some ((-1), s)
      else
        (f_X_isWithinNights N a1 s).bind fun p1 =>
        if p1.1 = 0 then
          some ((-1), p1.2)
        else
          if a2 < 0 then
            some ((-1), p1.2)
          else
            if 1 < a2 then
              some ((-1), p1.2)
            else
              (f_X_coldWithout N 0 a1 p1.2).bind fun p2 =>
              mfix N (f_X_rest_L53 N) (a1, a2, 0, p2.1, 1, p2.2)
set_option maxRecDepth 100000 in
set_option maxHeartbeats 4000000 in
theorem m_X_rest (N : Nat) {x9 : Int32} {s9 : mS} (a1 : Int32) (a2 : Int32) {s : mS} (h : f_X_rest N a1 a2 s = some (x9, s9)) : MetM Sx R0x oFx nx 8 30 [.ref 0, .int a1, .int a2] s (some (.int x9)) s9 := by
  refine met_of_G (q := q_X_rest) (t0 := (x9, s9)) y_X_rest (Nat.le_of_ble_eq_true rfl) ?_
  rw [← h]
  exact G_eq (mEv_G (orc := mOrc (oL_X_rest N)) (ret := rtI) (blks := bl_X_rest) (cuts := [(53, H_X_rest_53 (mfix N (f_X_rest_L53 N)))]) wOKx (by decide) (oo_X_rest N) (RetOK_I rfl) bk_X_rest (List.forall_mem_cons.mpr ⟨s_X_rest_53 N, mz_nil⟩)) rfl
noncomputable def C_X_rest {ρ : Type} (N : Nat) : List Value → mS → (Option Value → mS → Option ρ) → Option ρ := fun vs s kk => sR vs 0 fun r0 => pi1 r0 fun a1 r1 => pi1 r1 fun a2 r2 => rv0 r2 ((f_X_rest N a1 a2 s).bind fun p => kk (some (.int p.1)) p.2)
theorem cs_X_rest {ρ : Type} {t0 : ρ} {d : Nat} (N : Nat) (hd : 8 + 1 ≤ d) : CallOK Sx R0x oFx nx d t0 30 (C_X_rest N) := by
  intro vs s kk h0
  obtain ⟨r0, rfl, h1⟩ := sR_some h0
  obtain ⟨a1, r1, rfl, h2⟩ := pi1_some h1
  obtain ⟨a2, r2, rfl, h3⟩ := pi1_some h2
  obtain ⟨rfl, h4⟩ := rv0_some h3
  obtain ⟨p, hp, hk⟩ := Option.bind_eq_some_iff.mp h4
  exact ⟨_, _, _, hd, m_X_rest N a1 a2 hp, hk, fun qy hq hf => by cases y_X_rest.symm.trans hq; exact ⟨_, _, rfl, rfl⟩⟩
/-! METHOD PorterDoors.openWithout(II)I -/
set_option maxRecDepth 20000 in
noncomputable def q_X_openWithout : mI := (⟨"PorterDoors", "openWithout", "(II)I"⟩, prog_1_method_52_code, 3, (some .int), 0, 935, 129, 1, 2, 934, 32)
theorem y_X_openWithout : mT[34]? = some q_X_openWithout := mT_at_0 (k := 34) rfl
noncomputable def bl_X_openWithout : List (Nat × List mO) := [(0, [o0 (.aload_n 0), o2 (.getfield 50) 0 7, o0 (.aload_n 0), o2 (.getfield 46) 0 6, o2 (.invokevirtual 341) 72 2, o0 (.aload_n 0), o2 (.getfield 72) 0 10, o0 (.aload_n 0), o2 (.getfield 50) 0 7, o0 (.iload_n 1), o2 (.invokevirtual 303) 116 3, o0 (.pop), o0 (.aload_n 0), o2 (.getfield 50) 0 7, o0 (.iload_n 2), o2 (.invokevirtual 193) 70 2, o0 (.ireturn)])]
theorem bk_X_openWithout : okBlks q_X_openWithout bl_X_openWithout = true := by decide +kernel
noncomputable def oL_X_openWithout {ρ : Type} (N : Nat) : List (Nat × (List Value → mS → (Option Value → mS → Option ρ) → Option ρ)) := [(72, C_Ha_copy N), (116, C_Ro_pass N), (70, C_Ha_isOpen N)]
theorem oo_X_openWithout {ρ : Type} {t0 : ρ} (N : Nat) : OrcOK Sx R0x oFx nx 7 t0 (mOrc (oL_X_openWithout N)) := mOrc_OK (List.forall_mem_cons.mpr ⟨cs_Ha_copy N (by decide), List.forall_mem_cons.mpr ⟨cs_Ro_pass N (by decide), List.forall_mem_cons.mpr ⟨cs_Ha_isOpen N (by decide), mz_nil⟩⟩⟩)
noncomputable def f_X_openWithout (N : Nat) (a1 : Int32) (a2 : Int32) (s : mS) : Option (Int32 × mS) :=
  (f_Ha_copy N 21 19 s).bind fun p1 =>
  (f_Ro_pass N 21 a1 p1).bind fun p2 =>
  (f_Ha_isOpen N 21 a2 p2.2).bind fun p3 =>
  some (p3.1, p3.2)
set_option maxRecDepth 100000 in
set_option maxHeartbeats 4000000 in
theorem m_X_openWithout (N : Nat) {x9 : Int32} {s9 : mS} (a1 : Int32) (a2 : Int32) {s : mS} (h : f_X_openWithout N a1 a2 s = some (x9, s9)) : MetM Sx R0x oFx nx 7 34 [.ref 0, .int a1, .int a2] s (some (.int x9)) s9 := by
  refine met_of_G (q := q_X_openWithout) (t0 := (x9, s9)) y_X_openWithout (Nat.le_of_ble_eq_true rfl) ?_
  rw [← h]
  exact G_eq (mEv_G (orc := mOrc (oL_X_openWithout N)) (ret := rtI) (blks := bl_X_openWithout) (cuts := []) wOKx (by decide) (oo_X_openWithout N) (RetOK_I rfl) bk_X_openWithout (mz_nil)) rfl
noncomputable def C_X_openWithout {ρ : Type} (N : Nat) : List Value → mS → (Option Value → mS → Option ρ) → Option ρ := fun vs s kk => sR vs 0 fun r0 => pi1 r0 fun a1 r1 => pi1 r1 fun a2 r2 => rv0 r2 ((f_X_openWithout N a1 a2 s).bind fun p => kk (some (.int p.1)) p.2)
theorem cs_X_openWithout {ρ : Type} {t0 : ρ} {d : Nat} (N : Nat) (hd : 7 + 1 ≤ d) : CallOK Sx R0x oFx nx d t0 34 (C_X_openWithout N) := by
  intro vs s kk h0
  obtain ⟨r0, rfl, h1⟩ := sR_some h0
  obtain ⟨a1, r1, rfl, h2⟩ := pi1_some h1
  obtain ⟨a2, r2, rfl, h3⟩ := pi1_some h2
  obtain ⟨rfl, h4⟩ := rv0_some h3
  obtain ⟨p, hp, hk⟩ := Option.bind_eq_some_iff.mp h4
  exact ⟨_, _, _, hd, m_X_openWithout N a1 a2 hp, hk, fun qy hq hf => by cases y_X_openWithout.symm.trans hq; exact ⟨_, _, rfl, rfl⟩⟩
/-! METHOD PorterDoors.odds(I)I -/
set_option maxRecDepth 20000 in
noncomputable def q_X_odds : mI := (⟨"PorterDoors", "odds", "(I)I"⟩, prog_1_method_22_code, 4, (some .int), 0, 931, 129, 1, 1, 929, 930)
theorem y_X_odds : mT[33]? = some q_X_odds := mT_at_0 (k := 33) rfl
noncomputable def bl_X_odds : List (Nat × List mO) := [(0, [o0 (.aload_n 0), o2 (.getfield 20) 0 2, o2 (.getfield 159) 4 1, o1 (.ifCond .eq 24) 31, o0 (.aload_n 0), o0 (.iconst 1), o2 (.invokevirtual 259) 31 2, o1 (.ifCond .eq 16) 31, o0 (.iload_n 1), o0 (.iconst (-1)), o1 (.if_icmp .eq 13) 33, o0 (.aload_n 0), o0 (.iload_n 1), o2 (.invokevirtual 190) 14 2, o1 (.ifCond .ne 5) 33]),
  (31, [o0 (.iconst (-1)), o0 (.ireturn)]),
  (33, [o0 (.iload_n 1), o0 (.iconst (-1)), o1 (.if_icmp .ne 14) 49, o0 (.bipush 100), o0 (.aload_n 0), o2 (.getfield 20) 0 2, o2 (.getfield 159) 4 1, o0 (.imul), o0 (.ireturn)]),
  (49, [o0 (.bipush 100), o0 (.aload_n 0), o2 (.getfield 20) 0 2, o2 (.getfield 265) 4 3, o0 (.isub), o0 (.aload_n 0), o2 (.getfield 20) 0 2, o2 (.getfield 159) 4 1, o0 (.imul), o0 (.aload_n 0), o0 (.iconst (-1)), o0 (.iload_n 1), o2 (.invokevirtual 268) 34 3, o0 (.imul), o0 (.istore_n 2), o0 (.iconst 0), o0 (.istore_n 3)]),
  (77, [o0 (.iload_n 3), o0 (.aload_n 0), o2 (.getfield 20) 0 2, o2 (.getfield 159) 4 1, o1 (.if_icmp .ge 26) 111, o0 (.iload_n 2), o0 (.aload_n 0), o2 (.getfield 20) 0 2, o2 (.getfield 265) 4 3, o0 (.aload_n 0), o0 (.iload_n 3), o0 (.iload_n 1), o2 (.invokevirtual 268) 34 3, o0 (.imul), o0 (.iadd), o0 (.istore_n 2), o0 (.iinc 3 1), o1 (.goto (-31)) 77]),
  (111, [o0 (.iload_n 2), o0 (.ireturn)])]
theorem bk_X_odds : okBlks q_X_odds bl_X_odds = true := by decide +kernel
noncomputable def oL_X_odds {ρ : Type} (N : Nat) : List (Nat × (List Value → mS → (Option Value → mS → Option ρ) → Option ρ)) := [(31, C_X_isWithinNights N), (14, C_X_isDoor N), (34, C_X_openWithout N)]
theorem oo_X_odds {ρ : Type} {t0 : ρ} (N : Nat) : OrcOK Sx R0x oFx nx 8 t0 (mOrc (oL_X_odds N)) := mOrc_OK (List.forall_mem_cons.mpr ⟨cs_X_isWithinNights N (by decide), List.forall_mem_cons.mpr ⟨cs_X_isDoor N (by decide), List.forall_mem_cons.mpr ⟨cs_X_openWithout N (by decide), mz_nil⟩⟩⟩)
noncomputable def H_X_odds_33 {ρ : Type} (k : (Int32 × mS) → Option ρ) : mL → List Value → mS → Option ρ := fun loc st s => cR loc 0 0 (li1 loc 1 fun v0 => rv0 st (k (v0, s)))
noncomputable def H_X_odds_77 {ρ : Type} (k : (Int32 × Int32 × Int32 × mS) → Option ρ) : mL → List Value → mS → Option ρ := fun loc st s => cR loc 0 0 (li1 loc 1 fun v0 => li1 loc 2 fun v1 => li1 loc 3 fun v2 => rv0 st (k (v0, v1, v2, s)))
noncomputable def f_X_odds_L77 (N : Nat) (k77 : (Int32 × Int32 × Int32 × mS) → Option (Int32 × mS)) (x : Int32 × Int32 × Int32 × mS) : Option (Int32 × mS) :=
  if x.2.2.1 < (gI x.2.2.2 401 2) then
    (f_X_openWithout N x.2.2.1 x.1 x.2.2.2).bind fun p1 =>
    k77 (x.1, (x.2.1 + ((gI x.2.2.2 403 2) * p1.1)), (x.2.2.1 + 1), p1.2)
  else
    some (x.2.1, x.2.2.2)
set_option maxRecDepth 100000 in
set_option maxHeartbeats 4000000 in
theorem t_X_odds_77 (N : Nat) {x9 : Int32} {s9 : mS} {k77 : (Int32 × Int32 × Int32 × mS) → Option (Int32 × mS)} (hk77 : SCd Sx R0x oFx nx 8 q_X_odds (some (.int x9), s9) (x9, s9) 77 (H_X_odds_77 k77)) : SCd Sx R0x oFx nx 8 q_X_odds (some (.int x9), s9) (x9, s9) 77 (H_X_odds_77 (f_X_odds_L77 N k77)) := by
  intro loc st s
  refine G_cR (fun h0 => ?_)
  refine G_li (fun v0 h1 => ?_)
  refine G_li (fun v1 h2 => ?_)
  refine G_li (fun v2 h3 => ?_)
  refine G_rv0 (fun e9 => ?_)
  subst e9
  refine G_sub (loc0 := [(0, .ref 0), (1, .int v0), (2, .int v1), (3, .int v2)]) (List.forall_mem_cons.mpr ⟨h0, List.forall_mem_cons.mpr ⟨h1, List.forall_mem_cons.mpr ⟨h2, List.forall_mem_cons.mpr ⟨h3, mz_nil⟩⟩⟩⟩) ?_
  exact G_eq (mEv_G (orc := mOrc (oL_X_odds N)) (ret := rtI) (blks := bl_X_odds) (cuts := [(77, H_X_odds_77 k77)]) wOKx (by decide) (oo_X_odds N) (RetOK_I rfl) bk_X_odds (List.forall_mem_cons.mpr ⟨hk77, mz_nil⟩)) rfl
theorem s_X_odds_77 (N : Nat) {x9 : Int32} {s9 : mS} : SCd Sx R0x oFx nx 8 q_X_odds (some (.int x9), s9) (x9, s9) 77 (H_X_odds_77 (mfix N (f_X_odds_L77 N))) := by
  refine mfix_SC (H := H_X_odds_77) (fun loc st s => ?_) (fun k hk => t_X_odds_77 N hk) N
  refine G_cR (fun h0 => ?_)
  refine G_li (fun v0 h1 => ?_)
  refine G_li (fun v1 h2 => ?_)
  refine G_li (fun v2 h3 => ?_)
  refine G_rv0 (fun e9 => ?_)
  subst e9
  exact G_none
noncomputable def f_X_odds_j33 (N : Nat) (x : Int32 × mS) : Option (Int32 × mS) :=
  if x.1 = (-1) then
    some ((100 * (gI x.2 401 2)), x.2)
  else
    (f_X_openWithout N (-1) x.1 x.2).bind fun p1 =>
    mfix N (f_X_odds_L77 N) (x.1, (((100 - (gI x.2 403 2)) * (gI x.2 401 2)) * p1.1), 0, p1.2)
set_option maxRecDepth 100000 in
set_option maxHeartbeats 4000000 in
theorem s_X_odds_33 (N : Nat) {x9 : Int32} {s9 : mS} : SCd Sx R0x oFx nx 8 q_X_odds (some (.int x9), s9) (x9, s9) 33 (H_X_odds_33 (f_X_odds_j33 N)) := by
  intro loc st s
  refine G_cR (fun h0 => ?_)
  refine G_li (fun v0 h1 => ?_)
  refine G_rv0 (fun e9 => ?_)
  subst e9
  refine G_sub (loc0 := [(0, .ref 0), (1, .int v0)]) (List.forall_mem_cons.mpr ⟨h0, List.forall_mem_cons.mpr ⟨h1, mz_nil⟩⟩) ?_
  exact G_eq (mEv_G (orc := mOrc (oL_X_odds N)) (ret := rtI) (blks := bl_X_odds) (cuts := [(77, H_X_odds_77 (mfix N (f_X_odds_L77 N)))]) wOKx (by decide) (oo_X_odds N) (RetOK_I rfl) bk_X_odds (List.forall_mem_cons.mpr ⟨s_X_odds_77 N, mz_nil⟩)) rfl
noncomputable def f_X_odds (N : Nat) (a1 : Int32) (s : mS) : Option (Int32 × mS) :=
  if (gI s 401 2) = 0 then
    some ((-1), s)
  else
    (f_X_isWithinNights N 1 s).bind fun p1 =>
    if p1.1 = 0 then
      some ((-1), p1.2)
    else
      if a1 = (-1) then
        f_X_odds_j33 N (a1, p1.2)
      else
        (f_X_isDoor N a1 p1.2).bind fun p2 =>
        if p2.1 = 0 then
          some ((-1), p2.2)
        else
          f_X_odds_j33 N (a1, p2.2)
set_option maxRecDepth 100000 in
set_option maxHeartbeats 4000000 in
theorem m_X_odds (N : Nat) {x9 : Int32} {s9 : mS} (a1 : Int32) {s : mS} (h : f_X_odds N a1 s = some (x9, s9)) : MetM Sx R0x oFx nx 8 33 [.ref 0, .int a1] s (some (.int x9)) s9 := by
  refine met_of_G (q := q_X_odds) (t0 := (x9, s9)) y_X_odds (Nat.le_of_ble_eq_true rfl) ?_
  rw [← h]
  exact G_eq (mEv_G (orc := mOrc (oL_X_odds N)) (ret := rtI) (blks := bl_X_odds) (cuts := [(33, H_X_odds_33 (f_X_odds_j33 N))]) wOKx (by decide) (oo_X_odds N) (RetOK_I rfl) bk_X_odds (List.forall_mem_cons.mpr ⟨s_X_odds_33 N, mz_nil⟩)) rfl
noncomputable def C_X_odds {ρ : Type} (N : Nat) : List Value → mS → (Option Value → mS → Option ρ) → Option ρ := fun vs s kk => sR vs 0 fun r0 => pi1 r0 fun a1 r1 => rv0 r1 ((f_X_odds N a1 s).bind fun p => kk (some (.int p.1)) p.2)
theorem cs_X_odds {ρ : Type} {t0 : ρ} {d : Nat} (N : Nat) (hd : 8 + 1 ≤ d) : CallOK Sx R0x oFx nx d t0 33 (C_X_odds N) := by
  intro vs s kk h0
  obtain ⟨r0, rfl, h1⟩ := sR_some h0
  obtain ⟨a1, r1, rfl, h2⟩ := pi1_some h1
  obtain ⟨rfl, h3⟩ := rv0_some h2
  obtain ⟨p, hp, hk⟩ := Option.bind_eq_some_iff.mp h3
  exact ⟨_, _, _, hd, m_X_odds N a1 hp, hk, fun qy hq hf => by cases y_X_odds.symm.trans hq; exact ⟨_, _, rfl, rfl⟩⟩
/-! METHOD PorterDoors.isSeeing(I)Z -/
set_option maxRecDepth 20000 in
noncomputable def q_X_isSeeing : mI := (⟨"PorterDoors", "isSeeing", "(I)Z"⟩, prog_1_method_53_code, 3, (some .boolean), 0, 943, 129, 1, 1, 942, 33)
theorem y_X_isSeeing : mT[36]? = some q_X_isSeeing := mT_at_0 (k := 36) rfl
noncomputable def bl_X_isSeeing : List (Nat × List mO) := [(0, [o0 (.iload_n 1), o0 (.iconst 2), o1 (.if_icmp .lt 15) 17, o0 (.iload_n 1), o0 (.bipush 48), o1 (.if_icmp .gt 9) 17, o0 (.iload_n 1), o0 (.iconst 2), o0 (.irem), o1 (.ifCond .eq 5) 19]),
  (17, [o0 (.iconst 0), o0 (.ireturn)]),
  (19, [o0 (.iconst 0), o0 (.istore_n 2)]),
  (21, [o0 (.iload_n 2), o0 (.iconst 1), o0 (.iadd), o0 (.iload_n 1), o1 (.if_icmp .ge 36) 61, o0 (.aload_n 0), o0 (.aload_n 0), o2 (.getfield 9) 0 0, o0 (.iload_n 2), o0 (.iaload), o2 (.invokevirtual 190) 14 2, o1 (.ifCond .eq 15) 53, o0 (.aload_n 0), o2 (.getfield 9) 0 0, o0 (.iload_n 2), o0 (.iconst 1), o0 (.iadd), o0 (.iaload), o0 (.iconst 1), o1 (.if_icmp .le 5) 55]),
  (53, [o0 (.iconst 0), o0 (.ireturn)]),
  (55, [o0 (.iinc 2 2), o1 (.goto (-37)) 21]),
  (61, [o0 (.iconst 1), o0 (.ireturn)])]
theorem bk_X_isSeeing : okBlks q_X_isSeeing bl_X_isSeeing = true := by decide +kernel
noncomputable def oL_X_isSeeing {ρ : Type} (N : Nat) : List (Nat × (List Value → mS → (Option Value → mS → Option ρ) → Option ρ)) := [(14, C_X_isDoor N)]
theorem oo_X_isSeeing {ρ : Type} {t0 : ρ} (N : Nat) : OrcOK Sx R0x oFx nx 2 t0 (mOrc (oL_X_isSeeing N)) := mOrc_OK (List.forall_mem_cons.mpr ⟨cs_X_isDoor N (by decide), mz_nil⟩)
noncomputable def H_X_isSeeing_21 {ρ : Type} (k : (Int32 × Int32 × mS) → Option ρ) : mL → List Value → mS → Option ρ := fun loc st s => cR loc 0 0 (li1 loc 1 fun v0 => li1 loc 2 fun v1 => rv0 st (k (v0, v1, s)))
noncomputable def f_X_isSeeing_L21 (N : Nat) (k21 : (Int32 × Int32 × mS) → Option (Int32 × mS)) (x : Int32 × Int32 × mS) : Option (Int32 × mS) :=
  if (x.2.1 + 1) < x.1 then
    grd (inb x.2.1 1600) (
    (f_X_isDoor N (gA x.2.2 1 (ix x.2.1)) x.2.2).bind fun p1 =>
    if p1.1 = 0 then
      some (0, p1.2)
    else
      grd (inb (x.2.1 + 1) 1600) (
      if 1 < (gA p1.2 1 (ix (x.2.1 + 1))) then
        some (0, p1.2)
      else
        k21 (x.1, (x.2.1 + 2), p1.2)))
  else
    some (1, x.2.2)
set_option maxRecDepth 100000 in
set_option maxHeartbeats 4000000 in
theorem t_X_isSeeing_21 (N : Nat) {x9 : Int32} {s9 : mS} {k21 : (Int32 × Int32 × mS) → Option (Int32 × mS)} (hk21 : SCd Sx R0x oFx nx 2 q_X_isSeeing (some (.int x9), s9) (x9, s9) 21 (H_X_isSeeing_21 k21)) : SCd Sx R0x oFx nx 2 q_X_isSeeing (some (.int x9), s9) (x9, s9) 21 (H_X_isSeeing_21 (f_X_isSeeing_L21 N k21)) := by
  intro loc st s
  refine G_cR (fun h0 => ?_)
  refine G_li (fun v0 h1 => ?_)
  refine G_li (fun v1 h2 => ?_)
  refine G_rv0 (fun e9 => ?_)
  subst e9
  refine G_sub (loc0 := [(0, .ref 0), (1, .int v0), (2, .int v1)]) (List.forall_mem_cons.mpr ⟨h0, List.forall_mem_cons.mpr ⟨h1, List.forall_mem_cons.mpr ⟨h2, mz_nil⟩⟩⟩) ?_
  exact G_eq (mEv_G (orc := mOrc (oL_X_isSeeing N)) (ret := rtZ) (blks := bl_X_isSeeing) (cuts := [(21, H_X_isSeeing_21 k21)]) wOKx (by decide) (oo_X_isSeeing N) (RetOK_Z rfl) bk_X_isSeeing (List.forall_mem_cons.mpr ⟨hk21, mz_nil⟩)) rfl
theorem s_X_isSeeing_21 (N : Nat) {x9 : Int32} {s9 : mS} : SCd Sx R0x oFx nx 2 q_X_isSeeing (some (.int x9), s9) (x9, s9) 21 (H_X_isSeeing_21 (mfix N (f_X_isSeeing_L21 N))) := by
  refine mfix_SC (H := H_X_isSeeing_21) (fun loc st s => ?_) (fun k hk => t_X_isSeeing_21 N hk) N
  refine G_cR (fun h0 => ?_)
  refine G_li (fun v0 h1 => ?_)
  refine G_li (fun v1 h2 => ?_)
  refine G_rv0 (fun e9 => ?_)
  subst e9
  exact G_none
noncomputable def f_X_isSeeing (N : Nat) (a1 : Int32) (s : mS) : Option (Int32 × mS) :=
  if a1 < 2 then
    some (0, s)
  else
    if 48 < a1 then
      some (0, s)
    else
      if (irm a1 2) = 0 then
        mfix N (f_X_isSeeing_L21 N) (a1, 0, s)
      else
        some (0, s)
set_option maxRecDepth 100000 in
set_option maxHeartbeats 4000000 in
theorem m_X_isSeeing (N : Nat) {x9 : Int32} {s9 : mS} (a1 : Int32) {s : mS} (h : f_X_isSeeing N a1 s = some (x9, s9)) : MetM Sx R0x oFx nx 2 36 [.ref 0, .int a1] s (some (.int x9)) s9 := by
  refine met_of_G (q := q_X_isSeeing) (t0 := (x9, s9)) y_X_isSeeing (Nat.le_of_ble_eq_true rfl) ?_
  rw [← h]
  exact G_eq (mEv_G (orc := mOrc (oL_X_isSeeing N)) (ret := rtZ) (blks := bl_X_isSeeing) (cuts := [(21, H_X_isSeeing_21 (mfix N (f_X_isSeeing_L21 N)))]) wOKx (by decide) (oo_X_isSeeing N) (RetOK_Z rfl) bk_X_isSeeing (List.forall_mem_cons.mpr ⟨s_X_isSeeing_21 N, mz_nil⟩)) rfl
noncomputable def C_X_isSeeing {ρ : Type} (N : Nat) : List Value → mS → (Option Value → mS → Option ρ) → Option ρ := fun vs s kk => sR vs 0 fun r0 => pi1 r0 fun a1 r1 => rv0 r1 ((f_X_isSeeing N a1 s).bind fun p => kk (some (.int p.1)) p.2)
theorem cs_X_isSeeing {ρ : Type} {t0 : ρ} {d : Nat} (N : Nat) (hd : 2 + 1 ≤ d) : CallOK Sx R0x oFx nx d t0 36 (C_X_isSeeing N) := by
  intro vs s kk h0
  obtain ⟨r0, rfl, h1⟩ := sR_some h0
  obtain ⟨a1, r1, rfl, h2⟩ := pi1_some h1
  obtain ⟨rfl, h3⟩ := rv0_some h2
  obtain ⟨p, hp, hk⟩ := Option.bind_eq_some_iff.mp h3
  exact ⟨_, _, _, hd, m_X_isSeeing N a1 hp, hk, fun qy hq hf => by cases y_X_isSeeing.symm.trans hq; exact ⟨_, _, rfl, rfl⟩⟩
/-! METHOD PorterDoors$Sets.seeDoor(II)V -/
set_option maxRecDepth 20000 in
noncomputable def q_Se_seeDoor : mI := (⟨"PorterDoors$Sets", "seeDoor", "(II)V"⟩, prog_9_method_4_code, 3, none, 8, 947, 138, 1, 2, 945, 946)
theorem y_Se_seeDoor : mT[131]? = some q_Se_seeDoor := mT_at_3 (k := 11) rfl
noncomputable def bl_Se_seeDoor : List (Nat × List mO) := [(0, [o0 (.iload_n 2), o0 (.iconst 1), o1 (.if_icmp .ne 18) 20, o0 (.aload_n 0), o0 (.dup), o2 (.getfield 32) 8 9, o0 (.iconst 1), o0 (.iload_n 1), o0 (.ishl), o0 (.ior), o2 (.putfield 32) 8 9, o1 (.goto 15) 32]),
  (20, [o0 (.aload_n 0), o0 (.dup), o2 (.getfield 35) 8 10, o0 (.iconst 1), o0 (.iload_n 1), o0 (.ishl), o0 (.ior), o2 (.putfield 35) 8 10]),
  (32, [o0 (.aload_n 0), o0 (.dup), o2 (.getfield 29) 8 8, o0 (.iconst 1), o0 (.iadd), o2 (.putfield 29) 8 8, o0 (.return_)])]
theorem bk_Se_seeDoor : okBlks q_Se_seeDoor bl_Se_seeDoor = true := by decide +kernel
noncomputable def oL_Se_seeDoor {ρ : Type} (N : Nat) : List (Nat × (List Value → mS → (Option Value → mS → Option ρ) → Option ρ)) := []
theorem oo_Se_seeDoor {ρ : Type} {t0 : ρ} (N : Nat) : OrcOK Sx R0x oFx nx 1 t0 (mOrc (oL_Se_seeDoor N)) := mOrc_OK (mz_nil)
noncomputable def f_Se_seeDoor (N : Nat) (a1 : Int32) (a2 : Int32) (s : mS) : Option (mS) :=
  if a2 = 1 then
    let s3 := sI s 809 37 ((gI s 809 37) ||| (ils 1 a1))
    let s4 := sI s3 808 37 ((gI s3 808 37) + 1)
    some s4
  else
    let s1 := sI s 810 37 ((gI s 810 37) ||| (ils 1 a1))
    let s2 := sI s1 808 37 ((gI s1 808 37) + 1)
    some s2
set_option maxRecDepth 100000 in
set_option maxHeartbeats 4000000 in
theorem m_Se_seeDoor (N : Nat) {s9 : mS} (a1 : Int32) (a2 : Int32) {s : mS} (h : f_Se_seeDoor N a1 a2 s = some s9) : MetM Sx R0x oFx nx 1 131 [.ref 37, .int a1, .int a2] s (none) s9 := by
  refine met_of_G (q := q_Se_seeDoor) (t0 := s9) y_Se_seeDoor (Nat.le_of_ble_eq_true rfl) ?_
  rw [← h]
  exact G_eq (mEv_G (orc := mOrc (oL_Se_seeDoor N)) (ret := rtV) (blks := bl_Se_seeDoor) (cuts := []) wOKx (by decide) (oo_Se_seeDoor N) (RetOK_V rfl) bk_Se_seeDoor (mz_nil)) rfl
noncomputable def C_Se_seeDoor {ρ : Type} (N : Nat) : List Value → mS → (Option Value → mS → Option ρ) → Option ρ := fun vs s kk => sR vs 37 fun r0 => pi1 r0 fun a1 r1 => pi1 r1 fun a2 r2 => rv0 r2 ((f_Se_seeDoor N a1 a2 s).bind fun p => kk none p)
theorem cs_Se_seeDoor {ρ : Type} {t0 : ρ} {d : Nat} (N : Nat) (hd : 1 + 1 ≤ d) : CallOK Sx R0x oFx nx d t0 131 (C_Se_seeDoor N) := by
  intro vs s kk h0
  obtain ⟨r0, rfl, h1⟩ := sR_some h0
  obtain ⟨a1, r1, rfl, h2⟩ := pi1_some h1
  obtain ⟨a2, r2, rfl, h3⟩ := pi1_some h2
  obtain ⟨rfl, h4⟩ := rv0_some h3
  obtain ⟨p, hp, hk⟩ := Option.bind_eq_some_iff.mp h4
  exact ⟨_, _, _, hd, m_Se_seeDoor N a1 a2 hp, hk, fun qy hq hf => by cases y_Se_seeDoor.symm.trans hq; exact ⟨_, _, rfl, rfl⟩⟩
/-! METHOD PorterDoors.see()I -/
set_option maxRecDepth 20000 in
noncomputable def q_X_see : mI := (⟨"PorterDoors", "see", "()I"⟩, prog_1_method_23_code, 3, (some .int), 0, 939, 129, 1, 0, 937, 938)
theorem y_X_see : mT[35]? = some q_X_see := mT_at_0 (k := 35) rfl
noncomputable def bl_X_see : List (Nat × List mO) := [(0, [o0 (.aload_n 0), o2 (.invokevirtual 117) 6 1, o0 (.istore_n 1), o0 (.aload_n 0), o0 (.iload_n 1), o2 (.invokevirtual 271) 36 2, o1 (.ifCond .ne 11) 21, o0 (.aload_n 0), o0 (.iconst 1), o2 (.invokevirtual 106) 2 2, o0 (.pop), o0 (.iconst (-1)), o0 (.ireturn)]),
  (21, [o0 (.aload_n 0), o2 (.getfield 90) 0 12, o2 (.invokevirtual 147) 121 1, o0 (.iconst 0), o0 (.istore_n 2)]),
  (30, [o0 (.iload_n 2), o0 (.iconst 1), o0 (.iadd), o0 (.iload_n 1), o1 (.if_icmp .ge 30) 64, o0 (.aload_n 0), o2 (.getfield 90) 0 12, o0 (.aload_n 0), o2 (.getfield 9) 0 0, o0 (.iload_n 2), o0 (.iaload), o0 (.aload_n 0), o2 (.getfield 9) 0 0, o0 (.iload_n 2), o0 (.iconst 1), o0 (.iadd), o0 (.iaload), o2 (.invokevirtual 274) 131 3, o0 (.iinc 2 2), o1 (.goto (-31)) 30]),
  (64, [o0 (.aload_n 0), o2 (.getfield 90) 0 12, o2 (.getfield 177) 8 8, o0 (.ireturn)])]
theorem bk_X_see : okBlks q_X_see bl_X_see = true := by decide +kernel
noncomputable def oL_X_see {ρ : Type} (N : Nat) : List (Nat × (List Value → mS → (Option Value → mS → Option ρ) → Option ρ)) := [(6, C_X_takeTape N), (36, C_X_isSeeing N), (2, C_X_refuse N), (121, C_Se_forgetSeen N), (131, C_Se_seeDoor N)]
theorem oo_X_see {ρ : Type} {t0 : ρ} (N : Nat) : OrcOK Sx R0x oFx nx 3 t0 (mOrc (oL_X_see N)) := mOrc_OK (List.forall_mem_cons.mpr ⟨cs_X_takeTape N (by decide), List.forall_mem_cons.mpr ⟨cs_X_isSeeing N (by decide), List.forall_mem_cons.mpr ⟨cs_X_refuse N (by decide), List.forall_mem_cons.mpr ⟨cs_Se_forgetSeen N (by decide), List.forall_mem_cons.mpr ⟨cs_Se_seeDoor N (by decide), mz_nil⟩⟩⟩⟩⟩)
noncomputable def H_X_see_30 {ρ : Type} (k : (Int32 × Int32 × mS) → Option ρ) : mL → List Value → mS → Option ρ := fun loc st s => cR loc 0 0 (li1 loc 1 fun v0 => li1 loc 2 fun v1 => rv0 st (k (v0, v1, s)))
noncomputable def f_X_see_L30 (N : Nat) (k30 : (Int32 × Int32 × mS) → Option (Int32 × mS)) (x : Int32 × Int32 × mS) : Option (Int32 × mS) :=
  if (x.2.1 + 1) < x.1 then
    grd (inb x.2.1 1600) (
    grd (inb (x.2.1 + 1) 1600) (
    (f_Se_seeDoor N (gA x.2.2 1 (ix x.2.1)) (gA x.2.2 1 (ix (x.2.1 + 1))) x.2.2).bind fun p1 =>
    k30 (x.1, (x.2.1 + 2), p1)))
  else
    some ((gI x.2.2 808 37), x.2.2)
set_option maxRecDepth 100000 in
set_option maxHeartbeats 4000000 in
theorem t_X_see_30 (N : Nat) {x9 : Int32} {s9 : mS} {k30 : (Int32 × Int32 × mS) → Option (Int32 × mS)} (hk30 : SCd Sx R0x oFx nx 3 q_X_see (some (.int x9), s9) (x9, s9) 30 (H_X_see_30 k30)) : SCd Sx R0x oFx nx 3 q_X_see (some (.int x9), s9) (x9, s9) 30 (H_X_see_30 (f_X_see_L30 N k30)) := by
  intro loc st s
  refine G_cR (fun h0 => ?_)
  refine G_li (fun v0 h1 => ?_)
  refine G_li (fun v1 h2 => ?_)
  refine G_rv0 (fun e9 => ?_)
  subst e9
  refine G_sub (loc0 := [(0, .ref 0), (1, .int v0), (2, .int v1)]) (List.forall_mem_cons.mpr ⟨h0, List.forall_mem_cons.mpr ⟨h1, List.forall_mem_cons.mpr ⟨h2, mz_nil⟩⟩⟩) ?_
  exact G_eq (mEv_G (orc := mOrc (oL_X_see N)) (ret := rtI) (blks := bl_X_see) (cuts := [(30, H_X_see_30 k30)]) wOKx (by decide) (oo_X_see N) (RetOK_I rfl) bk_X_see (List.forall_mem_cons.mpr ⟨hk30, mz_nil⟩)) rfl
theorem s_X_see_30 (N : Nat) {x9 : Int32} {s9 : mS} : SCd Sx R0x oFx nx 3 q_X_see (some (.int x9), s9) (x9, s9) 30 (H_X_see_30 (mfix N (f_X_see_L30 N))) := by
  refine mfix_SC (H := H_X_see_30) (fun loc st s => ?_) (fun k hk => t_X_see_30 N hk) N
  refine G_cR (fun h0 => ?_)
  refine G_li (fun v0 h1 => ?_)
  refine G_li (fun v1 h2 => ?_)
  refine G_rv0 (fun e9 => ?_)
  subst e9
  exact G_none
noncomputable def f_X_see (N : Nat) (s : mS) : Option (Int32 × mS) :=
  (f_X_takeTape N s).bind fun p1 =>
  (f_X_isSeeing N p1.1 p1.2).bind fun p2 =>
  if p2.1 = 0 then
    (f_X_refuse N 1 p2.2).bind fun p4 =>
    some ((-1), p4.2)
  else
    (f_Se_forgetSeen N p2.2).bind fun p3 =>
    mfix N (f_X_see_L30 N) (p1.1, 0, p3)
set_option maxRecDepth 100000 in
set_option maxHeartbeats 4000000 in
theorem m_X_see (N : Nat) {x9 : Int32} {s9 : mS} {s : mS} (h : f_X_see N s = some (x9, s9)) : MetM Sx R0x oFx nx 3 35 [.ref 0] s (some (.int x9)) s9 := by
  refine met_of_G (q := q_X_see) (t0 := (x9, s9)) y_X_see (Nat.le_of_ble_eq_true rfl) ?_
  rw [← h]
  exact G_eq (mEv_G (orc := mOrc (oL_X_see N)) (ret := rtI) (blks := bl_X_see) (cuts := [(30, H_X_see_30 (mfix N (f_X_see_L30 N)))]) wOKx (by decide) (oo_X_see N) (RetOK_I rfl) bk_X_see (List.forall_mem_cons.mpr ⟨s_X_see_30 N, mz_nil⟩)) rfl
noncomputable def C_X_see {ρ : Type} (N : Nat) : List Value → mS → (Option Value → mS → Option ρ) → Option ρ := fun vs s kk => sR vs 0 fun r0 => rv0 r0 ((f_X_see N s).bind fun p => kk (some (.int p.1)) p.2)
theorem cs_X_see {ρ : Type} {t0 : ρ} {d : Nat} (N : Nat) (hd : 3 + 1 ≤ d) : CallOK Sx R0x oFx nx d t0 35 (C_X_see N) := by
  intro vs s kk h0
  obtain ⟨r0, rfl, h1⟩ := sR_some h0
  obtain ⟨rfl, h2⟩ := rv0_some h1
  obtain ⟨p, hp, hk⟩ := Option.bind_eq_some_iff.mp h2
  exact ⟨_, _, _, hd, m_X_see N hp, hk, fun qy hq hf => by cases y_X_see.symm.trans hq; exact ⟨_, _, rfl, rfl⟩⟩
/-! METHOD PorterDoors.fits(I)I -/
set_option maxRecDepth 20000 in
noncomputable def q_X_fits : mI := (⟨"PorterDoors", "fits", "(I)I"⟩, prog_1_method_24_code, 2, (some .int), 0, 951, 129, 1, 1, 949, 950)
theorem y_X_fits : mT[37]? = some q_X_fits := mT_at_0 (k := 37) rfl
noncomputable def bl_X_fits : List (Nat × List mO) := [(0, [o0 (.aload_n 0), o2 (.invokevirtual 220) 20 1, o1 (.ifCond .ne 5) 9, o0 (.iconst (-1)), o0 (.ireturn)]),
  (9, [o0 (.aload_n 0), o2 (.getfield 90) 0 12, o2 (.invokevirtual 237) 123 1, o0 (.iload_n 1), o0 (.iconst (-1)), o1 (.if_icmp .ne 11) 29, o0 (.aload_n 0), o2 (.getfield 90) 0 12, o2 (.getfield 278) 8 6, o0 (.ireturn)]),
  (29, [o0 (.iload_n 1), o1 (.ifCond .lt 26) 56, o0 (.iload_n 1), o0 (.aload_n 0), o2 (.getfield 90) 0 12, o2 (.getfield 278) 8 6, o1 (.if_icmp .ge 15) 56, o0 (.aload_n 0), o2 (.getfield 90) 0 12, o2 (.getfield 281) 8 7, o0 (.iload_n 1), o0 (.iaload), o1 (.goto 4) 57]),
  (56, [o0 (.iconst (-1))]),
  (57, [o0 (.ireturn)])]
theorem bk_X_fits : okBlks q_X_fits bl_X_fits = true := by decide +kernel
noncomputable def oL_X_fits {ρ : Type} (N : Nat) : List (Nat × (List Value → mS → (Option Value → mS → Option ρ) → Option ρ)) := [(20, C_X_isTold N), (123, C_Se_reckon N)]
theorem oo_X_fits {ρ : Type} {t0 : ρ} (N : Nat) : OrcOK Sx R0x oFx nx 6 t0 (mOrc (oL_X_fits N)) := mOrc_OK (List.forall_mem_cons.mpr ⟨cs_X_isTold N (by decide), List.forall_mem_cons.mpr ⟨cs_Se_reckon N (by decide), mz_nil⟩⟩)
noncomputable def f_X_fits (N : Nat) (a1 : Int32) (s : mS) : Option (Int32 × mS) :=
  (f_X_isTold N s).bind fun p1 =>
  if p1.1 = 0 then
    some ((-1), p1.2)
  else
    (f_Se_reckon N p1.2).bind fun p2 =>
    if a1 = (-1) then
      some ((gI p2 806 37), p2)
    else
      if a1 < 0 then
        some ((-1), p2)
      else
        if a1 < (gI p2 806 37) then
          grd (inb a1 1024) (
          some ((gA p2 39 (ix a1)), p2))
        else
          some ((-1), p2)
set_option maxRecDepth 100000 in
set_option maxHeartbeats 4000000 in
theorem m_X_fits (N : Nat) {x9 : Int32} {s9 : mS} (a1 : Int32) {s : mS} (h : f_X_fits N a1 s = some (x9, s9)) : MetM Sx R0x oFx nx 6 37 [.ref 0, .int a1] s (some (.int x9)) s9 := by
  refine met_of_G (q := q_X_fits) (t0 := (x9, s9)) y_X_fits (Nat.le_of_ble_eq_true rfl) ?_
  rw [← h]
  exact G_eq (mEv_G (orc := mOrc (oL_X_fits N)) (ret := rtI) (blks := bl_X_fits) (cuts := []) wOKx (by decide) (oo_X_fits N) (RetOK_I rfl) bk_X_fits (mz_nil)) rfl
noncomputable def C_X_fits {ρ : Type} (N : Nat) : List Value → mS → (Option Value → mS → Option ρ) → Option ρ := fun vs s kk => sR vs 0 fun r0 => pi1 r0 fun a1 r1 => rv0 r1 ((f_X_fits N a1 s).bind fun p => kk (some (.int p.1)) p.2)
theorem cs_X_fits {ρ : Type} {t0 : ρ} {d : Nat} (N : Nat) (hd : 6 + 1 ≤ d) : CallOK Sx R0x oFx nx d t0 37 (C_X_fits N) := by
  intro vs s kk h0
  obtain ⟨r0, rfl, h1⟩ := sR_some h0
  obtain ⟨a1, r1, rfl, h2⟩ := pi1_some h1
  obtain ⟨rfl, h3⟩ := rv0_some h2
  obtain ⟨p, hp, hk⟩ := Option.bind_eq_some_iff.mp h3
  exact ⟨_, _, _, hd, m_X_fits N a1 hp, hk, fun qy hq hf => by cases y_X_fits.symm.trans hq; exact ⟨_, _, rfl, rfl⟩⟩
/-! METHOD PorterDoors$Sets.fitsWith(I)I -/
set_option maxRecDepth 20000 in
noncomputable def q_Se_fitsWith : mI := (⟨"PorterDoors$Sets", "fitsWith", "(I)I"⟩, prog_9_method_13_code, 4, (some .int), 8, 959, 138, 1, 1, 957, 958)
theorem y_Se_fitsWith : mT[132]? = some q_Se_fitsWith := mT_at_3 (k := 12) rfl
noncomputable def bl_Se_fitsWith : List (Nat × List mO) := [(0, [o0 (.iconst 0), o0 (.istore_n 2), o0 (.iconst 0), o0 (.istore_n 3)]),
  (4, [o0 (.iload_n 3), o0 (.aload_n 0), o2 (.getfield 23) 8 6, o1 (.if_icmp .ge 22) 31, o0 (.iload_n 2), o0 (.aload_n 0), o2 (.getfield 26) 8 7, o0 (.iload_n 3), o0 (.iaload), o0 (.iload_n 1), o0 (.ishr), o0 (.iconst 1), o0 (.iand), o0 (.iadd), o0 (.istore_n 2), o0 (.iinc 3 1), o1 (.goto (-24)) 4]),
  (31, [o0 (.iload_n 2), o0 (.ireturn)])]
theorem bk_Se_fitsWith : okBlks q_Se_fitsWith bl_Se_fitsWith = true := by decide +kernel
noncomputable def oL_Se_fitsWith {ρ : Type} (N : Nat) : List (Nat × (List Value → mS → (Option Value → mS → Option ρ) → Option ρ)) := []
theorem oo_Se_fitsWith {ρ : Type} {t0 : ρ} (N : Nat) : OrcOK Sx R0x oFx nx 1 t0 (mOrc (oL_Se_fitsWith N)) := mOrc_OK (mz_nil)
noncomputable def H_Se_fitsWith_4 {ρ : Type} (k : (Int32 × Int32 × Int32 × mS) → Option ρ) : mL → List Value → mS → Option ρ := fun loc st s => cR loc 0 37 (li1 loc 1 fun v0 => li1 loc 2 fun v1 => li1 loc 3 fun v2 => rv0 st (k (v0, v1, v2, s)))
noncomputable def f_Se_fitsWith_L4 (N : Nat) (k4 : (Int32 × Int32 × Int32 × mS) → Option (Int32 × mS)) (x : Int32 × Int32 × Int32 × mS) : Option (Int32 × mS) :=
  if x.2.2.1 < (gI x.2.2.2 806 37) then
    grd (inb x.2.2.1 1024) (
    k4 (x.1, (x.2.1 + ((irs (gA x.2.2.2 39 (ix x.2.2.1)) x.1) &&& 1)), (x.2.2.1 + 1), x.2.2.2))
  else
    some (x.2.1, x.2.2.2)
set_option maxRecDepth 100000 in
set_option maxHeartbeats 4000000 in
theorem t_Se_fitsWith_4 (N : Nat) {x9 : Int32} {s9 : mS} {k4 : (Int32 × Int32 × Int32 × mS) → Option (Int32 × mS)} (hk4 : SCd Sx R0x oFx nx 1 q_Se_fitsWith (some (.int x9), s9) (x9, s9) 4 (H_Se_fitsWith_4 k4)) : SCd Sx R0x oFx nx 1 q_Se_fitsWith (some (.int x9), s9) (x9, s9) 4 (H_Se_fitsWith_4 (f_Se_fitsWith_L4 N k4)) := by
  intro loc st s
  refine G_cR (fun h0 => ?_)
  refine G_li (fun v0 h1 => ?_)
  refine G_li (fun v1 h2 => ?_)
  refine G_li (fun v2 h3 => ?_)
  refine G_rv0 (fun e9 => ?_)
  subst e9
  refine G_sub (loc0 := [(0, .ref 37), (1, .int v0), (2, .int v1), (3, .int v2)]) (List.forall_mem_cons.mpr ⟨h0, List.forall_mem_cons.mpr ⟨h1, List.forall_mem_cons.mpr ⟨h2, List.forall_mem_cons.mpr ⟨h3, mz_nil⟩⟩⟩⟩) ?_
  exact G_eq (mEv_G (orc := mOrc (oL_Se_fitsWith N)) (ret := rtI) (blks := bl_Se_fitsWith) (cuts := [(4, H_Se_fitsWith_4 k4)]) wOKx (by decide) (oo_Se_fitsWith N) (RetOK_I rfl) bk_Se_fitsWith (List.forall_mem_cons.mpr ⟨hk4, mz_nil⟩)) rfl
theorem s_Se_fitsWith_4 (N : Nat) {x9 : Int32} {s9 : mS} : SCd Sx R0x oFx nx 1 q_Se_fitsWith (some (.int x9), s9) (x9, s9) 4 (H_Se_fitsWith_4 (mfix N (f_Se_fitsWith_L4 N))) := by
  refine mfix_SC (H := H_Se_fitsWith_4) (fun loc st s => ?_) (fun k hk => t_Se_fitsWith_4 N hk) N
  refine G_cR (fun h0 => ?_)
  refine G_li (fun v0 h1 => ?_)
  refine G_li (fun v1 h2 => ?_)
  refine G_li (fun v2 h3 => ?_)
  refine G_rv0 (fun e9 => ?_)
  subst e9
  exact G_none
noncomputable def f_Se_fitsWith (N : Nat) (a1 : Int32) (s : mS) : Option (Int32 × mS) :=
  mfix N (f_Se_fitsWith_L4 N) (a1, 0, 0, s)
set_option maxRecDepth 100000 in
set_option maxHeartbeats 4000000 in
theorem m_Se_fitsWith (N : Nat) {x9 : Int32} {s9 : mS} (a1 : Int32) {s : mS} (h : f_Se_fitsWith N a1 s = some (x9, s9)) : MetM Sx R0x oFx nx 1 132 [.ref 37, .int a1] s (some (.int x9)) s9 := by
  refine met_of_G (q := q_Se_fitsWith) (t0 := (x9, s9)) y_Se_fitsWith (Nat.le_of_ble_eq_true rfl) ?_
  rw [← h]
  exact G_eq (mEv_G (orc := mOrc (oL_Se_fitsWith N)) (ret := rtI) (blks := bl_Se_fitsWith) (cuts := [(4, H_Se_fitsWith_4 (mfix N (f_Se_fitsWith_L4 N)))]) wOKx (by decide) (oo_Se_fitsWith N) (RetOK_I rfl) bk_Se_fitsWith (List.forall_mem_cons.mpr ⟨s_Se_fitsWith_4 N, mz_nil⟩)) rfl
noncomputable def C_Se_fitsWith {ρ : Type} (N : Nat) : List Value → mS → (Option Value → mS → Option ρ) → Option ρ := fun vs s kk => sR vs 37 fun r0 => pi1 r0 fun a1 r1 => rv0 r1 ((f_Se_fitsWith N a1 s).bind fun p => kk (some (.int p.1)) p.2)
theorem cs_Se_fitsWith {ρ : Type} {t0 : ρ} {d : Nat} (N : Nat) (hd : 1 + 1 ≤ d) : CallOK Sx R0x oFx nx d t0 132 (C_Se_fitsWith N) := by
  intro vs s kk h0
  obtain ⟨r0, rfl, h1⟩ := sR_some h0
  obtain ⟨a1, r1, rfl, h2⟩ := pi1_some h1
  obtain ⟨rfl, h3⟩ := rv0_some h2
  obtain ⟨p, hp, hk⟩ := Option.bind_eq_some_iff.mp h3
  exact ⟨_, _, _, hd, m_Se_fitsWith N a1 hp, hk, fun qy hq hf => by cases y_Se_fitsWith.symm.trans hq; exact ⟨_, _, rfl, rfl⟩⟩
/-! METHOD PorterDoors.walked(I)I -/
set_option maxRecDepth 20000 in
noncomputable def q_X_walked : mI := (⟨"PorterDoors", "walked", "(I)I"⟩, prog_1_method_25_code, 3, (some .int), 0, 955, 129, 1, 1, 953, 954)
theorem y_X_walked : mT[38]? = some q_X_walked := mT_at_0 (k := 38) rfl
noncomputable def bl_X_walked : List (Nat × List mO) := [(0, [o0 (.aload_n 0), o0 (.iload_n 1), o2 (.invokevirtual 183) 12 2, o1 (.ifCond .ne 5) 10, o0 (.iconst (-1)), o0 (.ireturn)]),
  (10, [o0 (.aload_n 0), o2 (.getfield 90) 0 12, o2 (.invokevirtual 237) 123 1, o0 (.aload_n 0), o2 (.getfield 90) 0 12, o0 (.iload_n 1), o2 (.invokevirtual 284) 132 2, o0 (.istore_n 2), o0 (.aload_n 0), o2 (.getfield 90) 0 12, o2 (.getfield 278) 8 6, o1 (.ifCond .ne 5) 38, o0 (.iconst (-1)), o0 (.ireturn)]),
  (38, [o0 (.iload_n 2), o0 (.aload_n 0), o2 (.getfield 90) 0 12, o2 (.getfield 278) 8 6, o1 (.if_icmp .ne 5) 51, o0 (.iconst 1), o0 (.ireturn)]),
  (51, [o0 (.iload_n 2), o1 (.ifCond .ne 7) 59, o0 (.iconst 2), o1 (.goto 4) 60]),
  (59, [o0 (.iconst 0)]),
  (60, [o0 (.ireturn)])]
theorem bk_X_walked : okBlks q_X_walked bl_X_walked = true := by decide +kernel
noncomputable def oL_X_walked {ρ : Type} (N : Nat) : List (Nat × (List Value → mS → (Option Value → mS → Option ρ) → Option ρ)) := [(12, C_X_isPorter N), (123, C_Se_reckon N), (132, C_Se_fitsWith N)]
theorem oo_X_walked {ρ : Type} {t0 : ρ} (N : Nat) : OrcOK Sx R0x oFx nx 6 t0 (mOrc (oL_X_walked N)) := mOrc_OK (List.forall_mem_cons.mpr ⟨cs_X_isPorter N (by decide), List.forall_mem_cons.mpr ⟨cs_Se_reckon N (by decide), List.forall_mem_cons.mpr ⟨cs_Se_fitsWith N (by decide), mz_nil⟩⟩⟩)
noncomputable def f_X_walked (N : Nat) (a1 : Int32) (s : mS) : Option (Int32 × mS) :=
  (f_X_isPorter N a1 s).bind fun p1 =>
  if p1.1 = 0 then
    some ((-1), p1.2)
  else
    (f_Se_reckon N p1.2).bind fun p2 =>
    (f_Se_fitsWith N a1 p2).bind fun p3 =>
    if (gI p3.2 806 37) = 0 then
      some ((-1), p3.2)
    else
      if p3.1 = (gI p3.2 806 37) then
        some (1, p3.2)
      else
        if p3.1 = 0 then
          some (2, p3.2)
        else
          some (0, p3.2)
set_option maxRecDepth 100000 in
set_option maxHeartbeats 4000000 in
theorem m_X_walked (N : Nat) {x9 : Int32} {s9 : mS} (a1 : Int32) {s : mS} (h : f_X_walked N a1 s = some (x9, s9)) : MetM Sx R0x oFx nx 6 38 [.ref 0, .int a1] s (some (.int x9)) s9 := by
  refine met_of_G (q := q_X_walked) (t0 := (x9, s9)) y_X_walked (Nat.le_of_ble_eq_true rfl) ?_
  rw [← h]
  exact G_eq (mEv_G (orc := mOrc (oL_X_walked N)) (ret := rtI) (blks := bl_X_walked) (cuts := []) wOKx (by decide) (oo_X_walked N) (RetOK_I rfl) bk_X_walked (mz_nil)) rfl
noncomputable def C_X_walked {ρ : Type} (N : Nat) : List Value → mS → (Option Value → mS → Option ρ) → Option ρ := fun vs s kk => sR vs 0 fun r0 => pi1 r0 fun a1 r1 => rv0 r1 ((f_X_walked N a1 s).bind fun p => kk (some (.int p.1)) p.2)
theorem cs_X_walked {ρ : Type} {t0 : ρ} {d : Nat} (N : Nat) (hd : 6 + 1 ≤ d) : CallOK Sx R0x oFx nx d t0 38 (C_X_walked N) := by
  intro vs s kk h0
  obtain ⟨r0, rfl, h1⟩ := sR_some h0
  obtain ⟨a1, r1, rfl, h2⟩ := pi1_some h1
  obtain ⟨rfl, h3⟩ := rv0_some h2
  obtain ⟨p, hp, hk⟩ := Option.bind_eq_some_iff.mp h3
  exact ⟨_, _, _, hd, m_X_walked N a1 hp, hk, fun qy hq hf => by cases y_X_walked.symm.trans hq; exact ⟨_, _, rfl, rfl⟩⟩
/-! METHOD PorterDoors$Sets.mostLeft(I)I -/
set_option maxRecDepth 20000 in
noncomputable def q_Se_mostLeft : mI := (⟨"PorterDoors$Sets", "mostLeft", "(I)I"⟩, prog_9_method_14_code, 4, (some .int), 8, 971, 138, 1, 1, 969, 970)
theorem y_Se_mostLeft : mT[134]? = some q_Se_mostLeft := mT_at_3 (k := 14) rfl
noncomputable def bl_Se_mostLeft : List (Nat × List mO) := [(0, [o0 (.iconst 0), o0 (.istore_n 2), o0 (.iconst 0), o0 (.istore_n 3)]),
  (4, [o0 (.iload_n 3), o0 (.aload_n 0), o2 (.getfield 23) 8 6, o1 (.if_icmp .ge 26) 35, o0 (.iload_n 2), o0 (.aload_n 0), o0 (.aload_n 0), o2 (.getfield 26) 8 7, o0 (.iload_n 3), o0 (.iaload), o2 (.invokevirtual 64) 125 2, o0 (.iload_n 1), o0 (.ishr), o0 (.iconst 1), o0 (.iand), o0 (.iadd), o0 (.istore_n 2), o0 (.iinc 3 1), o1 (.goto (-28)) 4]),
  (35, [o0 (.iload_n 2), o0 (.aload_n 0), o2 (.getfield 23) 8 6, o0 (.iload_n 2), o0 (.isub), o2 (.invokestatic 88) 278 2, o0 (.ireturn)])]
theorem bk_Se_mostLeft : okBlks q_Se_mostLeft bl_Se_mostLeft = true := by decide +kernel
noncomputable def oL_Se_mostLeft {ρ : Type} (N : Nat) : List (Nat × (List Value → mS → (Option Value → mS → Option ρ) → Option ρ)) := [(125, C_Se_doorsBehind N), (278, C_Math_max N)]
theorem oo_Se_mostLeft {ρ : Type} {t0 : ρ} (N : Nat) : OrcOK Sx R0x oFx nx 2 t0 (mOrc (oL_Se_mostLeft N)) := mOrc_OK (List.forall_mem_cons.mpr ⟨cs_Se_doorsBehind N (by decide), List.forall_mem_cons.mpr ⟨cs_Math_max N wOKx (by decide), mz_nil⟩⟩)
noncomputable def H_Se_mostLeft_4 {ρ : Type} (k : (Int32 × Int32 × Int32 × mS) → Option ρ) : mL → List Value → mS → Option ρ := fun loc st s => cR loc 0 37 (li1 loc 1 fun v0 => li1 loc 2 fun v1 => li1 loc 3 fun v2 => rv0 st (k (v0, v1, v2, s)))
noncomputable def f_Se_mostLeft_L4 (N : Nat) (k4 : (Int32 × Int32 × Int32 × mS) → Option (Int32 × mS)) (x : Int32 × Int32 × Int32 × mS) : Option (Int32 × mS) :=
  if x.2.2.1 < (gI x.2.2.2 806 37) then
    grd (inb x.2.2.1 1024) (
    (f_Se_doorsBehind N (gA x.2.2.2 39 (ix x.2.2.1)) x.2.2.2).bind fun p2 =>
    k4 (x.1, (x.2.1 + ((irs p2.1 x.1) &&& 1)), (x.2.2.1 + 1), p2.2))
  else
    (f_Math_max N x.2.1 ((gI x.2.2.2 806 37) - x.2.1) x.2.2.2).bind fun p1 =>
    some (p1.1, p1.2)
set_option maxRecDepth 100000 in
set_option maxHeartbeats 4000000 in
theorem t_Se_mostLeft_4 (N : Nat) {x9 : Int32} {s9 : mS} {k4 : (Int32 × Int32 × Int32 × mS) → Option (Int32 × mS)} (hk4 : SCd Sx R0x oFx nx 2 q_Se_mostLeft (some (.int x9), s9) (x9, s9) 4 (H_Se_mostLeft_4 k4)) : SCd Sx R0x oFx nx 2 q_Se_mostLeft (some (.int x9), s9) (x9, s9) 4 (H_Se_mostLeft_4 (f_Se_mostLeft_L4 N k4)) := by
  intro loc st s
  refine G_cR (fun h0 => ?_)
  refine G_li (fun v0 h1 => ?_)
  refine G_li (fun v1 h2 => ?_)
  refine G_li (fun v2 h3 => ?_)
  refine G_rv0 (fun e9 => ?_)
  subst e9
  refine G_sub (loc0 := [(0, .ref 37), (1, .int v0), (2, .int v1), (3, .int v2)]) (List.forall_mem_cons.mpr ⟨h0, List.forall_mem_cons.mpr ⟨h1, List.forall_mem_cons.mpr ⟨h2, List.forall_mem_cons.mpr ⟨h3, mz_nil⟩⟩⟩⟩) ?_
  exact G_eq (mEv_G (orc := mOrc (oL_Se_mostLeft N)) (ret := rtI) (blks := bl_Se_mostLeft) (cuts := [(4, H_Se_mostLeft_4 k4)]) wOKx (by decide) (oo_Se_mostLeft N) (RetOK_I rfl) bk_Se_mostLeft (List.forall_mem_cons.mpr ⟨hk4, mz_nil⟩)) rfl
theorem s_Se_mostLeft_4 (N : Nat) {x9 : Int32} {s9 : mS} : SCd Sx R0x oFx nx 2 q_Se_mostLeft (some (.int x9), s9) (x9, s9) 4 (H_Se_mostLeft_4 (mfix N (f_Se_mostLeft_L4 N))) := by
  refine mfix_SC (H := H_Se_mostLeft_4) (fun loc st s => ?_) (fun k hk => t_Se_mostLeft_4 N hk) N
  refine G_cR (fun h0 => ?_)
  refine G_li (fun v0 h1 => ?_)
  refine G_li (fun v1 h2 => ?_)
  refine G_li (fun v2 h3 => ?_)
  refine G_rv0 (fun e9 => ?_)
  subst e9
  exact G_none
noncomputable def f_Se_mostLeft (N : Nat) (a1 : Int32) (s : mS) : Option (Int32 × mS) :=
  mfix N (f_Se_mostLeft_L4 N) (a1, 0, 0, s)
set_option maxRecDepth 100000 in
set_option maxHeartbeats 4000000 in
theorem m_Se_mostLeft (N : Nat) {x9 : Int32} {s9 : mS} (a1 : Int32) {s : mS} (h : f_Se_mostLeft N a1 s = some (x9, s9)) : MetM Sx R0x oFx nx 2 134 [.ref 37, .int a1] s (some (.int x9)) s9 := by
  refine met_of_G (q := q_Se_mostLeft) (t0 := (x9, s9)) y_Se_mostLeft (Nat.le_of_ble_eq_true rfl) ?_
  rw [← h]
  exact G_eq (mEv_G (orc := mOrc (oL_Se_mostLeft N)) (ret := rtI) (blks := bl_Se_mostLeft) (cuts := [(4, H_Se_mostLeft_4 (mfix N (f_Se_mostLeft_L4 N)))]) wOKx (by decide) (oo_Se_mostLeft N) (RetOK_I rfl) bk_Se_mostLeft (List.forall_mem_cons.mpr ⟨s_Se_mostLeft_4 N, mz_nil⟩)) rfl
noncomputable def C_Se_mostLeft {ρ : Type} (N : Nat) : List Value → mS → (Option Value → mS → Option ρ) → Option ρ := fun vs s kk => sR vs 37 fun r0 => pi1 r0 fun a1 r1 => rv0 r1 ((f_Se_mostLeft N a1 s).bind fun p => kk (some (.int p.1)) p.2)
theorem cs_Se_mostLeft {ρ : Type} {t0 : ρ} {d : Nat} (N : Nat) (hd : 2 + 1 ≤ d) : CallOK Sx R0x oFx nx d t0 134 (C_Se_mostLeft N) := by
  intro vs s kk h0
  obtain ⟨r0, rfl, h1⟩ := sR_some h0
  obtain ⟨a1, r1, rfl, h2⟩ := pi1_some h1
  obtain ⟨rfl, h3⟩ := rv0_some h2
  obtain ⟨p, hp, hk⟩ := Option.bind_eq_some_iff.mp h3
  exact ⟨_, _, _, hd, m_Se_mostLeft N a1 hp, hk, fun qy hq hf => by cases y_Se_mostLeft.symm.trans hq; exact ⟨_, _, rfl, rfl⟩⟩
/-! METHOD PorterDoors$Sets.tellingDoor()I -/
set_option maxRecDepth 20000 in
noncomputable def q_Se_tellingDoor : mI := (⟨"PorterDoors$Sets", "tellingDoor", "()I"⟩, prog_9_method_15_code, 5, (some .int), 8, 967, 138, 1, 0, 965, 966)
theorem y_Se_tellingDoor : mT[133]? = some q_Se_tellingDoor := mT_at_3 (k := 13) rfl
noncomputable def bl_Se_tellingDoor : List (Nat × List mO) := [(0, [o0 (.iconst 0), o0 (.istore_n 1), o0 (.aload_n 0), o0 (.iconst 0), o2 (.invokevirtual 94) 134 2, o0 (.istore_n 2), o0 (.iconst 1), o0 (.istore_n 3)]),
  (10, [o0 (.iload_n 3), o0 (.aload_n 0), o2 (.getfield 38) 8 0, o2 (.getfield 97) 4 0, o1 (.if_icmp .ge 27) 45, o0 (.aload_n 0), o0 (.iload_n 3), o2 (.invokevirtual 94) 134 2, o0 (.istore 4), o0 (.iload 4), o0 (.iload_n 2), o1 (.if_icmp .ge 8) 39, o0 (.iload_n 3), o0 (.istore_n 1), o0 (.iload 4), o0 (.istore_n 2)]),
  (39, [o0 (.iinc 3 1), o1 (.goto (-32)) 10]),
  (45, [o0 (.iload_n 1), o0 (.ireturn)])]
theorem bk_Se_tellingDoor : okBlks q_Se_tellingDoor bl_Se_tellingDoor = true := by decide +kernel
noncomputable def oL_Se_tellingDoor {ρ : Type} (N : Nat) : List (Nat × (List Value → mS → (Option Value → mS → Option ρ) → Option ρ)) := [(134, C_Se_mostLeft N)]
theorem oo_Se_tellingDoor {ρ : Type} {t0 : ρ} (N : Nat) : OrcOK Sx R0x oFx nx 3 t0 (mOrc (oL_Se_tellingDoor N)) := mOrc_OK (List.forall_mem_cons.mpr ⟨cs_Se_mostLeft N (by decide), mz_nil⟩)
noncomputable def H_Se_tellingDoor_10 {ρ : Type} (k : (Int32 × Int32 × Int32 × mS) → Option ρ) : mL → List Value → mS → Option ρ := fun loc st s => cR loc 0 37 (li1 loc 1 fun v0 => li1 loc 2 fun v1 => li1 loc 3 fun v2 => rv0 st (k (v0, v1, v2, s)))
noncomputable def f_Se_tellingDoor_L10 (N : Nat) (k10 : (Int32 × Int32 × Int32 × mS) → Option (Int32 × mS)) (x : Int32 × Int32 × Int32 × mS) : Option (Int32 × mS) :=
  if x.2.2.1 < (gI x.2.2.2 400 2) then
    (f_Se_mostLeft N x.2.2.1 x.2.2.2).bind fun p1 =>
    if p1.1 < x.2.1 then
      k10 (x.2.2.1, p1.1, (x.2.2.1 + 1), p1.2)
    else
      k10 (x.1, x.2.1, (x.2.2.1 + 1), p1.2)
  else
    some (x.1, x.2.2.2)
set_option maxRecDepth 100000 in
set_option maxHeartbeats 4000000 in
theorem t_Se_tellingDoor_10 (N : Nat) {x9 : Int32} {s9 : mS} {k10 : (Int32 × Int32 × Int32 × mS) → Option (Int32 × mS)} (hk10 : SCd Sx R0x oFx nx 3 q_Se_tellingDoor (some (.int x9), s9) (x9, s9) 10 (H_Se_tellingDoor_10 k10)) : SCd Sx R0x oFx nx 3 q_Se_tellingDoor (some (.int x9), s9) (x9, s9) 10 (H_Se_tellingDoor_10 (f_Se_tellingDoor_L10 N k10)) := by
  intro loc st s
  refine G_cR (fun h0 => ?_)
  refine G_li (fun v0 h1 => ?_)
  refine G_li (fun v1 h2 => ?_)
  refine G_li (fun v2 h3 => ?_)
  refine G_rv0 (fun e9 => ?_)
  subst e9
  refine G_sub (loc0 := [(0, .ref 37), (1, .int v0), (2, .int v1), (3, .int v2)]) (List.forall_mem_cons.mpr ⟨h0, List.forall_mem_cons.mpr ⟨h1, List.forall_mem_cons.mpr ⟨h2, List.forall_mem_cons.mpr ⟨h3, mz_nil⟩⟩⟩⟩) ?_
  exact G_eq (mEv_G (orc := mOrc (oL_Se_tellingDoor N)) (ret := rtI) (blks := bl_Se_tellingDoor) (cuts := [(10, H_Se_tellingDoor_10 k10)]) wOKx (by decide) (oo_Se_tellingDoor N) (RetOK_I rfl) bk_Se_tellingDoor (List.forall_mem_cons.mpr ⟨hk10, mz_nil⟩)) rfl
theorem s_Se_tellingDoor_10 (N : Nat) {x9 : Int32} {s9 : mS} : SCd Sx R0x oFx nx 3 q_Se_tellingDoor (some (.int x9), s9) (x9, s9) 10 (H_Se_tellingDoor_10 (mfix N (f_Se_tellingDoor_L10 N))) := by
  refine mfix_SC (H := H_Se_tellingDoor_10) (fun loc st s => ?_) (fun k hk => t_Se_tellingDoor_10 N hk) N
  refine G_cR (fun h0 => ?_)
  refine G_li (fun v0 h1 => ?_)
  refine G_li (fun v1 h2 => ?_)
  refine G_li (fun v2 h3 => ?_)
  refine G_rv0 (fun e9 => ?_)
  subst e9
  exact G_none
noncomputable def f_Se_tellingDoor (N : Nat) (s : mS) : Option (Int32 × mS) :=
  (f_Se_mostLeft N 0 s).bind fun p1 =>
  mfix N (f_Se_tellingDoor_L10 N) (0, p1.1, 1, p1.2)
set_option maxRecDepth 100000 in
set_option maxHeartbeats 4000000 in
theorem m_Se_tellingDoor (N : Nat) {x9 : Int32} {s9 : mS} {s : mS} (h : f_Se_tellingDoor N s = some (x9, s9)) : MetM Sx R0x oFx nx 3 133 [.ref 37] s (some (.int x9)) s9 := by
  refine met_of_G (q := q_Se_tellingDoor) (t0 := (x9, s9)) y_Se_tellingDoor (Nat.le_of_ble_eq_true rfl) ?_
  rw [← h]
  exact G_eq (mEv_G (orc := mOrc (oL_Se_tellingDoor N)) (ret := rtI) (blks := bl_Se_tellingDoor) (cuts := [(10, H_Se_tellingDoor_10 (mfix N (f_Se_tellingDoor_L10 N)))]) wOKx (by decide) (oo_Se_tellingDoor N) (RetOK_I rfl) bk_Se_tellingDoor (List.forall_mem_cons.mpr ⟨s_Se_tellingDoor_10 N, mz_nil⟩)) rfl
noncomputable def C_Se_tellingDoor {ρ : Type} (N : Nat) : List Value → mS → (Option Value → mS → Option ρ) → Option ρ := fun vs s kk => sR vs 37 fun r0 => rv0 r0 ((f_Se_tellingDoor N s).bind fun p => kk (some (.int p.1)) p.2)
theorem cs_Se_tellingDoor {ρ : Type} {t0 : ρ} {d : Nat} (N : Nat) (hd : 3 + 1 ≤ d) : CallOK Sx R0x oFx nx d t0 133 (C_Se_tellingDoor N) := by
  intro vs s kk h0
  obtain ⟨r0, rfl, h1⟩ := sR_some h0
  obtain ⟨rfl, h2⟩ := rv0_some h1
  obtain ⟨p, hp, hk⟩ := Option.bind_eq_some_iff.mp h2
  exact ⟨_, _, _, hd, m_Se_tellingDoor N hp, hk, fun qy hq hf => by cases y_Se_tellingDoor.symm.trans hq; exact ⟨_, _, rfl, rfl⟩⟩
/-! METHOD PorterDoors.tells(I)I -/
set_option maxRecDepth 20000 in
noncomputable def q_X_tells : mI := (⟨"PorterDoors", "tells", "(I)I"⟩, prog_1_method_26_code, 3, (some .int), 0, 963, 129, 1, 1, 961, 962)
theorem y_X_tells : mT[39]? = some q_X_tells := mT_at_0 (k := 39) rfl
noncomputable def bl_X_tells : List (Nat × List mO) := [(0, [o0 (.aload_n 0), o2 (.invokevirtual 220) 20 1, o1 (.ifCond .eq 12) 16, o0 (.iload_n 1), o1 (.ifCond .lt 8) 16, o0 (.iload_n 1), o0 (.iconst 1), o1 (.if_icmp .le 5) 18]),
  (16, [o0 (.iconst (-1)), o0 (.ireturn)]),
  (18, [o0 (.aload_n 0), o2 (.getfield 90) 0 12, o2 (.invokevirtual 237) 123 1, o0 (.aload_n 0), o2 (.getfield 90) 0 12, o2 (.getfield 278) 8 6, o1 (.ifCond .ne 5) 37, o0 (.iconst (-1)), o0 (.ireturn)]),
  (37, [o0 (.aload_n 0), o2 (.getfield 90) 0 12, o2 (.invokevirtual 287) 133 1, o0 (.istore_n 2), o0 (.iload_n 1), o1 (.ifCond .ne 7) 53, o0 (.iload_n 2), o1 (.goto 11) 61]),
  (53, [o0 (.aload_n 0), o2 (.getfield 90) 0 12, o0 (.iload_n 2), o2 (.invokevirtual 290) 134 2]),
  (61, [o0 (.ireturn)])]
theorem bk_X_tells : okBlks q_X_tells bl_X_tells = true := by decide +kernel
noncomputable def oL_X_tells {ρ : Type} (N : Nat) : List (Nat × (List Value → mS → (Option Value → mS → Option ρ) → Option ρ)) := [(20, C_X_isTold N), (123, C_Se_reckon N), (133, C_Se_tellingDoor N), (134, C_Se_mostLeft N)]
theorem oo_X_tells {ρ : Type} {t0 : ρ} (N : Nat) : OrcOK Sx R0x oFx nx 6 t0 (mOrc (oL_X_tells N)) := mOrc_OK (List.forall_mem_cons.mpr ⟨cs_X_isTold N (by decide), List.forall_mem_cons.mpr ⟨cs_Se_reckon N (by decide), List.forall_mem_cons.mpr ⟨cs_Se_tellingDoor N (by decide), List.forall_mem_cons.mpr ⟨cs_Se_mostLeft N (by decide), mz_nil⟩⟩⟩⟩)
noncomputable def f_X_tells (N : Nat) (a1 : Int32) (s : mS) : Option (Int32 × mS) :=
  (f_X_isTold N s).bind fun p1 =>
  if p1.1 = 0 then
    some ((-1), p1.2)
  else
    if a1 < 0 then
      some ((-1), p1.2)
    else
      if 1 < a1 then
        some ((-1), p1.2)
      else
        (f_Se_reckon N p1.2).bind fun p2 =>
        if (gI p2 806 37) = 0 then
          some ((-1), p2)
        else
          (f_Se_tellingDoor N p2).bind fun p3 =>
          if a1 = 0 then
            some (p3.1, p3.2)
          else
            (f_Se_mostLeft N p3.1 p3.2).bind fun p4 =>
            some (p4.1, p4.2)
set_option maxRecDepth 100000 in
set_option maxHeartbeats 4000000 in
theorem m_X_tells (N : Nat) {x9 : Int32} {s9 : mS} (a1 : Int32) {s : mS} (h : f_X_tells N a1 s = some (x9, s9)) : MetM Sx R0x oFx nx 6 39 [.ref 0, .int a1] s (some (.int x9)) s9 := by
  refine met_of_G (q := q_X_tells) (t0 := (x9, s9)) y_X_tells (Nat.le_of_ble_eq_true rfl) ?_
  rw [← h]
  exact G_eq (mEv_G (orc := mOrc (oL_X_tells N)) (ret := rtI) (blks := bl_X_tells) (cuts := []) wOKx (by decide) (oo_X_tells N) (RetOK_I rfl) bk_X_tells (mz_nil)) rfl
noncomputable def C_X_tells {ρ : Type} (N : Nat) : List Value → mS → (Option Value → mS → Option ρ) → Option ρ := fun vs s kk => sR vs 0 fun r0 => pi1 r0 fun a1 r1 => rv0 r1 ((f_X_tells N a1 s).bind fun p => kk (some (.int p.1)) p.2)
theorem cs_X_tells {ρ : Type} {t0 : ρ} {d : Nat} (N : Nat) (hd : 6 + 1 ≤ d) : CallOK Sx R0x oFx nx d t0 39 (C_X_tells N) := by
  intro vs s kk h0
  obtain ⟨r0, rfl, h1⟩ := sR_some h0
  obtain ⟨a1, r1, rfl, h2⟩ := pi1_some h1
  obtain ⟨rfl, h3⟩ := rv0_some h2
  obtain ⟨p, hp, hk⟩ := Option.bind_eq_some_iff.mp h3
  exact ⟨_, _, _, hd, m_X_tells N a1 hp, hk, fun qy hq hf => by cases y_X_tells.symm.trans hq; exact ⟨_, _, rfl, rfl⟩⟩
/-! METHOD PorterDoors$Past.keep(LPorterDoors$Hall;)V -/
set_option maxRecDepth 20000 in
noncomputable def q_Pa_keep : mI := (⟨"PorterDoors$Past", "keep", "(LPorterDoors$Hall;)V"⟩, prog_4_method_3_code, 2, none, 3, 981, 134, 1, 1, 979, 980)
theorem y_Pa_keep : mT[77]? = some q_Pa_keep := mT_at_1 (k := 37) rfl
noncomputable def bl_Pa_keep : List (Nat × List mO) := [(0, [o0 (.aload_n 1), o2 (.getfield 22) 2 0, o0 (.iconst 0), o0 (.aload_n 0), o2 (.getfield 11) 3 0, o0 (.aload_n 0), o2 (.getfield 15) 3 1, o0 (.bipush 102), o0 (.imul), o0 (.bipush 102), o2 (.invokestatic 25) 9999 0, o0 (.aload_n 0), o0 (.aload_n 0), o2 (.getfield 15) 3 1, o0 (.iconst 1), o0 (.iadd), o0 (.bipush 20), o0 (.irem), o2 (.putfield 15) 3 1, o0 (.aload_n 0), o0 (.bipush 20), o0 (.aload_n 0), o2 (.getfield 19) 3 2, o0 (.iconst 1), o0 (.iadd), o2 (.invokestatic 31) 277 2, o2 (.putfield 19) 3 2, o0 (.return_)])]
theorem bk_Pa_keep : okBlks q_Pa_keep bl_Pa_keep = true := by decide +kernel
noncomputable def oL_Pa_keep {ρ : Type} (N : Nat) : List (Nat × (List Value → mS → (Option Value → mS → Option ρ) → Option ρ)) := [(277, C_Math_min N)]
theorem oo_Pa_keep {ρ : Type} {t0 : ρ} (N : Nat) : OrcOK Sx R0x oFx nx 2 t0 (mOrc (oL_Pa_keep N)) := mOrc_OK (List.forall_mem_cons.mpr ⟨cs_Math_min N wOKx (by decide), mz_nil⟩)
noncomputable def f_Pa_keep (N : Nat) (a1 : Nat) (s : mS) : Option (mS) :=
  grd (isO Sx a1 2) (
  grd (!decide (((gI s 301 23) * 102) < 0)) (
  grd (Nat.blt 0 (aln Sx 0 (a1 + 1))) (
  grd (Nat.ble (0 + 102) (aln Sx 0 (a1 + 1))) (
  grd (Nat.ble ((ix ((gI s 301 23) * 102)) + 102) 2040) (
  let s1 := sC s (a1 + 1) 0 24 (ix ((gI s 301 23) * 102)) 102
  let s2 := sI s1 301 23 (irm ((gI s1 301 23) + 1) 20)
  (f_Math_min N 20 ((gI s2 302 23) + 1) s2).bind fun p3 =>
  let s4 := sI p3.2 302 23 p3.1
  some s4)))))
set_option maxRecDepth 100000 in
set_option maxHeartbeats 4000000 in
theorem m_Pa_keep (N : Nat) {s9 : mS} (a1 : Nat) {s : mS} (h : f_Pa_keep N a1 s = some s9) : MetM Sx R0x oFx nx 2 77 [.ref 23, .ref a1] s (none) s9 := by
  refine met_of_G (q := q_Pa_keep) (t0 := s9) y_Pa_keep (Nat.le_of_ble_eq_true rfl) ?_
  rw [← h]
  exact G_eq (mEv_G (orc := mOrc (oL_Pa_keep N)) (ret := rtV) (blks := bl_Pa_keep) (cuts := []) wOKx (by decide) (oo_Pa_keep N) (RetOK_V rfl) bk_Pa_keep (mz_nil)) rfl
noncomputable def C_Pa_keep {ρ : Type} (N : Nat) : List Value → mS → (Option Value → mS → Option ρ) → Option ρ := fun vs s kk => sR vs 23 fun r0 => pr1 r0 fun a1 r1 => rv0 r1 ((f_Pa_keep N a1 s).bind fun p => kk none p)
theorem cs_Pa_keep {ρ : Type} {t0 : ρ} {d : Nat} (N : Nat) (hd : 2 + 1 ≤ d) : CallOK Sx R0x oFx nx d t0 77 (C_Pa_keep N) := by
  intro vs s kk h0
  obtain ⟨r0, rfl, h1⟩ := sR_some h0
  obtain ⟨a1, r1, rfl, h2⟩ := pr1_some h1
  obtain ⟨rfl, h3⟩ := rv0_some h2
  obtain ⟨p, hp, hk⟩ := Option.bind_eq_some_iff.mp h3
  exact ⟨_, _, _, hd, m_Pa_keep N a1 hp, hk, fun qy hq hf => by cases y_Pa_keep.symm.trans hq; exact ⟨_, _, rfl, rfl⟩⟩
/-! METHOD PorterDoors.send(I)I -/
set_option maxRecDepth 20000 in
noncomputable def q_X_send : mI := (⟨"PorterDoors", "send", "(I)I"⟩, prog_1_method_27_code, 3, (some .int), 0, 977, 129, 1, 1, 975, 976)
theorem y_X_send : mT[40]? = some q_X_send := mT_at_1 (k := 0) rfl
noncomputable def bl_X_send : List (Nat × List mO) := [(0, [o0 (.aload_n 0), o0 (.iload_n 1), o2 (.invokevirtual 183) 12 2, o1 (.ifCond .ne 11) 16, o0 (.aload_n 0), o0 (.iconst 2), o2 (.invokevirtual 106) 2 2, o0 (.pop), o0 (.iconst (-1)), o0 (.ireturn)]),
  (16, [o0 (.aload_n 0), o2 (.getfield 56) 0 8, o0 (.aload_n 0), o2 (.getfield 46) 0 6, o2 (.invokevirtual 293) 77 2, o0 (.aload_n 0), o2 (.getfield 72) 0 10, o0 (.aload_n 0), o2 (.getfield 46) 0 6, o0 (.iload_n 1), o2 (.invokevirtual 297) 117 3, o0 (.istore_n 2), o0 (.aload_n 0), o2 (.invokevirtual 150) 7 1, o0 (.iload_n 2), o0 (.ireturn)])]
theorem bk_X_send : okBlks q_X_send bl_X_send = true := by decide +kernel
noncomputable def oL_X_send {ρ : Type} (N : Nat) : List (Nat × (List Value → mS → (Option Value → mS → Option ρ) → Option ρ)) := [(12, C_X_isPorter N), (2, C_X_refuse N), (77, C_Pa_keep N), (117, C_Ro_walk N), (7, C_X_forgetReckoned N)]
theorem oo_X_send {ρ : Type} {t0 : ρ} (N : Nat) : OrcOK Sx R0x oFx nx 6 t0 (mOrc (oL_X_send N)) := mOrc_OK (List.forall_mem_cons.mpr ⟨cs_X_isPorter N (by decide), List.forall_mem_cons.mpr ⟨cs_X_refuse N (by decide), List.forall_mem_cons.mpr ⟨cs_Pa_keep N (by decide), List.forall_mem_cons.mpr ⟨cs_Ro_walk N (by decide), List.forall_mem_cons.mpr ⟨cs_X_forgetReckoned N (by decide), mz_nil⟩⟩⟩⟩⟩)
noncomputable def f_X_send (N : Nat) (a1 : Int32) (s : mS) : Option (Int32 × mS) :=
  (f_X_isPorter N a1 s).bind fun p1 =>
  if p1.1 = 0 then
    (f_X_refuse N 2 p1.2).bind fun p5 =>
    some ((-1), p5.2)
  else
    (f_Pa_keep N 19 p1.2).bind fun p2 =>
    (f_Ro_walk N 19 a1 p2).bind fun p3 =>
    (f_X_forgetReckoned N p3.2).bind fun p4 =>
    some (p3.1, p4)
set_option maxRecDepth 100000 in
set_option maxHeartbeats 4000000 in
theorem m_X_send (N : Nat) {x9 : Int32} {s9 : mS} (a1 : Int32) {s : mS} (h : f_X_send N a1 s = some (x9, s9)) : MetM Sx R0x oFx nx 6 40 [.ref 0, .int a1] s (some (.int x9)) s9 := by
  refine met_of_G (q := q_X_send) (t0 := (x9, s9)) y_X_send (Nat.le_of_ble_eq_true rfl) ?_
  rw [← h]
  exact G_eq (mEv_G (orc := mOrc (oL_X_send N)) (ret := rtI) (blks := bl_X_send) (cuts := []) wOKx (by decide) (oo_X_send N) (RetOK_I rfl) bk_X_send (mz_nil)) rfl
noncomputable def C_X_send {ρ : Type} (N : Nat) : List Value → mS → (Option Value → mS → Option ρ) → Option ρ := fun vs s kk => sR vs 0 fun r0 => pi1 r0 fun a1 r1 => rv0 r1 ((f_X_send N a1 s).bind fun p => kk (some (.int p.1)) p.2)
theorem cs_X_send {ρ : Type} {t0 : ρ} {d : Nat} (N : Nat) (hd : 6 + 1 ≤ d) : CallOK Sx R0x oFx nx d t0 40 (C_X_send N) := by
  intro vs s kk h0
  obtain ⟨r0, rfl, h1⟩ := sR_some h0
  obtain ⟨a1, r1, rfl, h2⟩ := pi1_some h1
  obtain ⟨rfl, h3⟩ := rv0_some h2
  obtain ⟨p, hp, hk⟩ := Option.bind_eq_some_iff.mp h3
  exact ⟨_, _, _, hd, m_X_send N a1 hp, hk, fun qy hq hf => by cases y_X_send.symm.trans hq; exact ⟨_, _, rfl, rfl⟩⟩
/-! METHOD PorterDoors.turn(I)Z -/
set_option maxRecDepth 20000 in
noncomputable def q_X_turn : mI := (⟨"PorterDoors", "turn", "(I)Z"⟩, prog_1_method_28_code, 2, (some .boolean), 0, 988, 129, 1, 1, 986, 987)
theorem y_X_turn : mT[41]? = some q_X_turn := mT_at_1 (k := 1) rfl
noncomputable def bl_X_turn : List (Nat × List mO) := [(0, [o0 (.aload_n 0), o0 (.iload_n 1), o2 (.invokevirtual 190) 14 2, o1 (.ifCond .eq 21) 26, o0 (.aload_n 0), o2 (.getfield 46) 0 6, o0 (.iload_n 1), o0 (.aload_n 0), o2 (.getfield 20) 0 2, o2 (.getfield 171) 4 2, o2 (.invokevirtual 197) 68 3, o1 (.ifCond .eq 9) 32]),
  (26, [o0 (.aload_n 0), o0 (.iconst 2), o2 (.invokevirtual 106) 2 2, o0 (.ireturn)]),
  (32, [o0 (.aload_n 0), o2 (.getfield 56) 0 8, o0 (.aload_n 0), o2 (.getfield 46) 0 6, o2 (.invokevirtual 293) 77 2, o0 (.aload_n 0), o2 (.getfield 46) 0 6, o0 (.iload_n 1), o0 (.aload_n 0), o2 (.getfield 20) 0 2, o2 (.getfield 171) 4 2, o2 (.invokevirtual 300) 73 3, o0 (.pop), o0 (.aload_n 0), o2 (.invokevirtual 150) 7 1, o0 (.iconst 1), o0 (.ireturn)])]
theorem bk_X_turn : okBlks q_X_turn bl_X_turn = true := by decide +kernel
noncomputable def oL_X_turn {ρ : Type} (N : Nat) : List (Nat × (List Value → mS → (Option Value → mS → Option ρ) → Option ρ)) := [(14, C_X_isDoor N), (68, C_Ha_isJammed N), (2, C_X_refuse N), (77, C_Pa_keep N), (73, C_Ha_swing N), (7, C_X_forgetReckoned N)]
theorem oo_X_turn {ρ : Type} {t0 : ρ} (N : Nat) : OrcOK Sx R0x oFx nx 3 t0 (mOrc (oL_X_turn N)) := mOrc_OK (List.forall_mem_cons.mpr ⟨cs_X_isDoor N (by decide), List.forall_mem_cons.mpr ⟨cs_Ha_isJammed N (by decide), List.forall_mem_cons.mpr ⟨cs_X_refuse N (by decide), List.forall_mem_cons.mpr ⟨cs_Pa_keep N (by decide), List.forall_mem_cons.mpr ⟨cs_Ha_swing N (by decide), List.forall_mem_cons.mpr ⟨cs_X_forgetReckoned N (by decide), mz_nil⟩⟩⟩⟩⟩⟩)
noncomputable def H_X_turn_26 {ρ : Type} (k : mS → Option ρ) : mL → List Value → mS → Option ρ := fun loc st s => cR loc 0 0 (rv0 st (k s))
noncomputable def f_X_turn_j26 (N : Nat) (x : mS) : Option (Int32 × mS) :=
  (f_X_refuse N 2 x).bind fun p1 =>
  grd (isb p1.1) (some (p1.1, p1.2))
set_option maxRecDepth 100000 in
set_option maxHeartbeats 4000000 in
theorem s_X_turn_26 (N : Nat) {x9 : Int32} {s9 : mS} : SCd Sx R0x oFx nx 3 q_X_turn (some (.int x9), s9) (x9, s9) 26 (H_X_turn_26 (f_X_turn_j26 N)) := by
  intro loc st s
  refine G_cR (fun h0 => ?_)
  refine G_rv0 (fun e9 => ?_)
  subst e9
  refine G_sub (loc0 := [(0, .ref 0)]) (List.forall_mem_cons.mpr ⟨h0, mz_nil⟩) ?_
  exact G_eq (mEv_G (orc := mOrc (oL_X_turn N)) (ret := rtZ) (blks := bl_X_turn) (cuts := []) wOKx (by decide) (oo_X_turn N) (RetOK_Z rfl) bk_X_turn (mz_nil)) rfl
noncomputable def f_X_turn (N : Nat) (a1 : Int32) (s : mS) : Option (Int32 × mS) :=
  (f_X_isDoor N a1 s).bind fun p1 =>
  if p1.1 = 0 then
    f_X_turn_j26 N p1.2
  else
    (f_Ha_isJammed N 19 a1 (gI p1.2 402 2) p1.2).bind fun p2 =>
    if p2.1 = 0 then
      (f_Pa_keep N 19 p2.2).bind fun p3 =>
      (f_Ha_swing N 19 a1 (gI p3 402 2) p3).bind fun p4 =>
      (f_X_forgetReckoned N p4.2).bind fun p5 =>
      some (1, p5)
    else
      f_X_turn_j26 N p2.2
set_option maxRecDepth 100000 in
set_option maxHeartbeats 4000000 in
theorem m_X_turn (N : Nat) {x9 : Int32} {s9 : mS} (a1 : Int32) {s : mS} (h : f_X_turn N a1 s = some (x9, s9)) : MetM Sx R0x oFx nx 3 41 [.ref 0, .int a1] s (some (.int x9)) s9 := by
  refine met_of_G (q := q_X_turn) (t0 := (x9, s9)) y_X_turn (Nat.le_of_ble_eq_true rfl) ?_
  rw [← h]
  exact G_eq (mEv_G (orc := mOrc (oL_X_turn N)) (ret := rtZ) (blks := bl_X_turn) (cuts := [(26, H_X_turn_26 (f_X_turn_j26 N))]) wOKx (by decide) (oo_X_turn N) (RetOK_Z rfl) bk_X_turn (List.forall_mem_cons.mpr ⟨s_X_turn_26 N, mz_nil⟩)) rfl
noncomputable def C_X_turn {ρ : Type} (N : Nat) : List Value → mS → (Option Value → mS → Option ρ) → Option ρ := fun vs s kk => sR vs 0 fun r0 => pi1 r0 fun a1 r1 => rv0 r1 ((f_X_turn N a1 s).bind fun p => kk (some (.int p.1)) p.2)
theorem cs_X_turn {ρ : Type} {t0 : ρ} {d : Nat} (N : Nat) (hd : 3 + 1 ≤ d) : CallOK Sx R0x oFx nx d t0 41 (C_X_turn N) := by
  intro vs s kk h0
  obtain ⟨r0, rfl, h1⟩ := sR_some h0
  obtain ⟨a1, r1, rfl, h2⟩ := pi1_some h1
  obtain ⟨rfl, h3⟩ := rv0_some h2
  obtain ⟨p, hp, hk⟩ := Option.bind_eq_some_iff.mp h3
  exact ⟨_, _, _, hd, m_X_turn N a1 hp, hk, fun qy hq hf => by cases y_X_turn.symm.trans hq; exact ⟨_, _, rfl, rfl⟩⟩
/-! METHOD PorterDoors.oil(I)Z -/
set_option maxRecDepth 20000 in
noncomputable def q_X_oil : mI := (⟨"PorterDoors", "oil", "(I)Z"⟩, prog_1_method_29_code, 2, (some .boolean), 0, 993, 129, 1, 1, 991, 992)
theorem y_X_oil : mT[42]? = some q_X_oil := mT_at_1 (k := 2) rfl
noncomputable def bl_X_oil : List (Nat × List mO) := [(0, [o0 (.aload_n 0), o0 (.iload_n 1), o2 (.invokevirtual 190) 14 2, o1 (.ifCond .eq 17) 22, o0 (.aload_n 0), o2 (.getfield 46) 0 6, o2 (.getfield 162) 2 0, o0 (.iconst 4), o0 (.iload_n 1), o0 (.iadd), o0 (.iaload), o1 (.ifCond .ne 9) 28]),
  (22, [o0 (.aload_n 0), o0 (.iconst 2), o2 (.invokevirtual 106) 2 2, o0 (.ireturn)]),
  (28, [o0 (.aload_n 0), o2 (.getfield 56) 0 8, o0 (.aload_n 0), o2 (.getfield 46) 0 6, o2 (.invokevirtual 293) 77 2, o0 (.aload_n 0), o2 (.getfield 46) 0 6, o2 (.getfield 162) 2 0, o0 (.iconst 4), o0 (.iload_n 1), o0 (.iadd), o0 (.iconst 0), o0 (.iastore), o0 (.aload_n 0), o2 (.invokevirtual 150) 7 1, o0 (.iconst 1), o0 (.ireturn)])]
theorem bk_X_oil : okBlks q_X_oil bl_X_oil = true := by decide +kernel
noncomputable def oL_X_oil {ρ : Type} (N : Nat) : List (Nat × (List Value → mS → (Option Value → mS → Option ρ) → Option ρ)) := [(14, C_X_isDoor N), (2, C_X_refuse N), (77, C_Pa_keep N), (7, C_X_forgetReckoned N)]
theorem oo_X_oil {ρ : Type} {t0 : ρ} (N : Nat) : OrcOK Sx R0x oFx nx 3 t0 (mOrc (oL_X_oil N)) := mOrc_OK (List.forall_mem_cons.mpr ⟨cs_X_isDoor N (by decide), List.forall_mem_cons.mpr ⟨cs_X_refuse N (by decide), List.forall_mem_cons.mpr ⟨cs_Pa_keep N (by decide), List.forall_mem_cons.mpr ⟨cs_X_forgetReckoned N (by decide), mz_nil⟩⟩⟩⟩)
noncomputable def H_X_oil_22 {ρ : Type} (k : mS → Option ρ) : mL → List Value → mS → Option ρ := fun loc st s => cR loc 0 0 (rv0 st (k s))
noncomputable def f_X_oil_j22 (N : Nat) (x : mS) : Option (Int32 × mS) :=
  (f_X_refuse N 2 x).bind fun p1 =>
  grd (isb p1.1) (some (p1.1, p1.2))
set_option maxRecDepth 100000 in
set_option maxHeartbeats 4000000 in
theorem s_X_oil_22 (N : Nat) {x9 : Int32} {s9 : mS} : SCd Sx R0x oFx nx 3 q_X_oil (some (.int x9), s9) (x9, s9) 22 (H_X_oil_22 (f_X_oil_j22 N)) := by
  intro loc st s
  refine G_cR (fun h0 => ?_)
  refine G_rv0 (fun e9 => ?_)
  subst e9
  refine G_sub (loc0 := [(0, .ref 0)]) (List.forall_mem_cons.mpr ⟨h0, mz_nil⟩) ?_
  exact G_eq (mEv_G (orc := mOrc (oL_X_oil N)) (ret := rtZ) (blks := bl_X_oil) (cuts := []) wOKx (by decide) (oo_X_oil N) (RetOK_Z rfl) bk_X_oil (mz_nil)) rfl
noncomputable def f_X_oil (N : Nat) (a1 : Int32) (s : mS) : Option (Int32 × mS) :=
  (f_X_isDoor N a1 s).bind fun p1 =>
  if p1.1 = 0 then
    f_X_oil_j22 N p1.2
  else
    grd (inb (4 + a1) 102) (
    if (gA p1.2 20 (ix (4 + a1))) = 0 then
      f_X_oil_j22 N p1.2
    else
      (f_Pa_keep N 19 p1.2).bind fun p2 =>
      grd (inb (4 + a1) 102) (
      let s3 := sA p2 20 (ix (4 + a1)) 0
      (f_X_forgetReckoned N s3).bind fun p4 =>
      some (1, p4)))
set_option maxRecDepth 100000 in
set_option maxHeartbeats 4000000 in
theorem m_X_oil (N : Nat) {x9 : Int32} {s9 : mS} (a1 : Int32) {s : mS} (h : f_X_oil N a1 s = some (x9, s9)) : MetM Sx R0x oFx nx 3 42 [.ref 0, .int a1] s (some (.int x9)) s9 := by
  refine met_of_G (q := q_X_oil) (t0 := (x9, s9)) y_X_oil (Nat.le_of_ble_eq_true rfl) ?_
  rw [← h]
  exact G_eq (mEv_G (orc := mOrc (oL_X_oil N)) (ret := rtZ) (blks := bl_X_oil) (cuts := [(22, H_X_oil_22 (f_X_oil_j22 N))]) wOKx (by decide) (oo_X_oil N) (RetOK_Z rfl) bk_X_oil (List.forall_mem_cons.mpr ⟨s_X_oil_22 N, mz_nil⟩)) rfl
noncomputable def C_X_oil {ρ : Type} (N : Nat) : List Value → mS → (Option Value → mS → Option ρ) → Option ρ := fun vs s kk => sR vs 0 fun r0 => pi1 r0 fun a1 r1 => rv0 r1 ((f_X_oil N a1 s).bind fun p => kk (some (.int p.1)) p.2)
theorem cs_X_oil {ρ : Type} {t0 : ρ} {d : Nat} (N : Nat) (hd : 3 + 1 ≤ d) : CallOK Sx R0x oFx nx d t0 42 (C_X_oil N) := by
  intro vs s kk h0
  obtain ⟨r0, rfl, h1⟩ := sR_some h0
  obtain ⟨a1, r1, rfl, h2⟩ := pi1_some h1
  obtain ⟨rfl, h3⟩ := rv0_some h2
  obtain ⟨p, hp, hk⟩ := Option.bind_eq_some_iff.mp h3
  exact ⟨_, _, _, hd, m_X_oil N a1 hp, hk, fun qy hq hf => by cases y_X_oil.symm.trans hq; exact ⟨_, _, rfl, rfl⟩⟩
/-! METHOD PorterDoors.paint(II)Z -/
set_option maxRecDepth 20000 in
noncomputable def q_X_paint : mI := (⟨"PorterDoors", "paint", "(II)Z"⟩, prog_1_method_30_code, 3, (some .boolean), 0, 997, 129, 1, 2, 995, 996)
theorem y_X_paint : mT[43]? = some q_X_paint := mT_at_1 (k := 3) rfl
noncomputable def bl_X_paint : List (Nat × List mO) := [(0, [o0 (.aload_n 0), o0 (.iload_n 1), o2 (.invokevirtual 190) 14 2, o1 (.ifCond .eq 29) 34, o0 (.iload_n 2), o1 (.ifCond .lt 25) 34, o0 (.iload_n 2), o0 (.bipush 9), o1 (.if_icmp .gt 19) 34, o0 (.aload_n 0), o2 (.getfield 46) 0 6, o2 (.getfield 162) 2 0, o0 (.bipush 28), o0 (.iload_n 1), o0 (.iadd), o0 (.iaload), o0 (.iload_n 2), o1 (.if_icmp .ne 9) 40]),
  (34, [o0 (.aload_n 0), o0 (.iconst 2), o2 (.invokevirtual 106) 2 2, o0 (.ireturn)]),
  (40, [o0 (.aload_n 0), o2 (.getfield 56) 0 8, o0 (.aload_n 0), o2 (.getfield 46) 0 6, o2 (.invokevirtual 293) 77 2, o0 (.aload_n 0), o2 (.getfield 46) 0 6, o2 (.getfield 162) 2 0, o0 (.bipush 28), o0 (.iload_n 1), o0 (.iadd), o0 (.iload_n 2), o0 (.iastore), o0 (.aload_n 0), o2 (.invokevirtual 150) 7 1, o0 (.iconst 1), o0 (.ireturn)])]
theorem bk_X_paint : okBlks q_X_paint bl_X_paint = true := by decide +kernel
noncomputable def oL_X_paint {ρ : Type} (N : Nat) : List (Nat × (List Value → mS → (Option Value → mS → Option ρ) → Option ρ)) := [(14, C_X_isDoor N), (2, C_X_refuse N), (77, C_Pa_keep N), (7, C_X_forgetReckoned N)]
theorem oo_X_paint {ρ : Type} {t0 : ρ} (N : Nat) : OrcOK Sx R0x oFx nx 3 t0 (mOrc (oL_X_paint N)) := mOrc_OK (List.forall_mem_cons.mpr ⟨cs_X_isDoor N (by decide), List.forall_mem_cons.mpr ⟨cs_X_refuse N (by decide), List.forall_mem_cons.mpr ⟨cs_Pa_keep N (by decide), List.forall_mem_cons.mpr ⟨cs_X_forgetReckoned N (by decide), mz_nil⟩⟩⟩⟩)
noncomputable def H_X_paint_34 {ρ : Type} (k : mS → Option ρ) : mL → List Value → mS → Option ρ := fun loc st s => cR loc 0 0 (rv0 st (k s))
noncomputable def f_X_paint_j34 (N : Nat) (x : mS) : Option (Int32 × mS) :=
  (f_X_refuse N 2 x).bind fun p1 =>
  grd (isb p1.1) (some (p1.1, p1.2))
set_option maxRecDepth 100000 in
set_option maxHeartbeats 4000000 in
theorem s_X_paint_34 (N : Nat) {x9 : Int32} {s9 : mS} : SCd Sx R0x oFx nx 3 q_X_paint (some (.int x9), s9) (x9, s9) 34 (H_X_paint_34 (f_X_paint_j34 N)) := by
  intro loc st s
  refine G_cR (fun h0 => ?_)
  refine G_rv0 (fun e9 => ?_)
  subst e9
  refine G_sub (loc0 := [(0, .ref 0)]) (List.forall_mem_cons.mpr ⟨h0, mz_nil⟩) ?_
  exact G_eq (mEv_G (orc := mOrc (oL_X_paint N)) (ret := rtZ) (blks := bl_X_paint) (cuts := []) wOKx (by decide) (oo_X_paint N) (RetOK_Z rfl) bk_X_paint (mz_nil)) rfl
noncomputable def f_X_paint (N : Nat) (a1 : Int32) (a2 : Int32) (s : mS) : Option (Int32 × mS) :=
  (f_X_isDoor N a1 s).bind fun p1 =>
  if p1.1 = 0 then
    f_X_paint_j34 N p1.2
  else
    if a2 < 0 then
      f_X_paint_j34 N p1.2
    else
      if 9 < a2 then
        f_X_paint_j34 N p1.2
      else
        grd (inb (28 + a1) 102) (
        if (gA p1.2 20 (ix (28 + a1))) = a2 then
          f_X_paint_j34 N p1.2
        else
          (f_Pa_keep N 19 p1.2).bind fun p2 =>
          grd (inb (28 + a1) 102) (
          let s3 := sA p2 20 (ix (28 + a1)) a2
          (f_X_forgetReckoned N s3).bind fun p4 =>
          some (1, p4)))
set_option maxRecDepth 100000 in
set_option maxHeartbeats 4000000 in
theorem m_X_paint (N : Nat) {x9 : Int32} {s9 : mS} (a1 : Int32) (a2 : Int32) {s : mS} (h : f_X_paint N a1 a2 s = some (x9, s9)) : MetM Sx R0x oFx nx 3 43 [.ref 0, .int a1, .int a2] s (some (.int x9)) s9 := by
  refine met_of_G (q := q_X_paint) (t0 := (x9, s9)) y_X_paint (Nat.le_of_ble_eq_true rfl) ?_
  rw [← h]
  exact G_eq (mEv_G (orc := mOrc (oL_X_paint N)) (ret := rtZ) (blks := bl_X_paint) (cuts := [(34, H_X_paint_34 (f_X_paint_j34 N))]) wOKx (by decide) (oo_X_paint N) (RetOK_Z rfl) bk_X_paint (List.forall_mem_cons.mpr ⟨s_X_paint_34 N, mz_nil⟩)) rfl
noncomputable def C_X_paint {ρ : Type} (N : Nat) : List Value → mS → (Option Value → mS → Option ρ) → Option ρ := fun vs s kk => sR vs 0 fun r0 => pi1 r0 fun a1 r1 => pi1 r1 fun a2 r2 => rv0 r2 ((f_X_paint N a1 a2 s).bind fun p => kk (some (.int p.1)) p.2)
theorem cs_X_paint {ρ : Type} {t0 : ρ} {d : Nat} (N : Nat) (hd : 3 + 1 ≤ d) : CallOK Sx R0x oFx nx d t0 43 (C_X_paint N) := by
  intro vs s kk h0
  obtain ⟨r0, rfl, h1⟩ := sR_some h0
  obtain ⟨a1, r1, rfl, h2⟩ := pi1_some h1
  obtain ⟨a2, r2, rfl, h3⟩ := pi1_some h2
  obtain ⟨rfl, h4⟩ := rv0_some h3
  obtain ⟨p, hp, hk⟩ := Option.bind_eq_some_iff.mp h4
  exact ⟨_, _, _, hd, m_X_paint N a1 a2 hp, hk, fun qy hq hf => by cases y_X_paint.symm.trans hq; exact ⟨_, _, rfl, rfl⟩⟩
/-! METHOD PorterDoors.nights(I)I -/
set_option maxRecDepth 20000 in
noncomputable def q_X_nights : mI := (⟨"PorterDoors", "nights", "(I)I"⟩, prog_1_method_31_code, 4, (some .int), 0, 1001, 129, 1, 1, 999, 1000)
theorem y_X_nights : mT[44]? = some q_X_nights := mT_at_1 (k := 4) rfl
noncomputable def bl_X_nights : List (Nat × List mO) := [(0, [o0 (.aload_n 0), o2 (.invokevirtual 220) 20 1, o1 (.ifCond .eq 22) 26, o0 (.iload_n 1), o0 (.iconst 1), o1 (.if_icmp .lt 17) 26, o0 (.iload_n 1), o0 (.bipush 100), o1 (.if_icmp .gt 11) 26, o0 (.aload_n 0), o0 (.iload_n 1), o2 (.invokevirtual 259) 31 2, o1 (.ifCond .ne 11) 34]),
  (26, [o0 (.aload_n 0), o0 (.iconst 3), o2 (.invokevirtual 106) 2 2, o0 (.pop), o0 (.iconst (-1)), o0 (.ireturn)]),
  (34, [o0 (.aload_n 0), o2 (.getfield 56) 0 8, o0 (.aload_n 0), o2 (.getfield 46) 0 6, o2 (.invokevirtual 293) 77 2, o0 (.iconst 0), o0 (.istore_n 2), o0 (.iconst 0), o0 (.istore_n 3)]),
  (49, [o0 (.iload_n 3), o0 (.iload_n 1), o1 (.if_icmp .ge 24) 75, o0 (.iload_n 2), o0 (.aload_n 0), o2 (.getfield 72) 0 10, o0 (.aload_n 0), o2 (.getfield 46) 0 6, o0 (.iconst (-1)), o2 (.invokevirtual 303) 116 3, o0 (.iadd), o0 (.istore_n 2), o0 (.iinc 3 1), o1 (.goto (-23)) 49]),
  (75, [o0 (.aload_n 0), o2 (.invokevirtual 150) 7 1, o0 (.iload_n 2), o0 (.ireturn)])]
theorem bk_X_nights : okBlks q_X_nights bl_X_nights = true := by decide +kernel
noncomputable def oL_X_nights {ρ : Type} (N : Nat) : List (Nat × (List Value → mS → (Option Value → mS → Option ρ) → Option ρ)) := [(20, C_X_isTold N), (31, C_X_isWithinNights N), (2, C_X_refuse N), (77, C_Pa_keep N), (116, C_Ro_pass N), (7, C_X_forgetReckoned N)]
theorem oo_X_nights {ρ : Type} {t0 : ρ} (N : Nat) : OrcOK Sx R0x oFx nx 7 t0 (mOrc (oL_X_nights N)) := mOrc_OK (List.forall_mem_cons.mpr ⟨cs_X_isTold N (by decide), List.forall_mem_cons.mpr ⟨cs_X_isWithinNights N (by decide), List.forall_mem_cons.mpr ⟨cs_X_refuse N (by decide), List.forall_mem_cons.mpr ⟨cs_Pa_keep N (by decide), List.forall_mem_cons.mpr ⟨cs_Ro_pass N (by decide), List.forall_mem_cons.mpr ⟨cs_X_forgetReckoned N (by decide), mz_nil⟩⟩⟩⟩⟩⟩)
noncomputable def H_X_nights_26 {ρ : Type} (k : mS → Option ρ) : mL → List Value → mS → Option ρ := fun loc st s => cR loc 0 0 (rv0 st (k s))
noncomputable def H_X_nights_49 {ρ : Type} (k : (Int32 × Int32 × Int32 × mS) → Option ρ) : mL → List Value → mS → Option ρ := fun loc st s => cR loc 0 0 (li1 loc 1 fun v0 => li1 loc 2 fun v1 => li1 loc 3 fun v2 => rv0 st (k (v0, v1, v2, s)))
noncomputable def f_X_nights_j26 (N : Nat) (x : mS) : Option (Int32 × mS) :=
  (f_X_refuse N 3 x).bind fun p1 =>
  some ((-1), p1.2)
set_option maxRecDepth 100000 in
set_option maxHeartbeats 4000000 in
theorem s_X_nights_26 (N : Nat) {x9 : Int32} {s9 : mS} : SCd Sx R0x oFx nx 7 q_X_nights (some (.int x9), s9) (x9, s9) 26 (H_X_nights_26 (f_X_nights_j26 N)) := by
  intro loc st s
  refine G_cR (fun h0 => ?_)
  refine G_rv0 (fun e9 => ?_)
  subst e9
  refine G_sub (loc0 := [(0, .ref 0)]) (List.forall_mem_cons.mpr ⟨h0, mz_nil⟩) ?_
  exact G_eq (mEv_G (orc := mOrc (oL_X_nights N)) (ret := rtI) (blks := bl_X_nights) (cuts := []) wOKx (by decide) (oo_X_nights N) (RetOK_I rfl) bk_X_nights (mz_nil)) rfl
noncomputable def f_X_nights_L49 (N : Nat) (k49 : (Int32 × Int32 × Int32 × mS) → Option (Int32 × mS)) (x : Int32 × Int32 × Int32 × mS) : Option (Int32 × mS) :=
  if x.2.2.1 < x.1 then
    (f_Ro_pass N 19 (-1) x.2.2.2).bind fun p2 =>
    k49 (x.1, (x.2.1 + p2.1), (x.2.2.1 + 1), p2.2)
  else
    (f_X_forgetReckoned N x.2.2.2).bind fun p1 =>
    some (x.2.1, p1)
set_option maxRecDepth 100000 in
set_option maxHeartbeats 4000000 in
theorem t_X_nights_49 (N : Nat) {x9 : Int32} {s9 : mS} {k49 : (Int32 × Int32 × Int32 × mS) → Option (Int32 × mS)} (hk49 : SCd Sx R0x oFx nx 7 q_X_nights (some (.int x9), s9) (x9, s9) 49 (H_X_nights_49 k49)) : SCd Sx R0x oFx nx 7 q_X_nights (some (.int x9), s9) (x9, s9) 49 (H_X_nights_49 (f_X_nights_L49 N k49)) := by
  intro loc st s
  refine G_cR (fun h0 => ?_)
  refine G_li (fun v0 h1 => ?_)
  refine G_li (fun v1 h2 => ?_)
  refine G_li (fun v2 h3 => ?_)
  refine G_rv0 (fun e9 => ?_)
  subst e9
  refine G_sub (loc0 := [(0, .ref 0), (1, .int v0), (2, .int v1), (3, .int v2)]) (List.forall_mem_cons.mpr ⟨h0, List.forall_mem_cons.mpr ⟨h1, List.forall_mem_cons.mpr ⟨h2, List.forall_mem_cons.mpr ⟨h3, mz_nil⟩⟩⟩⟩) ?_
  exact G_eq (mEv_G (orc := mOrc (oL_X_nights N)) (ret := rtI) (blks := bl_X_nights) (cuts := [(49, H_X_nights_49 k49)]) wOKx (by decide) (oo_X_nights N) (RetOK_I rfl) bk_X_nights (List.forall_mem_cons.mpr ⟨hk49, mz_nil⟩)) rfl
theorem s_X_nights_49 (N : Nat) {x9 : Int32} {s9 : mS} : SCd Sx R0x oFx nx 7 q_X_nights (some (.int x9), s9) (x9, s9) 49 (H_X_nights_49 (mfix N (f_X_nights_L49 N))) := by
  refine mfix_SC (H := H_X_nights_49) (fun loc st s => ?_) (fun k hk => t_X_nights_49 N hk) N
  refine G_cR (fun h0 => ?_)
  refine G_li (fun v0 h1 => ?_)
  refine G_li (fun v1 h2 => ?_)
  refine G_li (fun v2 h3 => ?_)
  refine G_rv0 (fun e9 => ?_)
  subst e9
  exact G_none
noncomputable def f_X_nights (N : Nat) (a1 : Int32) (s : mS) : Option (Int32 × mS) :=
  (f_X_isTold N s).bind fun p1 =>
  if p1.1 = 0 then
    f_X_nights_j26 N p1.2
  else
    if a1 < 1 then
      f_X_nights_j26 N p1.2
    else
      if 100 < a1 then
        f_X_nights_j26 N p1.2
      else
        (f_X_isWithinNights N a1 p1.2).bind fun p2 =>
        if p2.1 = 0 then
          f_X_nights_j26 N p2.2
        else
          (f_Pa_keep N 19 p2.2).bind fun p3 =>
          mfix N (f_X_nights_L49 N) (a1, 0, 0, p3)
set_option maxRecDepth 100000 in
set_option maxHeartbeats 4000000 in
theorem m_X_nights (N : Nat) {x9 : Int32} {s9 : mS} (a1 : Int32) {s : mS} (h : f_X_nights N a1 s = some (x9, s9)) : MetM Sx R0x oFx nx 7 44 [.ref 0, .int a1] s (some (.int x9)) s9 := by
  refine met_of_G (q := q_X_nights) (t0 := (x9, s9)) y_X_nights (Nat.le_of_ble_eq_true rfl) ?_
  rw [← h]
  exact G_eq (mEv_G (orc := mOrc (oL_X_nights N)) (ret := rtI) (blks := bl_X_nights) (cuts := [(26, H_X_nights_26 (f_X_nights_j26 N)), (49, H_X_nights_49 (mfix N (f_X_nights_L49 N)))]) wOKx (by decide) (oo_X_nights N) (RetOK_I rfl) bk_X_nights (List.forall_mem_cons.mpr ⟨s_X_nights_26 N, List.forall_mem_cons.mpr ⟨s_X_nights_49 N, mz_nil⟩⟩)) rfl
noncomputable def C_X_nights {ρ : Type} (N : Nat) : List Value → mS → (Option Value → mS → Option ρ) → Option ρ := fun vs s kk => sR vs 0 fun r0 => pi1 r0 fun a1 r1 => rv0 r1 ((f_X_nights N a1 s).bind fun p => kk (some (.int p.1)) p.2)
theorem cs_X_nights {ρ : Type} {t0 : ρ} {d : Nat} (N : Nat) (hd : 7 + 1 ≤ d) : CallOK Sx R0x oFx nx d t0 44 (C_X_nights N) := by
  intro vs s kk h0
  obtain ⟨r0, rfl, h1⟩ := sR_some h0
  obtain ⟨a1, r1, rfl, h2⟩ := pi1_some h1
  obtain ⟨rfl, h3⟩ := rv0_some h2
  obtain ⟨p, hp, hk⟩ := Option.bind_eq_some_iff.mp h3
  exact ⟨_, _, _, hd, m_X_nights N a1 hp, hk, fun qy hq hf => by cases y_X_nights.symm.trans hq; exact ⟨_, _, rfl, rfl⟩⟩
/-! METHOD PorterDoors.draw(I)I -/
set_option maxRecDepth 20000 in
noncomputable def q_X_draw : mI := (⟨"PorterDoors", "draw", "(I)I"⟩, prog_1_method_55_code, 2, (some .int), 0, 1013, 129, 1, 1, 1012, 35)
theorem y_X_draw : mT[47]? = some q_X_draw := mT_at_1 (k := 7) rfl
noncomputable def bl_X_draw : List (Nat × List mO) := [(0, [o0 (.aload_n 0), oC (.ldc2_w 346) (.long 1103515245), o0 (.aload_n 0), o2 (.getfield 103) 0 16, o0 (.i2l), o0 (.lmul), oC (.ldc2_w 348) (.long 12345), o0 (.ladd), oC (.ldc2_w 350) (.long 2147483647), o0 (.land), o0 (.l2i), o2 (.putfield 103) 0 16, o0 (.iload_n 1), o1 (.ifCond .le 15) 38, o0 (.aload_n 0), o2 (.getfield 103) 0 16, o0 (.bipush 64), o0 (.idiv), o0 (.iload_n 1), o0 (.irem), o1 (.goto 4) 39]),
  (38, [o0 (.iconst 0)]),
  (39, [o0 (.ireturn)])]
theorem bk_X_draw : okBlks q_X_draw bl_X_draw = true := by decide +kernel
noncomputable def oL_X_draw {ρ : Type} (N : Nat) : List (Nat × (List Value → mS → (Option Value → mS → Option ρ) → Option ρ)) := []
theorem oo_X_draw {ρ : Type} {t0 : ρ} (N : Nat) : OrcOK Sx R0x oFx nx 1 t0 (mOrc (oL_X_draw N)) := mOrc_OK (mz_nil)
noncomputable def f_X_draw (N : Nat) (a1 : Int32) (s : mS) : Option (Int32 × mS) :=
  let s1 := sI s 16 0 ((((1103515245 * ((gI s 16 0)).toInt64) + 12345) &&& 2147483647)).toInt32
  if 0 < a1 then
    grd (!decide (a1 = 0)) (
    some ((irm ((gI s1 16 0) / 64) a1), s1))
  else
    some (0, s1)
set_option maxRecDepth 100000 in
set_option maxHeartbeats 4000000 in
theorem m_X_draw (N : Nat) {x9 : Int32} {s9 : mS} (a1 : Int32) {s : mS} (h : f_X_draw N a1 s = some (x9, s9)) : MetM Sx R0x oFx nx 1 47 [.ref 0, .int a1] s (some (.int x9)) s9 := by
  refine met_of_G (q := q_X_draw) (t0 := (x9, s9)) y_X_draw (Nat.le_of_ble_eq_true rfl) ?_
  rw [← h]
  exact G_eq (mEv_G (orc := mOrc (oL_X_draw N)) (ret := rtI) (blks := bl_X_draw) (cuts := []) wOKx (by decide) (oo_X_draw N) (RetOK_I rfl) bk_X_draw (mz_nil)) rfl
noncomputable def C_X_draw {ρ : Type} (N : Nat) : List Value → mS → (Option Value → mS → Option ρ) → Option ρ := fun vs s kk => sR vs 0 fun r0 => pi1 r0 fun a1 r1 => rv0 r1 ((f_X_draw N a1 s).bind fun p => kk (some (.int p.1)) p.2)
theorem cs_X_draw {ρ : Type} {t0 : ρ} {d : Nat} (N : Nat) (hd : 1 + 1 ≤ d) : CallOK Sx R0x oFx nx d t0 47 (C_X_draw N) := by
  intro vs s kk h0
  obtain ⟨r0, rfl, h1⟩ := sR_some h0
  obtain ⟨a1, r1, rfl, h2⟩ := pi1_some h1
  obtain ⟨rfl, h3⟩ := rv0_some h2
  obtain ⟨p, hp, hk⟩ := Option.bind_eq_some_iff.mp h3
  exact ⟨_, _, _, hd, m_X_draw N a1 hp, hk, fun qy hq hf => by cases y_X_draw.symm.trans hq; exact ⟨_, _, rfl, rfl⟩⟩
/-! METHOD PorterDoors.drawIll()I -/
set_option maxRecDepth 20000 in
noncomputable def q_X_drawIll : mI := (⟨"PorterDoors", "drawIll", "()I"⟩, prog_1_method_54_code, 2, (some .int), 0, 1009, 129, 1, 0, 1008, 34)
theorem y_X_drawIll : mT[46]? = some q_X_drawIll := mT_at_1 (k := 6) rfl
noncomputable def bl_X_drawIll : List (Nat × List mO) := [(0, [o0 (.aload_n 0), o0 (.bipush 100), o2 (.invokevirtual 343) 47 2, o0 (.aload_n 0), o2 (.getfield 20) 0 2, o2 (.getfield 265) 4 3, o1 (.if_icmp .ge 7) 20, o0 (.iconst 1), o1 (.goto 4) 21]),
  (20, [o0 (.iconst 0)]),
  (21, [o0 (.istore_n 1), o0 (.iload_n 1), o1 (.ifCond .eq 27) 50, o0 (.aload_n 0), o2 (.getfield 20) 0 2, o2 (.getfield 159) 4 1, o1 (.ifCond .le 17) 50, o0 (.aload_n 0), o0 (.aload_n 0), o2 (.getfield 20) 0 2, o2 (.getfield 159) 4 1, o2 (.invokevirtual 343) 47 2, o1 (.goto 4) 51]),
  (50, [o0 (.iconst (-1))]),
  (51, [o0 (.ireturn)])]
theorem bk_X_drawIll : okBlks q_X_drawIll bl_X_drawIll = true := by decide +kernel
noncomputable def oL_X_drawIll {ρ : Type} (N : Nat) : List (Nat × (List Value → mS → (Option Value → mS → Option ρ) → Option ρ)) := [(47, C_X_draw N)]
theorem oo_X_drawIll {ρ : Type} {t0 : ρ} (N : Nat) : OrcOK Sx R0x oFx nx 2 t0 (mOrc (oL_X_drawIll N)) := mOrc_OK (List.forall_mem_cons.mpr ⟨cs_X_draw N (by decide), mz_nil⟩)
noncomputable def H_X_drawIll_21 {ρ : Type} (k : (Int32 × mS) → Option ρ) : mL → List Value → mS → Option ρ := fun loc st s => cR loc 0 0 (pi1 st fun w0 r0 => rv0 r0 (k (w0, s)))
noncomputable def f_X_drawIll_j21 (N : Nat) (x : Int32 × mS) : Option (Int32 × mS) :=
  if x.1 = 0 then
    some ((-1), x.2)
  else
    if 0 < (gI x.2 401 2) then
      (f_X_draw N (gI x.2 401 2) x.2).bind fun p1 =>
      some (p1.1, p1.2)
    else
      some ((-1), x.2)
set_option maxRecDepth 100000 in
set_option maxHeartbeats 4000000 in
theorem s_X_drawIll_21 (N : Nat) {x9 : Int32} {s9 : mS} : SCd Sx R0x oFx nx 2 q_X_drawIll (some (.int x9), s9) (x9, s9) 21 (H_X_drawIll_21 (f_X_drawIll_j21 N)) := by
  intro loc st s
  refine G_cR (fun h0 => ?_)
  refine G_pi (fun w0 r0 e0 => ?_)
  refine G_rv0 (fun e9 => ?_)
  subst e9
  subst e0
  refine G_sub (loc0 := [(0, .ref 0)]) (List.forall_mem_cons.mpr ⟨h0, mz_nil⟩) ?_
  exact G_eq (mEv_G (orc := mOrc (oL_X_drawIll N)) (ret := rtI) (blks := bl_X_drawIll) (cuts := []) wOKx (by decide) (oo_X_drawIll N) (RetOK_I rfl) bk_X_drawIll (mz_nil)) rfl
noncomputable def f_X_drawIll (N : Nat) (s : mS) : Option (Int32 × mS) :=
  (f_X_draw N 100 s).bind fun p1 =>
  if p1.1 < (gI p1.2 403 2) then
    f_X_drawIll_j21 N (1, p1.2)
  else
    f_X_drawIll_j21 N (0, p1.2)
set_option maxRecDepth 100000 in
set_option maxHeartbeats 4000000 in
theorem m_X_drawIll (N : Nat) {x9 : Int32} {s9 : mS} {s : mS} (h : f_X_drawIll N s = some (x9, s9)) : MetM Sx R0x oFx nx 2 46 [.ref 0] s (some (.int x9)) s9 := by
  refine met_of_G (q := q_X_drawIll) (t0 := (x9, s9)) y_X_drawIll (Nat.le_of_ble_eq_true rfl) ?_
  rw [← h]
  exact G_eq (mEv_G (orc := mOrc (oL_X_drawIll N)) (ret := rtI) (blks := bl_X_drawIll) (cuts := [(21, H_X_drawIll_21 (f_X_drawIll_j21 N))]) wOKx (by decide) (oo_X_drawIll N) (RetOK_I rfl) bk_X_drawIll (List.forall_mem_cons.mpr ⟨s_X_drawIll_21 N, mz_nil⟩)) rfl
noncomputable def C_X_drawIll {ρ : Type} (N : Nat) : List Value → mS → (Option Value → mS → Option ρ) → Option ρ := fun vs s kk => sR vs 0 fun r0 => rv0 r0 ((f_X_drawIll N s).bind fun p => kk (some (.int p.1)) p.2)
theorem cs_X_drawIll {ρ : Type} {t0 : ρ} {d : Nat} (N : Nat) (hd : 2 + 1 ≤ d) : CallOK Sx R0x oFx nx d t0 46 (C_X_drawIll N) := by
  intro vs s kk h0
  obtain ⟨r0, rfl, h1⟩ := sR_some h0
  obtain ⟨rfl, h2⟩ := rv0_some h1
  obtain ⟨p, hp, hk⟩ := Option.bind_eq_some_iff.mp h2
  exact ⟨_, _, _, hd, m_X_drawIll N hp, hk, fun qy hq hf => by cases y_X_drawIll.symm.trans hq; exact ⟨_, _, rfl, rfl⟩⟩
/-! METHOD PorterDoors.chance(I)I -/
set_option maxRecDepth 20000 in
noncomputable def q_X_chance : mI := (⟨"PorterDoors", "chance", "(I)I"⟩, prog_1_method_32_code, 5, (some .int), 0, 1005, 129, 1, 1, 1003, 1004)
theorem y_X_chance : mT[45]? = some q_X_chance := mT_at_1 (k := 5) rfl
noncomputable def bl_X_chance : List (Nat × List mO) := [(0, [o0 (.aload_n 0), o2 (.invokevirtual 220) 20 1, o1 (.ifCond .eq 22) 26, o0 (.iload_n 1), o0 (.iconst 1), o1 (.if_icmp .lt 17) 26, o0 (.iload_n 1), o0 (.bipush 100), o1 (.if_icmp .gt 11) 26, o0 (.aload_n 0), o0 (.iload_n 1), o2 (.invokevirtual 259) 31 2, o1 (.ifCond .ne 11) 34]),
  (26, [o0 (.aload_n 0), o0 (.iconst 3), o2 (.invokevirtual 106) 2 2, o0 (.pop), o0 (.iconst (-1)), o0 (.ireturn)]),
  (34, [o0 (.aload_n 0), o2 (.getfield 56) 0 8, o0 (.aload_n 0), o2 (.getfield 46) 0 6, o2 (.invokevirtual 293) 77 2, o0 (.iconst 0), o0 (.istore_n 2), o0 (.iconst 0), o0 (.istore_n 3)]),
  (49, [o0 (.iload_n 3), o0 (.iload_n 1), o1 (.if_icmp .ge 43) 94, o0 (.aload_n 0), o2 (.invokevirtual 306) 46 1, o0 (.istore 4), o0 (.aload_n 0), o2 (.getfield 72) 0 10, o0 (.aload_n 0), o2 (.getfield 46) 0 6, o0 (.iload 4), o2 (.invokevirtual 303) 116 3, o0 (.pop), o0 (.iload_n 2), o0 (.iload 4), o0 (.iconst (-1)), o1 (.if_icmp .ne 7) 85, o0 (.iconst 0), o1 (.goto 4) 86]),
  (85, [o0 (.iconst 1)]),
  (86, [o0 (.iadd), o0 (.istore_n 2), o0 (.iinc 3 1), o1 (.goto (-42)) 49]),
  (94, [o0 (.aload_n 0), o2 (.invokevirtual 150) 7 1, o0 (.iload_n 2), o0 (.ireturn)])]
theorem bk_X_chance : okBlks q_X_chance bl_X_chance = true := by decide +kernel
noncomputable def oL_X_chance {ρ : Type} (N : Nat) : List (Nat × (List Value → mS → (Option Value → mS → Option ρ) → Option ρ)) := [(20, C_X_isTold N), (31, C_X_isWithinNights N), (2, C_X_refuse N), (77, C_Pa_keep N), (46, C_X_drawIll N), (116, C_Ro_pass N), (7, C_X_forgetReckoned N)]
theorem oo_X_chance {ρ : Type} {t0 : ρ} (N : Nat) : OrcOK Sx R0x oFx nx 7 t0 (mOrc (oL_X_chance N)) := mOrc_OK (List.forall_mem_cons.mpr ⟨cs_X_isTold N (by decide), List.forall_mem_cons.mpr ⟨cs_X_isWithinNights N (by decide), List.forall_mem_cons.mpr ⟨cs_X_refuse N (by decide), List.forall_mem_cons.mpr ⟨cs_Pa_keep N (by decide), List.forall_mem_cons.mpr ⟨cs_X_drawIll N (by decide), List.forall_mem_cons.mpr ⟨cs_Ro_pass N (by decide), List.forall_mem_cons.mpr ⟨cs_X_forgetReckoned N (by decide), mz_nil⟩⟩⟩⟩⟩⟩⟩)
noncomputable def H_X_chance_26 {ρ : Type} (k : mS → Option ρ) : mL → List Value → mS → Option ρ := fun loc st s => cR loc 0 0 (rv0 st (k s))
noncomputable def H_X_chance_49 {ρ : Type} (k : (Int32 × Int32 × Int32 × mS) → Option ρ) : mL → List Value → mS → Option ρ := fun loc st s => cR loc 0 0 (li1 loc 1 fun v0 => li1 loc 2 fun v1 => li1 loc 3 fun v2 => rv0 st (k (v0, v1, v2, s)))
noncomputable def f_X_chance_j26 (N : Nat) (x : mS) : Option (Int32 × mS) :=
  (f_X_refuse N 3 x).bind fun p1 =>
  some ((-1), p1.2)
set_option maxRecDepth 100000 in
set_option maxHeartbeats 4000000 in
theorem s_X_chance_26 (N : Nat) {x9 : Int32} {s9 : mS} : SCd Sx R0x oFx nx 7 q_X_chance (some (.int x9), s9) (x9, s9) 26 (H_X_chance_26 (f_X_chance_j26 N)) := by
  intro loc st s
  refine G_cR (fun h0 => ?_)
  refine G_rv0 (fun e9 => ?_)
  subst e9
  refine G_sub (loc0 := [(0, .ref 0)]) (List.forall_mem_cons.mpr ⟨h0, mz_nil⟩) ?_
  exact G_eq (mEv_G (orc := mOrc (oL_X_chance N)) (ret := rtI) (blks := bl_X_chance) (cuts := []) wOKx (by decide) (oo_X_chance N) (RetOK_I rfl) bk_X_chance (mz_nil)) rfl
noncomputable def f_X_chance_L49 (N : Nat) (k49 : (Int32 × Int32 × Int32 × mS) → Option (Int32 × mS)) (x : Int32 × Int32 × Int32 × mS) : Option (Int32 × mS) :=
  if x.2.2.1 < x.1 then
    (f_X_drawIll N x.2.2.2).bind fun p2 =>
    (f_Ro_pass N 19 p2.1 p2.2).bind fun p3 =>
    if p2.1 = (-1) then
      k49 (x.1, (x.2.1 + 0), (x.2.2.1 + 1), p3.2)
    else
      k49 (x.1, (x.2.1 + 1), (x.2.2.1 + 1), p3.2)
  else
    (f_X_forgetReckoned N x.2.2.2).bind fun p1 =>
    some (x.2.1, p1)
set_option maxRecDepth 100000 in
set_option maxHeartbeats 4000000 in
theorem t_X_chance_49 (N : Nat) {x9 : Int32} {s9 : mS} {k49 : (Int32 × Int32 × Int32 × mS) → Option (Int32 × mS)} (hk49 : SCd Sx R0x oFx nx 7 q_X_chance (some (.int x9), s9) (x9, s9) 49 (H_X_chance_49 k49)) : SCd Sx R0x oFx nx 7 q_X_chance (some (.int x9), s9) (x9, s9) 49 (H_X_chance_49 (f_X_chance_L49 N k49)) := by
  intro loc st s
  refine G_cR (fun h0 => ?_)
  refine G_li (fun v0 h1 => ?_)
  refine G_li (fun v1 h2 => ?_)
  refine G_li (fun v2 h3 => ?_)
  refine G_rv0 (fun e9 => ?_)
  subst e9
  refine G_sub (loc0 := [(0, .ref 0), (1, .int v0), (2, .int v1), (3, .int v2)]) (List.forall_mem_cons.mpr ⟨h0, List.forall_mem_cons.mpr ⟨h1, List.forall_mem_cons.mpr ⟨h2, List.forall_mem_cons.mpr ⟨h3, mz_nil⟩⟩⟩⟩) ?_
  exact G_eq (mEv_G (orc := mOrc (oL_X_chance N)) (ret := rtI) (blks := bl_X_chance) (cuts := [(49, H_X_chance_49 k49)]) wOKx (by decide) (oo_X_chance N) (RetOK_I rfl) bk_X_chance (List.forall_mem_cons.mpr ⟨hk49, mz_nil⟩)) rfl
theorem s_X_chance_49 (N : Nat) {x9 : Int32} {s9 : mS} : SCd Sx R0x oFx nx 7 q_X_chance (some (.int x9), s9) (x9, s9) 49 (H_X_chance_49 (mfix N (f_X_chance_L49 N))) := by
  refine mfix_SC (H := H_X_chance_49) (fun loc st s => ?_) (fun k hk => t_X_chance_49 N hk) N
  refine G_cR (fun h0 => ?_)
  refine G_li (fun v0 h1 => ?_)
  refine G_li (fun v1 h2 => ?_)
  refine G_li (fun v2 h3 => ?_)
  refine G_rv0 (fun e9 => ?_)
  subst e9
  exact G_none
noncomputable def f_X_chance (N : Nat) (a1 : Int32) (s : mS) : Option (Int32 × mS) :=
  (f_X_isTold N s).bind fun p1 =>
  if p1.1 = 0 then
    f_X_chance_j26 N p1.2
  else
    if a1 < 1 then
      f_X_chance_j26 N p1.2
    else
      if 100 < a1 then
        f_X_chance_j26 N p1.2
      else
        (f_X_isWithinNights N a1 p1.2).bind fun p2 =>
        if p2.1 = 0 then
          f_X_chance_j26 N p2.2
        else
          (f_Pa_keep N 19 p2.2).bind fun p3 =>
          mfix N (f_X_chance_L49 N) (a1, 0, 0, p3)
set_option maxRecDepth 100000 in
set_option maxHeartbeats 4000000 in
theorem m_X_chance (N : Nat) {x9 : Int32} {s9 : mS} (a1 : Int32) {s : mS} (h : f_X_chance N a1 s = some (x9, s9)) : MetM Sx R0x oFx nx 7 45 [.ref 0, .int a1] s (some (.int x9)) s9 := by
  refine met_of_G (q := q_X_chance) (t0 := (x9, s9)) y_X_chance (Nat.le_of_ble_eq_true rfl) ?_
  rw [← h]
  exact G_eq (mEv_G (orc := mOrc (oL_X_chance N)) (ret := rtI) (blks := bl_X_chance) (cuts := [(26, H_X_chance_26 (f_X_chance_j26 N)), (49, H_X_chance_49 (mfix N (f_X_chance_L49 N)))]) wOKx (by decide) (oo_X_chance N) (RetOK_I rfl) bk_X_chance (List.forall_mem_cons.mpr ⟨s_X_chance_26 N, List.forall_mem_cons.mpr ⟨s_X_chance_49 N, mz_nil⟩⟩)) rfl
noncomputable def C_X_chance {ρ : Type} (N : Nat) : List Value → mS → (Option Value → mS → Option ρ) → Option ρ := fun vs s kk => sR vs 0 fun r0 => pi1 r0 fun a1 r1 => rv0 r1 ((f_X_chance N a1 s).bind fun p => kk (some (.int p.1)) p.2)
theorem cs_X_chance {ρ : Type} {t0 : ρ} {d : Nat} (N : Nat) (hd : 7 + 1 ≤ d) : CallOK Sx R0x oFx nx d t0 45 (C_X_chance N) := by
  intro vs s kk h0
  obtain ⟨r0, rfl, h1⟩ := sR_some h0
  obtain ⟨a1, r1, rfl, h2⟩ := pi1_some h1
  obtain ⟨rfl, h3⟩ := rv0_some h2
  obtain ⟨p, hp, hk⟩ := Option.bind_eq_some_iff.mp h3
  exact ⟨_, _, _, hd, m_X_chance N a1 hp, hk, fun qy hq hf => by cases y_X_chance.symm.trans hq; exact ⟨_, _, rfl, rfl⟩⟩
/-! METHOD PorterDoors$Past.giveBack(LPorterDoors$Hall;)V -/
set_option maxRecDepth 20000 in
noncomputable def q_Pa_giveBack : mI := (⟨"PorterDoors$Past", "giveBack", "(LPorterDoors$Hall;)V"⟩, prog_4_method_4_code, 2, none, 3, 1024, 134, 1, 1, 1022, 1023)
theorem y_Pa_giveBack : mT[78]? = some q_Pa_giveBack := mT_at_1 (k := 38) rfl
noncomputable def bl_Pa_giveBack : List (Nat × List mO) := [(0, [o0 (.aload_n 0), o2 (.getfield 19) 3 2, o1 (.ifCond .le 50) 54, o0 (.aload_n 0), o0 (.aload_n 0), o2 (.getfield 15) 3 1, o0 (.bipush 20), o0 (.iadd), o0 (.iconst 1), o0 (.isub), o0 (.bipush 20), o0 (.irem), o2 (.putfield 15) 3 1, o0 (.aload_n 0), o0 (.dup), o2 (.getfield 19) 3 2, o0 (.iconst 1), o0 (.isub), o2 (.putfield 19) 3 2, o0 (.aload_n 0), o2 (.getfield 11) 3 0, o0 (.aload_n 0), o2 (.getfield 15) 3 1, o0 (.bipush 102), o0 (.imul), o0 (.aload_n 1), o2 (.getfield 22) 2 0, o0 (.iconst 0), o0 (.bipush 102), o2 (.invokestatic 25) 9999 0]),
  (54, [o0 (.return_)])]
theorem bk_Pa_giveBack : okBlks q_Pa_giveBack bl_Pa_giveBack = true := by decide +kernel
noncomputable def oL_Pa_giveBack {ρ : Type} (N : Nat) : List (Nat × (List Value → mS → (Option Value → mS → Option ρ) → Option ρ)) := []
theorem oo_Pa_giveBack {ρ : Type} {t0 : ρ} (N : Nat) : OrcOK Sx R0x oFx nx 1 t0 (mOrc (oL_Pa_giveBack N)) := mOrc_OK (mz_nil)
noncomputable def f_Pa_giveBack (N : Nat) (a1 : Nat) (s : mS) : Option (mS) :=
  if 0 < (gI s 302 23) then
    let s1 := sI s 301 23 (irm (((gI s 301 23) + 20) - 1) 20)
    let s2 := sI s1 302 23 ((gI s1 302 23) - 1)
    grd (isO Sx a1 2) (
    grd (!decide (((gI s2 301 23) * 102) < 0)) (
    grd (Nat.blt 0 (aln Sx 0 (a1 + 1))) (
    grd (Nat.ble ((ix ((gI s2 301 23) * 102)) + 102) 2040) (
    grd (Nat.ble (0 + 102) (aln Sx 0 (a1 + 1))) (
    let s3 := sC s2 24 (ix ((gI s2 301 23) * 102)) (a1 + 1) 0 102
    some s3)))))
  else
    some s
set_option maxRecDepth 100000 in
set_option maxHeartbeats 4000000 in
theorem m_Pa_giveBack (N : Nat) {s9 : mS} (a1 : Nat) {s : mS} (h : f_Pa_giveBack N a1 s = some s9) : MetM Sx R0x oFx nx 1 78 [.ref 23, .ref a1] s (none) s9 := by
  refine met_of_G (q := q_Pa_giveBack) (t0 := s9) y_Pa_giveBack (Nat.le_of_ble_eq_true rfl) ?_
  rw [← h]
  exact G_eq (mEv_G (orc := mOrc (oL_Pa_giveBack N)) (ret := rtV) (blks := bl_Pa_giveBack) (cuts := []) wOKx (by decide) (oo_Pa_giveBack N) (RetOK_V rfl) bk_Pa_giveBack (mz_nil)) rfl
noncomputable def C_Pa_giveBack {ρ : Type} (N : Nat) : List Value → mS → (Option Value → mS → Option ρ) → Option ρ := fun vs s kk => sR vs 23 fun r0 => pr1 r0 fun a1 r1 => rv0 r1 ((f_Pa_giveBack N a1 s).bind fun p => kk none p)
theorem cs_Pa_giveBack {ρ : Type} {t0 : ρ} {d : Nat} (N : Nat) (hd : 1 + 1 ≤ d) : CallOK Sx R0x oFx nx d t0 78 (C_Pa_giveBack N) := by
  intro vs s kk h0
  obtain ⟨r0, rfl, h1⟩ := sR_some h0
  obtain ⟨a1, r1, rfl, h2⟩ := pr1_some h1
  obtain ⟨rfl, h3⟩ := rv0_some h2
  obtain ⟨p, hp, hk⟩ := Option.bind_eq_some_iff.mp h3
  exact ⟨_, _, _, hd, m_Pa_giveBack N a1 hp, hk, fun qy hq hf => by cases y_Pa_giveBack.symm.trans hq; exact ⟨_, _, rfl, rfl⟩⟩
/-! METHOD PorterDoors.undo()Z -/
set_option maxRecDepth 20000 in
noncomputable def q_X_undo : mI := (⟨"PorterDoors", "undo", "()Z"⟩, prog_1_method_33_code, 1, (some .boolean), 0, 1020, 129, 1, 0, 1018, 1019)
theorem y_X_undo : mT[48]? = some q_X_undo := mT_at_1 (k := 8) rfl
noncomputable def bl_X_undo : List (Nat × List mO) := [(0, [o0 (.aload_n 0), o2 (.getfield 56) 0 8, o2 (.getfield 180) 3 2, o1 (.ifCond .ne 9) 16, o0 (.aload_n 0), o0 (.iconst 4), o2 (.invokevirtual 106) 2 2, o0 (.ireturn)]),
  (16, [o0 (.aload_n 0), o2 (.getfield 56) 0 8, o0 (.aload_n 0), o2 (.getfield 46) 0 6, o2 (.invokevirtual 309) 78 2, o0 (.aload_n 0), o2 (.invokevirtual 150) 7 1, o0 (.iconst 1), o0 (.ireturn)])]
theorem bk_X_undo : okBlks q_X_undo bl_X_undo = true := by decide +kernel
noncomputable def oL_X_undo {ρ : Type} (N : Nat) : List (Nat × (List Value → mS → (Option Value → mS → Option ρ) → Option ρ)) := [(2, C_X_refuse N), (78, C_Pa_giveBack N), (7, C_X_forgetReckoned N)]
theorem oo_X_undo {ρ : Type} {t0 : ρ} (N : Nat) : OrcOK Sx R0x oFx nx 3 t0 (mOrc (oL_X_undo N)) := mOrc_OK (List.forall_mem_cons.mpr ⟨cs_X_refuse N (by decide), List.forall_mem_cons.mpr ⟨cs_Pa_giveBack N (by decide), List.forall_mem_cons.mpr ⟨cs_X_forgetReckoned N (by decide), mz_nil⟩⟩⟩)
noncomputable def f_X_undo (N : Nat) (s : mS) : Option (Int32 × mS) :=
  if (gI s 302 23) = 0 then
    (f_X_refuse N 4 s).bind fun p3 =>
    grd (isb p3.1) (some (p3.1, p3.2))
  else
    (f_Pa_giveBack N 19 s).bind fun p1 =>
    (f_X_forgetReckoned N p1).bind fun p2 =>
    some (1, p2)
set_option maxRecDepth 100000 in
set_option maxHeartbeats 4000000 in
theorem m_X_undo (N : Nat) {x9 : Int32} {s9 : mS} {s : mS} (h : f_X_undo N s = some (x9, s9)) : MetM Sx R0x oFx nx 3 48 [.ref 0] s (some (.int x9)) s9 := by
  refine met_of_G (q := q_X_undo) (t0 := (x9, s9)) y_X_undo (Nat.le_of_ble_eq_true rfl) ?_
  rw [← h]
  exact G_eq (mEv_G (orc := mOrc (oL_X_undo N)) (ret := rtZ) (blks := bl_X_undo) (cuts := []) wOKx (by decide) (oo_X_undo N) (RetOK_Z rfl) bk_X_undo (mz_nil)) rfl
noncomputable def C_X_undo {ρ : Type} (N : Nat) : List Value → mS → (Option Value → mS → Option ρ) → Option ρ := fun vs s kk => sR vs 0 fun r0 => rv0 r0 ((f_X_undo N s).bind fun p => kk (some (.int p.1)) p.2)
theorem cs_X_undo {ρ : Type} {t0 : ρ} {d : Nat} (N : Nat) (hd : 3 + 1 ≤ d) : CallOK Sx R0x oFx nx d t0 48 (C_X_undo N) := by
  intro vs s kk h0
  obtain ⟨r0, rfl, h1⟩ := sR_some h0
  obtain ⟨rfl, h2⟩ := rv0_some h1
  obtain ⟨p, hp, hk⟩ := Option.bind_eq_some_iff.mp h2
  exact ⟨_, _, _, hd, m_X_undo N hp, hk, fun qy hq hf => by cases y_X_undo.symm.trans hq; exact ⟨_, _, rfl, rfl⟩⟩
/-! METHOD PorterDoors.seed(I)Z -/
set_option maxRecDepth 20000 in
noncomputable def q_X_seed : mI := (⟨"PorterDoors", "seed", "(I)Z"⟩, prog_1_method_34_code, 2, (some .boolean), 0, 1028, 129, 1, 1, 1026, 1027)
theorem y_X_seed : mT[49]? = some q_X_seed := mT_at_1 (k := 9) rfl
noncomputable def bl_X_seed : List (Nat × List mO) := [(0, [o0 (.iload_n 1), o1 (.ifCond .ge 9) 10, o0 (.aload_n 0), o0 (.iconst 5), o2 (.invokevirtual 106) 2 2, o0 (.ireturn)]),
  (10, [o0 (.aload_n 0), o0 (.iload_n 1), o2 (.putfield 103) 0 16, o0 (.iconst 1), o0 (.ireturn)])]
theorem bk_X_seed : okBlks q_X_seed bl_X_seed = true := by decide +kernel
noncomputable def oL_X_seed {ρ : Type} (N : Nat) : List (Nat × (List Value → mS → (Option Value → mS → Option ρ) → Option ρ)) := [(2, C_X_refuse N)]
theorem oo_X_seed {ρ : Type} {t0 : ρ} (N : Nat) : OrcOK Sx R0x oFx nx 2 t0 (mOrc (oL_X_seed N)) := mOrc_OK (List.forall_mem_cons.mpr ⟨cs_X_refuse N (by decide), mz_nil⟩)
noncomputable def f_X_seed (N : Nat) (a1 : Int32) (s : mS) : Option (Int32 × mS) :=
  if a1 < 0 then
    (f_X_refuse N 5 s).bind fun p2 =>
    grd (isb p2.1) (some (p2.1, p2.2))
  else
    let s1 := sI s 16 0 a1
    some (1, s1)
set_option maxRecDepth 100000 in
set_option maxHeartbeats 4000000 in
theorem m_X_seed (N : Nat) {x9 : Int32} {s9 : mS} (a1 : Int32) {s : mS} (h : f_X_seed N a1 s = some (x9, s9)) : MetM Sx R0x oFx nx 2 49 [.ref 0, .int a1] s (some (.int x9)) s9 := by
  refine met_of_G (q := q_X_seed) (t0 := (x9, s9)) y_X_seed (Nat.le_of_ble_eq_true rfl) ?_
  rw [← h]
  exact G_eq (mEv_G (orc := mOrc (oL_X_seed N)) (ret := rtZ) (blks := bl_X_seed) (cuts := []) wOKx (by decide) (oo_X_seed N) (RetOK_Z rfl) bk_X_seed (mz_nil)) rfl
noncomputable def C_X_seed {ρ : Type} (N : Nat) : List Value → mS → (Option Value → mS → Option ρ) → Option ρ := fun vs s kk => sR vs 0 fun r0 => pi1 r0 fun a1 r1 => rv0 r1 ((f_X_seed N a1 s).bind fun p => kk (some (.int p.1)) p.2)
theorem cs_X_seed {ρ : Type} {t0 : ρ} {d : Nat} (N : Nat) (hd : 2 + 1 ≤ d) : CallOK Sx R0x oFx nx d t0 49 (C_X_seed N) := by
  intro vs s kk h0
  obtain ⟨r0, rfl, h1⟩ := sR_some h0
  obtain ⟨a1, r1, rfl, h2⟩ := pi1_some h1
  obtain ⟨rfl, h3⟩ := rv0_some h2
  obtain ⟨p, hp, hk⟩ := Option.bind_eq_some_iff.mp h3
  exact ⟨_, _, _, hd, m_X_seed N a1 hp, hk, fun qy hq hf => by cases y_X_seed.symm.trans hq; exact ⟨_, _, rfl, rfl⟩⟩
/-! METHOD PorterDoors$Rounds.tellOrders(LPorterDoors$Hall;)V -/
set_option maxRecDepth 20000 in
noncomputable def q_Ro_tellOrders : mI := (⟨"PorterDoors$Rounds", "tellOrders", "(LPorterDoors$Hall;)V"⟩, prog_8_method_4_code, 3, none, 7, 1046, 136, 1, 1, 1044, 1045)
theorem y_Ro_tellOrders : mT[119]? = some q_Ro_tellOrders := mT_at_2 (k := 39) rfl
noncomputable def bl_Ro_tellOrders : List (Nat × List mO) := [(0, [o0 (.iconst 0), o0 (.istore_n 2)]),
  (2, [o0 (.iload_n 2), o0 (.bipush 10), o1 (.if_icmp .ge 39) 44, o0 (.aload_n 0), o2 (.getfield 22) 7 1, o2 (.getfield 63) 9 1, o0 (.iload_n 2), o0 (.iload_n 2), o0 (.aload_n 0), o2 (.getfield 18) 7 0, o2 (.getfield 64) 4 1, o1 (.if_icmp .ge 12) 36, o0 (.aload_n 0), o0 (.aload_n 1), o0 (.iload_n 2), o2 (.invokevirtual 67) 114 3, o1 (.goto 4) 37]),
  (36, [o0 (.iconst 0)]),
  (37, [o0 (.iastore), o0 (.iinc 2 1), o1 (.goto (-39)) 2]),
  (44, [o0 (.aload_n 0), o2 (.getfield 22) 7 1, o0 (.aload_n 1), o2 (.getfield 32) 2 0, o0 (.iconst 2), o0 (.iaload), o2 (.putfield 71) 9 2, o0 (.return_)])]
theorem bk_Ro_tellOrders : okBlks q_Ro_tellOrders bl_Ro_tellOrders = true := by decide +kernel
noncomputable def oL_Ro_tellOrders {ρ : Type} (N : Nat) : List (Nat × (List Value → mS → (Option Value → mS → Option ρ) → Option ρ)) := [(114, C_Ro_orderOf N)]
theorem oo_Ro_tellOrders {ρ : Type} {t0 : ρ} (N : Nat) : OrcOK Sx R0x oFx nx 5 t0 (mOrc (oL_Ro_tellOrders N)) := mOrc_OK (List.forall_mem_cons.mpr ⟨cs_Ro_orderOf N (by decide), mz_nil⟩)
noncomputable def H_Ro_tellOrders_2 {ρ : Type} (k : (Nat × Int32 × mS) → Option ρ) : mL → List Value → mS → Option ρ := fun loc st s => cR loc 0 29 (lr1 loc 1 fun v0 => li1 loc 2 fun v1 => rv0 st (k (v0, v1, s)))
noncomputable def f_Ro_tellOrders_L2 (N : Nat) (k2 : (Nat × Int32 × mS) → Option (mS)) (x : Nat × Int32 × mS) : Option (mS) :=
  if x.2.1 < 10 then
    if x.2.1 < (gI x.2.2 401 2) then
      (f_Ro_orderOf N x.1 x.2.1 x.2.2).bind fun p3 =>
      grd (inb x.2.1 10) (
      let s4 := sA p3.2 27 (ix x.2.1) p3.1
      k2 (x.1, (x.2.1 + 1), s4))
    else
      grd (inb x.2.1 10) (
      let s2 := sA x.2.2 27 (ix x.2.1) 0
      k2 (x.1, (x.2.1 + 1), s2))
  else
    grd (isO Sx x.1 2) (
    grd (inb 2 (aln Sx 0 (x.1 + 1))) (
    let s1 := sI x.2.2 902 25 (gA x.2.2 (x.1 + 1) 2)
    some s1))
set_option maxRecDepth 100000 in
set_option maxHeartbeats 4000000 in
theorem t_Ro_tellOrders_2 (N : Nat) {s9 : mS} {k2 : (Nat × Int32 × mS) → Option (mS)} (hk2 : SCd Sx R0x oFx nx 5 q_Ro_tellOrders (none, s9) s9 2 (H_Ro_tellOrders_2 k2)) : SCd Sx R0x oFx nx 5 q_Ro_tellOrders (none, s9) s9 2 (H_Ro_tellOrders_2 (f_Ro_tellOrders_L2 N k2)) := by
  intro loc st s
  refine G_cR (fun h0 => ?_)
  refine G_lr (fun v0 h1 => ?_)
  refine G_li (fun v1 h2 => ?_)
  refine G_rv0 (fun e9 => ?_)
  subst e9
  refine G_sub (loc0 := [(0, .ref 29), (1, .ref v0), (2, .int v1)]) (List.forall_mem_cons.mpr ⟨h0, List.forall_mem_cons.mpr ⟨h1, List.forall_mem_cons.mpr ⟨h2, mz_nil⟩⟩⟩) ?_
  exact G_eq (mEv_G (orc := mOrc (oL_Ro_tellOrders N)) (ret := rtV) (blks := bl_Ro_tellOrders) (cuts := [(2, H_Ro_tellOrders_2 k2)]) wOKx (by decide) (oo_Ro_tellOrders N) (RetOK_V rfl) bk_Ro_tellOrders (List.forall_mem_cons.mpr ⟨hk2, mz_nil⟩)) rfl
theorem s_Ro_tellOrders_2 (N : Nat) {s9 : mS} : SCd Sx R0x oFx nx 5 q_Ro_tellOrders (none, s9) s9 2 (H_Ro_tellOrders_2 (mfix N (f_Ro_tellOrders_L2 N))) := by
  refine mfix_SC (H := H_Ro_tellOrders_2) (fun loc st s => ?_) (fun k hk => t_Ro_tellOrders_2 N hk) N
  refine G_cR (fun h0 => ?_)
  refine G_lr (fun v0 h1 => ?_)
  refine G_li (fun v1 h2 => ?_)
  refine G_rv0 (fun e9 => ?_)
  subst e9
  exact G_none
noncomputable def f_Ro_tellOrders (N : Nat) (a1 : Nat) (s : mS) : Option (mS) :=
  mfix N (f_Ro_tellOrders_L2 N) (a1, 0, s)
set_option maxRecDepth 100000 in
set_option maxHeartbeats 4000000 in
theorem m_Ro_tellOrders (N : Nat) {s9 : mS} (a1 : Nat) {s : mS} (h : f_Ro_tellOrders N a1 s = some s9) : MetM Sx R0x oFx nx 5 119 [.ref 29, .ref a1] s (none) s9 := by
  refine met_of_G (q := q_Ro_tellOrders) (t0 := s9) y_Ro_tellOrders (Nat.le_of_ble_eq_true rfl) ?_
  rw [← h]
  exact G_eq (mEv_G (orc := mOrc (oL_Ro_tellOrders N)) (ret := rtV) (blks := bl_Ro_tellOrders) (cuts := [(2, H_Ro_tellOrders_2 (mfix N (f_Ro_tellOrders_L2 N)))]) wOKx (by decide) (oo_Ro_tellOrders N) (RetOK_V rfl) bk_Ro_tellOrders (List.forall_mem_cons.mpr ⟨s_Ro_tellOrders_2 N, mz_nil⟩)) rfl
noncomputable def C_Ro_tellOrders {ρ : Type} (N : Nat) : List Value → mS → (Option Value → mS → Option ρ) → Option ρ := fun vs s kk => sR vs 29 fun r0 => pr1 r0 fun a1 r1 => rv0 r1 ((f_Ro_tellOrders N a1 s).bind fun p => kk none p)
theorem cs_Ro_tellOrders {ρ : Type} {t0 : ρ} {d : Nat} (N : Nat) (hd : 5 + 1 ≤ d) : CallOK Sx R0x oFx nx d t0 119 (C_Ro_tellOrders N) := by
  intro vs s kk h0
  obtain ⟨r0, rfl, h1⟩ := sR_some h0
  obtain ⟨a1, r1, rfl, h2⟩ := pr1_some h1
  obtain ⟨rfl, h3⟩ := rv0_some h2
  obtain ⟨p, hp, hk⟩ := Option.bind_eq_some_iff.mp h3
  exact ⟨_, _, _, hd, m_Ro_tellOrders N a1 hp, hk, fun qy hq hf => by cases y_Ro_tellOrders.symm.trans hq; exact ⟨_, _, rfl, rfl⟩⟩
/-! METHOD PorterDoors.answerTo(I)J -/
set_option maxRecDepth 20000 in
noncomputable def q_X_answerTo : mI := (⟨"PorterDoors", "answerTo", "(I)J"⟩, prog_1_method_56_code, 11, (some .long), 0, 1042, 129, 1, 1, 1041, 36)
theorem y_X_answerTo : mT[51]? = some q_X_answerTo := mT_at_1 (k := 11) rfl
noncomputable def bl_X_answerTo : List (Nat × List mO) := [(0, [o0 (.aload_n 0), o2 (.getfield 72) 0 10, o0 (.aload_n 0), o2 (.getfield 46) 0 6, o2 (.invokevirtual 352) 119 2, o0 (.iconst (-1)), o0 (.istore_n 2), o0 (.iconst (-1)), o0 (.istore_n 3), o0 (.iconst 0), o0 (.istore 4), o0 (.lconst 0), o0 (.lstore 5), oC (.ldc_w 355) (.int (-1000000)), o0 (.istore 7), oC (.ldc_w 356) (.int 1000000), o0 (.istore 8), o0 (.iconst 0), o0 (.istore 9)]),
  (34, [o0 (.iload 9), o0 (.aload_n 0), o2 (.getfield 20) 0 2, o2 (.getfield 156) 4 0, o1 (.if_icmp .ge 99) 142, o0 (.aload_n 0), o2 (.getfield 63) 0 9, o0 (.aload_n 0), o2 (.getfield 46) 0 6, o0 (.iload 9), o0 (.aload_n 0), o2 (.getfield 20) 0 2, o2 (.getfield 171) 4 2, o2 (.invokevirtual 357) 136 4, o0 (.aload_n 0), o2 (.getfield 63) 0 9, o0 (.aload_n 0), o2 (.getfield 30) 0 4, o0 (.iconst 0), o0 (.aload_n 0), o2 (.getfield 30) 0 4, o2 (.getfield 314) 5 1, o2 (.invokevirtual 361) 137 4, o0 (.istore 10), o0 (.iload 10), o1 (.ifCond .eq 21) 110, o0 (.iload_n 2), o0 (.iconst (-1)), o1 (.if_icmp .ne 8) 102, o0 (.iload 9), o1 (.goto 4) 103]),
  (102, [o0 (.iload_n 2)]),
  (103, [o0 (.istore_n 2), o0 (.iload 9), o0 (.istore_n 3), o0 (.iinc 4 1)]),
  (110, [o0 (.lload 5), o0 (.iload 10), o0 (.i2l), o0 (.ladd), o0 (.lstore 5), o0 (.iload 7), o0 (.iload 10), o2 (.invokestatic 232) 278 2, o0 (.istore 7), o0 (.iload 8), o0 (.iload 10), o2 (.invokestatic 365) 277 2, o0 (.istore 8), o0 (.iinc 9 1), o1 (.goto (-105)) 34]),
  (142, [o0 (.iload_n 1), oS (.tableswitch 58 25 30 #[37, 40, 43, 47, 50, 54]) 201 [180, 183, 186, 190, 193, 197]]),
  (180, [o0 (.iload_n 2), o0 (.i2l), o0 (.lreturn)]),
  (183, [o0 (.iload_n 3), o0 (.i2l), o0 (.lreturn)]),
  (186, [o0 (.iload 4), o0 (.i2l), o0 (.lreturn)]),
  (190, [o0 (.lload 5), o0 (.lreturn)]),
  (193, [o0 (.iload 7), o0 (.i2l), o0 (.lreturn)]),
  (197, [o0 (.iload 8), o0 (.i2l), o0 (.lreturn)]),
  (201, [oC (.ldc2_w 312) (.long (-1000000000000000)), o0 (.lreturn)])]
theorem bk_X_answerTo : okBlks q_X_answerTo bl_X_answerTo = true := by decide +kernel
noncomputable def oL_X_answerTo {ρ : Type} (N : Nat) : List (Nat × (List Value → mS → (Option Value → mS → Option ρ) → Option ρ)) := [(119, C_Ro_tellOrders N), (136, C_Su_standAt N), (137, C_Su_worth N), (278, C_Math_max N), (277, C_Math_min N)]
theorem oo_X_answerTo {ρ : Type} {t0 : ρ} (N : Nat) : OrcOK Sx R0x oFx nx 6 t0 (mOrc (oL_X_answerTo N)) := mOrc_OK (List.forall_mem_cons.mpr ⟨cs_Ro_tellOrders N (by decide), List.forall_mem_cons.mpr ⟨cs_Su_standAt N (by decide), List.forall_mem_cons.mpr ⟨cs_Su_worth N (by decide), List.forall_mem_cons.mpr ⟨cs_Math_max N wOKx (by decide), List.forall_mem_cons.mpr ⟨cs_Math_min N wOKx (by decide), mz_nil⟩⟩⟩⟩⟩)
noncomputable def H_X_answerTo_34 {ρ : Type} (k : (Int32 × Int32 × Int32 × Int32 × Int64 × Int32 × Int32 × Int32 × mS) → Option ρ) : mL → List Value → mS → Option ρ := fun loc st s => cR loc 0 0 (li1 loc 1 fun v0 => li1 loc 2 fun v1 => li1 loc 3 fun v2 => li1 loc 4 fun v3 => ll1 loc 5 fun v4 => li1 loc 7 fun v5 => li1 loc 8 fun v6 => li1 loc 9 fun v7 => rv0 st (k (v0, v1, v2, v3, v4, v5, v6, v7, s)))
noncomputable def H_X_answerTo_110 {ρ : Type} (k : (Int32 × Int32 × Int32 × Int32 × Int64 × Int32 × Int32 × Int32 × Int32 × mS) → Option ρ) : mL → List Value → mS → Option ρ := fun loc st s => cR loc 0 0 (li1 loc 1 fun v0 => li1 loc 2 fun v1 => li1 loc 3 fun v2 => li1 loc 4 fun v3 => ll1 loc 5 fun v4 => li1 loc 7 fun v5 => li1 loc 8 fun v6 => li1 loc 9 fun v7 => li1 loc 10 fun v8 => rv0 st (k (v0, v1, v2, v3, v4, v5, v6, v7, v8, s)))
noncomputable def f_X_answerTo_j110 (N : Nat) (k34 : (Int32 × Int32 × Int32 × Int32 × Int64 × Int32 × Int32 × Int32 × mS) → Option (Int64 × mS)) (x : Int32 × Int32 × Int32 × Int32 × Int64 × Int32 × Int32 × Int32 × Int32 × mS) : Option (Int64 × mS) :=
  (f_Math_max N x.2.2.2.2.2.1 x.2.2.2.2.2.2.2.2.1 x.2.2.2.2.2.2.2.2.2).bind fun p1 =>
  (f_Math_min N x.2.2.2.2.2.2.1 x.2.2.2.2.2.2.2.2.1 p1.2).bind fun p2 =>
  k34 (x.1, x.2.1, x.2.2.1, x.2.2.2.1, (x.2.2.2.2.1 + (x.2.2.2.2.2.2.2.2.1).toInt64), p1.1, p2.1, (x.2.2.2.2.2.2.2.1 + 1), p2.2)
set_option maxRecDepth 100000 in
set_option maxHeartbeats 4000000 in
theorem s_X_answerTo_110 (N : Nat) {x9 : Int64} {s9 : mS} {k34 : (Int32 × Int32 × Int32 × Int32 × Int64 × Int32 × Int32 × Int32 × mS) → Option (Int64 × mS)} (hk34 : SCd Sx R0x oFx nx 6 q_X_answerTo (some (.long x9), s9) (x9, s9) 34 (H_X_answerTo_34 k34)) : SCd Sx R0x oFx nx 6 q_X_answerTo (some (.long x9), s9) (x9, s9) 110 (H_X_answerTo_110 (f_X_answerTo_j110 N k34)) := by
  intro loc st s
  refine G_cR (fun h0 => ?_)
  refine G_li (fun v0 h1 => ?_)
  refine G_li (fun v1 h2 => ?_)
  refine G_li (fun v2 h3 => ?_)
  refine G_li (fun v3 h4 => ?_)
  refine G_ll (fun v4 h5 => ?_)
  refine G_li (fun v5 h7 => ?_)
  refine G_li (fun v6 h8 => ?_)
  refine G_li (fun v7 h9 => ?_)
  refine G_li (fun v8 h10 => ?_)
  refine G_rv0 (fun e9 => ?_)
  subst e9
  refine G_sub (loc0 := [(0, .ref 0), (1, .int v0), (2, .int v1), (3, .int v2), (4, .int v3), (5, .long v4), (7, .int v5), (8, .int v6), (9, .int v7), (10, .int v8)]) (List.forall_mem_cons.mpr ⟨h0, List.forall_mem_cons.mpr ⟨h1, List.forall_mem_cons.mpr ⟨h2, List.forall_mem_cons.mpr ⟨h3, List.forall_mem_cons.mpr ⟨h4, List.forall_mem_cons.mpr ⟨h5, List.forall_mem_cons.mpr ⟨h7, List.forall_mem_cons.mpr ⟨h8, List.forall_mem_cons.mpr ⟨h9, List.forall_mem_cons.mpr ⟨h10, mz_nil⟩⟩⟩⟩⟩⟩⟩⟩⟩⟩) ?_
  exact G_eq (mEv_G (orc := mOrc (oL_X_answerTo N)) (ret := rtL) (blks := bl_X_answerTo) (cuts := [(34, H_X_answerTo_34 k34)]) wOKx (by decide) (oo_X_answerTo N) (RetOK_L rfl) bk_X_answerTo (List.forall_mem_cons.mpr ⟨hk34, mz_nil⟩)) rfl
noncomputable def f_X_answerTo_L34 (N : Nat) (k34 : (Int32 × Int32 × Int32 × Int32 × Int64 × Int32 × Int32 × Int32 × mS) → Option (Int64 × mS)) (x : Int32 × Int32 × Int32 × Int32 × Int64 × Int32 × Int32 × Int32 × mS) : Option (Int64 × mS) :=
  if x.2.2.2.2.2.2.2.1 < (gI x.2.2.2.2.2.2.2.2 400 2) then
    (f_Su_standAt N 19 x.2.2.2.2.2.2.2.1 (gI x.2.2.2.2.2.2.2.2 402 2) x.2.2.2.2.2.2.2.2).bind fun p1 =>
    (f_Su_worth N 16 0 (gI p1 501 16) p1).bind fun p2 =>
    if p2.1 = 0 then
      f_X_answerTo_j110 N k34 (x.1, x.2.1, x.2.2.1, x.2.2.2.1, x.2.2.2.2.1, x.2.2.2.2.2.1, x.2.2.2.2.2.2.1, x.2.2.2.2.2.2.2.1, p2.1, p2.2)
    else
      if x.2.1 = (-1) then
        f_X_answerTo_j110 N k34 (x.1, x.2.2.2.2.2.2.2.1, x.2.2.2.2.2.2.2.1, (x.2.2.2.1 + 1), x.2.2.2.2.1, x.2.2.2.2.2.1, x.2.2.2.2.2.2.1, x.2.2.2.2.2.2.2.1, p2.1, p2.2)
      else
        f_X_answerTo_j110 N k34 (x.1, x.2.1, x.2.2.2.2.2.2.2.1, (x.2.2.2.1 + 1), x.2.2.2.2.1, x.2.2.2.2.2.1, x.2.2.2.2.2.2.1, x.2.2.2.2.2.2.2.1, p2.1, p2.2)
  else
    if x.1 = 25 then
      some ((x.2.1).toInt64, x.2.2.2.2.2.2.2.2)
    else if x.1 = 26 then
      some ((x.2.2.1).toInt64, x.2.2.2.2.2.2.2.2)
    else if x.1 = 27 then
      some ((x.2.2.2.1).toInt64, x.2.2.2.2.2.2.2.2)
    else if x.1 = 28 then
      some (x.2.2.2.2.1, x.2.2.2.2.2.2.2.2)
    else if x.1 = 29 then
      some ((x.2.2.2.2.2.1).toInt64, x.2.2.2.2.2.2.2.2)
    else if x.1 = 30 then
      some ((x.2.2.2.2.2.2.1).toInt64, x.2.2.2.2.2.2.2.2)
    else
      some ((-1000000000000000), x.2.2.2.2.2.2.2.2)
set_option maxRecDepth 100000 in
set_option maxHeartbeats 4000000 in
theorem t_X_answerTo_34 (N : Nat) {x9 : Int64} {s9 : mS} {k34 : (Int32 × Int32 × Int32 × Int32 × Int64 × Int32 × Int32 × Int32 × mS) → Option (Int64 × mS)} (hk34 : SCd Sx R0x oFx nx 6 q_X_answerTo (some (.long x9), s9) (x9, s9) 34 (H_X_answerTo_34 k34)) : SCd Sx R0x oFx nx 6 q_X_answerTo (some (.long x9), s9) (x9, s9) 34 (H_X_answerTo_34 (f_X_answerTo_L34 N k34)) := by
  intro loc st s
  refine G_cR (fun h0 => ?_)
  refine G_li (fun v0 h1 => ?_)
  refine G_li (fun v1 h2 => ?_)
  refine G_li (fun v2 h3 => ?_)
  refine G_li (fun v3 h4 => ?_)
  refine G_ll (fun v4 h5 => ?_)
  refine G_li (fun v5 h7 => ?_)
  refine G_li (fun v6 h8 => ?_)
  refine G_li (fun v7 h9 => ?_)
  refine G_rv0 (fun e9 => ?_)
  subst e9
  refine G_sub (loc0 := [(0, .ref 0), (1, .int v0), (2, .int v1), (3, .int v2), (4, .int v3), (5, .long v4), (7, .int v5), (8, .int v6), (9, .int v7)]) (List.forall_mem_cons.mpr ⟨h0, List.forall_mem_cons.mpr ⟨h1, List.forall_mem_cons.mpr ⟨h2, List.forall_mem_cons.mpr ⟨h3, List.forall_mem_cons.mpr ⟨h4, List.forall_mem_cons.mpr ⟨h5, List.forall_mem_cons.mpr ⟨h7, List.forall_mem_cons.mpr ⟨h8, List.forall_mem_cons.mpr ⟨h9, mz_nil⟩⟩⟩⟩⟩⟩⟩⟩⟩) ?_
  exact G_eq (mEv_G (orc := mOrc (oL_X_answerTo N)) (ret := rtL) (blks := bl_X_answerTo) (cuts := [(110, H_X_answerTo_110 (f_X_answerTo_j110 N k34))]) wOKx (by decide) (oo_X_answerTo N) (RetOK_L rfl) bk_X_answerTo (List.forall_mem_cons.mpr ⟨s_X_answerTo_110 N hk34, mz_nil⟩)) rfl
theorem s_X_answerTo_34 (N : Nat) {x9 : Int64} {s9 : mS} : SCd Sx R0x oFx nx 6 q_X_answerTo (some (.long x9), s9) (x9, s9) 34 (H_X_answerTo_34 (mfix N (f_X_answerTo_L34 N))) := by
  refine mfix_SC (H := H_X_answerTo_34) (fun loc st s => ?_) (fun k hk => t_X_answerTo_34 N hk) N
  refine G_cR (fun h0 => ?_)
  refine G_li (fun v0 h1 => ?_)
  refine G_li (fun v1 h2 => ?_)
  refine G_li (fun v2 h3 => ?_)
  refine G_li (fun v3 h4 => ?_)
  refine G_ll (fun v4 h5 => ?_)
  refine G_li (fun v5 h7 => ?_)
  refine G_li (fun v6 h8 => ?_)
  refine G_li (fun v7 h9 => ?_)
  refine G_rv0 (fun e9 => ?_)
  subst e9
  exact G_none
noncomputable def f_X_answerTo (N : Nat) (a1 : Int32) (s : mS) : Option (Int64 × mS) :=
  (f_Ro_tellOrders N 19 s).bind fun p1 =>
  mfix N (f_X_answerTo_L34 N) (a1, (-1), (-1), 0, 0, (-1000000), 1000000, 0, p1)
set_option maxRecDepth 100000 in
set_option maxHeartbeats 4000000 in
theorem m_X_answerTo (N : Nat) {x9 : Int64} {s9 : mS} (a1 : Int32) {s : mS} (h : f_X_answerTo N a1 s = some (x9, s9)) : MetM Sx R0x oFx nx 6 51 [.ref 0, .int a1] s (some (.long x9)) s9 := by
  refine met_of_G (q := q_X_answerTo) (t0 := (x9, s9)) y_X_answerTo (Nat.le_of_ble_eq_true rfl) ?_
  rw [← h]
  exact G_eq (mEv_G (orc := mOrc (oL_X_answerTo N)) (ret := rtL) (blks := bl_X_answerTo) (cuts := [(34, H_X_answerTo_34 (mfix N (f_X_answerTo_L34 N)))]) wOKx (by decide) (oo_X_answerTo N) (RetOK_L rfl) bk_X_answerTo (List.forall_mem_cons.mpr ⟨s_X_answerTo_34 N, mz_nil⟩)) rfl
noncomputable def C_X_answerTo {ρ : Type} (N : Nat) : List Value → mS → (Option Value → mS → Option ρ) → Option ρ := fun vs s kk => sR vs 0 fun r0 => pi1 r0 fun a1 r1 => rv0 r1 ((f_X_answerTo N a1 s).bind fun p => kk (some (.long p.1)) p.2)
theorem cs_X_answerTo {ρ : Type} {t0 : ρ} {d : Nat} (N : Nat) (hd : 6 + 1 ≤ d) : CallOK Sx R0x oFx nx d t0 51 (C_X_answerTo N) := by
  intro vs s kk h0
  obtain ⟨r0, rfl, h1⟩ := sR_some h0
  obtain ⟨a1, r1, rfl, h2⟩ := pi1_some h1
  obtain ⟨rfl, h3⟩ := rv0_some h2
  obtain ⟨p, hp, hk⟩ := Option.bind_eq_some_iff.mp h3
  exact ⟨_, _, _, hd, m_X_answerTo N a1 hp, hk, fun qy hq hf => by cases y_X_answerTo.symm.trans hq; exact ⟨_, _, rfl, rfl⟩⟩
/-! METHOD PorterDoors.write(II)V -/
set_option maxRecDepth 20000 in
noncomputable def q_X_write : mI := (⟨"PorterDoors", "write", "(II)V"⟩, prog_1_method_57_code, 4, none, 0, 1059, 129, 1, 2, 1058, 37)
theorem y_X_write : mT[53]? = some q_X_write := mT_at_1 (k := 13) rfl
noncomputable def bl_X_write : List (Nat × List mO) := [(0, [o0 (.bipush 8), o0 (.iload_n 2), o0 (.imul), o0 (.bipush 8), o0 (.isub), o0 (.istore_n 3)]),
  (8, [o0 (.iload_n 3), o1 (.ifCond .lt 47) 56, o0 (.aload_n 0), o2 (.getfield 97) 0 14, o0 (.aload_n 0), o2 (.getfield 94) 0 13, o0 (.arraylength), o1 (.if_icmp .ge 35) 56, o0 (.aload_n 0), o2 (.getfield 94) 0 13, o0 (.aload_n 0), o2 (.getfield 97) 0 14, o0 (.iload_n 1), o0 (.iload_n 3), o0 (.ishr), o0 (.sipush 255), o0 (.iand), o0 (.iastore), o0 (.aload_n 0), o0 (.dup), o2 (.getfield 97) 0 14, o0 (.iconst 1), o0 (.iadd), o2 (.putfield 97) 0 14, o0 (.iinc 3 (-8)), o1 (.goto (-45)) 8]),
  (56, [o0 (.return_)])]
theorem bk_X_write : okBlks q_X_write bl_X_write = true := by decide +kernel
noncomputable def oL_X_write {ρ : Type} (N : Nat) : List (Nat × (List Value → mS → (Option Value → mS → Option ρ) → Option ρ)) := []
theorem oo_X_write {ρ : Type} {t0 : ρ} (N : Nat) : OrcOK Sx R0x oFx nx 1 t0 (mOrc (oL_X_write N)) := mOrc_OK (mz_nil)
noncomputable def H_X_write_8 {ρ : Type} (k : (Int32 × Int32 × mS) → Option ρ) : mL → List Value → mS → Option ρ := fun loc st s => cR loc 0 0 (li1 loc 1 fun v0 => li1 loc 3 fun v1 => rv0 st (k (v0, v1, s)))
noncomputable def f_X_write_L8 (N : Nat) (k8 : (Int32 × Int32 × mS) → Option (mS)) (x : Int32 × Int32 × mS) : Option (mS) :=
  if x.2.1 < 0 then
    some x.2.2
  else
    if (gI x.2.2 14 0) < 88 then
      grd (inb (gI x.2.2 14 0) 88) (
      let s1 := sA x.2.2 40 (ix (gI x.2.2 14 0)) ((irs x.1 x.2.1) &&& 255)
      let s2 := sI s1 14 0 ((gI s1 14 0) + 1)
      k8 (x.1, (x.2.1 - 8), s2))
    else
      some x.2.2
set_option maxRecDepth 100000 in
set_option maxHeartbeats 4000000 in
theorem t_X_write_8 (N : Nat) {s9 : mS} {k8 : (Int32 × Int32 × mS) → Option (mS)} (hk8 : SCd Sx R0x oFx nx 1 q_X_write (none, s9) s9 8 (H_X_write_8 k8)) : SCd Sx R0x oFx nx 1 q_X_write (none, s9) s9 8 (H_X_write_8 (f_X_write_L8 N k8)) := by
  intro loc st s
  refine G_cR (fun h0 => ?_)
  refine G_li (fun v0 h1 => ?_)
  refine G_li (fun v1 h3 => ?_)
  refine G_rv0 (fun e9 => ?_)
  subst e9
  refine G_sub (loc0 := [(0, .ref 0), (1, .int v0), (3, .int v1)]) (List.forall_mem_cons.mpr ⟨h0, List.forall_mem_cons.mpr ⟨h1, List.forall_mem_cons.mpr ⟨h3, mz_nil⟩⟩⟩) ?_
  exact G_eq (mEv_G (orc := mOrc (oL_X_write N)) (ret := rtV) (blks := bl_X_write) (cuts := [(8, H_X_write_8 k8)]) wOKx (by decide) (oo_X_write N) (RetOK_V rfl) bk_X_write (List.forall_mem_cons.mpr ⟨hk8, mz_nil⟩)) rfl
theorem s_X_write_8 (N : Nat) {s9 : mS} : SCd Sx R0x oFx nx 1 q_X_write (none, s9) s9 8 (H_X_write_8 (mfix N (f_X_write_L8 N))) := by
  refine mfix_SC (H := H_X_write_8) (fun loc st s => ?_) (fun k hk => t_X_write_8 N hk) N
  refine G_cR (fun h0 => ?_)
  refine G_li (fun v0 h1 => ?_)
  refine G_li (fun v1 h3 => ?_)
  refine G_rv0 (fun e9 => ?_)
  subst e9
  exact G_none
noncomputable def f_X_write (N : Nat) (a1 : Int32) (a2 : Int32) (s : mS) : Option (mS) :=
  mfix N (f_X_write_L8 N) (a1, ((8 * a2) - 8), s)
set_option maxRecDepth 100000 in
set_option maxHeartbeats 4000000 in
theorem m_X_write (N : Nat) {s9 : mS} (a1 : Int32) (a2 : Int32) {s : mS} (h : f_X_write N a1 a2 s = some s9) : MetM Sx R0x oFx nx 1 53 [.ref 0, .int a1, .int a2] s (none) s9 := by
  refine met_of_G (q := q_X_write) (t0 := s9) y_X_write (Nat.le_of_ble_eq_true rfl) ?_
  rw [← h]
  exact G_eq (mEv_G (orc := mOrc (oL_X_write N)) (ret := rtV) (blks := bl_X_write) (cuts := [(8, H_X_write_8 (mfix N (f_X_write_L8 N)))]) wOKx (by decide) (oo_X_write N) (RetOK_V rfl) bk_X_write (List.forall_mem_cons.mpr ⟨s_X_write_8 N, mz_nil⟩)) rfl
noncomputable def C_X_write {ρ : Type} (N : Nat) : List Value → mS → (Option Value → mS → Option ρ) → Option ρ := fun vs s kk => sR vs 0 fun r0 => pi1 r0 fun a1 r1 => pi1 r1 fun a2 r2 => rv0 r2 ((f_X_write N a1 a2 s).bind fun p => kk none p)
theorem cs_X_write {ρ : Type} {t0 : ρ} {d : Nat} (N : Nat) (hd : 1 + 1 ≤ d) : CallOK Sx R0x oFx nx d t0 53 (C_X_write N) := by
  intro vs s kk h0
  obtain ⟨r0, rfl, h1⟩ := sR_some h0
  obtain ⟨a1, r1, rfl, h2⟩ := pi1_some h1
  obtain ⟨a2, r2, rfl, h3⟩ := pi1_some h2
  obtain ⟨rfl, h4⟩ := rv0_some h3
  obtain ⟨p, hp, hk⟩ := Option.bind_eq_some_iff.mp h4
  exact ⟨_, _, _, hd, m_X_write N a1 a2 hp, hk, fun qy hq hf => by cases y_X_write.symm.trans hq; exact ⟨_, _, rfl, rfl⟩⟩
/-! METHOD PorterDoors.checkOf([II)I -/
set_option maxRecDepth 20000 in
noncomputable def q_X_checkOf : mI := (⟨"PorterDoors", "checkOf", "([II)I"⟩, prog_1_method_58_code, 4, (some .int), 0, 1062, 129, 0, 2, 1061, 0)
theorem y_X_checkOf : mT[54]? = some q_X_checkOf := mT_at_1 (k := 14) rfl
noncomputable def bl_X_checkOf : List (Nat × List mO) := [(0, [o0 (.sipush 193), o0 (.istore_n 2), o0 (.iconst 0), o0 (.istore_n 3)]),
  (6, [o0 (.iload_n 3), o0 (.iload_n 1), o1 (.if_icmp .ge 27) 35, o0 (.iload_n 3), o0 (.aload_n 0), o0 (.arraylength), o1 (.if_icmp .ge 21) 35, o0 (.iconst 3), o0 (.iload_n 2), o0 (.imul), o0 (.aload_n 0), o0 (.iload_n 3), o0 (.iaload), o0 (.iadd), o0 (.sipush 251), o0 (.irem), o0 (.istore_n 2), o0 (.iinc 3 1), o1 (.goto (-26)) 6]),
  (35, [o0 (.iload_n 2), o0 (.ireturn)])]
theorem bk_X_checkOf : okBlks q_X_checkOf bl_X_checkOf = true := by decide +kernel
noncomputable def oL_X_checkOf {ρ : Type} (N : Nat) : List (Nat × (List Value → mS → (Option Value → mS → Option ρ) → Option ρ)) := []
theorem oo_X_checkOf {ρ : Type} {t0 : ρ} (N : Nat) : OrcOK Sx R0x oFx nx 1 t0 (mOrc (oL_X_checkOf N)) := mOrc_OK (mz_nil)
noncomputable def H_X_checkOf_6 {ρ : Type} (k : (Nat × Int32 × Int32 × Int32 × mS) → Option ρ) : mL → List Value → mS → Option ρ := fun loc st s => lr1 loc 0 fun v0 => li1 loc 1 fun v1 => li1 loc 2 fun v2 => li1 loc 3 fun v3 => rv0 st (k (v0, v1, v2, v3, s))
noncomputable def f_X_checkOf_L6 (N : Nat) (k6 : (Nat × Int32 × Int32 × Int32 × mS) → Option (Int32 × mS)) (x : Nat × Int32 × Int32 × Int32 × mS) : Option (Int32 × mS) :=
  if x.2.2.2.1 < x.2.1 then
    grd (isA Sx x.1) (
    if x.2.2.2.1 < (Int32.ofNat (alA Sx x.1)) then
      grd (inb x.2.2.2.1 (aln Sx 0 x.1)) (
      let v1 := (irm ((3 * x.2.2.1) + (gA x.2.2.2.2 x.1 (ix x.2.2.2.1))) 251)
      k6 (x.1, x.2.1, v1, (x.2.2.2.1 + 1), x.2.2.2.2))
    else
      some (x.2.2.1, x.2.2.2.2))
  else
    some (x.2.2.1, x.2.2.2.2)
set_option maxRecDepth 100000 in
set_option maxHeartbeats 4000000 in
theorem t_X_checkOf_6 (N : Nat) {x9 : Int32} {s9 : mS} {k6 : (Nat × Int32 × Int32 × Int32 × mS) → Option (Int32 × mS)} (hk6 : SCd Sx R0x oFx nx 1 q_X_checkOf (some (.int x9), s9) (x9, s9) 6 (H_X_checkOf_6 k6)) : SCd Sx R0x oFx nx 1 q_X_checkOf (some (.int x9), s9) (x9, s9) 6 (H_X_checkOf_6 (f_X_checkOf_L6 N k6)) := by
  intro loc st s
  refine G_lr (fun v0 h0 => ?_)
  refine G_li (fun v1 h1 => ?_)
  refine G_li (fun v2 h2 => ?_)
  refine G_li (fun v3 h3 => ?_)
  refine G_rv0 (fun e9 => ?_)
  subst e9
  refine G_sub (loc0 := [(0, .ref v0), (1, .int v1), (2, .int v2), (3, .int v3)]) (List.forall_mem_cons.mpr ⟨h0, List.forall_mem_cons.mpr ⟨h1, List.forall_mem_cons.mpr ⟨h2, List.forall_mem_cons.mpr ⟨h3, mz_nil⟩⟩⟩⟩) ?_
  exact G_eq (mEv_G (orc := mOrc (oL_X_checkOf N)) (ret := rtI) (blks := bl_X_checkOf) (cuts := [(6, H_X_checkOf_6 k6)]) wOKx (by decide) (oo_X_checkOf N) (RetOK_I rfl) bk_X_checkOf (List.forall_mem_cons.mpr ⟨hk6, mz_nil⟩)) rfl
theorem s_X_checkOf_6 (N : Nat) {x9 : Int32} {s9 : mS} : SCd Sx R0x oFx nx 1 q_X_checkOf (some (.int x9), s9) (x9, s9) 6 (H_X_checkOf_6 (mfix N (f_X_checkOf_L6 N))) := by
  refine mfix_SC (H := H_X_checkOf_6) (fun loc st s => ?_) (fun k hk => t_X_checkOf_6 N hk) N
  refine G_lr (fun v0 h0 => ?_)
  refine G_li (fun v1 h1 => ?_)
  refine G_li (fun v2 h2 => ?_)
  refine G_li (fun v3 h3 => ?_)
  refine G_rv0 (fun e9 => ?_)
  subst e9
  exact G_none
noncomputable def f_X_checkOf (N : Nat) (a0 : Nat) (a1 : Int32) (s : mS) : Option (Int32 × mS) :=
  mfix N (f_X_checkOf_L6 N) (a0, a1, 193, 0, s)
set_option maxRecDepth 100000 in
set_option maxHeartbeats 4000000 in
theorem m_X_checkOf (N : Nat) {x9 : Int32} {s9 : mS} (a0 : Nat) (a1 : Int32) {s : mS} (h : f_X_checkOf N a0 a1 s = some (x9, s9)) : MetM Sx R0x oFx nx 1 54 [.ref a0, .int a1] s (some (.int x9)) s9 := by
  refine met_of_G (q := q_X_checkOf) (t0 := (x9, s9)) y_X_checkOf (Nat.le_of_ble_eq_true rfl) ?_
  rw [← h]
  exact G_eq (mEv_G (orc := mOrc (oL_X_checkOf N)) (ret := rtI) (blks := bl_X_checkOf) (cuts := [(6, H_X_checkOf_6 (mfix N (f_X_checkOf_L6 N)))]) wOKx (by decide) (oo_X_checkOf N) (RetOK_I rfl) bk_X_checkOf (List.forall_mem_cons.mpr ⟨s_X_checkOf_6 N, mz_nil⟩)) rfl
noncomputable def C_X_checkOf {ρ : Type} (N : Nat) : List Value → mS → (Option Value → mS → Option ρ) → Option ρ := fun vs s kk => pr1 vs fun a0 r0 => pi1 r0 fun a1 r1 => rv0 r1 ((f_X_checkOf N a0 a1 s).bind fun p => kk (some (.int p.1)) p.2)
theorem cs_X_checkOf {ρ : Type} {t0 : ρ} {d : Nat} (N : Nat) (hd : 1 + 1 ≤ d) : CallOK Sx R0x oFx nx d t0 54 (C_X_checkOf N) := by
  intro vs s kk h0
  obtain ⟨a0, r0, rfl, h1⟩ := pr1_some h0
  obtain ⟨a1, r1, rfl, h2⟩ := pi1_some h1
  obtain ⟨rfl, h3⟩ := rv0_some h2
  obtain ⟨p, hp, hk⟩ := Option.bind_eq_some_iff.mp h3
  exact ⟨_, _, _, hd, m_X_checkOf N a0 a1 hp, hk, fun qy hq hf => by cases y_X_checkOf.symm.trans hq; exact absurd hf (by decide)⟩
/-! METHOD PorterDoors.image()I -/
set_option maxRecDepth 20000 in
noncomputable def q_X_image : mI := (⟨"PorterDoors", "image", "()I"⟩, prog_1_method_36_code, 3, (some .int), 0, 1055, 129, 1, 0, 1053, 1054)
theorem y_X_image : mT[52]? = some q_X_image := mT_at_1 (k := 12) rfl
noncomputable def bl_X_image : List (Nat × List mO) := [(0, [o0 (.aload_n 0), o2 (.getfield 46) 0 6, o2 (.getfield 162) 2 0, o0 (.astore_n 1), o0 (.aload_n 0), o0 (.iconst 0), o2 (.putfield 97) 0 14, o0 (.aload_n 0), o0 (.aload_n 1), o0 (.iconst 0), o0 (.iaload), o0 (.iconst 2), o2 (.invokevirtual 323) 53 3, o0 (.aload_n 0), o0 (.aload_n 1), o0 (.iconst 1), o0 (.iaload), o0 (.iconst 3), o2 (.invokevirtual 323) 53 3, o0 (.iconst 0), o0 (.istore_n 2)]),
  (31, [o0 (.iload_n 2), o0 (.aload_n 0), o2 (.getfield 20) 0 2, o2 (.getfield 156) 4 0, o1 (.if_icmp .ge 43) 82, o0 (.aload_n 0), o0 (.aload_n 0), o2 (.getfield 46) 0 6, o0 (.iload_n 2), o2 (.invokevirtual 193) 70 2, o0 (.iconst 1), o2 (.invokevirtual 323) 53 3, o0 (.aload_n 0), o0 (.aload_n 1), o0 (.iconst 4), o0 (.iload_n 2), o0 (.iadd), o0 (.iaload), o0 (.iconst 1), o2 (.invokevirtual 323) 53 3, o0 (.aload_n 0), o0 (.aload_n 1), o0 (.bipush 28), o0 (.iload_n 2), o0 (.iadd), o0 (.iaload), o0 (.iconst 1), o2 (.invokevirtual 323) 53 3, o0 (.iinc 2 1), o1 (.goto (-48)) 31]),
  (82, [o0 (.iconst 0), o0 (.istore_n 2)]),
  (84, [o0 (.iload_n 2), o0 (.aload_n 0), o2 (.getfield 20) 0 2, o2 (.getfield 159) 4 1, o1 (.if_icmp .ge 20) 112, o0 (.aload_n 0), o0 (.aload_n 1), o0 (.bipush 52), o0 (.iload_n 2), o0 (.iadd), o0 (.iaload), o0 (.iconst 1), o2 (.invokevirtual 323) 53 3, o0 (.iinc 2 1), o1 (.goto (-25)) 84]),
  (112, [o0 (.aload_n 0), o0 (.aload_n 0), o2 (.getfield 94) 0 13, o0 (.aload_n 0), o2 (.getfield 97) 0 14, o2 (.invokestatic 326) 54 2, o0 (.iconst 1), o2 (.invokevirtual 323) 53 3, o0 (.aload_n 0), o2 (.getfield 97) 0 14, o0 (.ireturn)])]
theorem bk_X_image : okBlks q_X_image bl_X_image = true := by decide +kernel
noncomputable def oL_X_image {ρ : Type} (N : Nat) : List (Nat × (List Value → mS → (Option Value → mS → Option ρ) → Option ρ)) := [(53, C_X_write N), (70, C_Ha_isOpen N), (54, C_X_checkOf N)]
theorem oo_X_image {ρ : Type} {t0 : ρ} (N : Nat) : OrcOK Sx R0x oFx nx 2 t0 (mOrc (oL_X_image N)) := mOrc_OK (List.forall_mem_cons.mpr ⟨cs_X_write N (by decide), List.forall_mem_cons.mpr ⟨cs_Ha_isOpen N (by decide), List.forall_mem_cons.mpr ⟨cs_X_checkOf N (by decide), mz_nil⟩⟩⟩)
noncomputable def H_X_image_31 {ρ : Type} (k : (Nat × Int32 × mS) → Option ρ) : mL → List Value → mS → Option ρ := fun loc st s => cR loc 0 0 (lr1 loc 1 fun v0 => li1 loc 2 fun v1 => rv0 st (k (v0, v1, s)))
noncomputable def H_X_image_84 {ρ : Type} (k : (Nat × Int32 × mS) → Option ρ) : mL → List Value → mS → Option ρ := fun loc st s => cR loc 0 0 (lr1 loc 1 fun v0 => li1 loc 2 fun v1 => rv0 st (k (v0, v1, s)))
noncomputable def f_X_image_L84 (N : Nat) (k84 : (Nat × Int32 × mS) → Option (Int32 × mS)) (x : Nat × Int32 × mS) : Option (Int32 × mS) :=
  if x.2.1 < (gI x.2.2 401 2) then
    grd (inb (52 + x.2.1) (aln Sx 0 x.1)) (
    (f_X_write N (gA x.2.2 x.1 (ix (52 + x.2.1))) 1 x.2.2).bind fun p3 =>
    k84 (x.1, (x.2.1 + 1), p3))
  else
    (f_X_checkOf N 40 (gI x.2.2 14 0) x.2.2).bind fun p1 =>
    (f_X_write N p1.1 1 p1.2).bind fun p2 =>
    some ((gI p2 14 0), p2)
set_option maxRecDepth 100000 in
set_option maxHeartbeats 4000000 in
theorem t_X_image_84 (N : Nat) {x9 : Int32} {s9 : mS} {k84 : (Nat × Int32 × mS) → Option (Int32 × mS)} (hk84 : SCd Sx R0x oFx nx 2 q_X_image (some (.int x9), s9) (x9, s9) 84 (H_X_image_84 k84)) : SCd Sx R0x oFx nx 2 q_X_image (some (.int x9), s9) (x9, s9) 84 (H_X_image_84 (f_X_image_L84 N k84)) := by
  intro loc st s
  refine G_cR (fun h0 => ?_)
  refine G_lr (fun v0 h1 => ?_)
  refine G_li (fun v1 h2 => ?_)
  refine G_rv0 (fun e9 => ?_)
  subst e9
  refine G_sub (loc0 := [(0, .ref 0), (1, .ref v0), (2, .int v1)]) (List.forall_mem_cons.mpr ⟨h0, List.forall_mem_cons.mpr ⟨h1, List.forall_mem_cons.mpr ⟨h2, mz_nil⟩⟩⟩) ?_
  exact G_eq (mEv_G (orc := mOrc (oL_X_image N)) (ret := rtI) (blks := bl_X_image) (cuts := [(84, H_X_image_84 k84)]) wOKx (by decide) (oo_X_image N) (RetOK_I rfl) bk_X_image (List.forall_mem_cons.mpr ⟨hk84, mz_nil⟩)) rfl
theorem s_X_image_84 (N : Nat) {x9 : Int32} {s9 : mS} : SCd Sx R0x oFx nx 2 q_X_image (some (.int x9), s9) (x9, s9) 84 (H_X_image_84 (mfix N (f_X_image_L84 N))) := by
  refine mfix_SC (H := H_X_image_84) (fun loc st s => ?_) (fun k hk => t_X_image_84 N hk) N
  refine G_cR (fun h0 => ?_)
  refine G_lr (fun v0 h1 => ?_)
  refine G_li (fun v1 h2 => ?_)
  refine G_rv0 (fun e9 => ?_)
  subst e9
  exact G_none
noncomputable def f_X_image_L31 (N : Nat) (k31 : (Nat × Int32 × mS) → Option (Int32 × mS)) (x : Nat × Int32 × mS) : Option (Int32 × mS) :=
  if x.2.1 < (gI x.2.2 400 2) then
    (f_Ha_isOpen N 19 x.2.1 x.2.2).bind fun p1 =>
    (f_X_write N p1.1 1 p1.2).bind fun p2 =>
    grd (inb (4 + x.2.1) (aln Sx 0 x.1)) (
    (f_X_write N (gA p2 x.1 (ix (4 + x.2.1))) 1 p2).bind fun p3 =>
    grd (inb (28 + x.2.1) (aln Sx 0 x.1)) (
    (f_X_write N (gA p3 x.1 (ix (28 + x.2.1))) 1 p3).bind fun p4 =>
    k31 (x.1, (x.2.1 + 1), p4)))
  else
    mfix N (f_X_image_L84 N) (x.1, 0, x.2.2)
set_option maxRecDepth 100000 in
set_option maxHeartbeats 4000000 in
theorem t_X_image_31 (N : Nat) {x9 : Int32} {s9 : mS} {k31 : (Nat × Int32 × mS) → Option (Int32 × mS)} (hk31 : SCd Sx R0x oFx nx 2 q_X_image (some (.int x9), s9) (x9, s9) 31 (H_X_image_31 k31)) : SCd Sx R0x oFx nx 2 q_X_image (some (.int x9), s9) (x9, s9) 31 (H_X_image_31 (f_X_image_L31 N k31)) := by
  intro loc st s
  refine G_cR (fun h0 => ?_)
  refine G_lr (fun v0 h1 => ?_)
  refine G_li (fun v1 h2 => ?_)
  refine G_rv0 (fun e9 => ?_)
  subst e9
  refine G_sub (loc0 := [(0, .ref 0), (1, .ref v0), (2, .int v1)]) (List.forall_mem_cons.mpr ⟨h0, List.forall_mem_cons.mpr ⟨h1, List.forall_mem_cons.mpr ⟨h2, mz_nil⟩⟩⟩) ?_
  exact G_eq (mEv_G (orc := mOrc (oL_X_image N)) (ret := rtI) (blks := bl_X_image) (cuts := [(31, H_X_image_31 k31), (84, H_X_image_84 (mfix N (f_X_image_L84 N)))]) wOKx (by decide) (oo_X_image N) (RetOK_I rfl) bk_X_image (List.forall_mem_cons.mpr ⟨hk31, List.forall_mem_cons.mpr ⟨s_X_image_84 N, mz_nil⟩⟩)) rfl
theorem s_X_image_31 (N : Nat) {x9 : Int32} {s9 : mS} : SCd Sx R0x oFx nx 2 q_X_image (some (.int x9), s9) (x9, s9) 31 (H_X_image_31 (mfix N (f_X_image_L31 N))) := by
  refine mfix_SC (H := H_X_image_31) (fun loc st s => ?_) (fun k hk => t_X_image_31 N hk) N
  refine G_cR (fun h0 => ?_)
  refine G_lr (fun v0 h1 => ?_)
  refine G_li (fun v1 h2 => ?_)
  refine G_rv0 (fun e9 => ?_)
  subst e9
  exact G_none
noncomputable def f_X_image (N : Nat) (s : mS) : Option (Int32 × mS) :=
  let s1 := sI s 14 0 0
  (f_X_write N (gA s1 20 0) 2 s1).bind fun p2 =>
  (f_X_write N (gA p2 20 1) 3 p2).bind fun p3 =>
  mfix N (f_X_image_L31 N) (20, 0, p3)
set_option maxRecDepth 100000 in
set_option maxHeartbeats 4000000 in
theorem m_X_image (N : Nat) {x9 : Int32} {s9 : mS} {s : mS} (h : f_X_image N s = some (x9, s9)) : MetM Sx R0x oFx nx 2 52 [.ref 0] s (some (.int x9)) s9 := by
  refine met_of_G (q := q_X_image) (t0 := (x9, s9)) y_X_image (Nat.le_of_ble_eq_true rfl) ?_
  rw [← h]
  exact G_eq (mEv_G (orc := mOrc (oL_X_image N)) (ret := rtI) (blks := bl_X_image) (cuts := [(31, H_X_image_31 (mfix N (f_X_image_L31 N)))]) wOKx (by decide) (oo_X_image N) (RetOK_I rfl) bk_X_image (List.forall_mem_cons.mpr ⟨s_X_image_31 N, mz_nil⟩)) rfl
noncomputable def C_X_image {ρ : Type} (N : Nat) : List Value → mS → (Option Value → mS → Option ρ) → Option ρ := fun vs s kk => sR vs 0 fun r0 => rv0 r0 ((f_X_image N s).bind fun p => kk (some (.int p.1)) p.2)
theorem cs_X_image {ρ : Type} {t0 : ρ} {d : Nat} (N : Nat) (hd : 2 + 1 ≤ d) : CallOK Sx R0x oFx nx d t0 52 (C_X_image N) := by
  intro vs s kk h0
  obtain ⟨r0, rfl, h1⟩ := sR_some h0
  obtain ⟨rfl, h2⟩ := rv0_some h1
  obtain ⟨p, hp, hk⟩ := Option.bind_eq_some_iff.mp h2
  exact ⟨_, _, _, hd, m_X_image N hp, hk, fun qy hq hf => by cases y_X_image.symm.trans hq; exact ⟨_, _, rfl, rfl⟩⟩
/-! METHOD PorterDoors.octet(I)I -/
set_option maxRecDepth 20000 in
noncomputable def q_X_octet : mI := (⟨"PorterDoors", "octet", "(I)I"⟩, prog_1_method_37_code, 2, (some .int), 0, 1066, 129, 1, 1, 1064, 1065)
theorem y_X_octet : mT[55]? = some q_X_octet := mT_at_1 (k := 15) rfl
noncomputable def bl_X_octet : List (Nat × List mO) := [(0, [o0 (.iload_n 1), o1 (.ifCond .lt 20) 21, o0 (.iload_n 1), o0 (.aload_n 0), o2 (.getfield 97) 0 14, o1 (.if_icmp .ge 12) 21, o0 (.aload_n 0), o2 (.getfield 94) 0 13, o0 (.iload_n 1), o0 (.iaload), o1 (.goto 4) 22]),
  (21, [o0 (.iconst (-1))]),
  (22, [o0 (.ireturn)])]
theorem bk_X_octet : okBlks q_X_octet bl_X_octet = true := by decide +kernel
noncomputable def oL_X_octet {ρ : Type} (N : Nat) : List (Nat × (List Value → mS → (Option Value → mS → Option ρ) → Option ρ)) := []
theorem oo_X_octet {ρ : Type} {t0 : ρ} (N : Nat) : OrcOK Sx R0x oFx nx 1 t0 (mOrc (oL_X_octet N)) := mOrc_OK (mz_nil)
noncomputable def f_X_octet (N : Nat) (a1 : Int32) (s : mS) : Option (Int32 × mS) :=
  if a1 < 0 then
    some ((-1), s)
  else
    if a1 < (gI s 14 0) then
      grd (inb a1 88) (
      some ((gA s 40 (ix a1)), s))
    else
      some ((-1), s)
set_option maxRecDepth 100000 in
set_option maxHeartbeats 4000000 in
theorem m_X_octet (N : Nat) {x9 : Int32} {s9 : mS} (a1 : Int32) {s : mS} (h : f_X_octet N a1 s = some (x9, s9)) : MetM Sx R0x oFx nx 1 55 [.ref 0, .int a1] s (some (.int x9)) s9 := by
  refine met_of_G (q := q_X_octet) (t0 := (x9, s9)) y_X_octet (Nat.le_of_ble_eq_true rfl) ?_
  rw [← h]
  exact G_eq (mEv_G (orc := mOrc (oL_X_octet N)) (ret := rtI) (blks := bl_X_octet) (cuts := []) wOKx (by decide) (oo_X_octet N) (RetOK_I rfl) bk_X_octet (mz_nil)) rfl
noncomputable def C_X_octet {ρ : Type} (N : Nat) : List Value → mS → (Option Value → mS → Option ρ) → Option ρ := fun vs s kk => sR vs 0 fun r0 => pi1 r0 fun a1 r1 => rv0 r1 ((f_X_octet N a1 s).bind fun p => kk (some (.int p.1)) p.2)
theorem cs_X_octet {ρ : Type} {t0 : ρ} {d : Nat} (N : Nat) (hd : 1 + 1 ≤ d) : CallOK Sx R0x oFx nx d t0 55 (C_X_octet N) := by
  intro vs s kk h0
  obtain ⟨r0, rfl, h1⟩ := sR_some h0
  obtain ⟨a1, r1, rfl, h2⟩ := pi1_some h1
  obtain ⟨rfl, h3⟩ := rv0_some h2
  obtain ⟨p, hp, hk⟩ := Option.bind_eq_some_iff.mp h3
  exact ⟨_, _, _, hd, m_X_octet N a1 hp, hk, fun qy hq hf => by cases y_X_octet.symm.trans hq; exact ⟨_, _, rfl, rfl⟩⟩
/-! METHOD PorterDoors.tapedNight()I -/
set_option maxRecDepth 20000 in
noncomputable def q_X_tapedNight : mI := (⟨"PorterDoors", "tapedNight", "()I"⟩, prog_1_method_59_code, 1, (some .int), 0, 1078, 129, 1, 0, 1077, 39)
theorem y_X_tapedNight : mT[58]? = some q_X_tapedNight := mT_at_1 (k := 18) rfl
noncomputable def bl_X_tapedNight : List (Nat × List mO) := [(0, [o0 (.aload_n 0), o2 (.getfield 9) 0 0, o0 (.iconst 0), o0 (.iaload), o0 (.bipush 8), o0 (.ishl), o0 (.aload_n 0), o2 (.getfield 9) 0 0, o0 (.iconst 1), o0 (.iaload), o0 (.ior), o0 (.ireturn)])]
theorem bk_X_tapedNight : okBlks q_X_tapedNight bl_X_tapedNight = true := by decide +kernel
noncomputable def oL_X_tapedNight {ρ : Type} (N : Nat) : List (Nat × (List Value → mS → (Option Value → mS → Option ρ) → Option ρ)) := []
theorem oo_X_tapedNight {ρ : Type} {t0 : ρ} (N : Nat) : OrcOK Sx R0x oFx nx 1 t0 (mOrc (oL_X_tapedNight N)) := mOrc_OK (mz_nil)
noncomputable def f_X_tapedNight (N : Nat) (s : mS) : Option (Int32 × mS) :=
  some (((ils (gA s 1 0) 8) ||| (gA s 1 1)), s)
set_option maxRecDepth 100000 in
set_option maxHeartbeats 4000000 in
theorem m_X_tapedNight (N : Nat) {x9 : Int32} {s9 : mS} {s : mS} (h : f_X_tapedNight N s = some (x9, s9)) : MetM Sx R0x oFx nx 1 58 [.ref 0] s (some (.int x9)) s9 := by
  refine met_of_G (q := q_X_tapedNight) (t0 := (x9, s9)) y_X_tapedNight (Nat.le_of_ble_eq_true rfl) ?_
  rw [← h]
  exact G_eq (mEv_G (orc := mOrc (oL_X_tapedNight N)) (ret := rtI) (blks := bl_X_tapedNight) (cuts := []) wOKx (by decide) (oo_X_tapedNight N) (RetOK_I rfl) bk_X_tapedNight (mz_nil)) rfl
noncomputable def C_X_tapedNight {ρ : Type} (N : Nat) : List Value → mS → (Option Value → mS → Option ρ) → Option ρ := fun vs s kk => sR vs 0 fun r0 => rv0 r0 ((f_X_tapedNight N s).bind fun p => kk (some (.int p.1)) p.2)
theorem cs_X_tapedNight {ρ : Type} {t0 : ρ} {d : Nat} (N : Nat) (hd : 1 + 1 ≤ d) : CallOK Sx R0x oFx nx d t0 58 (C_X_tapedNight N) := by
  intro vs s kk h0
  obtain ⟨r0, rfl, h1⟩ := sR_some h0
  obtain ⟨rfl, h2⟩ := rv0_some h1
  obtain ⟨p, hp, hk⟩ := Option.bind_eq_some_iff.mp h2
  exact ⟨_, _, _, hd, m_X_tapedNight N hp, hk, fun qy hq hf => by cases y_X_tapedNight.symm.trans hq; exact ⟨_, _, rfl, rfl⟩⟩
/-! METHOD PorterDoors.tapedCold()I -/
set_option maxRecDepth 20000 in
noncomputable def q_X_tapedCold : mI := (⟨"PorterDoors", "tapedCold", "()I"⟩, prog_1_method_60_code, 1, (some .int), 0, 1082, 129, 1, 0, 1081, 40)
theorem y_X_tapedCold : mT[59]? = some q_X_tapedCold := mT_at_1 (k := 19) rfl
noncomputable def bl_X_tapedCold : List (Nat × List mO) := [(0, [o0 (.aload_n 0), o2 (.getfield 9) 0 0, o0 (.iconst 2), o0 (.iaload), o0 (.bipush 16), o0 (.ishl), o0 (.aload_n 0), o2 (.getfield 9) 0 0, o0 (.iconst 3), o0 (.iaload), o0 (.bipush 8), o0 (.ishl), o0 (.ior), o0 (.aload_n 0), o2 (.getfield 9) 0 0, o0 (.iconst 4), o0 (.iaload), o0 (.ior), o0 (.ireturn)])]
theorem bk_X_tapedCold : okBlks q_X_tapedCold bl_X_tapedCold = true := by decide +kernel
noncomputable def oL_X_tapedCold {ρ : Type} (N : Nat) : List (Nat × (List Value → mS → (Option Value → mS → Option ρ) → Option ρ)) := []
theorem oo_X_tapedCold {ρ : Type} {t0 : ρ} (N : Nat) : OrcOK Sx R0x oFx nx 1 t0 (mOrc (oL_X_tapedCold N)) := mOrc_OK (mz_nil)
noncomputable def f_X_tapedCold (N : Nat) (s : mS) : Option (Int32 × mS) :=
  some ((((ils (gA s 1 2) 16) ||| (ils (gA s 1 3) 8)) ||| (gA s 1 4)), s)
set_option maxRecDepth 100000 in
set_option maxHeartbeats 4000000 in
theorem m_X_tapedCold (N : Nat) {x9 : Int32} {s9 : mS} {s : mS} (h : f_X_tapedCold N s = some (x9, s9)) : MetM Sx R0x oFx nx 1 59 [.ref 0] s (some (.int x9)) s9 := by
  refine met_of_G (q := q_X_tapedCold) (t0 := (x9, s9)) y_X_tapedCold (Nat.le_of_ble_eq_true rfl) ?_
  rw [← h]
  exact G_eq (mEv_G (orc := mOrc (oL_X_tapedCold N)) (ret := rtI) (blks := bl_X_tapedCold) (cuts := []) wOKx (by decide) (oo_X_tapedCold N) (RetOK_I rfl) bk_X_tapedCold (mz_nil)) rfl
noncomputable def C_X_tapedCold {ρ : Type} (N : Nat) : List Value → mS → (Option Value → mS → Option ρ) → Option ρ := fun vs s kk => sR vs 0 fun r0 => rv0 r0 ((f_X_tapedCold N s).bind fun p => kk (some (.int p.1)) p.2)
theorem cs_X_tapedCold {ρ : Type} {t0 : ρ} {d : Nat} (N : Nat) (hd : 1 + 1 ≤ d) : CallOK Sx R0x oFx nx d t0 59 (C_X_tapedCold N) := by
  intro vs s kk h0
  obtain ⟨r0, rfl, h1⟩ := sR_some h0
  obtain ⟨rfl, h2⟩ := rv0_some h1
  obtain ⟨p, hp, hk⟩ := Option.bind_eq_some_iff.mp h2
  exact ⟨_, _, _, hd, m_X_tapedCold N hp, hk, fun qy hq hf => by cases y_X_tapedCold.symm.trans hq; exact ⟨_, _, rfl, rfl⟩⟩
/-! METHOD PorterDoors.isImage(I)Z -/
set_option maxRecDepth 20000 in
noncomputable def q_X_isImage : mI := (⟨"PorterDoors", "isImage", "(I)Z"⟩, prog_1_method_61_code, 4, (some .boolean), 0, 1074, 129, 1, 1, 1073, 38)
theorem y_X_isImage : mT[57]? = some q_X_isImage := mT_at_1 (k := 17) rfl
noncomputable def bl_X_isImage : List (Nat × List mO) := [(0, [o0 (.aload_n 0), o2 (.invokevirtual 220) 20 1, o1 (.ifCond .eq 68) 72, o0 (.iload_n 1), o0 (.bipush 6), o0 (.iconst 3), o0 (.aload_n 0), o2 (.getfield 20) 0 2, o2 (.getfield 156) 4 0, o0 (.imul), o0 (.iadd), o0 (.aload_n 0), o2 (.getfield 20) 0 2, o2 (.getfield 159) 4 1, o0 (.iadd), o1 (.if_icmp .ne 44) 72, o0 (.aload_n 0), o2 (.getfield 9) 0 0, o0 (.iload_n 1), o0 (.iconst 1), o0 (.isub), o0 (.iaload), o0 (.aload_n 0), o2 (.getfield 9) 0 0, o0 (.iload_n 1), o0 (.iconst 1), o0 (.isub), o2 (.invokestatic 326) 54 2, o1 (.if_icmp .ne 23) 72, o0 (.aload_n 0), o2 (.invokevirtual 368) 58 1, o0 (.sipush 999), o1 (.if_icmp .gt 13) 72, o0 (.aload_n 0), o2 (.invokevirtual 371) 59 1, oC (.ldc_w 374) (.int 999999), o1 (.if_icmp .le 5) 74]),
  (72, [o0 (.iconst 0), o0 (.ireturn)]),
  (74, [o0 (.iconst 5), o0 (.istore_n 2), o0 (.iconst 0), o0 (.istore_n 3)]),
  (78, [o0 (.iload_n 3), o0 (.aload_n 0), o2 (.getfield 20) 0 2, o2 (.getfield 156) 4 0, o1 (.if_icmp .ge 50) 136, o0 (.aload_n 0), o2 (.getfield 9) 0 0, o0 (.iload_n 2), o0 (.iaload), o0 (.iconst 1), o1 (.if_icmp .gt 29) 125, o0 (.aload_n 0), o2 (.getfield 9) 0 0, o0 (.iload_n 2), o0 (.iconst 1), o0 (.iadd), o0 (.iaload), o0 (.bipush 99), o1 (.if_icmp .gt 16) 125, o0 (.aload_n 0), o2 (.getfield 9) 0 0, o0 (.iload_n 2), o0 (.iconst 2), o0 (.iadd), o0 (.iaload), o0 (.bipush 9), o1 (.if_icmp .le 5) 127]),
  (125, [o0 (.iconst 0), o0 (.ireturn)]),
  (127, [o0 (.iinc 2 3), o0 (.iinc 3 1), o1 (.goto (-55)) 78]),
  (136, [o0 (.iconst 0), o0 (.istore_n 3)]),
  (138, [o0 (.iload_n 3), o0 (.aload_n 0), o2 (.getfield 20) 0 2, o2 (.getfield 159) 4 1, o1 (.if_icmp .ge 24) 170, o0 (.aload_n 0), o2 (.getfield 9) 0 0, o0 (.iload_n 2), o0 (.iload_n 3), o0 (.iadd), o0 (.iaload), o0 (.bipush 99), o1 (.if_icmp .le 5) 164, o0 (.iconst 0), o0 (.ireturn)]),
  (164, [o0 (.iinc 3 1), o1 (.goto (-29)) 138]),
  (170, [o0 (.iconst 1), o0 (.ireturn)])]
theorem bk_X_isImage : okBlks q_X_isImage bl_X_isImage = true := by decide +kernel
noncomputable def oL_X_isImage {ρ : Type} (N : Nat) : List (Nat × (List Value → mS → (Option Value → mS → Option ρ) → Option ρ)) := [(20, C_X_isTold N), (54, C_X_checkOf N), (58, C_X_tapedNight N), (59, C_X_tapedCold N)]
theorem oo_X_isImage {ρ : Type} {t0 : ρ} (N : Nat) : OrcOK Sx R0x oFx nx 2 t0 (mOrc (oL_X_isImage N)) := mOrc_OK (List.forall_mem_cons.mpr ⟨cs_X_isTold N (by decide), List.forall_mem_cons.mpr ⟨cs_X_checkOf N (by decide), List.forall_mem_cons.mpr ⟨cs_X_tapedNight N (by decide), List.forall_mem_cons.mpr ⟨cs_X_tapedCold N (by decide), mz_nil⟩⟩⟩⟩)
noncomputable def H_X_isImage_78 {ρ : Type} (k : (Int32 × Int32 × mS) → Option ρ) : mL → List Value → mS → Option ρ := fun loc st s => cR loc 0 0 (li1 loc 2 fun v0 => li1 loc 3 fun v1 => rv0 st (k (v0, v1, s)))
noncomputable def H_X_isImage_138 {ρ : Type} (k : (Int32 × Int32 × mS) → Option ρ) : mL → List Value → mS → Option ρ := fun loc st s => cR loc 0 0 (li1 loc 2 fun v0 => li1 loc 3 fun v1 => rv0 st (k (v0, v1, s)))
noncomputable def f_X_isImage_L138 (N : Nat) (k138 : (Int32 × Int32 × mS) → Option (Int32 × mS)) (x : Int32 × Int32 × mS) : Option (Int32 × mS) :=
  if x.2.1 < (gI x.2.2 401 2) then
    grd (inb (x.1 + x.2.1) 1600) (
    if 99 < (gA x.2.2 1 (ix (x.1 + x.2.1))) then
      some (0, x.2.2)
    else
      k138 (x.1, (x.2.1 + 1), x.2.2))
  else
    some (1, x.2.2)
set_option maxRecDepth 100000 in
set_option maxHeartbeats 4000000 in
theorem t_X_isImage_138 (N : Nat) {x9 : Int32} {s9 : mS} {k138 : (Int32 × Int32 × mS) → Option (Int32 × mS)} (hk138 : SCd Sx R0x oFx nx 2 q_X_isImage (some (.int x9), s9) (x9, s9) 138 (H_X_isImage_138 k138)) : SCd Sx R0x oFx nx 2 q_X_isImage (some (.int x9), s9) (x9, s9) 138 (H_X_isImage_138 (f_X_isImage_L138 N k138)) := by
  intro loc st s
  refine G_cR (fun h0 => ?_)
  refine G_li (fun v0 h2 => ?_)
  refine G_li (fun v1 h3 => ?_)
  refine G_rv0 (fun e9 => ?_)
  subst e9
  refine G_sub (loc0 := [(0, .ref 0), (2, .int v0), (3, .int v1)]) (List.forall_mem_cons.mpr ⟨h0, List.forall_mem_cons.mpr ⟨h2, List.forall_mem_cons.mpr ⟨h3, mz_nil⟩⟩⟩) ?_
  exact G_eq (mEv_G (orc := mOrc (oL_X_isImage N)) (ret := rtZ) (blks := bl_X_isImage) (cuts := [(138, H_X_isImage_138 k138)]) wOKx (by decide) (oo_X_isImage N) (RetOK_Z rfl) bk_X_isImage (List.forall_mem_cons.mpr ⟨hk138, mz_nil⟩)) rfl
theorem s_X_isImage_138 (N : Nat) {x9 : Int32} {s9 : mS} : SCd Sx R0x oFx nx 2 q_X_isImage (some (.int x9), s9) (x9, s9) 138 (H_X_isImage_138 (mfix N (f_X_isImage_L138 N))) := by
  refine mfix_SC (H := H_X_isImage_138) (fun loc st s => ?_) (fun k hk => t_X_isImage_138 N hk) N
  refine G_cR (fun h0 => ?_)
  refine G_li (fun v0 h2 => ?_)
  refine G_li (fun v1 h3 => ?_)
  refine G_rv0 (fun e9 => ?_)
  subst e9
  exact G_none
noncomputable def f_X_isImage_L78 (N : Nat) (k78 : (Int32 × Int32 × mS) → Option (Int32 × mS)) (x : Int32 × Int32 × mS) : Option (Int32 × mS) :=
  if x.2.1 < (gI x.2.2 400 2) then
    grd (inb x.1 1600) (
    if 1 < (gA x.2.2 1 (ix x.1)) then
      some (0, x.2.2)
    else
      grd (inb (x.1 + 1) 1600) (
      if 99 < (gA x.2.2 1 (ix (x.1 + 1))) then
        some (0, x.2.2)
      else
        grd (inb (x.1 + 2) 1600) (
        if 9 < (gA x.2.2 1 (ix (x.1 + 2))) then
          some (0, x.2.2)
        else
          k78 ((x.1 + 3), (x.2.1 + 1), x.2.2))))
  else
    mfix N (f_X_isImage_L138 N) (x.1, 0, x.2.2)
set_option maxRecDepth 100000 in
set_option maxHeartbeats 4000000 in
theorem t_X_isImage_78 (N : Nat) {x9 : Int32} {s9 : mS} {k78 : (Int32 × Int32 × mS) → Option (Int32 × mS)} (hk78 : SCd Sx R0x oFx nx 2 q_X_isImage (some (.int x9), s9) (x9, s9) 78 (H_X_isImage_78 k78)) : SCd Sx R0x oFx nx 2 q_X_isImage (some (.int x9), s9) (x9, s9) 78 (H_X_isImage_78 (f_X_isImage_L78 N k78)) := by
  intro loc st s
  refine G_cR (fun h0 => ?_)
  refine G_li (fun v0 h2 => ?_)
  refine G_li (fun v1 h3 => ?_)
  refine G_rv0 (fun e9 => ?_)
  subst e9
  refine G_sub (loc0 := [(0, .ref 0), (2, .int v0), (3, .int v1)]) (List.forall_mem_cons.mpr ⟨h0, List.forall_mem_cons.mpr ⟨h2, List.forall_mem_cons.mpr ⟨h3, mz_nil⟩⟩⟩) ?_
  exact G_eq (mEv_G (orc := mOrc (oL_X_isImage N)) (ret := rtZ) (blks := bl_X_isImage) (cuts := [(78, H_X_isImage_78 k78), (138, H_X_isImage_138 (mfix N (f_X_isImage_L138 N)))]) wOKx (by decide) (oo_X_isImage N) (RetOK_Z rfl) bk_X_isImage (List.forall_mem_cons.mpr ⟨hk78, List.forall_mem_cons.mpr ⟨s_X_isImage_138 N, mz_nil⟩⟩)) rfl
theorem s_X_isImage_78 (N : Nat) {x9 : Int32} {s9 : mS} : SCd Sx R0x oFx nx 2 q_X_isImage (some (.int x9), s9) (x9, s9) 78 (H_X_isImage_78 (mfix N (f_X_isImage_L78 N))) := by
  refine mfix_SC (H := H_X_isImage_78) (fun loc st s => ?_) (fun k hk => t_X_isImage_78 N hk) N
  refine G_cR (fun h0 => ?_)
  refine G_li (fun v0 h2 => ?_)
  refine G_li (fun v1 h3 => ?_)
  refine G_rv0 (fun e9 => ?_)
  subst e9
  exact G_none
noncomputable def f_X_isImage (N : Nat) (a1 : Int32) (s : mS) : Option (Int32 × mS) :=
  (f_X_isTold N s).bind fun p1 =>
  if p1.1 = 0 then
    some (0, p1.2)
  else
    if a1 = ((6 + (3 * (gI p1.2 400 2))) + (gI p1.2 401 2)) then
      grd (inb (a1 - 1) 1600) (
      (f_X_checkOf N 1 (a1 - 1) p1.2).bind fun p2 =>
      if (gA p1.2 1 (ix (a1 - 1))) = p2.1 then
        (f_X_tapedNight N p2.2).bind fun p3 =>
        if 999 < p3.1 then
          some (0, p3.2)
        else
          (f_X_tapedCold N p3.2).bind fun p4 =>
          if 999999 < p4.1 then
            some (0, p4.2)
          else
            mfix N (f_X_isImage_L78 N) (5, 0, p4.2)
      else
        some (0, p2.2))
    else
      some (0, p1.2)
set_option maxRecDepth 100000 in
set_option maxHeartbeats 4000000 in
theorem m_X_isImage (N : Nat) {x9 : Int32} {s9 : mS} (a1 : Int32) {s : mS} (h : f_X_isImage N a1 s = some (x9, s9)) : MetM Sx R0x oFx nx 2 57 [.ref 0, .int a1] s (some (.int x9)) s9 := by
  refine met_of_G (q := q_X_isImage) (t0 := (x9, s9)) y_X_isImage (Nat.le_of_ble_eq_true rfl) ?_
  rw [← h]
  exact G_eq (mEv_G (orc := mOrc (oL_X_isImage N)) (ret := rtZ) (blks := bl_X_isImage) (cuts := [(78, H_X_isImage_78 (mfix N (f_X_isImage_L78 N)))]) wOKx (by decide) (oo_X_isImage N) (RetOK_Z rfl) bk_X_isImage (List.forall_mem_cons.mpr ⟨s_X_isImage_78 N, mz_nil⟩)) rfl
noncomputable def C_X_isImage {ρ : Type} (N : Nat) : List Value → mS → (Option Value → mS → Option ρ) → Option ρ := fun vs s kk => sR vs 0 fun r0 => pi1 r0 fun a1 r1 => rv0 r1 ((f_X_isImage N a1 s).bind fun p => kk (some (.int p.1)) p.2)
theorem cs_X_isImage {ρ : Type} {t0 : ρ} {d : Nat} (N : Nat) (hd : 2 + 1 ≤ d) : CallOK Sx R0x oFx nx d t0 57 (C_X_isImage N) := by
  intro vs s kk h0
  obtain ⟨r0, rfl, h1⟩ := sR_some h0
  obtain ⟨a1, r1, rfl, h2⟩ := pi1_some h1
  obtain ⟨rfl, h3⟩ := rv0_some h2
  obtain ⟨p, hp, hk⟩ := Option.bind_eq_some_iff.mp h3
  exact ⟨_, _, _, hd, m_X_isImage N a1 hp, hk, fun qy hq hf => by cases y_X_isImage.symm.trans hq; exact ⟨_, _, rfl, rfl⟩⟩
/-! METHOD PorterDoors.takeImage()V -/
set_option maxRecDepth 20000 in
noncomputable def q_X_takeImage : mI := (⟨"PorterDoors", "takeImage", "()V"⟩, prog_1_method_62_code, 4, none, 0, 1087, 129, 1, 0, 1086, 41)
theorem y_X_takeImage : mT[60]? = some q_X_takeImage := mT_at_1 (k := 20) rfl
noncomputable def bl_X_takeImage : List (Nat × List mO) := [(0, [o0 (.aload_n 0), o2 (.getfield 46) 0 6, o2 (.getfield 162) 2 0, o0 (.astore_n 1), o0 (.aload_n 1), o0 (.iconst 0), o0 (.aload_n 0), o2 (.invokevirtual 368) 58 1, o0 (.iastore), o0 (.aload_n 1), o0 (.iconst 1), o0 (.aload_n 0), o2 (.invokevirtual 371) 59 1, o0 (.iastore), o0 (.aload_n 1), o0 (.iconst 2), o0 (.iconst 0), o0 (.iastore), o0 (.aload_n 1), o0 (.iconst 3), o0 (.iconst 0), o0 (.iastore), o0 (.iconst 5), o0 (.istore_n 2), o0 (.iconst 0), o0 (.istore_n 3)]),
  (34, [o0 (.iload_n 3), o0 (.aload_n 0), o2 (.getfield 20) 0 2, o2 (.getfield 156) 4 0, o1 (.if_icmp .ge 53) 95, o0 (.aload_n 1), o0 (.iconst 2), o0 (.dup2), o0 (.iaload), o0 (.aload_n 0), o2 (.getfield 9) 0 0, o0 (.iload_n 2), o0 (.iaload), o0 (.iload_n 3), o0 (.ishl), o0 (.ior), o0 (.iastore), o0 (.aload_n 1), o0 (.iconst 4), o0 (.iload_n 3), o0 (.iadd), o0 (.aload_n 0), o2 (.getfield 9) 0 0, o0 (.iload_n 2), o0 (.iconst 1), o0 (.iadd), o0 (.iaload), o0 (.iastore), o0 (.aload_n 1), o0 (.bipush 28), o0 (.iload_n 3), o0 (.iadd), o0 (.aload_n 0), o2 (.getfield 9) 0 0, o0 (.iload_n 2), o0 (.iconst 2), o0 (.iadd), o0 (.iaload), o0 (.iastore), o0 (.iinc 2 3), o0 (.iinc 3 1), o1 (.goto (-58)) 34]),
  (95, [o0 (.iconst 0), o0 (.istore_n 3)]),
  (97, [o0 (.iload_n 3), o0 (.aload_n 0), o2 (.getfield 20) 0 2, o2 (.getfield 159) 4 1, o1 (.if_icmp .ge 23) 128, o0 (.aload_n 1), o0 (.bipush 52), o0 (.iload_n 3), o0 (.iadd), o0 (.aload_n 0), o2 (.getfield 9) 0 0, o0 (.iload_n 2), o0 (.iload_n 3), o0 (.iadd), o0 (.iaload), o0 (.iastore), o0 (.iinc 3 1), o1 (.goto (-28)) 97]),
  (128, [o0 (.return_)])]
theorem bk_X_takeImage : okBlks q_X_takeImage bl_X_takeImage = true := by decide +kernel
noncomputable def oL_X_takeImage {ρ : Type} (N : Nat) : List (Nat × (List Value → mS → (Option Value → mS → Option ρ) → Option ρ)) := [(58, C_X_tapedNight N), (59, C_X_tapedCold N)]
theorem oo_X_takeImage {ρ : Type} {t0 : ρ} (N : Nat) : OrcOK Sx R0x oFx nx 2 t0 (mOrc (oL_X_takeImage N)) := mOrc_OK (List.forall_mem_cons.mpr ⟨cs_X_tapedNight N (by decide), List.forall_mem_cons.mpr ⟨cs_X_tapedCold N (by decide), mz_nil⟩⟩)
noncomputable def H_X_takeImage_34 {ρ : Type} (k : (Nat × Int32 × Int32 × mS) → Option ρ) : mL → List Value → mS → Option ρ := fun loc st s => cR loc 0 0 (lr1 loc 1 fun v0 => li1 loc 2 fun v1 => li1 loc 3 fun v2 => rv0 st (k (v0, v1, v2, s)))
noncomputable def H_X_takeImage_97 {ρ : Type} (k : (Nat × Int32 × Int32 × mS) → Option ρ) : mL → List Value → mS → Option ρ := fun loc st s => cR loc 0 0 (lr1 loc 1 fun v0 => li1 loc 2 fun v1 => li1 loc 3 fun v2 => rv0 st (k (v0, v1, v2, s)))
noncomputable def f_X_takeImage_L97 (N : Nat) (k97 : (Nat × Int32 × Int32 × mS) → Option (mS)) (x : Nat × Int32 × Int32 × mS) : Option (mS) :=
  if x.2.2.1 < (gI x.2.2.2 401 2) then
    grd (inb (x.2.1 + x.2.2.1) 1600) (
    grd (inb (52 + x.2.2.1) (aln Sx 0 x.1)) (
    let s1 := sA x.2.2.2 x.1 (ix (52 + x.2.2.1)) (gA x.2.2.2 1 (ix (x.2.1 + x.2.2.1)))
    k97 (x.1, x.2.1, (x.2.2.1 + 1), s1)))
  else
    some x.2.2.2
set_option maxRecDepth 100000 in
set_option maxHeartbeats 4000000 in
theorem t_X_takeImage_97 (N : Nat) {s9 : mS} {k97 : (Nat × Int32 × Int32 × mS) → Option (mS)} (hk97 : SCd Sx R0x oFx nx 2 q_X_takeImage (none, s9) s9 97 (H_X_takeImage_97 k97)) : SCd Sx R0x oFx nx 2 q_X_takeImage (none, s9) s9 97 (H_X_takeImage_97 (f_X_takeImage_L97 N k97)) := by
  intro loc st s
  refine G_cR (fun h0 => ?_)
  refine G_lr (fun v0 h1 => ?_)
  refine G_li (fun v1 h2 => ?_)
  refine G_li (fun v2 h3 => ?_)
  refine G_rv0 (fun e9 => ?_)
  subst e9
  refine G_sub (loc0 := [(0, .ref 0), (1, .ref v0), (2, .int v1), (3, .int v2)]) (List.forall_mem_cons.mpr ⟨h0, List.forall_mem_cons.mpr ⟨h1, List.forall_mem_cons.mpr ⟨h2, List.forall_mem_cons.mpr ⟨h3, mz_nil⟩⟩⟩⟩) ?_
  exact G_eq (mEv_G (orc := mOrc (oL_X_takeImage N)) (ret := rtV) (blks := bl_X_takeImage) (cuts := [(97, H_X_takeImage_97 k97)]) wOKx (by decide) (oo_X_takeImage N) (RetOK_V rfl) bk_X_takeImage (List.forall_mem_cons.mpr ⟨hk97, mz_nil⟩)) rfl
theorem s_X_takeImage_97 (N : Nat) {s9 : mS} : SCd Sx R0x oFx nx 2 q_X_takeImage (none, s9) s9 97 (H_X_takeImage_97 (mfix N (f_X_takeImage_L97 N))) := by
  refine mfix_SC (H := H_X_takeImage_97) (fun loc st s => ?_) (fun k hk => t_X_takeImage_97 N hk) N
  refine G_cR (fun h0 => ?_)
  refine G_lr (fun v0 h1 => ?_)
  refine G_li (fun v1 h2 => ?_)
  refine G_li (fun v2 h3 => ?_)
  refine G_rv0 (fun e9 => ?_)
  subst e9
  exact G_none
noncomputable def f_X_takeImage_L34 (N : Nat) (k34 : (Nat × Int32 × Int32 × mS) → Option (mS)) (x : Nat × Int32 × Int32 × mS) : Option (mS) :=
  if x.2.2.1 < (gI x.2.2.2 400 2) then
    grd (inb 2 (aln Sx 0 x.1)) (
    grd (inb x.2.1 1600) (
    grd (inb 2 (aln Sx 0 x.1)) (
    let s1 := sA x.2.2.2 x.1 2 ((gA x.2.2.2 x.1 2) ||| (ils (gA x.2.2.2 1 (ix x.2.1)) x.2.2.1))
    grd (inb (x.2.1 + 1) 1600) (
    grd (inb (4 + x.2.2.1) (aln Sx 0 x.1)) (
    let s2 := sA s1 x.1 (ix (4 + x.2.2.1)) (gA s1 1 (ix (x.2.1 + 1)))
    grd (inb (x.2.1 + 2) 1600) (
    grd (inb (28 + x.2.2.1) (aln Sx 0 x.1)) (
    let s3 := sA s2 x.1 (ix (28 + x.2.2.1)) (gA s2 1 (ix (x.2.1 + 2)))
    k34 (x.1, (x.2.1 + 3), (x.2.2.1 + 1), s3))))))))
  else
    mfix N (f_X_takeImage_L97 N) (x.1, x.2.1, 0, x.2.2.2)
set_option maxRecDepth 100000 in
set_option maxHeartbeats 4000000 in
theorem t_X_takeImage_34 (N : Nat) {s9 : mS} {k34 : (Nat × Int32 × Int32 × mS) → Option (mS)} (hk34 : SCd Sx R0x oFx nx 2 q_X_takeImage (none, s9) s9 34 (H_X_takeImage_34 k34)) : SCd Sx R0x oFx nx 2 q_X_takeImage (none, s9) s9 34 (H_X_takeImage_34 (f_X_takeImage_L34 N k34)) := by
  intro loc st s
  refine G_cR (fun h0 => ?_)
  refine G_lr (fun v0 h1 => ?_)
  refine G_li (fun v1 h2 => ?_)
  refine G_li (fun v2 h3 => ?_)
  refine G_rv0 (fun e9 => ?_)
  subst e9
  refine G_sub (loc0 := [(0, .ref 0), (1, .ref v0), (2, .int v1), (3, .int v2)]) (List.forall_mem_cons.mpr ⟨h0, List.forall_mem_cons.mpr ⟨h1, List.forall_mem_cons.mpr ⟨h2, List.forall_mem_cons.mpr ⟨h3, mz_nil⟩⟩⟩⟩) ?_
  exact G_eq (mEv_G (orc := mOrc (oL_X_takeImage N)) (ret := rtV) (blks := bl_X_takeImage) (cuts := [(34, H_X_takeImage_34 k34), (97, H_X_takeImage_97 (mfix N (f_X_takeImage_L97 N)))]) wOKx (by decide) (oo_X_takeImage N) (RetOK_V rfl) bk_X_takeImage (List.forall_mem_cons.mpr ⟨hk34, List.forall_mem_cons.mpr ⟨s_X_takeImage_97 N, mz_nil⟩⟩)) rfl
theorem s_X_takeImage_34 (N : Nat) {s9 : mS} : SCd Sx R0x oFx nx 2 q_X_takeImage (none, s9) s9 34 (H_X_takeImage_34 (mfix N (f_X_takeImage_L34 N))) := by
  refine mfix_SC (H := H_X_takeImage_34) (fun loc st s => ?_) (fun k hk => t_X_takeImage_34 N hk) N
  refine G_cR (fun h0 => ?_)
  refine G_lr (fun v0 h1 => ?_)
  refine G_li (fun v1 h2 => ?_)
  refine G_li (fun v2 h3 => ?_)
  refine G_rv0 (fun e9 => ?_)
  subst e9
  exact G_none
noncomputable def f_X_takeImage (N : Nat) (s : mS) : Option (mS) :=
  (f_X_tapedNight N s).bind fun p1 =>
  let s2 := sA p1.2 20 0 p1.1
  (f_X_tapedCold N s2).bind fun p3 =>
  let s4 := sA p3.2 20 1 p3.1
  let s5 := sA s4 20 2 0
  let s6 := sA s5 20 3 0
  mfix N (f_X_takeImage_L34 N) (20, 5, 0, s6)
set_option maxRecDepth 100000 in
set_option maxHeartbeats 4000000 in
theorem m_X_takeImage (N : Nat) {s9 : mS} {s : mS} (h : f_X_takeImage N s = some s9) : MetM Sx R0x oFx nx 2 60 [.ref 0] s (none) s9 := by
  refine met_of_G (q := q_X_takeImage) (t0 := s9) y_X_takeImage (Nat.le_of_ble_eq_true rfl) ?_
  rw [← h]
  exact G_eq (mEv_G (orc := mOrc (oL_X_takeImage N)) (ret := rtV) (blks := bl_X_takeImage) (cuts := [(34, H_X_takeImage_34 (mfix N (f_X_takeImage_L34 N)))]) wOKx (by decide) (oo_X_takeImage N) (RetOK_V rfl) bk_X_takeImage (List.forall_mem_cons.mpr ⟨s_X_takeImage_34 N, mz_nil⟩)) rfl
noncomputable def C_X_takeImage {ρ : Type} (N : Nat) : List Value → mS → (Option Value → mS → Option ρ) → Option ρ := fun vs s kk => sR vs 0 fun r0 => rv0 r0 ((f_X_takeImage N s).bind fun p => kk none p)
theorem cs_X_takeImage {ρ : Type} {t0 : ρ} {d : Nat} (N : Nat) (hd : 2 + 1 ≤ d) : CallOK Sx R0x oFx nx d t0 60 (C_X_takeImage N) := by
  intro vs s kk h0
  obtain ⟨r0, rfl, h1⟩ := sR_some h0
  obtain ⟨rfl, h2⟩ := rv0_some h1
  obtain ⟨p, hp, hk⟩ := Option.bind_eq_some_iff.mp h2
  exact ⟨_, _, _, hd, m_X_takeImage N hp, hk, fun qy hq hf => by cases y_X_takeImage.symm.trans hq; exact ⟨_, _, rfl, rfl⟩⟩
/-! METHOD PorterDoors.on()Z -/
set_option maxRecDepth 20000 in
noncomputable def q_X_on : mI := (⟨"PorterDoors", "on", "()Z"⟩, prog_1_method_38_code, 2, (some .boolean), 0, 1070, 129, 1, 0, 1068, 1069)
theorem y_X_on : mT[56]? = some q_X_on := mT_at_1 (k := 16) rfl
noncomputable def bl_X_on : List (Nat × List mO) := [(0, [o0 (.aload_n 0), o2 (.invokevirtual 117) 6 1, o0 (.istore_n 1), o0 (.aload_n 0), o0 (.iload_n 1), o2 (.invokevirtual 330) 57 2, o1 (.ifCond .ne 9) 19, o0 (.aload_n 0), o0 (.iconst 5), o2 (.invokevirtual 106) 2 2, o0 (.ireturn)]),
  (19, [o0 (.aload_n 0), o2 (.invokevirtual 333) 60 1, o0 (.aload_n 0), o2 (.getfield 56) 0 8, o2 (.invokevirtual 144) 76 1, o0 (.aload_n 0), o2 (.invokevirtual 150) 7 1, o0 (.iconst 1), o0 (.ireturn)])]
theorem bk_X_on : okBlks q_X_on bl_X_on = true := by decide +kernel
noncomputable def oL_X_on {ρ : Type} (N : Nat) : List (Nat × (List Value → mS → (Option Value → mS → Option ρ) → Option ρ)) := [(6, C_X_takeTape N), (57, C_X_isImage N), (2, C_X_refuse N), (60, C_X_takeImage N), (76, C_Pa_forget N), (7, C_X_forgetReckoned N)]
theorem oo_X_on {ρ : Type} {t0 : ρ} (N : Nat) : OrcOK Sx R0x oFx nx 3 t0 (mOrc (oL_X_on N)) := mOrc_OK (List.forall_mem_cons.mpr ⟨cs_X_takeTape N (by decide), List.forall_mem_cons.mpr ⟨cs_X_isImage N (by decide), List.forall_mem_cons.mpr ⟨cs_X_refuse N (by decide), List.forall_mem_cons.mpr ⟨cs_X_takeImage N (by decide), List.forall_mem_cons.mpr ⟨cs_Pa_forget N (by decide), List.forall_mem_cons.mpr ⟨cs_X_forgetReckoned N (by decide), mz_nil⟩⟩⟩⟩⟩⟩)
noncomputable def f_X_on (N : Nat) (s : mS) : Option (Int32 × mS) :=
  (f_X_takeTape N s).bind fun p1 =>
  (f_X_isImage N p1.1 p1.2).bind fun p2 =>
  if p2.1 = 0 then
    (f_X_refuse N 5 p2.2).bind fun p6 =>
    grd (isb p6.1) (some (p6.1, p6.2))
  else
    (f_X_takeImage N p2.2).bind fun p3 =>
    (f_Pa_forget N p3).bind fun p4 =>
    (f_X_forgetReckoned N p4).bind fun p5 =>
    some (1, p5)
set_option maxRecDepth 100000 in
set_option maxHeartbeats 4000000 in
theorem m_X_on (N : Nat) {x9 : Int32} {s9 : mS} {s : mS} (h : f_X_on N s = some (x9, s9)) : MetM Sx R0x oFx nx 3 56 [.ref 0] s (some (.int x9)) s9 := by
  refine met_of_G (q := q_X_on) (t0 := (x9, s9)) y_X_on (Nat.le_of_ble_eq_true rfl) ?_
  rw [← h]
  exact G_eq (mEv_G (orc := mOrc (oL_X_on N)) (ret := rtZ) (blks := bl_X_on) (cuts := []) wOKx (by decide) (oo_X_on N) (RetOK_Z rfl) bk_X_on (mz_nil)) rfl
noncomputable def C_X_on {ρ : Type} (N : Nat) : List Value → mS → (Option Value → mS → Option ρ) → Option ρ := fun vs s kk => sR vs 0 fun r0 => rv0 r0 ((f_X_on N s).bind fun p => kk (some (.int p.1)) p.2)
theorem cs_X_on {ρ : Type} {t0 : ρ} {d : Nat} (N : Nat) (hd : 3 + 1 ≤ d) : CallOK Sx R0x oFx nx d t0 56 (C_X_on N) := by
  intro vs s kk h0
  obtain ⟨r0, rfl, h1⟩ := sR_some h0
  obtain ⟨rfl, h2⟩ := rv0_some h1
  obtain ⟨p, hp, hk⟩ := Option.bind_eq_some_iff.mp h2
  exact ⟨_, _, _, hd, m_X_on N hp, hk, fun qy hq hf => by cases y_X_on.symm.trans hq; exact ⟨_, _, rfl, rfl⟩⟩
/-! METHOD PorterDoors.status(I)I -/
set_option maxRecDepth 20000 in
noncomputable def q_X_status : mI := (⟨"PorterDoors", "status", "(I)I"⟩, prog_1_method_39_code, 2, (some .int), 0, 1091, 129, 1, 1, 1089, 1090)
theorem y_X_status : mT[61]? = some q_X_status := mT_at_1 (k := 21) rfl
noncomputable def bl_X_status : List (Nat × List mO) := [(0, [o0 (.iload_n 1), o1 (.ifCond .lt 21) 22, o0 (.iload_n 1), o0 (.aload_n 0), o2 (.getfield 100) 0 15, o0 (.arraylength), o1 (.if_icmp .ge 12) 22, o0 (.aload_n 0), o2 (.getfield 100) 0 15, o0 (.iload_n 1), o0 (.iaload), o1 (.goto 4) 23]),
  (22, [o0 (.iconst (-1))]),
  (23, [o0 (.ireturn)])]
theorem bk_X_status : okBlks q_X_status bl_X_status = true := by decide +kernel
noncomputable def oL_X_status {ρ : Type} (N : Nat) : List (Nat × (List Value → mS → (Option Value → mS → Option ρ) → Option ρ)) := []
theorem oo_X_status {ρ : Type} {t0 : ρ} (N : Nat) : OrcOK Sx R0x oFx nx 1 t0 (mOrc (oL_X_status N)) := mOrc_OK (mz_nil)
noncomputable def f_X_status (N : Nat) (a1 : Int32) (s : mS) : Option (Int32 × mS) :=
  if a1 < 0 then
    some ((-1), s)
  else
    if a1 < 6 then
      grd (inb a1 6) (
      some ((gA s 41 (ix a1)), s))
    else
      some ((-1), s)
set_option maxRecDepth 100000 in
set_option maxHeartbeats 4000000 in
theorem m_X_status (N : Nat) {x9 : Int32} {s9 : mS} (a1 : Int32) {s : mS} (h : f_X_status N a1 s = some (x9, s9)) : MetM Sx R0x oFx nx 1 61 [.ref 0, .int a1] s (some (.int x9)) s9 := by
  refine met_of_G (q := q_X_status) (t0 := (x9, s9)) y_X_status (Nat.le_of_ble_eq_true rfl) ?_
  rw [← h]
  exact G_eq (mEv_G (orc := mOrc (oL_X_status N)) (ret := rtI) (blks := bl_X_status) (cuts := []) wOKx (by decide) (oo_X_status N) (RetOK_I rfl) bk_X_status (mz_nil)) rfl
noncomputable def C_X_status {ρ : Type} (N : Nat) : List Value → mS → (Option Value → mS → Option ρ) → Option ρ := fun vs s kk => sR vs 0 fun r0 => pi1 r0 fun a1 r1 => rv0 r1 ((f_X_status N a1 s).bind fun p => kk (some (.int p.1)) p.2)
theorem cs_X_status {ρ : Type} {t0 : ρ} {d : Nat} (N : Nat) (hd : 1 + 1 ≤ d) : CallOK Sx R0x oFx nx d t0 61 (C_X_status N) := by
  intro vs s kk h0
  obtain ⟨r0, rfl, h1⟩ := sR_some h0
  obtain ⟨a1, r1, rfl, h2⟩ := pi1_some h1
  obtain ⟨rfl, h3⟩ := rv0_some h2
  obtain ⟨p, hp, hk⟩ := Option.bind_eq_some_iff.mp h3
  exact ⟨_, _, _, hd, m_X_status N a1 hp, hk, fun qy hq hf => by cases y_X_status.symm.trans hq; exact ⟨_, _, rfl, rfl⟩⟩
