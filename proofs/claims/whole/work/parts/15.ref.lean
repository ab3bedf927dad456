/-! METHOD PorterDoorsModel.feed(IIIII)I -/
set_option maxRecDepth 20000 in
noncomputable def q_M_feed : mI := (⟨"PorterDoorsModel", "feed", "(IIIII)I"⟩, prog_13_method_4_code, 8, (some .int), 10, 1401, 139, 1, 5, 1399, 1400)
theorem y_M_feed : mT[143]? = some q_M_feed := mT_at_3 (k := 23) rfl
noncomputable def bl_M_feed : List (Nat × List mO) := [(0, [o0 (.aload_n 0), o2 (.getfield 224) 10 1, o0 (.bipush 20), o0 (.iadd), o0 (.sipush 1600), o1 (.if_icmp .le 15) 25, o0 (.aload_n 0), o2 (.getfield 17) 10 9, o0 (.iconst 0), o0 (.dup2), o0 (.iaload), o0 (.iconst 1), o0 (.iadd), o0 (.iastore), o0 (.iconst (-1)), o0 (.ireturn)]),
  (25, [o0 (.iconst 0), o0 (.istore 6)]),
  (28, [o0 (.iload 6), o0 (.bipush 20), o1 (.if_icmp .ge 92) 124, o0 (.iload 6), o0 (.iconst 4), o1 (.if_icmp .ge 7) 45, o0 (.iload_n 1), o1 (.goto 39) 81]),
  (45, [o0 (.iload 6), o0 (.bipush 8), o1 (.if_icmp .ge 7) 56, o0 (.iload_n 2), o1 (.goto 28) 81]),
  (56, [o0 (.iload 6), o0 (.bipush 12), o1 (.if_icmp .ge 7) 67, o0 (.iload_n 3), o1 (.goto 17) 81]),
  (67, [o0 (.iload 6), o0 (.bipush 16), o1 (.if_icmp .ge 8) 79, o0 (.iload 4), o1 (.goto 5) 81]),
  (79, [o0 (.iload 5)]),
  (81, [o0 (.istore 7), o0 (.aload_n 0), o2 (.getfield 7) 10 0, o0 (.aload_n 0), o2 (.getfield 224) 10 1, o0 (.iload 7), o0 (.bipush 8), o0 (.iconst 3), o0 (.iload 6), o0 (.iconst 4), o0 (.irem), o0 (.isub), o0 (.imul), o0 (.ishr), o0 (.sipush 255), o0 (.iand), o0 (.iastore), o0 (.aload_n 0), o0 (.dup), o2 (.getfield 224) 10 1, o0 (.iconst 1), o0 (.iadd), o2 (.putfield 224) 10 1, o0 (.iinc 6 1), o1 (.goto (-93)) 28]),
  (124, [o0 (.aload_n 0), o2 (.getfield 224) 10 1, o0 (.ireturn)])]
theorem bk_M_feed : okBlks q_M_feed bl_M_feed = true := by decide +kernel
noncomputable def oL_M_feed {ρ : Type} (N : Nat) : List (Nat × (List Value → mS → (Option Value → mS → Option ρ) → Option ρ)) := []
theorem oo_M_feed {ρ : Type} {t0 : ρ} (N : Nat) : OrcOK Sm R0m oFm nm 1 t0 (mOrc (oL_M_feed N)) := mOrc_OK (mz_nil)
noncomputable def H_M_feed_28 {ρ : Type} (k : (Int32 × Int32 × Int32 × Int32 × Int32 × Int32 × mS) → Option ρ) : mL → List Value → mS → Option ρ := fun loc st s => cR loc 0 0 (li1 loc 1 fun v0 => li1 loc 2 fun v1 => li1 loc 3 fun v2 => li1 loc 4 fun v3 => li1 loc 5 fun v4 => li1 loc 6 fun v5 => rv0 st (k (v0, v1, v2, v3, v4, v5, s)))
noncomputable def H_M_feed_81 {ρ : Type} (k : (Int32 × Int32 × Int32 × Int32 × Int32 × Int32 × Int32 × mS) → Option ρ) : mL → List Value → mS → Option ρ := fun loc st s => cR loc 0 0 (li1 loc 1 fun v0 => li1 loc 2 fun v1 => li1 loc 3 fun v2 => li1 loc 4 fun v3 => li1 loc 5 fun v4 => li1 loc 6 fun v5 => pi1 st fun w0 r0 => rv0 r0 (k (v0, v1, v2, v3, v4, v5, w0, s)))
noncomputable def f_M_feed_j81 (N : Nat) (k28 : (Int32 × Int32 × Int32 × Int32 × Int32 × Int32 × mS) → Option (Int32 × mS)) (x : Int32 × Int32 × Int32 × Int32 × Int32 × Int32 × Int32 × mS) : Option (Int32 × mS) :=
  grd (inb (gI x.2.2.2.2.2.2.2 1001 0) 1600) (
  let s1 := sA x.2.2.2.2.2.2.2 1 (ix (gI x.2.2.2.2.2.2.2 1001 0)) ((irs x.2.2.2.2.2.2.1 (8 * (3 - (irm x.2.2.2.2.2.1 4)))) &&& 255)
  let s2 := sI s1 1001 0 ((gI s1 1001 0) + 1)
  k28 (x.1, x.2.1, x.2.2.1, x.2.2.2.1, x.2.2.2.2.1, (x.2.2.2.2.2.1 + 1), s2))
set_option maxRecDepth 100000 in
set_option maxHeartbeats 4000000 in
theorem s_M_feed_81 (N : Nat) {x9 : Int32} {s9 : mS} {k28 : (Int32 × Int32 × Int32 × Int32 × Int32 × Int32 × mS) → Option (Int32 × mS)} (hk28 : SCd Sm R0m oFm nm 1 q_M_feed (some (.int x9), s9) (x9, s9) 28 (H_M_feed_28 k28)) : SCd Sm R0m oFm nm 1 q_M_feed (some (.int x9), s9) (x9, s9) 81 (H_M_feed_81 (f_M_feed_j81 N k28)) := by
  intro loc st s
  refine G_cR (fun h0 => ?_)
  refine G_li (fun v0 h1 => ?_)
  refine G_li (fun v1 h2 => ?_)
  refine G_li (fun v2 h3 => ?_)
  refine G_li (fun v3 h4 => ?_)
  refine G_li (fun v4 h5 => ?_)
  refine G_li (fun v5 h6 => ?_)
  refine G_pi (fun w0 r0 e0 => ?_)
  refine G_rv0 (fun e9 => ?_)
  subst e9
  subst e0
  refine G_sub (loc0 := [(0, .ref 0), (1, .int v0), (2, .int v1), (3, .int v2), (4, .int v3), (5, .int v4), (6, .int v5)]) (List.forall_mem_cons.mpr ⟨h0, List.forall_mem_cons.mpr ⟨h1, List.forall_mem_cons.mpr ⟨h2, List.forall_mem_cons.mpr ⟨h3, List.forall_mem_cons.mpr ⟨h4, List.forall_mem_cons.mpr ⟨h5, List.forall_mem_cons.mpr ⟨h6, mz_nil⟩⟩⟩⟩⟩⟩⟩) ?_
  exact G_eq (mEv_G (orc := mOrc (oL_M_feed N)) (ret := rtI) (blks := bl_M_feed) (cuts := [(28, H_M_feed_28 k28)]) wOKm (by decide) (oo_M_feed N) (RetOK_I rfl) bk_M_feed (List.forall_mem_cons.mpr ⟨hk28, mz_nil⟩)) rfl
noncomputable def f_M_feed_L28 (N : Nat) (k28 : (Int32 × Int32 × Int32 × Int32 × Int32 × Int32 × mS) → Option (Int32 × mS)) (x : Int32 × Int32 × Int32 × Int32 × Int32 × Int32 × mS) : Option (Int32 × mS) :=
  if x.2.2.2.2.2.1 < 20 then
    if x.2.2.2.2.2.1 < 4 then
      f_M_feed_j81 N k28 (x.1, x.2.1, x.2.2.1, x.2.2.2.1, x.2.2.2.2.1, x.2.2.2.2.2.1, x.1, x.2.2.2.2.2.2)
    else
      if x.2.2.2.2.2.1 < 8 then
        f_M_feed_j81 N k28 (x.1, x.2.1, x.2.2.1, x.2.2.2.1, x.2.2.2.2.1, x.2.2.2.2.2.1, x.2.1, x.2.2.2.2.2.2)
      else
        if x.2.2.2.2.2.1 < 12 then
          f_M_feed_j81 N k28 (x.1, x.2.1, x.2.2.1, x.2.2.2.1, x.2.2.2.2.1, x.2.2.2.2.2.1, x.2.2.1, x.2.2.2.2.2.2)
        else
          if x.2.2.2.2.2.1 < 16 then
            f_M_feed_j81 N k28 (x.1, x.2.1, x.2.2.1, x.2.2.2.1, x.2.2.2.2.1, x.2.2.2.2.2.1, x.2.2.2.1, x.2.2.2.2.2.2)
          else
            f_M_feed_j81 N k28 (x.1, x.2.1, x.2.2.1, x.2.2.2.1, x.2.2.2.2.1, x.2.2.2.2.2.1, x.2.2.2.2.1, x.2.2.2.2.2.2)
  else
    some ((gI x.2.2.2.2.2.2 1001 0), x.2.2.2.2.2.2)
set_option maxRecDepth 100000 in
set_option maxHeartbeats 4000000 in
theorem t_M_feed_28 (N : Nat) {x9 : Int32} {s9 : mS} {k28 : (Int32 × Int32 × Int32 × Int32 × Int32 × Int32 × mS) → Option (Int32 × mS)} (hk28 : SCd Sm R0m oFm nm 1 q_M_feed (some (.int x9), s9) (x9, s9) 28 (H_M_feed_28 k28)) : SCd Sm R0m oFm nm 1 q_M_feed (some (.int x9), s9) (x9, s9) 28 (H_M_feed_28 (f_M_feed_L28 N k28)) := by
  intro loc st s
  refine G_cR (fun h0 => ?_)
  refine G_li (fun v0 h1 => ?_)
  refine G_li (fun v1 h2 => ?_)
  refine G_li (fun v2 h3 => ?_)
  refine G_li (fun v3 h4 => ?_)
  refine G_li (fun v4 h5 => ?_)
  refine G_li (fun v5 h6 => ?_)
  refine G_rv0 (fun e9 => ?_)
  subst e9
  refine G_sub (loc0 := [(0, .ref 0), (1, .int v0), (2, .int v1), (3, .int v2), (4, .int v3), (5, .int v4), (6, .int v5)]) (List.forall_mem_cons.mpr ⟨h0, List.forall_mem_cons.mpr ⟨h1, List.forall_mem_cons.mpr ⟨h2, List.forall_mem_cons.mpr ⟨h3, List.forall_mem_cons.mpr ⟨h4, List.forall_mem_cons.mpr ⟨h5, List.forall_mem_cons.mpr ⟨h6, mz_nil⟩⟩⟩⟩⟩⟩⟩) ?_
  exact G_eq (mEv_G (orc := mOrc (oL_M_feed N)) (ret := rtI) (blks := bl_M_feed) (cuts := [(81, H_M_feed_81 (f_M_feed_j81 N k28))]) wOKm (by decide) (oo_M_feed N) (RetOK_I rfl) bk_M_feed (List.forall_mem_cons.mpr ⟨s_M_feed_81 N hk28, mz_nil⟩)) rfl
theorem s_M_feed_28 (N : Nat) {x9 : Int32} {s9 : mS} : SCd Sm R0m oFm nm 1 q_M_feed (some (.int x9), s9) (x9, s9) 28 (H_M_feed_28 (mfix N (f_M_feed_L28 N))) := by
  refine mfix_SC (H := H_M_feed_28) (fun loc st s => ?_) (fun k hk => t_M_feed_28 N hk) N
  refine G_cR (fun h0 => ?_)
  refine G_li (fun v0 h1 => ?_)
  refine G_li (fun v1 h2 => ?_)
  refine G_li (fun v2 h3 => ?_)
  refine G_li (fun v3 h4 => ?_)
  refine G_li (fun v4 h5 => ?_)
  refine G_li (fun v5 h6 => ?_)
  refine G_rv0 (fun e9 => ?_)
  subst e9
  exact G_none
noncomputable def f_M_feed (N : Nat) (a1 : Int32) (a2 : Int32) (a3 : Int32) (a4 : Int32) (a5 : Int32) (s : mS) : Option (Int32 × mS) :=
  if 1600 < ((gI s 1001 0) + 20) then
    let s1 := sA s 2 0 ((gA s 2 0) + 1)
    some ((-1), s1)
  else
    mfix N (f_M_feed_L28 N) (a1, a2, a3, a4, a5, 0, s)
set_option maxRecDepth 100000 in
set_option maxHeartbeats 4000000 in
theorem m_M_feed (N : Nat) {x9 : Int32} {s9 : mS} (a1 : Int32) (a2 : Int32) (a3 : Int32) (a4 : Int32) (a5 : Int32) {s : mS} (h : f_M_feed N a1 a2 a3 a4 a5 s = some (x9, s9)) : MetM Sm R0m oFm nm 1 143 [.ref 0, .int a1, .int a2, .int a3, .int a4, .int a5] s (some (.int x9)) s9 := by
  refine met_of_G (q := q_M_feed) (t0 := (x9, s9)) y_M_feed (Nat.le_of_ble_eq_true rfl) ?_
  rw [← h]
  exact G_eq (mEv_G (orc := mOrc (oL_M_feed N)) (ret := rtI) (blks := bl_M_feed) (cuts := [(28, H_M_feed_28 (mfix N (f_M_feed_L28 N)))]) wOKm (by decide) (oo_M_feed N) (RetOK_I rfl) bk_M_feed (List.forall_mem_cons.mpr ⟨s_M_feed_28 N, mz_nil⟩)) rfl
noncomputable def C_M_feed {ρ : Type} (N : Nat) : List Value → mS → (Option Value → mS → Option ρ) → Option ρ := fun vs s kk => sR vs 0 fun r0 => pi1 r0 fun a1 r1 => pi1 r1 fun a2 r2 => pi1 r2 fun a3 r3 => pi1 r3 fun a4 r4 => pi1 r4 fun a5 r5 => rv0 r5 ((f_M_feed N a1 a2 a3 a4 a5 s).bind fun p => kk (some (.int p.1)) p.2)
theorem cs_M_feed {ρ : Type} {t0 : ρ} {d : Nat} (N : Nat) (hd : 1 + 1 ≤ d) : CallOK Sm R0m oFm nm d t0 143 (C_M_feed N) := by
  intro vs s kk h0
  obtain ⟨r0, rfl, h1⟩ := sR_some h0
  obtain ⟨a1, r1, rfl, h2⟩ := pi1_some h1
  obtain ⟨a2, r2, rfl, h3⟩ := pi1_some h2
  obtain ⟨a3, r3, rfl, h4⟩ := pi1_some h3
  obtain ⟨a4, r4, rfl, h5⟩ := pi1_some h4
  obtain ⟨a5, r5, rfl, h6⟩ := pi1_some h5
  obtain ⟨rfl, h7⟩ := rv0_some h6
  obtain ⟨p, hp, hk⟩ := Option.bind_eq_some_iff.mp h7
  exact ⟨_, _, _, hd, m_M_feed N a1 a2 a3 a4 a5 hp, hk, fun qy hq hf => by cases y_M_feed.symm.trans hq; exact ⟨_, _, rfl, rfl⟩⟩
/-! METHOD PorterDoorsModel.end(I)Z -/
set_option maxRecDepth 20000 in
noncomputable def q_M_end : mI := (⟨"PorterDoorsModel", "end", "(I)Z"⟩, prog_13_method_5_code, 2, (some .boolean), 10, 1405, 139, 1, 1, 1403, 1404)
theorem y_M_end : mT[144]? = some q_M_end := mT_at_3 (k := 24) rfl
noncomputable def bl_M_end : List (Nat × List mO) := [(0, [o0 (.iload_n 1), o1 (.ifCond .lt 11) 12, o0 (.iload_n 1), o0 (.aload_n 0), o2 (.getfield 224) 10 1, o1 (.if_icmp .le 15) 24]),
  (12, [o0 (.aload_n 0), o2 (.getfield 17) 10 9, o0 (.iconst 0), o0 (.dup2), o0 (.iaload), o0 (.iconst 1), o0 (.iadd), o0 (.iastore), o0 (.iconst 0), o0 (.ireturn)]),
  (24, [o0 (.aload_n 0), o0 (.iload_n 1), o2 (.putfield 224) 10 1, o0 (.iconst 1), o0 (.ireturn)])]
theorem bk_M_end : okBlks q_M_end bl_M_end = true := by decide +kernel
noncomputable def oL_M_end {ρ : Type} (N : Nat) : List (Nat × (List Value → mS → (Option Value → mS → Option ρ) → Option ρ)) := []
theorem oo_M_end {ρ : Type} {t0 : ρ} (N : Nat) : OrcOK Sm R0m oFm nm 1 t0 (mOrc (oL_M_end N)) := mOrc_OK (mz_nil)
noncomputable def H_M_end_12 {ρ : Type} (k : mS → Option ρ) : mL → List Value → mS → Option ρ := fun loc st s => cR loc 0 0 (rv0 st (k s))
noncomputable def f_M_end_j12 (N : Nat) (x : mS) : Option (Int32 × mS) :=
  let s1 := sA x 2 0 ((gA x 2 0) + 1)
  some (0, s1)
set_option maxRecDepth 100000 in
set_option maxHeartbeats 4000000 in
theorem s_M_end_12 (N : Nat) {x9 : Int32} {s9 : mS} : SCd Sm R0m oFm nm 1 q_M_end (some (.int x9), s9) (x9, s9) 12 (H_M_end_12 (f_M_end_j12 N)) := by
  intro loc st s
  refine G_cR (fun h0 => ?_)
  refine G_rv0 (fun e9 => ?_)
  subst e9
  refine G_sub (loc0 := [(0, .ref 0)]) (List.forall_mem_cons.mpr ⟨h0, mz_nil⟩) ?_
  exact G_eq (mEv_G (orc := mOrc (oL_M_end N)) (ret := rtZ) (blks := bl_M_end) (cuts := []) wOKm (by decide) (oo_M_end N) (RetOK_Z rfl) bk_M_end (mz_nil)) rfl
noncomputable def f_M_end (N : Nat) (a1 : Int32) (s : mS) : Option (Int32 × mS) :=
  if a1 < 0 then
    f_M_end_j12 N s
  else
    if (gI s 1001 0) < a1 then
      f_M_end_j12 N s
    else
      let s1 := sI s 1001 0 a1
      some (1, s1)
set_option maxRecDepth 100000 in
set_option maxHeartbeats 4000000 in
theorem m_M_end (N : Nat) {x9 : Int32} {s9 : mS} (a1 : Int32) {s : mS} (h : f_M_end N a1 s = some (x9, s9)) : MetM Sm R0m oFm nm 1 144 [.ref 0, .int a1] s (some (.int x9)) s9 := by
  refine met_of_G (q := q_M_end) (t0 := (x9, s9)) y_M_end (Nat.le_of_ble_eq_true rfl) ?_
  rw [← h]
  exact G_eq (mEv_G (orc := mOrc (oL_M_end N)) (ret := rtZ) (blks := bl_M_end) (cuts := [(12, H_M_end_12 (f_M_end_j12 N))]) wOKm (by decide) (oo_M_end N) (RetOK_Z rfl) bk_M_end (List.forall_mem_cons.mpr ⟨s_M_end_12 N, mz_nil⟩)) rfl
noncomputable def C_M_end {ρ : Type} (N : Nat) : List Value → mS → (Option Value → mS → Option ρ) → Option ρ := fun vs s kk => sR vs 0 fun r0 => pi1 r0 fun a1 r1 => rv0 r1 ((f_M_end N a1 s).bind fun p => kk (some (.int p.1)) p.2)
theorem cs_M_end {ρ : Type} {t0 : ρ} {d : Nat} (N : Nat) (hd : 1 + 1 ≤ d) : CallOK Sm R0m oFm nm d t0 144 (C_M_end N) := by
  intro vs s kk h0
  obtain ⟨r0, rfl, h1⟩ := sR_some h0
  obtain ⟨a1, r1, rfl, h2⟩ := pi1_some h1
  obtain ⟨rfl, h3⟩ := rv0_some h2
  obtain ⟨p, hp, hk⟩ := Option.bind_eq_some_iff.mp h3
  exact ⟨_, _, _, hd, m_M_end N a1 hp, hk, fun qy hq hf => by cases y_M_end.symm.trans hq; exact ⟨_, _, rfl, rfl⟩⟩
/-! METHOD PorterDoorsModel.look()I -/
set_option maxRecDepth 20000 in
noncomputable def q_M_look : mI := (⟨"PorterDoorsModel", "look", "()I"⟩, prog_13_method_9_code, 1, (some .int), 10, 1429, 139, 1, 0, 1428, 46)
theorem y_M_look : mT[150]? = some q_M_look := mT_at_3 (k := 30) rfl
noncomputable def bl_M_look : List (Nat × List mO) := [(0, [o0 (.aload_n 0), o2 (.getfield 233) 10 2, o0 (.aload_n 0), o2 (.getfield 236) 10 3, o1 (.if_icmp .ge 44) 52, o0 (.aload_n 0), o2 (.getfield 7) 10 0, o0 (.aload_n 0), o2 (.getfield 233) 10 2, o0 (.iaload), o0 (.bipush 10), o1 (.if_icmp .eq 17) 39, o0 (.aload_n 0), o2 (.getfield 7) 10 0, o0 (.aload_n 0), o2 (.getfield 233) 10 2, o0 (.iaload), o0 (.bipush 32), o1 (.if_icmp .ne 16) 52]),
  (39, [o0 (.aload_n 0), o0 (.dup), o2 (.getfield 233) 10 2, o0 (.iconst 1), o0 (.iadd), o2 (.putfield 233) 10 2, o1 (.goto (-49)) 0]),
  (52, [o0 (.aload_n 0), o2 (.getfield 233) 10 2, o0 (.aload_n 0), o2 (.getfield 236) 10 3, o1 (.if_icmp .ge 15) 75, o0 (.aload_n 0), o2 (.getfield 7) 10 0, o0 (.aload_n 0), o2 (.getfield 233) 10 2, o0 (.iaload), o1 (.goto 4) 76]),
  (75, [o0 (.iconst (-1))]),
  (76, [o0 (.ireturn)])]
theorem bk_M_look : okBlks q_M_look bl_M_look = true := by decide +kernel
noncomputable def oL_M_look {ρ : Type} (N : Nat) : List (Nat × (List Value → mS → (Option Value → mS → Option ρ) → Option ρ)) := []
theorem oo_M_look {ρ : Type} {t0 : ρ} (N : Nat) : OrcOK Sm R0m oFm nm 1 t0 (mOrc (oL_M_look N)) := mOrc_OK (mz_nil)
noncomputable def H_M_look_0 {ρ : Type} (k : mS → Option ρ) : mL → List Value → mS → Option ρ := fun loc st s => cR loc 0 0 (rv0 st (k s))
noncomputable def H_M_look_52 {ρ : Type} (k : mS → Option ρ) : mL → List Value → mS → Option ρ := fun loc st s => cR loc 0 0 (rv0 st (k s))
noncomputable def f_M_look_j52 (N : Nat) (x : mS) : Option (Int32 × mS) :=
  if (gI x 1002 0) < (gI x 1003 0) then
    grd (inb (gI x 1002 0) 1600) (
    some ((gA x 1 (ix (gI x 1002 0))), x))
  else
    some ((-1), x)
set_option maxRecDepth 100000 in
set_option maxHeartbeats 4000000 in
theorem s_M_look_52 (N : Nat) {x9 : Int32} {s9 : mS} : SCd Sm R0m oFm nm 1 q_M_look (some (.int x9), s9) (x9, s9) 52 (H_M_look_52 (f_M_look_j52 N)) := by
  intro loc st s
  refine G_cR (fun h0 => ?_)
  refine G_rv0 (fun e9 => ?_)
  subst e9
  refine G_sub (loc0 := [(0, .ref 0)]) (List.forall_mem_cons.mpr ⟨h0, mz_nil⟩) ?_
  exact G_eq (mEv_G (orc := mOrc (oL_M_look N)) (ret := rtI) (blks := bl_M_look) (cuts := []) wOKm (by decide) (oo_M_look N) (RetOK_I rfl) bk_M_look (mz_nil)) rfl
noncomputable def f_M_look_L0 (N : Nat) (k0 : mS → Option (Int32 × mS)) (x : mS) : Option (Int32 × mS) :=
  if (gI x 1002 0) < (gI x 1003 0) then
    grd (inb (gI x 1002 0) 1600) (
    if (gA x 1 (ix (gI x 1002 0))) = 10 then
      let s1 := sI x 1002 0 ((gI x 1002 0) + 1)
      k0 s1
    else
      grd (inb (gI x 1002 0) 1600) (
      if (gA x 1 (ix (gI x 1002 0))) = 32 then
        let s2 := sI x 1002 0 ((gI x 1002 0) + 1)
        k0 s2
      else
        f_M_look_j52 N x))
  else
    f_M_look_j52 N x
set_option maxRecDepth 100000 in
set_option maxHeartbeats 4000000 in
theorem t_M_look_0 (N : Nat) {x9 : Int32} {s9 : mS} {k0 : mS → Option (Int32 × mS)} (hk0 : SCd Sm R0m oFm nm 1 q_M_look (some (.int x9), s9) (x9, s9) 0 (H_M_look_0 k0)) : SCd Sm R0m oFm nm 1 q_M_look (some (.int x9), s9) (x9, s9) 0 (H_M_look_0 (f_M_look_L0 N k0)) := by
  intro loc st s
  refine G_cR (fun h0 => ?_)
  refine G_rv0 (fun e9 => ?_)
  subst e9
  refine G_sub (loc0 := [(0, .ref 0)]) (List.forall_mem_cons.mpr ⟨h0, mz_nil⟩) ?_
  exact G_eq (mEv_G (orc := mOrc (oL_M_look N)) (ret := rtI) (blks := bl_M_look) (cuts := [(0, H_M_look_0 k0), (52, H_M_look_52 (f_M_look_j52 N))]) wOKm (by decide) (oo_M_look N) (RetOK_I rfl) bk_M_look (List.forall_mem_cons.mpr ⟨hk0, List.forall_mem_cons.mpr ⟨s_M_look_52 N, mz_nil⟩⟩)) rfl
theorem s_M_look_0 (N : Nat) {x9 : Int32} {s9 : mS} : SCd Sm R0m oFm nm 1 q_M_look (some (.int x9), s9) (x9, s9) 0 (H_M_look_0 (mfix N (f_M_look_L0 N))) := by
  refine mfix_SC (H := H_M_look_0) (fun loc st s => ?_) (fun k hk => t_M_look_0 N hk) N
  refine G_cR (fun h0 => ?_)
  refine G_rv0 (fun e9 => ?_)
  subst e9
  exact G_none
noncomputable def f_M_look (N : Nat) (s : mS) : Option (Int32 × mS) :=
  mfix N (f_M_look_L0 N) s
set_option maxRecDepth 100000 in
set_option maxHeartbeats 4000000 in
theorem m_M_look (N : Nat) {x9 : Int32} {s9 : mS} {s : mS} (h : f_M_look N s = some (x9, s9)) : MetM Sm R0m oFm nm 1 150 [.ref 0] s (some (.int x9)) s9 := by
  refine met_of_G (q := q_M_look) (t0 := (x9, s9)) y_M_look (Nat.le_of_ble_eq_true rfl) ?_
  rw [← h]
  exact s_M_look_0 N _ _ _
noncomputable def C_M_look {ρ : Type} (N : Nat) : List Value → mS → (Option Value → mS → Option ρ) → Option ρ := fun vs s kk => sR vs 0 fun r0 => rv0 r0 ((f_M_look N s).bind fun p => kk (some (.int p.1)) p.2)
theorem cs_M_look {ρ : Type} {t0 : ρ} {d : Nat} (N : Nat) (hd : 1 + 1 ≤ d) : CallOK Sm R0m oFm nm d t0 150 (C_M_look N) := by
  intro vs s kk h0
  obtain ⟨r0, rfl, h1⟩ := sR_some h0
  obtain ⟨rfl, h2⟩ := rv0_some h1
  obtain ⟨p, hp, hk⟩ := Option.bind_eq_some_iff.mp h2
  exact ⟨_, _, _, hd, m_M_look N hp, hk, fun qy hq hf => by cases y_M_look.symm.trans hq; exact ⟨_, _, rfl, rfl⟩⟩
/-! METHOD PorterDoorsModel.isLetter(I)Z -/
set_option maxRecDepth 20000 in
noncomputable def q_M_isLetter : mI := (⟨"PorterDoorsModel", "isLetter", "(I)Z"⟩, prog_13_method_7_code, 1, (some .boolean), 10, 1432, 139, 0, 1, 1431, 0)
theorem y_M_isLetter : mT[151]? = some q_M_isLetter := mT_at_3 (k := 31) rfl
noncomputable def bl_M_isLetter : List (Nat × List mO) := [(0, [o0 (.iload_n 0), o0 (.bipush 97), o1 (.if_icmp .lt 13) 16, o0 (.iload_n 0), o0 (.bipush 122), o1 (.if_icmp .gt 7) 16, o0 (.iconst 1), o1 (.goto 4) 17]),
  (16, [o0 (.iconst 0)]),
  (17, [o0 (.ireturn)])]
theorem bk_M_isLetter : okBlks q_M_isLetter bl_M_isLetter = true := by decide +kernel
noncomputable def oL_M_isLetter {ρ : Type} (N : Nat) : List (Nat × (List Value → mS → (Option Value → mS → Option ρ) → Option ρ)) := []
theorem oo_M_isLetter {ρ : Type} {t0 : ρ} (N : Nat) : OrcOK Sm R0m oFm nm 1 t0 (mOrc (oL_M_isLetter N)) := mOrc_OK (mz_nil)
noncomputable def f_M_isLetter (N : Nat) (a0 : Int32) (s : mS) : Option (Int32 × mS) :=
  if a0 < 97 then
    some (0, s)
  else
    if 122 < a0 then
      some (0, s)
    else
      some (1, s)
set_option maxRecDepth 100000 in
set_option maxHeartbeats 4000000 in
theorem m_M_isLetter (N : Nat) {x9 : Int32} {s9 : mS} (a0 : Int32) {s : mS} (h : f_M_isLetter N a0 s = some (x9, s9)) : MetM Sm R0m oFm nm 1 151 [.int a0] s (some (.int x9)) s9 := by
  refine met_of_G (q := q_M_isLetter) (t0 := (x9, s9)) y_M_isLetter (Nat.le_of_ble_eq_true rfl) ?_
  rw [← h]
  exact G_eq (mEv_G (orc := mOrc (oL_M_isLetter N)) (ret := rtZ) (blks := bl_M_isLetter) (cuts := []) wOKm (by decide) (oo_M_isLetter N) (RetOK_Z rfl) bk_M_isLetter (mz_nil)) rfl
noncomputable def C_M_isLetter {ρ : Type} (N : Nat) : List Value → mS → (Option Value → mS → Option ρ) → Option ρ := fun vs s kk => pi1 vs fun a0 r0 => rv0 r0 ((f_M_isLetter N a0 s).bind fun p => kk (some (.int p.1)) p.2)
theorem cs_M_isLetter {ρ : Type} {t0 : ρ} {d : Nat} (N : Nat) (hd : 1 + 1 ≤ d) : CallOK Sm R0m oFm nm d t0 151 (C_M_isLetter N) := by
  intro vs s kk h0
  obtain ⟨a0, r0, rfl, h1⟩ := pi1_some h0
  obtain ⟨rfl, h2⟩ := rv0_some h1
  obtain ⟨p, hp, hk⟩ := Option.bind_eq_some_iff.mp h2
  exact ⟨_, _, _, hd, m_M_isLetter N a0 hp, hk, fun qy hq hf => by cases y_M_isLetter.symm.trans hq; exact absurd hf (by decide)⟩
/-! METHOD PorterDoorsModel.isHere([C)Z -/
set_option maxRecDepth 20000 in
noncomputable def q_M_isHere : mI := (⟨"PorterDoorsModel", "isHere", "([C)Z"⟩, prog_13_method_10_code, 4, (some .boolean), 10, 1425, 139, 1, 1, 1424, 45)
theorem y_M_isHere : mT[149]? = some q_M_isHere := mT_at_3 (k := 29) rfl
noncomputable def bl_M_isHere : List (Nat × List mO) := [(0, [o0 (.aload_n 0), o2 (.getfield 227) 10 5, o1 (.ifCond .ne 24) 28, o0 (.aload_n 0), o2 (.invokevirtual 239) 150 1, o2 (.invokestatic 243) 151 1, o1 (.ifCond .eq 14) 28, o0 (.aload_n 0), o2 (.getfield 233) 10 2, o0 (.aload_n 0), o2 (.getfield 247) 10 4, o1 (.if_icmp .ne 5) 30]),
  (28, [o0 (.iconst 0), o0 (.ireturn)]),
  (30, [o0 (.aload_n 0), o2 (.getfield 233) 10 2, o0 (.istore_n 2)]),
  (35, [o0 (.iload_n 2), o0 (.aload_n 0), o2 (.getfield 236) 10 3, o1 (.if_icmp .ge 21) 61, o0 (.aload_n 0), o2 (.getfield 7) 10 0, o0 (.iload_n 2), o0 (.iaload), o2 (.invokestatic 243) 151 1, o1 (.ifCond .eq 9) 61, o0 (.iinc 2 1), o1 (.goto (-23)) 35]),
  (61, [o0 (.iload_n 2), o0 (.aload_n 0), o2 (.getfield 233) 10 2, o0 (.isub), o0 (.aload_n 1), o0 (.arraylength), o1 (.if_icmp .eq 5) 74, o0 (.iconst 0), o0 (.ireturn)]),
  (74, [o0 (.iconst 0), o0 (.istore_n 3)]),
  (76, [o0 (.iload_n 3), o0 (.aload_n 1), o0 (.arraylength), o1 (.if_icmp .ge 28) 107, o0 (.aload_n 0), o2 (.getfield 7) 10 0, o0 (.aload_n 0), o2 (.getfield 233) 10 2, o0 (.iload_n 3), o0 (.iadd), o0 (.iaload), o0 (.aload_n 1), o0 (.iload_n 3), o0 (.caload), o1 (.if_icmp .eq 5) 101, o0 (.iconst 0), o0 (.ireturn)]),
  (101, [o0 (.iinc 3 1), o1 (.goto (-28)) 76]),
  (107, [o0 (.iconst 1), o0 (.ireturn)])]
theorem bk_M_isHere : okBlks q_M_isHere bl_M_isHere = true := by decide +kernel
noncomputable def oL_M_isHere {ρ : Type} (N : Nat) : List (Nat × (List Value → mS → (Option Value → mS → Option ρ) → Option ρ)) := [(150, C_M_look N), (151, C_M_isLetter N)]
theorem oo_M_isHere {ρ : Type} {t0 : ρ} (N : Nat) : OrcOK Sm R0m oFm nm 2 t0 (mOrc (oL_M_isHere N)) := mOrc_OK (List.forall_mem_cons.mpr ⟨cs_M_look N (by decide), List.forall_mem_cons.mpr ⟨cs_M_isLetter N (by decide), mz_nil⟩⟩)
noncomputable def H_M_isHere_35 {ρ : Type} (k : (Nat × Int32 × mS) → Option ρ) : mL → List Value → mS → Option ρ := fun loc st s => cR loc 0 0 (lr1 loc 1 fun v0 => li1 loc 2 fun v1 => rv0 st (k (v0, v1, s)))
noncomputable def H_M_isHere_61 {ρ : Type} (k : (Nat × Int32 × mS) → Option ρ) : mL → List Value → mS → Option ρ := fun loc st s => cR loc 0 0 (lr1 loc 1 fun v0 => li1 loc 2 fun v1 => rv0 st (k (v0, v1, s)))
noncomputable def H_M_isHere_76 {ρ : Type} (k : (Nat × Int32 × mS) → Option ρ) : mL → List Value → mS → Option ρ := fun loc st s => cR loc 0 0 (lr1 loc 1 fun v0 => li1 loc 3 fun v1 => rv0 st (k (v0, v1, s)))
noncomputable def f_M_isHere_L76 (N : Nat) (k76 : (Nat × Int32 × mS) → Option (Int32 × mS)) (x : Nat × Int32 × mS) : Option (Int32 × mS) :=
  grd (isA Sm x.1) (
  if x.2.1 < (Int32.ofNat (alA Sm x.1)) then
    grd (inb ((gI x.2.2 1002 0) + x.2.1) 1600) (
    grd (inb x.2.1 (aln Sm 1 x.1)) (
    if (gA x.2.2 1 (ix ((gI x.2.2 1002 0) + x.2.1))) = (gA x.2.2 x.1 (ix x.2.1)) then
      k76 (x.1, (x.2.1 + 1), x.2.2)
    else
      some (0, x.2.2)))
  else
    some (1, x.2.2))
set_option maxRecDepth 100000 in
set_option maxHeartbeats 4000000 in
theorem t_M_isHere_76 (N : Nat) {x9 : Int32} {s9 : mS} {k76 : (Nat × Int32 × mS) → Option (Int32 × mS)} (hk76 : SCd Sm R0m oFm nm 2 q_M_isHere (some (.int x9), s9) (x9, s9) 76 (H_M_isHere_76 k76)) : SCd Sm R0m oFm nm 2 q_M_isHere (some (.int x9), s9) (x9, s9) 76 (H_M_isHere_76 (f_M_isHere_L76 N k76)) := by
  intro loc st s
  refine G_cR (fun h0 => ?_)
  refine G_lr (fun v0 h1 => ?_)
  refine G_li (fun v1 h3 => ?_)
  refine G_rv0 (fun e9 => ?_)
  subst e9
  refine G_sub (loc0 := [(0, .ref 0), (1, .ref v0), (3, .int v1)]) (List.forall_mem_cons.mpr ⟨h0, List.forall_mem_cons.mpr ⟨h1, List.forall_mem_cons.mpr ⟨h3, mz_nil⟩⟩⟩) ?_
  exact G_eq (mEv_G (orc := mOrc (oL_M_isHere N)) (ret := rtZ) (blks := bl_M_isHere) (cuts := [(76, H_M_isHere_76 k76)]) wOKm (by decide) (oo_M_isHere N) (RetOK_Z rfl) bk_M_isHere (List.forall_mem_cons.mpr ⟨hk76, mz_nil⟩)) rfl
theorem s_M_isHere_76 (N : Nat) {x9 : Int32} {s9 : mS} : SCd Sm R0m oFm nm 2 q_M_isHere (some (.int x9), s9) (x9, s9) 76 (H_M_isHere_76 (mfix N (f_M_isHere_L76 N))) := by
  refine mfix_SC (H := H_M_isHere_76) (fun loc st s => ?_) (fun k hk => t_M_isHere_76 N hk) N
  refine G_cR (fun h0 => ?_)
  refine G_lr (fun v0 h1 => ?_)
  refine G_li (fun v1 h3 => ?_)
  refine G_rv0 (fun e9 => ?_)
  subst e9
  exact G_none
noncomputable def f_M_isHere_j61 (N : Nat) (x : Nat × Int32 × mS) : Option (Int32 × mS) :=
  grd (isA Sm x.1) (
  if (x.2.1 - (gI x.2.2 1002 0)) = (Int32.ofNat (alA Sm x.1)) then
    mfix N (f_M_isHere_L76 N) (x.1, 0, x.2.2)
  else
    some (0, x.2.2))
set_option maxRecDepth 100000 in
set_option maxHeartbeats 4000000 in
theorem s_M_isHere_61 (N : Nat) {x9 : Int32} {s9 : mS} : SCd Sm R0m oFm nm 2 q_M_isHere (some (.int x9), s9) (x9, s9) 61 (H_M_isHere_61 (f_M_isHere_j61 N)) := by
  intro loc st s
  refine G_cR (fun h0 => ?_)
  refine G_lr (fun v0 h1 => ?_)
  refine G_li (fun v1 h2 => ?_)
  refine G_rv0 (fun e9 => ?_)
  subst e9
  refine G_sub (loc0 := [(0, .ref 0), (1, .ref v0), (2, .int v1)]) (List.forall_mem_cons.mpr ⟨h0, List.forall_mem_cons.mpr ⟨h1, List.forall_mem_cons.mpr ⟨h2, mz_nil⟩⟩⟩) ?_
  exact G_eq (mEv_G (orc := mOrc (oL_M_isHere N)) (ret := rtZ) (blks := bl_M_isHere) (cuts := [(76, H_M_isHere_76 (mfix N (f_M_isHere_L76 N)))]) wOKm (by decide) (oo_M_isHere N) (RetOK_Z rfl) bk_M_isHere (List.forall_mem_cons.mpr ⟨s_M_isHere_76 N, mz_nil⟩)) rfl
noncomputable def f_M_isHere_L35 (N : Nat) (k35 : (Nat × Int32 × mS) → Option (Int32 × mS)) (x : Nat × Int32 × mS) : Option (Int32 × mS) :=
  if x.2.1 < (gI x.2.2 1003 0) then
    grd (inb x.2.1 1600) (
    (f_M_isLetter N (gA x.2.2 1 (ix x.2.1)) x.2.2).bind fun p1 =>
    if p1.1 = 0 then
      f_M_isHere_j61 N (x.1, x.2.1, p1.2)
    else
      k35 (x.1, (x.2.1 + 1), p1.2))
  else
    f_M_isHere_j61 N (x.1, x.2.1, x.2.2)
set_option maxRecDepth 100000 in
set_option maxHeartbeats 4000000 in
theorem t_M_isHere_35 (N : Nat) {x9 : Int32} {s9 : mS} {k35 : (Nat × Int32 × mS) → Option (Int32 × mS)} (hk35 : SCd Sm R0m oFm nm 2 q_M_isHere (some (.int x9), s9) (x9, s9) 35 (H_M_isHere_35 k35)) : SCd Sm R0m oFm nm 2 q_M_isHere (some (.int x9), s9) (x9, s9) 35 (H_M_isHere_35 (f_M_isHere_L35 N k35)) := by
  intro loc st s
  refine G_cR (fun h0 => ?_)
  refine G_lr (fun v0 h1 => ?_)
  refine G_li (fun v1 h2 => ?_)
  refine G_rv0 (fun e9 => ?_)
  subst e9
  refine G_sub (loc0 := [(0, .ref 0), (1, .ref v0), (2, .int v1)]) (List.forall_mem_cons.mpr ⟨h0, List.forall_mem_cons.mpr ⟨h1, List.forall_mem_cons.mpr ⟨h2, mz_nil⟩⟩⟩) ?_
  exact G_eq (mEv_G (orc := mOrc (oL_M_isHere N)) (ret := rtZ) (blks := bl_M_isHere) (cuts := [(35, H_M_isHere_35 k35), (61, H_M_isHere_61 (f_M_isHere_j61 N))]) wOKm (by decide) (oo_M_isHere N) (RetOK_Z rfl) bk_M_isHere (List.forall_mem_cons.mpr ⟨hk35, List.forall_mem_cons.mpr ⟨s_M_isHere_61 N, mz_nil⟩⟩)) rfl
theorem s_M_isHere_35 (N : Nat) {x9 : Int32} {s9 : mS} : SCd Sm R0m oFm nm 2 q_M_isHere (some (.int x9), s9) (x9, s9) 35 (H_M_isHere_35 (mfix N (f_M_isHere_L35 N))) := by
  refine mfix_SC (H := H_M_isHere_35) (fun loc st s => ?_) (fun k hk => t_M_isHere_35 N hk) N
  refine G_cR (fun h0 => ?_)
  refine G_lr (fun v0 h1 => ?_)
  refine G_li (fun v1 h2 => ?_)
  refine G_rv0 (fun e9 => ?_)
  subst e9
  exact G_none
noncomputable def f_M_isHere (N : Nat) (a1 : Nat) (s : mS) : Option (Int32 × mS) :=
  if (gI s 1005 0) = 0 then
    (f_M_look N s).bind fun p1 =>
    (f_M_isLetter N p1.1 p1.2).bind fun p2 =>
    if p2.1 = 0 then
      some (0, p2.2)
    else
      if (gI p2.2 1002 0) = (gI p2.2 1004 0) then
        some (0, p2.2)
      else
        mfix N (f_M_isHere_L35 N) (a1, (gI p2.2 1002 0), p2.2)
  else
    some (0, s)
set_option maxRecDepth 100000 in
set_option maxHeartbeats 4000000 in
theorem m_M_isHere (N : Nat) {x9 : Int32} {s9 : mS} (a1 : Nat) {s : mS} (h : f_M_isHere N a1 s = some (x9, s9)) : MetM Sm R0m oFm nm 2 149 [.ref 0, .ref a1] s (some (.int x9)) s9 := by
  refine met_of_G (q := q_M_isHere) (t0 := (x9, s9)) y_M_isHere (Nat.le_of_ble_eq_true rfl) ?_
  rw [← h]
  exact G_eq (mEv_G (orc := mOrc (oL_M_isHere N)) (ret := rtZ) (blks := bl_M_isHere) (cuts := [(35, H_M_isHere_35 (mfix N (f_M_isHere_L35 N)))]) wOKm (by decide) (oo_M_isHere N) (RetOK_Z rfl) bk_M_isHere (List.forall_mem_cons.mpr ⟨s_M_isHere_35 N, mz_nil⟩)) rfl
noncomputable def C_M_isHere {ρ : Type} (N : Nat) : List Value → mS → (Option Value → mS → Option ρ) → Option ρ := fun vs s kk => sR vs 0 fun r0 => pr1 r0 fun a1 r1 => rv0 r1 ((f_M_isHere N a1 s).bind fun p => kk (some (.int p.1)) p.2)
theorem cs_M_isHere {ρ : Type} {t0 : ρ} {d : Nat} (N : Nat) (hd : 2 + 1 ≤ d) : CallOK Sm R0m oFm nm d t0 149 (C_M_isHere N) := by
  intro vs s kk h0
  obtain ⟨r0, rfl, h1⟩ := sR_some h0
  obtain ⟨a1, r1, rfl, h2⟩ := pr1_some h1
  obtain ⟨rfl, h3⟩ := rv0_some h2
  obtain ⟨p, hp, hk⟩ := Option.bind_eq_some_iff.mp h3
  exact ⟨_, _, _, hd, m_M_isHere N a1 hp, hk, fun qy hq hf => by cases y_M_isHere.symm.trans hq; exact ⟨_, _, rfl, rfl⟩⟩
/-! METHOD PorterDoorsModel.takes([C)Z -/
set_option maxRecDepth 20000 in
noncomputable def q_M_takes : mI := (⟨"PorterDoorsModel", "takes", "([C)Z"⟩, prog_13_method_11_code, 2, (some .boolean), 10, 1421, 139, 1, 1, 1420, 44)
theorem y_M_takes : mT[148]? = some q_M_takes := mT_at_3 (k := 28) rfl
noncomputable def bl_M_takes : List (Nat × List mO) := [(0, [o0 (.aload_n 0), o0 (.aload_n 1), o2 (.invokevirtual 250) 149 2, o1 (.ifCond .ne 5) 10, o0 (.iconst 0), o0 (.ireturn)]),
  (10, [o0 (.aload_n 0), o0 (.dup), o2 (.getfield 233) 10 2, o0 (.aload_n 1), o0 (.arraylength), o0 (.iadd), o2 (.putfield 233) 10 2, o0 (.aload_n 0), o0 (.aload_n 0), o2 (.getfield 233) 10 2, o2 (.putfield 247) 10 4, o0 (.iconst 1), o0 (.ireturn)])]
theorem bk_M_takes : okBlks q_M_takes bl_M_takes = true := by decide +kernel
noncomputable def oL_M_takes {ρ : Type} (N : Nat) : List (Nat × (List Value → mS → (Option Value → mS → Option ρ) → Option ρ)) := [(149, C_M_isHere N)]
theorem oo_M_takes {ρ : Type} {t0 : ρ} (N : Nat) : OrcOK Sm R0m oFm nm 3 t0 (mOrc (oL_M_takes N)) := mOrc_OK (List.forall_mem_cons.mpr ⟨cs_M_isHere N (by decide), mz_nil⟩)
noncomputable def f_M_takes (N : Nat) (a1 : Nat) (s : mS) : Option (Int32 × mS) :=
  (f_M_isHere N a1 s).bind fun p1 =>
  if p1.1 = 0 then
    some (0, p1.2)
  else
    grd (isA Sm a1) (
    let s2 := sI p1.2 1002 0 ((gI p1.2 1002 0) + (Int32.ofNat (alA Sm a1)))
    let s3 := sI s2 1004 0 (gI s2 1002 0)
    some (1, s3))
set_option maxRecDepth 100000 in
set_option maxHeartbeats 4000000 in
theorem m_M_takes (N : Nat) {x9 : Int32} {s9 : mS} (a1 : Nat) {s : mS} (h : f_M_takes N a1 s = some (x9, s9)) : MetM Sm R0m oFm nm 3 148 [.ref 0, .ref a1] s (some (.int x9)) s9 := by
  refine met_of_G (q := q_M_takes) (t0 := (x9, s9)) y_M_takes (Nat.le_of_ble_eq_true rfl) ?_
  rw [← h]
  exact G_eq (mEv_G (orc := mOrc (oL_M_takes N)) (ret := rtZ) (blks := bl_M_takes) (cuts := []) wOKm (by decide) (oo_M_takes N) (RetOK_Z rfl) bk_M_takes (mz_nil)) rfl
noncomputable def C_M_takes {ρ : Type} (N : Nat) : List Value → mS → (Option Value → mS → Option ρ) → Option ρ := fun vs s kk => sR vs 0 fun r0 => pr1 r0 fun a1 r1 => rv0 r1 ((f_M_takes N a1 s).bind fun p => kk (some (.int p.1)) p.2)
theorem cs_M_takes {ρ : Type} {t0 : ρ} {d : Nat} (N : Nat) (hd : 3 + 1 ≤ d) : CallOK Sm R0m oFm nm d t0 148 (C_M_takes N) := by
  intro vs s kk h0
  obtain ⟨r0, rfl, h1⟩ := sR_some h0
  obtain ⟨a1, r1, rfl, h2⟩ := pr1_some h1
  obtain ⟨rfl, h3⟩ := rv0_some h2
  obtain ⟨p, hp, hk⟩ := Option.bind_eq_some_iff.mp h3
  exact ⟨_, _, _, hd, m_M_takes N a1 hp, hk, fun qy hq hf => by cases y_M_takes.symm.trans hq; exact ⟨_, _, rfl, rfl⟩⟩
/-! METHOD PorterDoorsModel.fail(II)V -/
set_option maxRecDepth 20000 in
noncomputable def q_M_fail : mI := (⟨"PorterDoorsModel", "fail", "(II)V"⟩, prog_13_method_6_code, 3, none, 10, 1436, 139, 1, 2, 1435, 47)
theorem y_M_fail : mT[152]? = some q_M_fail := mT_at_3 (k := 32) rfl
noncomputable def bl_M_fail : List (Nat × List mO) := [(0, [o0 (.aload_n 0), o2 (.getfield 227) 10 5, o1 (.ifCond .eq 4) 8, o0 (.return_)]),
  (8, [o0 (.aload_n 0), o0 (.iload_n 1), o2 (.putfield 227) 10 5, o0 (.aload_n 0), o0 (.iload_n 2), o2 (.putfield 230) 10 6, o0 (.return_)])]
theorem bk_M_fail : okBlks q_M_fail bl_M_fail = true := by decide +kernel
noncomputable def oL_M_fail {ρ : Type} (N : Nat) : List (Nat × (List Value → mS → (Option Value → mS → Option ρ) → Option ρ)) := []
theorem oo_M_fail {ρ : Type} {t0 : ρ} (N : Nat) : OrcOK Sm R0m oFm nm 1 t0 (mOrc (oL_M_fail N)) := mOrc_OK (mz_nil)
noncomputable def f_M_fail (N : Nat) (a1 : Int32) (a2 : Int32) (s : mS) : Option (mS) :=
  if (gI s 1005 0) = 0 then
    let s1 := sI s 1005 0 a1
    let s2 := sI s1 1006 0 a2
    some s2
  else
    some s
set_option maxRecDepth 100000 in
set_option maxHeartbeats 4000000 in
theorem m_M_fail (N : Nat) {s9 : mS} (a1 : Int32) (a2 : Int32) {s : mS} (h : f_M_fail N a1 a2 s = some s9) : MetM Sm R0m oFm nm 1 152 [.ref 0, .int a1, .int a2] s (none) s9 := by
  refine met_of_G (q := q_M_fail) (t0 := s9) y_M_fail (Nat.le_of_ble_eq_true rfl) ?_
  rw [← h]
  exact G_eq (mEv_G (orc := mOrc (oL_M_fail N)) (ret := rtV) (blks := bl_M_fail) (cuts := []) wOKm (by decide) (oo_M_fail N) (RetOK_V rfl) bk_M_fail (mz_nil)) rfl
noncomputable def C_M_fail {ρ : Type} (N : Nat) : List Value → mS → (Option Value → mS → Option ρ) → Option ρ := fun vs s kk => sR vs 0 fun r0 => pi1 r0 fun a1 r1 => pi1 r1 fun a2 r2 => rv0 r2 ((f_M_fail N a1 a2 s).bind fun p => kk none p)
theorem cs_M_fail {ρ : Type} {t0 : ρ} {d : Nat} (N : Nat) (hd : 1 + 1 ≤ d) : CallOK Sm R0m oFm nm d t0 152 (C_M_fail N) := by
  intro vs s kk h0
  obtain ⟨r0, rfl, h1⟩ := sR_some h0
  obtain ⟨a1, r1, rfl, h2⟩ := pi1_some h1
  obtain ⟨a2, r2, rfl, h3⟩ := pi1_some h2
  obtain ⟨rfl, h4⟩ := rv0_some h3
  obtain ⟨p, hp, hk⟩ := Option.bind_eq_some_iff.mp h4
  exact ⟨_, _, _, hd, m_M_fail N a1 a2 hp, hk, fun qy hq hf => by cases y_M_fail.symm.trans hq; exact ⟨_, _, rfl, rfl⟩⟩
/-! METHOD PorterDoorsModel.asks([C)V -/
set_option maxRecDepth 20000 in
noncomputable def q_M_asks : mI := (⟨"PorterDoorsModel", "asks", "([C)V"⟩, prog_13_method_12_code, 2, none, 10, 1417, 139, 1, 1, 1416, 43)
theorem y_M_asks : mT[147]? = some q_M_asks := mT_at_3 (k := 27) rfl
noncomputable def bl_M_asks : List (Nat × List mO) := [(0, [o0 (.aload_n 0), o2 (.getfield 227) 10 5, o1 (.ifCond .ne 20) 24, o0 (.aload_n 0), o0 (.aload_n 1), o2 (.invokevirtual 254) 148 2, o1 (.ifCond .ne 12) 24, o0 (.aload_n 0), o0 (.iconst 1), o0 (.aload_n 0), o2 (.getfield 233) 10 2, o2 (.invokevirtual 257) 152 3]),
  (24, [o0 (.return_)])]
theorem bk_M_asks : okBlks q_M_asks bl_M_asks = true := by decide +kernel
noncomputable def oL_M_asks {ρ : Type} (N : Nat) : List (Nat × (List Value → mS → (Option Value → mS → Option ρ) → Option ρ)) := [(148, C_M_takes N), (152, C_M_fail N)]
theorem oo_M_asks {ρ : Type} {t0 : ρ} (N : Nat) : OrcOK Sm R0m oFm nm 4 t0 (mOrc (oL_M_asks N)) := mOrc_OK (List.forall_mem_cons.mpr ⟨cs_M_takes N (by decide), List.forall_mem_cons.mpr ⟨cs_M_fail N (by decide), mz_nil⟩⟩)
noncomputable def f_M_asks (N : Nat) (a1 : Nat) (s : mS) : Option (mS) :=
  if (gI s 1005 0) = 0 then
    (f_M_takes N a1 s).bind fun p1 =>
    if p1.1 = 0 then
      (f_M_fail N 1 (gI p1.2 1002 0) p1.2).bind fun p2 =>
      some p2
    else
      some p1.2
  else
    some s
set_option maxRecDepth 100000 in
set_option maxHeartbeats 4000000 in
theorem m_M_asks (N : Nat) {s9 : mS} (a1 : Nat) {s : mS} (h : f_M_asks N a1 s = some s9) : MetM Sm R0m oFm nm 4 147 [.ref 0, .ref a1] s (none) s9 := by
  refine met_of_G (q := q_M_asks) (t0 := s9) y_M_asks (Nat.le_of_ble_eq_true rfl) ?_
  rw [← h]
  exact G_eq (mEv_G (orc := mOrc (oL_M_asks N)) (ret := rtV) (blks := bl_M_asks) (cuts := []) wOKm (by decide) (oo_M_asks N) (RetOK_V rfl) bk_M_asks (mz_nil)) rfl
noncomputable def C_M_asks {ρ : Type} (N : Nat) : List Value → mS → (Option Value → mS → Option ρ) → Option ρ := fun vs s kk => sR vs 0 fun r0 => pr1 r0 fun a1 r1 => rv0 r1 ((f_M_asks N a1 s).bind fun p => kk none p)
theorem cs_M_asks {ρ : Type} {t0 : ρ} {d : Nat} (N : Nat) (hd : 4 + 1 ≤ d) : CallOK Sm R0m oFm nm d t0 147 (C_M_asks N) := by
  intro vs s kk h0
  obtain ⟨r0, rfl, h1⟩ := sR_some h0
  obtain ⟨a1, r1, rfl, h2⟩ := pr1_some h1
  obtain ⟨rfl, h3⟩ := rv0_some h2
  obtain ⟨p, hp, hk⟩ := Option.bind_eq_some_iff.mp h3
  exact ⟨_, _, _, hd, m_M_asks N a1 hp, hk, fun qy hq hf => by cases y_M_asks.symm.trans hq; exact ⟨_, _, rfl, rfl⟩⟩
/-! METHOD PorterDoorsModel.isDigit(I)Z -/
set_option maxRecDepth 20000 in
noncomputable def q_M_isDigit : mI := (⟨"PorterDoorsModel", "isDigit", "(I)Z"⟩, prog_13_method_8_code, 1, (some .boolean), 10, 1443, 139, 0, 1, 1442, 0)
theorem y_M_isDigit : mT[154]? = some q_M_isDigit := mT_at_3 (k := 34) rfl
noncomputable def bl_M_isDigit : List (Nat × List mO) := [(0, [o0 (.iload_n 0), o0 (.bipush 48), o1 (.if_icmp .lt 13) 16, o0 (.iload_n 0), o0 (.bipush 57), o1 (.if_icmp .gt 7) 16, o0 (.iconst 1), o1 (.goto 4) 17]),
  (16, [o0 (.iconst 0)]),
  (17, [o0 (.ireturn)])]
theorem bk_M_isDigit : okBlks q_M_isDigit bl_M_isDigit = true := by decide +kernel
noncomputable def oL_M_isDigit {ρ : Type} (N : Nat) : List (Nat × (List Value → mS → (Option Value → mS → Option ρ) → Option ρ)) := []
theorem oo_M_isDigit {ρ : Type} {t0 : ρ} (N : Nat) : OrcOK Sm R0m oFm nm 1 t0 (mOrc (oL_M_isDigit N)) := mOrc_OK (mz_nil)
noncomputable def f_M_isDigit (N : Nat) (a0 : Int32) (s : mS) : Option (Int32 × mS) :=
  if a0 < 48 then
    some (0, s)
  else
    if 57 < a0 then
      some (0, s)
    else
      some (1, s)
set_option maxRecDepth 100000 in
set_option maxHeartbeats 4000000 in
theorem m_M_isDigit (N : Nat) {x9 : Int32} {s9 : mS} (a0 : Int32) {s : mS} (h : f_M_isDigit N a0 s = some (x9, s9)) : MetM Sm R0m oFm nm 1 154 [.int a0] s (some (.int x9)) s9 := by
  refine met_of_G (q := q_M_isDigit) (t0 := (x9, s9)) y_M_isDigit (Nat.le_of_ble_eq_true rfl) ?_
  rw [← h]
  exact G_eq (mEv_G (orc := mOrc (oL_M_isDigit N)) (ret := rtZ) (blks := bl_M_isDigit) (cuts := []) wOKm (by decide) (oo_M_isDigit N) (RetOK_Z rfl) bk_M_isDigit (mz_nil)) rfl
noncomputable def C_M_isDigit {ρ : Type} (N : Nat) : List Value → mS → (Option Value → mS → Option ρ) → Option ρ := fun vs s kk => pi1 vs fun a0 r0 => rv0 r0 ((f_M_isDigit N a0 s).bind fun p => kk (some (.int p.1)) p.2)
theorem cs_M_isDigit {ρ : Type} {t0 : ρ} {d : Nat} (N : Nat) (hd : 1 + 1 ≤ d) : CallOK Sm R0m oFm nm d t0 154 (C_M_isDigit N) := by
  intro vs s kk h0
  obtain ⟨a0, r0, rfl, h1⟩ := pi1_some h0
  obtain ⟨rfl, h2⟩ := rv0_some h1
  obtain ⟨p, hp, hk⟩ := Option.bind_eq_some_iff.mp h2
  exact ⟨_, _, _, hd, m_M_isDigit N a0 hp, hk, fun qy hq hf => by cases y_M_isDigit.symm.trans hq; exact absurd hf (by decide)⟩
/-! METHOD PorterDoorsModel.isIn(JJJ)Z -/
set_option maxRecDepth 20000 in
noncomputable def q_M_isIn : mI := (⟨"PorterDoorsModel", "isIn", "(JJJ)Z"⟩, prog_13_method_2_code, 6, (some .boolean), 10, 1446, 139, 0, 3, 1445, 0)
theorem y_M_isIn : mT[155]? = some q_M_isIn := mT_at_3 (k := 35) rfl
noncomputable def bl_M_isIn : List (Nat × List mO) := [(0, [o0 (.lload_n 0), o0 (.lload_n 2), o0 (.lcmp), o1 (.ifCond .lt 14) 17, o0 (.lload_n 0), o0 (.lload 4), o0 (.lcmp), o1 (.ifCond .gt 7) 17, o0 (.iconst 1), o1 (.goto 4) 18]),
  (17, [o0 (.iconst 0)]),
  (18, [o0 (.ireturn)])]
theorem bk_M_isIn : okBlks q_M_isIn bl_M_isIn = true := by decide +kernel
noncomputable def oL_M_isIn {ρ : Type} (N : Nat) : List (Nat × (List Value → mS → (Option Value → mS → Option ρ) → Option ρ)) := []
theorem oo_M_isIn {ρ : Type} {t0 : ρ} (N : Nat) : OrcOK Sm R0m oFm nm 1 t0 (mOrc (oL_M_isIn N)) := mOrc_OK (mz_nil)
noncomputable def f_M_isIn (N : Nat) (a0 : Int64) (a2 : Int64) (a4 : Int64) (s : mS) : Option (Int32 × mS) :=
  if (lg_cmp a0 a2) < 0 then
    some (0, s)
  else
    if 0 < (lg_cmp a0 a4) then
      some (0, s)
    else
      some (1, s)
set_option maxRecDepth 100000 in
set_option maxHeartbeats 4000000 in
theorem m_M_isIn (N : Nat) {x9 : Int32} {s9 : mS} (a0 : Int64) (a2 : Int64) (a4 : Int64) {s : mS} (h : f_M_isIn N a0 a2 a4 s = some (x9, s9)) : MetM Sm R0m oFm nm 1 155 [.long a0, .long a2, .long a4] s (some (.int x9)) s9 := by
  refine met_of_G (q := q_M_isIn) (t0 := (x9, s9)) y_M_isIn (Nat.le_of_ble_eq_true rfl) ?_
  rw [← h]
  exact G_eq (mEv_G (orc := mOrc (oL_M_isIn N)) (ret := rtZ) (blks := bl_M_isIn) (cuts := []) wOKm (by decide) (oo_M_isIn N) (RetOK_Z rfl) bk_M_isIn (mz_nil)) rfl
noncomputable def C_M_isIn {ρ : Type} (N : Nat) : List Value → mS → (Option Value → mS → Option ρ) → Option ρ := fun vs s kk => pl1 vs fun a0 r0 => pl1 r0 fun a2 r1 => pl1 r1 fun a4 r2 => rv0 r2 ((f_M_isIn N a0 a2 a4 s).bind fun p => kk (some (.int p.1)) p.2)
theorem cs_M_isIn {ρ : Type} {t0 : ρ} {d : Nat} (N : Nat) (hd : 1 + 1 ≤ d) : CallOK Sm R0m oFm nm d t0 155 (C_M_isIn N) := by
  intro vs s kk h0
  obtain ⟨a0, r0, rfl, h1⟩ := pl1_some h0
  obtain ⟨a2, r1, rfl, h2⟩ := pl1_some h1
  obtain ⟨a4, r2, rfl, h3⟩ := pl1_some h2
  obtain ⟨rfl, h4⟩ := rv0_some h3
  obtain ⟨p, hp, hk⟩ := Option.bind_eq_some_iff.mp h4
  exact ⟨_, _, _, hd, m_M_isIn N a0 a2 a4 hp, hk, fun qy hq hf => by cases y_M_isIn.symm.trans hq; exact absurd hf (by decide)⟩
/-! METHOD PorterDoorsModel.number(II)I -/
set_option maxRecDepth 20000 in
noncomputable def q_M_number : mI := (⟨"PorterDoorsModel", "number", "(II)I"⟩, prog_13_method_15_code, 5, (some .int), 10, 1440, 139, 1, 2, 1439, 48)
theorem y_M_number : mT[153]? = some q_M_number := mT_at_3 (k := 33) rfl
noncomputable def bl_M_number : List (Nat × List mO) := [(0, [o0 (.aload_n 0), o2 (.getfield 227) 10 5, o1 (.ifCond .eq 5) 9, o0 (.iconst 0), o0 (.ireturn)]),
  (9, [o0 (.aload_n 0), o2 (.invokevirtual 239) 150 1, o2 (.invokestatic 264) 154 1, o1 (.ifCond .eq 14) 30, o0 (.aload_n 0), o2 (.getfield 233) 10 2, o0 (.aload_n 0), o2 (.getfield 247) 10 4, o1 (.if_icmp .ne 14) 41]),
  (30, [o0 (.aload_n 0), o0 (.iconst 1), o0 (.aload_n 0), o2 (.getfield 233) 10 2, o2 (.invokevirtual 257) 152 3, o0 (.iconst 0), o0 (.ireturn)]),
  (41, [o0 (.aload_n 0), o2 (.getfield 233) 10 2, o0 (.istore_n 3), o0 (.iconst 0), o0 (.istore 4)]),
  (49, [o0 (.aload_n 0), o2 (.getfield 233) 10 2, o0 (.aload_n 0), o2 (.getfield 236) 10 3, o1 (.if_icmp .ge 72) 129, o0 (.aload_n 0), o2 (.getfield 7) 10 0, o0 (.aload_n 0), o2 (.getfield 233) 10 2, o0 (.iaload), o2 (.invokestatic 264) 154 1, o1 (.ifCond .eq 57) 129, o0 (.aload_n 0), o2 (.getfield 233) 10 2, o0 (.iload_n 3), o0 (.isub), o0 (.iconst 4), o1 (.if_icmp .ne 14) 96, o0 (.aload_n 0), o0 (.iconst 1), o0 (.aload_n 0), o2 (.getfield 233) 10 2, o2 (.invokevirtual 257) 152 3, o0 (.iconst 0), o0 (.ireturn)]),
  (96, [o0 (.bipush 10), o0 (.iload 4), o0 (.imul), o0 (.aload_n 0), o2 (.getfield 7) 10 0, o0 (.aload_n 0), o2 (.getfield 233) 10 2, o0 (.iaload), o0 (.iadd), o0 (.bipush 48), o0 (.isub), o0 (.istore 4), o0 (.aload_n 0), o0 (.dup), o2 (.getfield 233) 10 2, o0 (.iconst 1), o0 (.iadd), o2 (.putfield 233) 10 2, o1 (.goto (-77)) 49]),
  (129, [o0 (.aload_n 0), o0 (.aload_n 0), o2 (.getfield 233) 10 2, o2 (.putfield 247) 10 4, o0 (.aload_n 0), o0 (.iload_n 3), o2 (.putfield 267) 10 10, o0 (.iload 4), o0 (.i2l), o0 (.iload_n 1), o0 (.i2l), o0 (.iload_n 2), o0 (.i2l), o2 (.invokestatic 270) 155 3, o1 (.ifCond .ne 12) 164, o0 (.aload_n 0), o0 (.iconst 2), o0 (.aload_n 0), o2 (.getfield 267) 10 10, o2 (.invokevirtual 257) 152 3]),
  (164, [o0 (.iload 4), o0 (.ireturn)])]
theorem bk_M_number : okBlks q_M_number bl_M_number = true := by decide +kernel
noncomputable def oL_M_number {ρ : Type} (N : Nat) : List (Nat × (List Value → mS → (Option Value → mS → Option ρ) → Option ρ)) := [(150, C_M_look N), (154, C_M_isDigit N), (152, C_M_fail N), (155, C_M_isIn N)]
theorem oo_M_number {ρ : Type} {t0 : ρ} (N : Nat) : OrcOK Sm R0m oFm nm 2 t0 (mOrc (oL_M_number N)) := mOrc_OK (List.forall_mem_cons.mpr ⟨cs_M_look N (by decide), List.forall_mem_cons.mpr ⟨cs_M_isDigit N (by decide), List.forall_mem_cons.mpr ⟨cs_M_fail N (by decide), List.forall_mem_cons.mpr ⟨cs_M_isIn N (by decide), mz_nil⟩⟩⟩⟩)
noncomputable def H_M_number_30 {ρ : Type} (k : mS → Option ρ) : mL → List Value → mS → Option ρ := fun loc st s => cR loc 0 0 (rv0 st (k s))
noncomputable def H_M_number_49 {ρ : Type} (k : (Int32 × Int32 × Int32 × Int32 × mS) → Option ρ) : mL → List Value → mS → Option ρ := fun loc st s => cR loc 0 0 (li1 loc 1 fun v0 => li1 loc 2 fun v1 => li1 loc 3 fun v2 => li1 loc 4 fun v3 => rv0 st (k (v0, v1, v2, v3, s)))
noncomputable def H_M_number_129 {ρ : Type} (k : (Int32 × Int32 × Int32 × Int32 × mS) → Option ρ) : mL → List Value → mS → Option ρ := fun loc st s => cR loc 0 0 (li1 loc 1 fun v0 => li1 loc 2 fun v1 => li1 loc 3 fun v2 => li1 loc 4 fun v3 => rv0 st (k (v0, v1, v2, v3, s)))
noncomputable def f_M_number_j30 (N : Nat) (x : mS) : Option (Int32 × mS) :=
  (f_M_fail N 1 (gI x 1002 0) x).bind fun p1 =>
  some (0, p1)
set_option maxRecDepth 100000 in
set_option maxHeartbeats 4000000 in
theorem s_M_number_30 (N : Nat) {x9 : Int32} {s9 : mS} : SCd Sm R0m oFm nm 2 q_M_number (some (.int x9), s9) (x9, s9) 30 (H_M_number_30 (f_M_number_j30 N)) := by
  intro loc st s
  refine G_cR (fun h0 => ?_)
  refine G_rv0 (fun e9 => ?_)
  subst e9
  refine G_sub (loc0 := [(0, .ref 0)]) (List.forall_mem_cons.mpr ⟨h0, mz_nil⟩) ?_
  exact G_eq (mEv_G (orc := mOrc (oL_M_number N)) (ret := rtI) (blks := bl_M_number) (cuts := []) wOKm (by decide) (oo_M_number N) (RetOK_I rfl) bk_M_number (mz_nil)) rfl
noncomputable def f_M_number_j129 (N : Nat) (x : Int32 × Int32 × Int32 × Int32 × mS) : Option (Int32 × mS) :=
  let s1 := sI x.2.2.2.2 1004 0 (gI x.2.2.2.2 1002 0)
  let s2 := sI s1 1010 0 x.2.2.1
  (f_M_isIn N (x.2.2.2.1).toInt64 (x.1).toInt64 (x.2.1).toInt64 s2).bind fun p3 =>
  if p3.1 = 0 then
    (f_M_fail N 2 (gI p3.2 1010 0) p3.2).bind fun p4 =>
    some (x.2.2.2.1, p4)
  else
    some (x.2.2.2.1, p3.2)
set_option maxRecDepth 100000 in
set_option maxHeartbeats 4000000 in
theorem s_M_number_129 (N : Nat) {x9 : Int32} {s9 : mS} : SCd Sm R0m oFm nm 2 q_M_number (some (.int x9), s9) (x9, s9) 129 (H_M_number_129 (f_M_number_j129 N)) := by
  intro loc st s
  refine G_cR (fun h0 => ?_)
  refine G_li (fun v0 h1 => ?_)
  refine G_li (fun v1 h2 => ?_)
  refine G_li (fun v2 h3 => ?_)
  refine G_li (fun v3 h4 => ?_)
  refine G_rv0 (fun e9 => ?_)
  subst e9
  refine G_sub (loc0 := [(0, .ref 0), (1, .int v0), (2, .int v1), (3, .int v2), (4, .int v3)]) (List.forall_mem_cons.mpr ⟨h0, List.forall_mem_cons.mpr ⟨h1, List.forall_mem_cons.mpr ⟨h2, List.forall_mem_cons.mpr ⟨h3, List.forall_mem_cons.mpr ⟨h4, mz_nil⟩⟩⟩⟩⟩) ?_
  exact G_eq (mEv_G (orc := mOrc (oL_M_number N)) (ret := rtI) (blks := bl_M_number) (cuts := []) wOKm (by decide) (oo_M_number N) (RetOK_I rfl) bk_M_number (mz_nil)) rfl
noncomputable def f_M_number_L49 (N : Nat) (k49 : (Int32 × Int32 × Int32 × Int32 × mS) → Option (Int32 × mS)) (x : Int32 × Int32 × Int32 × Int32 × mS) : Option (Int32 × mS) :=
  if (gI x.2.2.2.2 1002 0) < (gI x.2.2.2.2 1003 0) then
    grd (inb (gI x.2.2.2.2 1002 0) 1600) (
    (f_M_isDigit N (gA x.2.2.2.2 1 (ix (gI x.2.2.2.2 1002 0))) x.2.2.2.2).bind fun p1 =>
    if p1.1 = 0 then
      f_M_number_j129 N (x.1, x.2.1, x.2.2.1, x.2.2.2.1, p1.2)
    else
      if ((gI p1.2 1002 0) - x.2.2.1) = 4 then
        (f_M_fail N 1 (gI p1.2 1002 0) p1.2).bind fun p4 =>
        some (0, p4)
      else
        grd (inb (gI p1.2 1002 0) 1600) (
        let v2 := (((10 * x.2.2.2.1) + (gA p1.2 1 (ix (gI p1.2 1002 0)))) - 48)
        let s3 := sI p1.2 1002 0 ((gI p1.2 1002 0) + 1)
        k49 (x.1, x.2.1, x.2.2.1, v2, s3)))
  else
    f_M_number_j129 N (x.1, x.2.1, x.2.2.1, x.2.2.2.1, x.2.2.2.2)
set_option maxRecDepth 100000 in
set_option maxHeartbeats 4000000 in
theorem t_M_number_49 (N : Nat) {x9 : Int32} {s9 : mS} {k49 : (Int32 × Int32 × Int32 × Int32 × mS) → Option (Int32 × mS)} (hk49 : SCd Sm R0m oFm nm 2 q_M_number (some (.int x9), s9) (x9, s9) 49 (H_M_number_49 k49)) : SCd Sm R0m oFm nm 2 q_M_number (some (.int x9), s9) (x9, s9) 49 (H_M_number_49 (f_M_number_L49 N k49)) := by
  intro loc st s
  refine G_cR (fun h0 => ?_)
  refine G_li (fun v0 h1 => ?_)
  refine G_li (fun v1 h2 => ?_)
  refine G_li (fun v2 h3 => ?_)
  refine G_li (fun v3 h4 => ?_)
  refine G_rv0 (fun e9 => ?_)
  subst e9
  refine G_sub (loc0 := [(0, .ref 0), (1, .int v0), (2, .int v1), (3, .int v2), (4, .int v3)]) (List.forall_mem_cons.mpr ⟨h0, List.forall_mem_cons.mpr ⟨h1, List.forall_mem_cons.mpr ⟨h2, List.forall_mem_cons.mpr ⟨h3, List.forall_mem_cons.mpr ⟨h4, mz_nil⟩⟩⟩⟩⟩) ?_
  exact G_eq (mEv_G (orc := mOrc (oL_M_number N)) (ret := rtI) (blks := bl_M_number) (cuts := [(49, H_M_number_49 k49), (129, H_M_number_129 (f_M_number_j129 N))]) wOKm (by decide) (oo_M_number N) (RetOK_I rfl) bk_M_number (List.forall_mem_cons.mpr ⟨hk49, List.forall_mem_cons.mpr ⟨s_M_number_129 N, mz_nil⟩⟩)) rfl
theorem s_M_number_49 (N : Nat) {x9 : Int32} {s9 : mS} : SCd Sm R0m oFm nm 2 q_M_number (some (.int x9), s9) (x9, s9) 49 (H_M_number_49 (mfix N (f_M_number_L49 N))) := by
  refine mfix_SC (H := H_M_number_49) (fun loc st s => ?_) (fun k hk => t_M_number_49 N hk) N
  refine G_cR (fun h0 => ?_)
  refine G_li (fun v0 h1 => ?_)
  refine G_li (fun v1 h2 => ?_)
  refine G_li (fun v2 h3 => ?_)
  refine G_li (fun v3 h4 => ?_)
  refine G_rv0 (fun e9 => ?_)
  subst e9
  exact G_none
noncomputable def f_M_number (N : Nat) (a1 : Int32) (a2 : Int32) (s : mS) : Option (Int32 × mS) :=
  if (gI s 1005 0) = 0 then
    (f_M_look N s).bind fun p1 =>
    (f_M_isDigit N p1.1 p1.2).bind fun p2 =>
    if p2.1 = 0 then
      f_M_number_j30 N p2.2
    else
      if (gI p2.2 1002 0) = (gI p2.2 1004 0) then
        f_M_number_j30 N p2.2
      else
        mfix N (f_M_number_L49 N) (a1, a2, (gI p2.2 1002 0), 0, p2.2)
  else
    some (0, s)
set_option maxRecDepth 100000 in
set_option maxHeartbeats 4000000 in
theorem m_M_number (N : Nat) {x9 : Int32} {s9 : mS} (a1 : Int32) (a2 : Int32) {s : mS} (h : f_M_number N a1 a2 s = some (x9, s9)) : MetM Sm R0m oFm nm 2 153 [.ref 0, .int a1, .int a2] s (some (.int x9)) s9 := by
  refine met_of_G (q := q_M_number) (t0 := (x9, s9)) y_M_number (Nat.le_of_ble_eq_true rfl) ?_
  rw [← h]
  exact G_eq (mEv_G (orc := mOrc (oL_M_number N)) (ret := rtI) (blks := bl_M_number) (cuts := [(30, H_M_number_30 (f_M_number_j30 N)), (49, H_M_number_49 (mfix N (f_M_number_L49 N)))]) wOKm (by decide) (oo_M_number N) (RetOK_I rfl) bk_M_number (List.forall_mem_cons.mpr ⟨s_M_number_30 N, List.forall_mem_cons.mpr ⟨s_M_number_49 N, mz_nil⟩⟩)) rfl
noncomputable def C_M_number {ρ : Type} (N : Nat) : List Value → mS → (Option Value → mS → Option ρ) → Option ρ := fun vs s kk => sR vs 0 fun r0 => pi1 r0 fun a1 r1 => pi1 r1 fun a2 r2 => rv0 r2 ((f_M_number N a1 a2 s).bind fun p => kk (some (.int p.1)) p.2)
theorem cs_M_number {ρ : Type} {t0 : ρ} {d : Nat} (N : Nat) (hd : 2 + 1 ≤ d) : CallOK Sm R0m oFm nm d t0 153 (C_M_number N) := by
  intro vs s kk h0
  obtain ⟨r0, rfl, h1⟩ := sR_some h0
  obtain ⟨a1, r1, rfl, h2⟩ := pi1_some h1
  obtain ⟨a2, r2, rfl, h3⟩ := pi1_some h2
  obtain ⟨rfl, h4⟩ := rv0_some h3
  obtain ⟨p, hp, hk⟩ := Option.bind_eq_some_iff.mp h4
  exact ⟨_, _, _, hd, m_M_number N a1 a2 hp, hk, fun qy hq hf => by cases y_M_number.symm.trans hq; exact ⟨_, _, rfl, rfl⟩⟩
/-! METHOD PorterDoorsModel.takesSign(I)Z -/
set_option maxRecDepth 20000 in
noncomputable def q_M_takesSign : mI := (⟨"PorterDoorsModel", "takesSign", "(I)Z"⟩, prog_13_method_13_code, 2, (some .boolean), 10, 1454, 139, 1, 1, 1453, 50)
theorem y_M_takesSign : mT[157]? = some q_M_takesSign := mT_at_3 (k := 37) rfl
noncomputable def bl_M_takesSign : List (Nat × List mO) := [(0, [o0 (.aload_n 0), o2 (.getfield 227) 10 5, o1 (.ifCond .ne 11) 15, o0 (.aload_n 0), o2 (.invokevirtual 239) 150 1, o0 (.iload_n 1), o1 (.if_icmp .eq 5) 17]),
  (15, [o0 (.iconst 0), o0 (.ireturn)]),
  (17, [o0 (.aload_n 0), o0 (.dup), o2 (.getfield 233) 10 2, o0 (.iconst 1), o0 (.iadd), o2 (.putfield 233) 10 2, o0 (.iconst 1), o0 (.ireturn)])]
theorem bk_M_takesSign : okBlks q_M_takesSign bl_M_takesSign = true := by decide +kernel
noncomputable def oL_M_takesSign {ρ : Type} (N : Nat) : List (Nat × (List Value → mS → (Option Value → mS → Option ρ) → Option ρ)) := [(150, C_M_look N)]
theorem oo_M_takesSign {ρ : Type} {t0 : ρ} (N : Nat) : OrcOK Sm R0m oFm nm 2 t0 (mOrc (oL_M_takesSign N)) := mOrc_OK (List.forall_mem_cons.mpr ⟨cs_M_look N (by decide), mz_nil⟩)
noncomputable def f_M_takesSign (N : Nat) (a1 : Int32) (s : mS) : Option (Int32 × mS) :=
  if (gI s 1005 0) = 0 then
    (f_M_look N s).bind fun p1 =>
    if p1.1 = a1 then
      let s2 := sI p1.2 1002 0 ((gI p1.2 1002 0) + 1)
      some (1, s2)
    else
      some (0, p1.2)
  else
    some (0, s)
set_option maxRecDepth 100000 in
set_option maxHeartbeats 4000000 in
theorem m_M_takesSign (N : Nat) {x9 : Int32} {s9 : mS} (a1 : Int32) {s : mS} (h : f_M_takesSign N a1 s = some (x9, s9)) : MetM Sm R0m oFm nm 2 157 [.ref 0, .int a1] s (some (.int x9)) s9 := by
  refine met_of_G (q := q_M_takesSign) (t0 := (x9, s9)) y_M_takesSign (Nat.le_of_ble_eq_true rfl) ?_
  rw [← h]
  exact G_eq (mEv_G (orc := mOrc (oL_M_takesSign N)) (ret := rtZ) (blks := bl_M_takesSign) (cuts := []) wOKm (by decide) (oo_M_takesSign N) (RetOK_Z rfl) bk_M_takesSign (mz_nil)) rfl
noncomputable def C_M_takesSign {ρ : Type} (N : Nat) : List Value → mS → (Option Value → mS → Option ρ) → Option ρ := fun vs s kk => sR vs 0 fun r0 => pi1 r0 fun a1 r1 => rv0 r1 ((f_M_takesSign N a1 s).bind fun p => kk (some (.int p.1)) p.2)
theorem cs_M_takesSign {ρ : Type} {t0 : ρ} {d : Nat} (N : Nat) (hd : 2 + 1 ≤ d) : CallOK Sm R0m oFm nm d t0 157 (C_M_takesSign N) := by
  intro vs s kk h0
  obtain ⟨r0, rfl, h1⟩ := sR_some h0
  obtain ⟨a1, r1, rfl, h2⟩ := pi1_some h1
  obtain ⟨rfl, h3⟩ := rv0_some h2
  obtain ⟨p, hp, hk⟩ := Option.bind_eq_some_iff.mp h3
  exact ⟨_, _, _, hd, m_M_takesSign N a1 hp, hk, fun qy hq hf => by cases y_M_takesSign.symm.trans hq; exact ⟨_, _, rfl, rfl⟩⟩
/-! METHOD PorterDoorsModel.asksSign(I)V -/
set_option maxRecDepth 20000 in
noncomputable def q_M_asksSign : mI := (⟨"PorterDoorsModel", "asksSign", "(I)V"⟩, prog_13_method_14_code, 2, none, 10, 1450, 139, 1, 1, 1449, 49)
theorem y_M_asksSign : mT[156]? = some q_M_asksSign := mT_at_3 (k := 36) rfl
noncomputable def bl_M_asksSign : List (Nat × List mO) := [(0, [o0 (.aload_n 0), o2 (.getfield 227) 10 5, o1 (.ifCond .ne 20) 24, o0 (.aload_n 0), o0 (.iload_n 1), o2 (.invokevirtual 261) 157 2, o1 (.ifCond .ne 12) 24, o0 (.aload_n 0), o0 (.iconst 1), o0 (.aload_n 0), o2 (.getfield 233) 10 2, o2 (.invokevirtual 257) 152 3]),
  (24, [o0 (.return_)])]
theorem bk_M_asksSign : okBlks q_M_asksSign bl_M_asksSign = true := by decide +kernel
noncomputable def oL_M_asksSign {ρ : Type} (N : Nat) : List (Nat × (List Value → mS → (Option Value → mS → Option ρ) → Option ρ)) := [(157, C_M_takesSign N), (152, C_M_fail N)]
theorem oo_M_asksSign {ρ : Type} {t0 : ρ} (N : Nat) : OrcOK Sm R0m oFm nm 3 t0 (mOrc (oL_M_asksSign N)) := mOrc_OK (List.forall_mem_cons.mpr ⟨cs_M_takesSign N (by decide), List.forall_mem_cons.mpr ⟨cs_M_fail N (by decide), mz_nil⟩⟩)
noncomputable def f_M_asksSign (N : Nat) (a1 : Int32) (s : mS) : Option (mS) :=
  if (gI s 1005 0) = 0 then
    (f_M_takesSign N a1 s).bind fun p1 =>
    if p1.1 = 0 then
      (f_M_fail N 1 (gI p1.2 1002 0) p1.2).bind fun p2 =>
      some p2
    else
      some p1.2
  else
    some s
set_option maxRecDepth 100000 in
set_option maxHeartbeats 4000000 in
theorem m_M_asksSign (N : Nat) {s9 : mS} (a1 : Int32) {s : mS} (h : f_M_asksSign N a1 s = some s9) : MetM Sm R0m oFm nm 3 156 [.ref 0, .int a1] s (none) s9 := by
  refine met_of_G (q := q_M_asksSign) (t0 := s9) y_M_asksSign (Nat.le_of_ble_eq_true rfl) ?_
  rw [← h]
  exact G_eq (mEv_G (orc := mOrc (oL_M_asksSign N)) (ret := rtV) (blks := bl_M_asksSign) (cuts := []) wOKm (by decide) (oo_M_asksSign N) (RetOK_V rfl) bk_M_asksSign (mz_nil)) rfl
noncomputable def C_M_asksSign {ρ : Type} (N : Nat) : List Value → mS → (Option Value → mS → Option ρ) → Option ρ := fun vs s kk => sR vs 0 fun r0 => pi1 r0 fun a1 r1 => rv0 r1 ((f_M_asksSign N a1 s).bind fun p => kk none p)
theorem cs_M_asksSign {ρ : Type} {t0 : ρ} {d : Nat} (N : Nat) (hd : 3 + 1 ≤ d) : CallOK Sm R0m oFm nm d t0 156 (C_M_asksSign N) := by
  intro vs s kk h0
  obtain ⟨r0, rfl, h1⟩ := sR_some h0
  obtain ⟨a1, r1, rfl, h2⟩ := pi1_some h1
  obtain ⟨rfl, h3⟩ := rv0_some h2
  obtain ⟨p, hp, hk⟩ := Option.bind_eq_some_iff.mp h3
  exact ⟨_, _, _, hd, m_M_asksSign N a1 hp, hk, fun qy hq hf => by cases y_M_asksSign.symm.trans hq; exact ⟨_, _, rfl, rfl⟩⟩
/-! METHOD PorterDoorsModel.doorsTold()V -/
set_option maxRecDepth 20000 in
noncomputable def q_M_doorsTold : mI := (⟨"PorterDoorsModel", "doorsTold", "()V"⟩, prog_13_method_19_code, 1, none, 10, 1413, 139, 1, 0, 1412, 42)
theorem y_M_doorsTold : mT[146]? = some q_M_doorsTold := mT_at_3 (k := 26) rfl
noncomputable def bl_M_doorsTold : List (Nat × List mO) := [(0, [o0 (.aload_n 0), o0 (.aload_n 0), o2 (.getfield 20) 10 11, o2 (.invokevirtual 292) 147 2, o0 (.aload_n 0), o2 (.getfield 96) 10 37, o0 (.iconst 0), o0 (.aload_n 0), o0 (.iconst 2), o0 (.bipush 24), o2 (.invokevirtual 296) 153 3, o0 (.iastore), o0 (.aload_n 0), o0 (.bipush 59), o2 (.invokevirtual 300) 156 2, o0 (.return_)])]
theorem bk_M_doorsTold : okBlks q_M_doorsTold bl_M_doorsTold = true := by decide +kernel
noncomputable def oL_M_doorsTold {ρ : Type} (N : Nat) : List (Nat × (List Value → mS → (Option Value → mS → Option ρ) → Option ρ)) := [(147, C_M_asks N), (153, C_M_number N), (156, C_M_asksSign N)]
theorem oo_M_doorsTold {ρ : Type} {t0 : ρ} (N : Nat) : OrcOK Sm R0m oFm nm 5 t0 (mOrc (oL_M_doorsTold N)) := mOrc_OK (List.forall_mem_cons.mpr ⟨cs_M_asks N (by decide), List.forall_mem_cons.mpr ⟨cs_M_number N (by decide), List.forall_mem_cons.mpr ⟨cs_M_asksSign N (by decide), mz_nil⟩⟩⟩)
noncomputable def f_M_doorsTold (N : Nat) (s : mS) : Option (mS) :=
  (f_M_asks N 3 s).bind fun p1 =>
  (f_M_number N 2 24 p1).bind fun p2 =>
  let s3 := sA p2.2 28 0 p2.1
  (f_M_asksSign N 59 s3).bind fun p4 =>
  some p4
set_option maxRecDepth 100000 in
set_option maxHeartbeats 4000000 in
theorem m_M_doorsTold (N : Nat) {s9 : mS} {s : mS} (h : f_M_doorsTold N s = some s9) : MetM Sm R0m oFm nm 5 146 [.ref 0] s (none) s9 := by
  refine met_of_G (q := q_M_doorsTold) (t0 := s9) y_M_doorsTold (Nat.le_of_ble_eq_true rfl) ?_
  rw [← h]
  exact G_eq (mEv_G (orc := mOrc (oL_M_doorsTold N)) (ret := rtV) (blks := bl_M_doorsTold) (cuts := []) wOKm (by decide) (oo_M_doorsTold N) (RetOK_V rfl) bk_M_doorsTold (mz_nil)) rfl
noncomputable def C_M_doorsTold {ρ : Type} (N : Nat) : List Value → mS → (Option Value → mS → Option ρ) → Option ρ := fun vs s kk => sR vs 0 fun r0 => rv0 r0 ((f_M_doorsTold N s).bind fun p => kk none p)
theorem cs_M_doorsTold {ρ : Type} {t0 : ρ} {d : Nat} (N : Nat) (hd : 5 + 1 ≤ d) : CallOK Sm R0m oFm nm d t0 146 (C_M_doorsTold N) := by
  intro vs s kk h0
  obtain ⟨r0, rfl, h1⟩ := sR_some h0
  obtain ⟨rfl, h2⟩ := rv0_some h1
  obtain ⟨p, hp, hk⟩ := Option.bind_eq_some_iff.mp h2
  exact ⟨_, _, _, hd, m_M_doorsTold N hp, hk, fun qy hq hf => by cases y_M_doorsTold.symm.trans hq; exact ⟨_, _, rfl, rfl⟩⟩
/-! METHOD PorterDoorsModel.isOwnHere()Z -/
set_option maxRecDepth 20000 in
noncomputable def q_M_isOwnHere : mI := (⟨"PorterDoorsModel", "isOwnHere", "()Z"⟩, prog_13_method_16_code, 2, (some .boolean), 10, 1470, 139, 1, 0, 1469, 54)
theorem y_M_isOwnHere : mT[161]? = some q_M_isOwnHere := mT_at_4 (k := 1) rfl
noncomputable def bl_M_isOwnHere : List (Nat × List mO) := [(0, [o0 (.aload_n 0), o0 (.aload_n 0), o2 (.getfield 20) 10 11, o2 (.invokevirtual 250) 149 2, o1 (.ifCond .ne 58) 66, o0 (.aload_n 0), o0 (.aload_n 0), o2 (.getfield 24) 10 12, o2 (.invokevirtual 250) 149 2, o1 (.ifCond .ne 47) 66, o0 (.aload_n 0), o0 (.aload_n 0), o2 (.getfield 27) 10 13, o2 (.invokevirtual 250) 149 2, o1 (.ifCond .ne 36) 66, o0 (.aload_n 0), o0 (.aload_n 0), o2 (.getfield 30) 10 14, o2 (.invokevirtual 250) 149 2, o1 (.ifCond .ne 25) 66, o0 (.aload_n 0), o0 (.aload_n 0), o2 (.getfield 33) 10 15, o2 (.invokevirtual 250) 149 2, o1 (.ifCond .ne 14) 66, o0 (.aload_n 0), o0 (.aload_n 0), o2 (.getfield 36) 10 16, o2 (.invokevirtual 250) 149 2, o1 (.ifCond .eq 7) 70]),
  (66, [o0 (.iconst 1), o1 (.goto 4) 71]),
  (70, [o0 (.iconst 0)]),
  (71, [o0 (.istore_n 1), o0 (.iload_n 1), o1 (.ifCond .ne 69) 142, o0 (.aload_n 0), o0 (.aload_n 0), o2 (.getfield 39) 10 17, o2 (.invokevirtual 250) 149 2, o1 (.ifCond .ne 58) 142, o0 (.aload_n 0), o0 (.aload_n 0), o2 (.getfield 42) 10 18, o2 (.invokevirtual 250) 149 2, o1 (.ifCond .ne 47) 142, o0 (.aload_n 0), o0 (.aload_n 0), o2 (.getfield 45) 10 19, o2 (.invokevirtual 250) 149 2, o1 (.ifCond .ne 36) 142, o0 (.aload_n 0), o0 (.aload_n 0), o2 (.getfield 48) 10 20, o2 (.invokevirtual 250) 149 2, o1 (.ifCond .ne 25) 142, o0 (.aload_n 0), o0 (.aload_n 0), o2 (.getfield 51) 10 21, o2 (.invokevirtual 250) 149 2, o1 (.ifCond .ne 14) 142, o0 (.aload_n 0), o0 (.aload_n 0), o2 (.getfield 54) 10 22, o2 (.invokevirtual 250) 149 2, o1 (.ifCond .eq 7) 146]),
  (142, [o0 (.iconst 1), o1 (.goto 4) 147]),
  (146, [o0 (.iconst 0)]),
  (147, [o0 (.istore_n 1), o0 (.iload_n 1), o1 (.ifCond .ne 69) 218, o0 (.aload_n 0), o0 (.aload_n 0), o2 (.getfield 57) 10 23, o2 (.invokevirtual 250) 149 2, o1 (.ifCond .ne 58) 218, o0 (.aload_n 0), o0 (.aload_n 0), o2 (.getfield 60) 10 24, o2 (.invokevirtual 250) 149 2, o1 (.ifCond .ne 47) 218, o0 (.aload_n 0), o0 (.aload_n 0), o2 (.getfield 63) 10 25, o2 (.invokevirtual 250) 149 2, o1 (.ifCond .ne 36) 218, o0 (.aload_n 0), o0 (.aload_n 0), o2 (.getfield 66) 10 26, o2 (.invokevirtual 250) 149 2, o1 (.ifCond .ne 25) 218, o0 (.aload_n 0), o0 (.aload_n 0), o2 (.getfield 69) 10 27, o2 (.invokevirtual 250) 149 2, o1 (.ifCond .ne 14) 218, o0 (.aload_n 0), o0 (.aload_n 0), o2 (.getfield 72) 10 28, o2 (.invokevirtual 250) 149 2, o1 (.ifCond .eq 7) 222]),
  (218, [o0 (.iconst 1), o1 (.goto 4) 223]),
  (222, [o0 (.iconst 0)]),
  (223, [o0 (.istore_n 1), o0 (.iload_n 1), o1 (.ifCond .ne 69) 294, o0 (.aload_n 0), o0 (.aload_n 0), o2 (.getfield 75) 10 29, o2 (.invokevirtual 250) 149 2, o1 (.ifCond .ne 58) 294, o0 (.aload_n 0), o0 (.aload_n 0), o2 (.getfield 78) 10 30, o2 (.invokevirtual 250) 149 2, o1 (.ifCond .ne 47) 294, o0 (.aload_n 0), o0 (.aload_n 0), o2 (.getfield 81) 10 31, o2 (.invokevirtual 250) 149 2, o1 (.ifCond .ne 36) 294, o0 (.aload_n 0), o0 (.aload_n 0), o2 (.getfield 84) 10 32, o2 (.invokevirtual 250) 149 2, o1 (.ifCond .ne 25) 294, o0 (.aload_n 0), o0 (.aload_n 0), o2 (.getfield 87) 10 33, o2 (.invokevirtual 250) 149 2, o1 (.ifCond .ne 14) 294, o0 (.aload_n 0), o0 (.aload_n 0), o2 (.getfield 90) 10 34, o2 (.invokevirtual 250) 149 2, o1 (.ifCond .eq 7) 298]),
  (294, [o0 (.iconst 1), o1 (.goto 4) 299]),
  (298, [o0 (.iconst 0)]),
  (299, [o0 (.istore_n 1), o0 (.iload_n 1), o1 (.ifCond .ne 14) 315, o0 (.aload_n 0), o0 (.aload_n 0), o2 (.getfield 93) 10 35, o2 (.invokevirtual 250) 149 2, o1 (.ifCond .eq 7) 319]),
  (315, [o0 (.iconst 1), o1 (.goto 4) 320]),
  (319, [o0 (.iconst 0)]),
  (320, [o0 (.istore_n 1), o0 (.iload_n 1), o0 (.ireturn)])]
theorem bk_M_isOwnHere : okBlks q_M_isOwnHere bl_M_isOwnHere = true := by decide +kernel
noncomputable def oL_M_isOwnHere {ρ : Type} (N : Nat) : List (Nat × (List Value → mS → (Option Value → mS → Option ρ) → Option ρ)) := [(149, C_M_isHere N)]
theorem oo_M_isOwnHere {ρ : Type} {t0 : ρ} (N : Nat) : OrcOK Sm R0m oFm nm 3 t0 (mOrc (oL_M_isOwnHere N)) := mOrc_OK (List.forall_mem_cons.mpr ⟨cs_M_isHere N (by decide), mz_nil⟩)
noncomputable def H_M_isOwnHere_71 {ρ : Type} (k : (Int32 × mS) → Option ρ) : mL → List Value → mS → Option ρ := fun loc st s => cR loc 0 0 (pi1 st fun w0 r0 => rv0 r0 (k (w0, s)))
noncomputable def H_M_isOwnHere_147 {ρ : Type} (k : (Int32 × mS) → Option ρ) : mL → List Value → mS → Option ρ := fun loc st s => cR loc 0 0 (pi1 st fun w0 r0 => rv0 r0 (k (w0, s)))
noncomputable def H_M_isOwnHere_223 {ρ : Type} (k : (Int32 × mS) → Option ρ) : mL → List Value → mS → Option ρ := fun loc st s => cR loc 0 0 (pi1 st fun w0 r0 => rv0 r0 (k (w0, s)))
noncomputable def H_M_isOwnHere_299 {ρ : Type} (k : (Int32 × mS) → Option ρ) : mL → List Value → mS → Option ρ := fun loc st s => cR loc 0 0 (pi1 st fun w0 r0 => rv0 r0 (k (w0, s)))
noncomputable def f_M_isOwnHere_j299 (N : Nat) (x : Int32 × mS) : Option (Int32 × mS) :=
  if x.1 = 0 then
    (f_M_isHere N 27 x.2).bind fun p1 =>
    if p1.1 = 0 then
      some (0, p1.2)
    else
      some (1, p1.2)
  else
    some (1, x.2)
set_option maxRecDepth 100000 in
set_option maxHeartbeats 4000000 in
theorem s_M_isOwnHere_299 (N : Nat) {x9 : Int32} {s9 : mS} : SCd Sm R0m oFm nm 3 q_M_isOwnHere (some (.int x9), s9) (x9, s9) 299 (H_M_isOwnHere_299 (f_M_isOwnHere_j299 N)) := by
  intro loc st s
  refine G_cR (fun h0 => ?_)
  refine G_pi (fun w0 r0 e0 => ?_)
  refine G_rv0 (fun e9 => ?_)
  subst e9
  subst e0
  refine G_sub (loc0 := [(0, .ref 0)]) (List.forall_mem_cons.mpr ⟨h0, mz_nil⟩) ?_
  exact G_eq (mEv_G (orc := mOrc (oL_M_isOwnHere N)) (ret := rtZ) (blks := bl_M_isOwnHere) (cuts := []) wOKm (by decide) (oo_M_isOwnHere N) (RetOK_Z rfl) bk_M_isOwnHere (mz_nil)) rfl
noncomputable def f_M_isOwnHere_j223 (N : Nat) (x : Int32 × mS) : Option (Int32 × mS) :=
  if x.1 = 0 then
    (f_M_isHere N 21 x.2).bind fun p1 =>
    if p1.1 = 0 then
      (f_M_isHere N 22 p1.2).bind fun p2 =>
      if p2.1 = 0 then
        (f_M_isHere N 23 p2.2).bind fun p3 =>
        if p3.1 = 0 then
          (f_M_isHere N 24 p3.2).bind fun p4 =>
          if p4.1 = 0 then
            (f_M_isHere N 25 p4.2).bind fun p5 =>
            if p5.1 = 0 then
              (f_M_isHere N 26 p5.2).bind fun p6 =>
              if p6.1 = 0 then
                f_M_isOwnHere_j299 N (0, p6.2)
              else
                f_M_isOwnHere_j299 N (1, p6.2)
            else
              f_M_isOwnHere_j299 N (1, p5.2)
          else
            f_M_isOwnHere_j299 N (1, p4.2)
        else
          f_M_isOwnHere_j299 N (1, p3.2)
      else
        f_M_isOwnHere_j299 N (1, p2.2)
    else
      f_M_isOwnHere_j299 N (1, p1.2)
  else
    f_M_isOwnHere_j299 N (1, x.2)
set_option maxRecDepth 100000 in
set_option maxHeartbeats 4000000 in
theorem s_M_isOwnHere_223 (N : Nat) {x9 : Int32} {s9 : mS} : SCd Sm R0m oFm nm 3 q_M_isOwnHere (some (.int x9), s9) (x9, s9) 223 (H_M_isOwnHere_223 (f_M_isOwnHere_j223 N)) := by
  intro loc st s
  refine G_cR (fun h0 => ?_)
  refine G_pi (fun w0 r0 e0 => ?_)
  refine G_rv0 (fun e9 => ?_)
  subst e9
  subst e0
  refine G_sub (loc0 := [(0, .ref 0)]) (List.forall_mem_cons.mpr ⟨h0, mz_nil⟩) ?_
  exact G_eq (mEv_G (orc := mOrc (oL_M_isOwnHere N)) (ret := rtZ) (blks := bl_M_isOwnHere) (cuts := [(299, H_M_isOwnHere_299 (f_M_isOwnHere_j299 N))]) wOKm (by decide) (oo_M_isOwnHere N) (RetOK_Z rfl) bk_M_isOwnHere (List.forall_mem_cons.mpr ⟨s_M_isOwnHere_299 N, mz_nil⟩)) rfl
noncomputable def f_M_isOwnHere_j147 (N : Nat) (x : Int32 × mS) : Option (Int32 × mS) :=
  if x.1 = 0 then
    (f_M_isHere N 15 x.2).bind fun p1 =>
    if p1.1 = 0 then
      (f_M_isHere N 16 p1.2).bind fun p2 =>
      if p2.1 = 0 then
        (f_M_isHere N 17 p2.2).bind fun p3 =>
        if p3.1 = 0 then
          (f_M_isHere N 18 p3.2).bind fun p4 =>
          if p4.1 = 0 then
            (f_M_isHere N 19 p4.2).bind fun p5 =>
            if p5.1 = 0 then
              (f_M_isHere N 20 p5.2).bind fun p6 =>
              if p6.1 = 0 then
                f_M_isOwnHere_j223 N (0, p6.2)
              else
                f_M_isOwnHere_j223 N (1, p6.2)
            else
              f_M_isOwnHere_j223 N (1, p5.2)
          else
            f_M_isOwnHere_j223 N (1, p4.2)
        else
          f_M_isOwnHere_j223 N (1, p3.2)
      else
        f_M_isOwnHere_j223 N (1, p2.2)
    else
      f_M_isOwnHere_j223 N (1, p1.2)
  else
    f_M_isOwnHere_j223 N (1, x.2)
set_option maxRecDepth 100000 in
set_option maxHeartbeats 4000000 in
theorem s_M_isOwnHere_147 (N : Nat) {x9 : Int32} {s9 : mS} : SCd Sm R0m oFm nm 3 q_M_isOwnHere (some (.int x9), s9) (x9, s9) 147 (H_M_isOwnHere_147 (f_M_isOwnHere_j147 N)) := by
  intro loc st s
  refine G_cR (fun h0 => ?_)
  refine G_pi (fun w0 r0 e0 => ?_)
  refine G_rv0 (fun e9 => ?_)
  subst e9
  subst e0
  refine G_sub (loc0 := [(0, .ref 0)]) (List.forall_mem_cons.mpr ⟨h0, mz_nil⟩) ?_
  exact G_eq (mEv_G (orc := mOrc (oL_M_isOwnHere N)) (ret := rtZ) (blks := bl_M_isOwnHere) (cuts := [(223, H_M_isOwnHere_223 (f_M_isOwnHere_j223 N))]) wOKm (by decide) (oo_M_isOwnHere N) (RetOK_Z rfl) bk_M_isOwnHere (List.forall_mem_cons.mpr ⟨s_M_isOwnHere_223 N, mz_nil⟩)) rfl
noncomputable def f_M_isOwnHere_j71 (N : Nat) (x : Int32 × mS) : Option (Int32 × mS) :=
  if x.1 = 0 then
    (f_M_isHere N 9 x.2).bind fun p1 =>
    if p1.1 = 0 then
      (f_M_isHere N 10 p1.2).bind fun p2 =>
      if p2.1 = 0 then
        (f_M_isHere N 11 p2.2).bind fun p3 =>
        if p3.1 = 0 then
          (f_M_isHere N 12 p3.2).bind fun p4 =>
          if p4.1 = 0 then
            (f_M_isHere N 13 p4.2).bind fun p5 =>
            if p5.1 = 0 then
              (f_M_isHere N 14 p5.2).bind fun p6 =>
              if p6.1 = 0 then
                f_M_isOwnHere_j147 N (0, p6.2)
              else
                f_M_isOwnHere_j147 N (1, p6.2)
            else
              f_M_isOwnHere_j147 N (1, p5.2)
          else
            f_M_isOwnHere_j147 N (1, p4.2)
        else
          f_M_isOwnHere_j147 N (1, p3.2)
      else
        f_M_isOwnHere_j147 N (1, p2.2)
    else
      f_M_isOwnHere_j147 N (1, p1.2)
  else
    f_M_isOwnHere_j147 N (1, x.2)
set_option maxRecDepth 100000 in
set_option maxHeartbeats 4000000 in
theorem s_M_isOwnHere_71 (N : Nat) {x9 : Int32} {s9 : mS} : SCd Sm R0m oFm nm 3 q_M_isOwnHere (some (.int x9), s9) (x9, s9) 71 (H_M_isOwnHere_71 (f_M_isOwnHere_j71 N)) := by
  intro loc st s
  refine G_cR (fun h0 => ?_)
  refine G_pi (fun w0 r0 e0 => ?_)
  refine G_rv0 (fun e9 => ?_)
  subst e9
  subst e0
  refine G_sub (loc0 := [(0, .ref 0)]) (List.forall_mem_cons.mpr ⟨h0, mz_nil⟩) ?_
  exact G_eq (mEv_G (orc := mOrc (oL_M_isOwnHere N)) (ret := rtZ) (blks := bl_M_isOwnHere) (cuts := [(147, H_M_isOwnHere_147 (f_M_isOwnHere_j147 N))]) wOKm (by decide) (oo_M_isOwnHere N) (RetOK_Z rfl) bk_M_isOwnHere (List.forall_mem_cons.mpr ⟨s_M_isOwnHere_147 N, mz_nil⟩)) rfl
noncomputable def f_M_isOwnHere (N : Nat) (s : mS) : Option (Int32 × mS) :=
  (f_M_isHere N 3 s).bind fun p1 =>
  if p1.1 = 0 then
    (f_M_isHere N 4 p1.2).bind fun p2 =>
    if p2.1 = 0 then
      (f_M_isHere N 5 p2.2).bind fun p3 =>
      if p3.1 = 0 then
        (f_M_isHere N 6 p3.2).bind fun p4 =>
        if p4.1 = 0 then
          (f_M_isHere N 7 p4.2).bind fun p5 =>
          if p5.1 = 0 then
            (f_M_isHere N 8 p5.2).bind fun p6 =>
            if p6.1 = 0 then
              f_M_isOwnHere_j71 N (0, p6.2)
            else
              f_M_isOwnHere_j71 N (1, p6.2)
          else
            f_M_isOwnHere_j71 N (1, p5.2)
        else
          f_M_isOwnHere_j71 N (1, p4.2)
      else
        f_M_isOwnHere_j71 N (1, p3.2)
    else
      f_M_isOwnHere_j71 N (1, p2.2)
  else
    f_M_isOwnHere_j71 N (1, p1.2)
set_option maxRecDepth 100000 in
set_option maxHeartbeats 4000000 in
theorem m_M_isOwnHere (N : Nat) {x9 : Int32} {s9 : mS} {s : mS} (h : f_M_isOwnHere N s = some (x9, s9)) : MetM Sm R0m oFm nm 3 161 [.ref 0] s (some (.int x9)) s9 := by
  refine met_of_G (q := q_M_isOwnHere) (t0 := (x9, s9)) y_M_isOwnHere (Nat.le_of_ble_eq_true rfl) ?_
  rw [← h]
  exact G_eq (mEv_G (orc := mOrc (oL_M_isOwnHere N)) (ret := rtZ) (blks := bl_M_isOwnHere) (cuts := [(71, H_M_isOwnHere_71 (f_M_isOwnHere_j71 N))]) wOKm (by decide) (oo_M_isOwnHere N) (RetOK_Z rfl) bk_M_isOwnHere (List.forall_mem_cons.mpr ⟨s_M_isOwnHere_71 N, mz_nil⟩)) rfl
noncomputable def C_M_isOwnHere {ρ : Type} (N : Nat) : List Value → mS → (Option Value → mS → Option ρ) → Option ρ := fun vs s kk => sR vs 0 fun r0 => rv0 r0 ((f_M_isOwnHere N s).bind fun p => kk (some (.int p.1)) p.2)
theorem cs_M_isOwnHere {ρ : Type} {t0 : ρ} {d : Nat} (N : Nat) (hd : 3 + 1 ≤ d) : CallOK Sm R0m oFm nm d t0 161 (C_M_isOwnHere N) := by
  intro vs s kk h0
  obtain ⟨r0, rfl, h1⟩ := sR_some h0
  obtain ⟨rfl, h2⟩ := rv0_some h1
  obtain ⟨p, hp, hk⟩ := Option.bind_eq_some_iff.mp h2
  exact ⟨_, _, _, hd, m_M_isOwnHere N hp, hk, fun qy hq hf => by cases y_M_isOwnHere.symm.trans hq; exact ⟨_, _, rfl, rfl⟩⟩
/-! METHOD PorterDoorsModel.name()J -/
set_option maxRecDepth 20000 in
noncomputable def q_M_name : mI := (⟨"PorterDoorsModel", "name", "()J"⟩, prog_13_method_17_code, 3, (some .long), 10, 1466, 139, 1, 0, 1465, 53)
theorem y_M_name : mT[160]? = some q_M_name := mT_at_4 (k := 0) rfl
noncomputable def bl_M_name : List (Nat × List mO) := [(0, [o0 (.aload_n 0), o2 (.getfield 227) 10 5, o1 (.ifCond .eq 5) 9, o0 (.lconst 0), o0 (.lreturn)]),
  (9, [o0 (.aload_n 0), o2 (.invokevirtual 239) 150 1, o2 (.invokestatic 243) 151 1, o1 (.ifCond .eq 21) 37, o0 (.aload_n 0), o2 (.getfield 233) 10 2, o0 (.aload_n 0), o2 (.getfield 247) 10 4, o1 (.if_icmp .eq 10) 37, o0 (.aload_n 0), o2 (.invokevirtual 274) 161 1, o1 (.ifCond .eq 14) 48]),
  (37, [o0 (.aload_n 0), o0 (.iconst 1), o0 (.aload_n 0), o2 (.getfield 233) 10 2, o2 (.invokevirtual 257) 152 3, o0 (.lconst 0), o0 (.lreturn)]),
  (48, [o0 (.aload_n 0), o0 (.aload_n 0), o2 (.getfield 233) 10 2, o2 (.putfield 278) 10 36, o0 (.lconst 0), o0 (.lstore_n 1)]),
  (58, [o0 (.aload_n 0), o2 (.getfield 233) 10 2, o0 (.aload_n 0), o2 (.getfield 236) 10 3, o1 (.if_icmp .ge 79) 145, o0 (.aload_n 0), o2 (.getfield 7) 10 0, o0 (.aload_n 0), o2 (.getfield 233) 10 2, o0 (.iaload), o2 (.invokestatic 243) 151 1, o1 (.ifCond .eq 64) 145, o0 (.aload_n 0), o2 (.getfield 233) 10 2, o0 (.aload_n 0), o2 (.getfield 278) 10 36, o0 (.isub), o0 (.bipush 6), o1 (.if_icmp .ne 14) 109, o0 (.aload_n 0), o0 (.iconst 1), o0 (.aload_n 0), o2 (.getfield 233) 10 2, o2 (.invokevirtual 257) 152 3, o0 (.lconst 0), o0 (.lreturn)]),
  (109, [oC (.ldc2_w 281) (.long 27), o0 (.lload_n 1), o0 (.lmul), o0 (.aload_n 0), o2 (.getfield 7) 10 0, o0 (.aload_n 0), o2 (.getfield 233) 10 2, o0 (.iaload), o0 (.i2l), o0 (.ladd), oC (.ldc2_w 283) (.long 97), o0 (.lsub), o0 (.lconst 1), o0 (.ladd), o0 (.lstore_n 1), o0 (.aload_n 0), o0 (.dup), o2 (.getfield 233) 10 2, o0 (.iconst 1), o0 (.iadd), o2 (.putfield 233) 10 2, o1 (.goto (-84)) 58]),
  (145, [o0 (.aload_n 0), o0 (.aload_n 0), o2 (.getfield 233) 10 2, o2 (.putfield 247) 10 4, o0 (.lload_n 1), o0 (.lreturn)])]
theorem bk_M_name : okBlks q_M_name bl_M_name = true := by decide +kernel
noncomputable def oL_M_name {ρ : Type} (N : Nat) : List (Nat × (List Value → mS → (Option Value → mS → Option ρ) → Option ρ)) := [(150, C_M_look N), (151, C_M_isLetter N), (161, C_M_isOwnHere N), (152, C_M_fail N)]
theorem oo_M_name {ρ : Type} {t0 : ρ} (N : Nat) : OrcOK Sm R0m oFm nm 4 t0 (mOrc (oL_M_name N)) := mOrc_OK (List.forall_mem_cons.mpr ⟨cs_M_look N (by decide), List.forall_mem_cons.mpr ⟨cs_M_isLetter N (by decide), List.forall_mem_cons.mpr ⟨cs_M_isOwnHere N (by decide), List.forall_mem_cons.mpr ⟨cs_M_fail N (by decide), mz_nil⟩⟩⟩⟩)
noncomputable def H_M_name_37 {ρ : Type} (k : mS → Option ρ) : mL → List Value → mS → Option ρ := fun loc st s => cR loc 0 0 (rv0 st (k s))
noncomputable def H_M_name_58 {ρ : Type} (k : (Int64 × mS) → Option ρ) : mL → List Value → mS → Option ρ := fun loc st s => cR loc 0 0 (ll1 loc 1 fun v0 => rv0 st (k (v0, s)))
noncomputable def f_M_name_j37 (N : Nat) (x : mS) : Option (Int64 × mS) :=
  (f_M_fail N 1 (gI x 1002 0) x).bind fun p1 =>
  some (0, p1)
set_option maxRecDepth 100000 in
set_option maxHeartbeats 4000000 in
theorem s_M_name_37 (N : Nat) {x9 : Int64} {s9 : mS} : SCd Sm R0m oFm nm 4 q_M_name (some (.long x9), s9) (x9, s9) 37 (H_M_name_37 (f_M_name_j37 N)) := by
  intro loc st s
  refine G_cR (fun h0 => ?_)
  refine G_rv0 (fun e9 => ?_)
  subst e9
  refine G_sub (loc0 := [(0, .ref 0)]) (List.forall_mem_cons.mpr ⟨h0, mz_nil⟩) ?_
  exact G_eq (mEv_G (orc := mOrc (oL_M_name N)) (ret := rtL) (blks := bl_M_name) (cuts := []) wOKm (by decide) (oo_M_name N) (RetOK_L rfl) bk_M_name (mz_nil)) rfl
noncomputable def f_M_name_L58 (N : Nat) (k58 : (Int64 × mS) → Option (Int64 × mS)) (x : Int64 × mS) : Option (Int64 × mS) :=
  if (gI x.2 1002 0) < (gI x.2 1003 0) then
    grd (inb (gI x.2 1002 0) 1600) (
    (f_M_isLetter N (gA x.2 1 (ix (gI x.2 1002 0))) x.2).bind fun p2 =>
    if p2.1 = 0 then
      let s3 := sI p2.2 1004 0 (gI p2.2 1002 0)
      some (x.1, s3)
    else
      if ((gI p2.2 1002 0) - (gI p2.2 1036 0)) = 6 then
        (f_M_fail N 1 (gI p2.2 1002 0) p2.2).bind fun p6 =>
        some (0, p6)
      else
        grd (inb (gI p2.2 1002 0) 1600) (
        let v4 := ((((27 * x.1) + ((gA p2.2 1 (ix (gI p2.2 1002 0)))).toInt64) - 97) + 1)
        let s5 := sI p2.2 1002 0 ((gI p2.2 1002 0) + 1)
        k58 (v4, s5)))
  else
    let s1 := sI x.2 1004 0 (gI x.2 1002 0)
    some (x.1, s1)
set_option maxRecDepth 100000 in
set_option maxHeartbeats 4000000 in
theorem t_M_name_58 (N : Nat) {x9 : Int64} {s9 : mS} {k58 : (Int64 × mS) → Option (Int64 × mS)} (hk58 : SCd Sm R0m oFm nm 4 q_M_name (some (.long x9), s9) (x9, s9) 58 (H_M_name_58 k58)) : SCd Sm R0m oFm nm 4 q_M_name (some (.long x9), s9) (x9, s9) 58 (H_M_name_58 (f_M_name_L58 N k58)) := by
  intro loc st s
  refine G_cR (fun h0 => ?_)
  refine G_ll (fun v0 h1 => ?_)
  refine G_rv0 (fun e9 => ?_)
  subst e9
  refine G_sub (loc0 := [(0, .ref 0), (1, .long v0)]) (List.forall_mem_cons.mpr ⟨h0, List.forall_mem_cons.mpr ⟨h1, mz_nil⟩⟩) ?_
  exact G_eq (mEv_G (orc := mOrc (oL_M_name N)) (ret := rtL) (blks := bl_M_name) (cuts := [(58, H_M_name_58 k58)]) wOKm (by decide) (oo_M_name N) (RetOK_L rfl) bk_M_name (List.forall_mem_cons.mpr ⟨hk58, mz_nil⟩)) rfl
theorem s_M_name_58 (N : Nat) {x9 : Int64} {s9 : mS} : SCd Sm R0m oFm nm 4 q_M_name (some (.long x9), s9) (x9, s9) 58 (H_M_name_58 (mfix N (f_M_name_L58 N))) := by
  refine mfix_SC (H := H_M_name_58) (fun loc st s => ?_) (fun k hk => t_M_name_58 N hk) N
  refine G_cR (fun h0 => ?_)
  refine G_ll (fun v0 h1 => ?_)
  refine G_rv0 (fun e9 => ?_)
  subst e9
  exact G_none
noncomputable def f_M_name (N : Nat) (s : mS) : Option (Int64 × mS) :=
  if (gI s 1005 0) = 0 then
    (f_M_look N s).bind fun p1 =>
    (f_M_isLetter N p1.1 p1.2).bind fun p2 =>
    if p2.1 = 0 then
      f_M_name_j37 N p2.2
    else
      if (gI p2.2 1002 0) = (gI p2.2 1004 0) then
        f_M_name_j37 N p2.2
      else
        (f_M_isOwnHere N p2.2).bind fun p3 =>
        if p3.1 = 0 then
          let s4 := sI p3.2 1036 0 (gI p3.2 1002 0)
          mfix N (f_M_name_L58 N) (0, s4)
        else
          f_M_name_j37 N p3.2
  else
    some (0, s)
set_option maxRecDepth 100000 in
set_option maxHeartbeats 4000000 in
theorem m_M_name (N : Nat) {x9 : Int64} {s9 : mS} {s : mS} (h : f_M_name N s = some (x9, s9)) : MetM Sm R0m oFm nm 4 160 [.ref 0] s (some (.long x9)) s9 := by
  refine met_of_G (q := q_M_name) (t0 := (x9, s9)) y_M_name (Nat.le_of_ble_eq_true rfl) ?_
  rw [← h]
  exact G_eq (mEv_G (orc := mOrc (oL_M_name N)) (ret := rtL) (blks := bl_M_name) (cuts := [(37, H_M_name_37 (f_M_name_j37 N)), (58, H_M_name_58 (mfix N (f_M_name_L58 N)))]) wOKm (by decide) (oo_M_name N) (RetOK_L rfl) bk_M_name (List.forall_mem_cons.mpr ⟨s_M_name_37 N, List.forall_mem_cons.mpr ⟨s_M_name_58 N, mz_nil⟩⟩)) rfl
noncomputable def C_M_name {ρ : Type} (N : Nat) : List Value → mS → (Option Value → mS → Option ρ) → Option ρ := fun vs s kk => sR vs 0 fun r0 => rv0 r0 ((f_M_name N s).bind fun p => kk (some (.long p.1)) p.2)
theorem cs_M_name {ρ : Type} {t0 : ρ} {d : Nat} (N : Nat) (hd : 4 + 1 ≤ d) : CallOK Sm R0m oFm nm d t0 160 (C_M_name N) := by
  intro vs s kk h0
  obtain ⟨r0, rfl, h1⟩ := sR_some h0
  obtain ⟨rfl, h2⟩ := rv0_some h1
  obtain ⟨p, hp, hk⟩ := Option.bind_eq_some_iff.mp h2
  exact ⟨_, _, _, hd, m_M_name N hp, hk, fun qy hq hf => by cases y_M_name.symm.trans hq; exact ⟨_, _, rfl, rfl⟩⟩
/-! METHOD PorterDoorsModel.qWordHere()I -/
set_option maxRecDepth 20000 in
noncomputable def q_M_qWordHere : mI := (⟨"PorterDoorsModel", "qWordHere", "()I"⟩, prog_13_method_104_code, 1, (some .int), 10, 1492, 139, 1, 0, 1491, 59)
theorem y_M_qWordHere : mT[166]? = some q_M_qWordHere := mT_at_4 (k := 6) rfl
noncomputable def bl_M_qWordHere : List (Nat × List mO) := [(0, [o0 (.aload_n 0), o0 (.aload_n 0), o2 (.getfield 177) 10 76, o2 (.invokevirtual 250) 149 2, o1 (.ifCond .eq 5) 13, o0 (.iconst 0), o0 (.ireturn)]),
  (13, [o0 (.aload_n 0), o0 (.aload_n 0), o2 (.getfield 180) 10 77, o2 (.invokevirtual 250) 149 2, o1 (.ifCond .eq 5) 26, o0 (.iconst 1), o0 (.ireturn)]),
  (26, [o0 (.aload_n 0), o0 (.aload_n 0), o2 (.getfield 183) 10 78, o2 (.invokevirtual 250) 149 2, o1 (.ifCond .eq 5) 39, o0 (.iconst 2), o0 (.ireturn)]),
  (39, [o0 (.aload_n 0), o0 (.aload_n 0), o2 (.getfield 186) 10 79, o2 (.invokevirtual 250) 149 2, o1 (.ifCond .eq 5) 52, o0 (.iconst 3), o0 (.ireturn)]),
  (52, [o0 (.aload_n 0), o0 (.aload_n 0), o2 (.getfield 189) 10 80, o2 (.invokevirtual 250) 149 2, o1 (.ifCond .eq 5) 65, o0 (.iconst 4), o0 (.ireturn)]),
  (65, [o0 (.aload_n 0), o0 (.aload_n 0), o2 (.getfield 192) 10 81, o2 (.invokevirtual 250) 149 2, o1 (.ifCond .eq 5) 78, o0 (.iconst 5), o0 (.ireturn)]),
  (78, [o0 (.aload_n 0), o0 (.aload_n 0), o2 (.getfield 195) 10 82, o2 (.invokevirtual 250) 149 2, o1 (.ifCond .eq 6) 92, o0 (.bipush 6), o0 (.ireturn)]),
  (92, [o0 (.aload_n 0), o0 (.aload_n 0), o2 (.getfield 198) 10 83, o2 (.invokevirtual 250) 149 2, o1 (.ifCond .eq 6) 106, o0 (.bipush 7), o0 (.ireturn)]),
  (106, [o0 (.aload_n 0), o0 (.aload_n 0), o2 (.getfield 201) 10 84, o2 (.invokevirtual 250) 149 2, o1 (.ifCond .eq 6) 120, o0 (.bipush 8), o0 (.ireturn)]),
  (120, [o0 (.aload_n 0), o0 (.aload_n 0), o2 (.getfield 204) 10 85, o2 (.invokevirtual 250) 149 2, o1 (.ifCond .eq 6) 134, o0 (.bipush 9), o0 (.ireturn)]),
  (134, [o0 (.aload_n 0), o0 (.aload_n 0), o2 (.getfield 207) 10 86, o2 (.invokevirtual 250) 149 2, o1 (.ifCond .eq 6) 148, o0 (.bipush 10), o0 (.ireturn)]),
  (148, [o0 (.iconst (-1)), o0 (.ireturn)])]
theorem bk_M_qWordHere : okBlks q_M_qWordHere bl_M_qWordHere = true := by decide +kernel
noncomputable def oL_M_qWordHere {ρ : Type} (N : Nat) : List (Nat × (List Value → mS → (Option Value → mS → Option ρ) → Option ρ)) := [(149, C_M_isHere N)]
theorem oo_M_qWordHere {ρ : Type} {t0 : ρ} (N : Nat) : OrcOK Sm R0m oFm nm 3 t0 (mOrc (oL_M_qWordHere N)) := mOrc_OK (List.forall_mem_cons.mpr ⟨cs_M_isHere N (by decide), mz_nil⟩)
noncomputable def f_M_qWordHere (N : Nat) (s : mS) : Option (Int32 × mS) :=
  (f_M_isHere N 53 s).bind fun p1 =>
  if p1.1 = 0 then
    (f_M_isHere N 54 p1.2).bind fun p2 =>
    if p2.1 = 0 then
      (f_M_isHere N 55 p2.2).bind fun p3 =>
      if p3.1 = 0 then
        (f_M_isHere N 56 p3.2).bind fun p4 =>
        if p4.1 = 0 then
          (f_M_isHere N 57 p4.2).bind fun p5 =>
          if p5.1 = 0 then
            (f_M_isHere N 58 p5.2).bind fun p6 =>
            if p6.1 = 0 then
              (f_M_isHere N 59 p6.2).bind fun p7 =>
              if p7.1 = 0 then
                (f_M_isHere N 60 p7.2).bind fun p8 =>
                if p8.1 = 0 then
                  (f_M_isHere N 61 p8.2).bind fun p9 =>
                  if p9.1 = 0 then
                    (f_M_isHere N 62 p9.2).bind fun p10 =>
                    if p10.1 = 0 then
                      (f_M_isHere N 63 p10.2).bind fun p11 =>
                      if p11.1 = 0 then
                        some ((-1), p11.2)
                      else
                        some (10, p11.2)
                    else
                      some (9, p10.2)
                  else
                    some (8, p9.2)
                else
                  some (7, p8.2)
              else
                some (6, p7.2)
            else
              some (5, p6.2)
          else
            some (4, p5.2)
        else
          some (3, p4.2)
      else
        some (2, p3.2)
    else
      some (1, p2.2)
  else
    some (0, p1.2)
set_option maxRecDepth 100000 in
set_option maxHeartbeats 4000000 in
theorem m_M_qWordHere (N : Nat) {x9 : Int32} {s9 : mS} {s : mS} (h : f_M_qWordHere N s = some (x9, s9)) : MetM Sm R0m oFm nm 3 166 [.ref 0] s (some (.int x9)) s9 := by
  refine met_of_G (q := q_M_qWordHere) (t0 := (x9, s9)) y_M_qWordHere (Nat.le_of_ble_eq_true rfl) ?_
  rw [← h]
  exact G_eq (mEv_G (orc := mOrc (oL_M_qWordHere N)) (ret := rtI) (blks := bl_M_qWordHere) (cuts := []) wOKm (by decide) (oo_M_qWordHere N) (RetOK_I rfl) bk_M_qWordHere (mz_nil)) rfl
noncomputable def C_M_qWordHere {ρ : Type} (N : Nat) : List Value → mS → (Option Value → mS → Option ρ) → Option ρ := fun vs s kk => sR vs 0 fun r0 => rv0 r0 ((f_M_qWordHere N s).bind fun p => kk (some (.int p.1)) p.2)
theorem cs_M_qWordHere {ρ : Type} {t0 : ρ} {d : Nat} (N : Nat) (hd : 3 + 1 ≤ d) : CallOK Sm R0m oFm nm d t0 166 (C_M_qWordHere N) := by
  intro vs s kk h0
  obtain ⟨r0, rfl, h1⟩ := sR_some h0
  obtain ⟨rfl, h2⟩ := rv0_some h1
  obtain ⟨p, hp, hk⟩ := Option.bind_eq_some_iff.mp h2
  exact ⟨_, _, _, hd, m_M_qWordHere N hp, hk, fun qy hq hf => by cases y_M_qWordHere.symm.trans hq; exact ⟨_, _, rfl, rfl⟩⟩
/-! METHOD PorterDoorsModel.isAllowed(I)Z -/
set_option maxRecDepth 20000 in
noncomputable def q_M_isAllowed : mI := (⟨"PorterDoorsModel", "isAllowed", "(I)Z"⟩, prog_13_method_18_code, 2, (some .boolean), 10, 1496, 139, 1, 1, 1495, 60)
theorem y_M_isAllowed : mT[167]? = some q_M_isAllowed := mT_at_4 (k := 7) rfl
noncomputable def bl_M_isAllowed : List (Nat × List mO) := [(0, [o0 (.aload_n 0), o2 (.getfield 285) 10 47, oS (.tableswitch 74 0 2 #[28, 39, 50]) 78 [32, 43, 54]]),
  (32, [o0 (.iload_n 1), o0 (.iconst 3), o1 (.if_icmp .ge 7) 41, o0 (.iconst 1), o1 (.goto 4) 42]),
  (41, [o0 (.iconst 0)]),
  (42, [o0 (.ireturn)]),
  (43, [o0 (.iload_n 1), o0 (.iconst 5), o1 (.if_icmp .ge 7) 52, o0 (.iconst 1), o1 (.goto 4) 53]),
  (52, [o0 (.iconst 0)]),
  (53, [o0 (.ireturn)]),
  (54, [o0 (.iload_n 1), o1 (.ifCond .eq 17) 72, o0 (.iload_n 1), o0 (.i2l), oC (.ldc2_w 288) (.long 5), oC (.ldc2_w 290) (.long 7), o2 (.invokestatic 270) 155 3, o1 (.ifCond .eq 7) 76]),
  (72, [o0 (.iconst 1), o1 (.goto 4) 77]),
  (76, [o0 (.iconst 0)]),
  (77, [o0 (.ireturn)]),
  (78, [o0 (.iload_n 1), o0 (.iconst 5), o1 (.if_icmp .lt 9) 89, o0 (.iload_n 1), o0 (.bipush 7), o1 (.if_icmp .le 7) 93]),
  (89, [o0 (.iconst 1), o1 (.goto 4) 94]),
  (93, [o0 (.iconst 0)]),
  (94, [o0 (.ireturn)])]
theorem bk_M_isAllowed : okBlks q_M_isAllowed bl_M_isAllowed = true := by decide +kernel
noncomputable def oL_M_isAllowed {ρ : Type} (N : Nat) : List (Nat × (List Value → mS → (Option Value → mS → Option ρ) → Option ρ)) := [(155, C_M_isIn N)]
theorem oo_M_isAllowed {ρ : Type} {t0 : ρ} (N : Nat) : OrcOK Sm R0m oFm nm 2 t0 (mOrc (oL_M_isAllowed N)) := mOrc_OK (List.forall_mem_cons.mpr ⟨cs_M_isIn N (by decide), mz_nil⟩)
noncomputable def f_M_isAllowed (N : Nat) (a1 : Int32) (s : mS) : Option (Int32 × mS) :=
  if (gI s 1047 0) = 0 then
    if a1 < 3 then
      some (1, s)
    else
      some (0, s)
  else if (gI s 1047 0) = 1 then
    if a1 < 5 then
      some (1, s)
    else
      some (0, s)
  else if (gI s 1047 0) = 2 then
    if a1 = 0 then
      some (1, s)
    else
      (f_M_isIn N (a1).toInt64 5 7 s).bind fun p1 =>
      if p1.1 = 0 then
        some (0, p1.2)
      else
        some (1, p1.2)
  else
    if a1 < 5 then
      some (1, s)
    else
      if 7 < a1 then
        some (1, s)
      else
        some (0, s)
set_option maxRecDepth 100000 in
set_option maxHeartbeats 4000000 in
theorem m_M_isAllowed (N : Nat) {x9 : Int32} {s9 : mS} (a1 : Int32) {s : mS} (h : f_M_isAllowed N a1 s = some (x9, s9)) : MetM Sm R0m oFm nm 2 167 [.ref 0, .int a1] s (some (.int x9)) s9 := by
  refine met_of_G (q := q_M_isAllowed) (t0 := (x9, s9)) y_M_isAllowed (Nat.le_of_ble_eq_true rfl) ?_
  rw [← h]
  exact G_eq (mEv_G (orc := mOrc (oL_M_isAllowed N)) (ret := rtZ) (blks := bl_M_isAllowed) (cuts := []) wOKm (by decide) (oo_M_isAllowed N) (RetOK_Z rfl) bk_M_isAllowed (mz_nil)) rfl
noncomputable def C_M_isAllowed {ρ : Type} (N : Nat) : List Value → mS → (Option Value → mS → Option ρ) → Option ρ := fun vs s kk => sR vs 0 fun r0 => pi1 r0 fun a1 r1 => rv0 r1 ((f_M_isAllowed N a1 s).bind fun p => kk (some (.int p.1)) p.2)
theorem cs_M_isAllowed {ρ : Type} {t0 : ρ} {d : Nat} (N : Nat) (hd : 2 + 1 ≤ d) : CallOK Sm R0m oFm nm d t0 167 (C_M_isAllowed N) := by
  intro vs s kk h0
  obtain ⟨r0, rfl, h1⟩ := sR_some h0
  obtain ⟨a1, r1, rfl, h2⟩ := pi1_some h1
  obtain ⟨rfl, h3⟩ := rv0_some h2
  obtain ⟨p, hp, hk⟩ := Option.bind_eq_some_iff.mp h3
  exact ⟨_, _, _, hd, m_M_isAllowed N a1 hp, hk, fun qy hq hf => by cases y_M_isAllowed.symm.trans hq; exact ⟨_, _, rfl, rfl⟩⟩
/-! METHOD PorterDoorsModel.qWordOf(II)I -/
set_option maxRecDepth 20000 in
noncomputable def q_M_qWordOf : mI := (⟨"PorterDoorsModel", "qWordOf", "(II)I"⟩, prog_13_method_105_code, 4, (some .int), 10, 1488, 139, 1, 2, 1487, 58)
theorem y_M_qWordOf : mT[165]? = some q_M_qWordOf := mT_at_4 (k := 5) rfl
noncomputable def bl_M_qWordOf : List (Nat × List mO) := [(0, [o0 (.aload_n 0), o2 (.invokevirtual 552) 166 1, o0 (.istore_n 3), o0 (.iload_n 3), o0 (.iload_n 1), o1 (.if_icmp .lt 20) 27, o0 (.iload_n 3), o0 (.iload_n 2), o1 (.if_icmp .ge 15) 27, o0 (.aload_n 0), o0 (.iload_n 3), o2 (.invokevirtual 555) 167 2, o1 (.ifCond .eq 7) 27, o0 (.iload_n 3), o1 (.goto 4) 28]),
  (27, [o0 (.iconst (-1))]),
  (28, [o0 (.ireturn)])]
theorem bk_M_qWordOf : okBlks q_M_qWordOf bl_M_qWordOf = true := by decide +kernel
noncomputable def oL_M_qWordOf {ρ : Type} (N : Nat) : List (Nat × (List Value → mS → (Option Value → mS → Option ρ) → Option ρ)) := [(166, C_M_qWordHere N), (167, C_M_isAllowed N)]
theorem oo_M_qWordOf {ρ : Type} {t0 : ρ} (N : Nat) : OrcOK Sm R0m oFm nm 4 t0 (mOrc (oL_M_qWordOf N)) := mOrc_OK (List.forall_mem_cons.mpr ⟨cs_M_qWordHere N (by decide), List.forall_mem_cons.mpr ⟨cs_M_isAllowed N (by decide), mz_nil⟩⟩)
noncomputable def f_M_qWordOf (N : Nat) (a1 : Int32) (a2 : Int32) (s : mS) : Option (Int32 × mS) :=
  (f_M_qWordHere N s).bind fun p1 =>
  if p1.1 < a1 then
    some ((-1), p1.2)
  else
    if p1.1 < a2 then
      (f_M_isAllowed N p1.1 p1.2).bind fun p2 =>
      if p2.1 = 0 then
        some ((-1), p2.2)
      else
        some (p1.1, p2.2)
    else
      some ((-1), p1.2)
set_option maxRecDepth 100000 in
set_option maxHeartbeats 4000000 in
theorem m_M_qWordOf (N : Nat) {x9 : Int32} {s9 : mS} (a1 : Int32) (a2 : Int32) {s : mS} (h : f_M_qWordOf N a1 a2 s = some (x9, s9)) : MetM Sm R0m oFm nm 4 165 [.ref 0, .int a1, .int a2] s (some (.int x9)) s9 := by
  refine met_of_G (q := q_M_qWordOf) (t0 := (x9, s9)) y_M_qWordOf (Nat.le_of_ble_eq_true rfl) ?_
  rw [← h]
  exact G_eq (mEv_G (orc := mOrc (oL_M_qWordOf N)) (ret := rtI) (blks := bl_M_qWordOf) (cuts := []) wOKm (by decide) (oo_M_qWordOf N) (RetOK_I rfl) bk_M_qWordOf (mz_nil)) rfl
noncomputable def C_M_qWordOf {ρ : Type} (N : Nat) : List Value → mS → (Option Value → mS → Option ρ) → Option ρ := fun vs s kk => sR vs 0 fun r0 => pi1 r0 fun a1 r1 => pi1 r1 fun a2 r2 => rv0 r2 ((f_M_qWordOf N a1 a2 s).bind fun p => kk (some (.int p.1)) p.2)
theorem cs_M_qWordOf {ρ : Type} {t0 : ρ} {d : Nat} (N : Nat) (hd : 4 + 1 ≤ d) : CallOK Sm R0m oFm nm d t0 165 (C_M_qWordOf N) := by
  intro vs s kk h0
  obtain ⟨r0, rfl, h1⟩ := sR_some h0
  obtain ⟨a1, r1, rfl, h2⟩ := pi1_some h1
  obtain ⟨a2, r2, rfl, h3⟩ := pi1_some h2
  obtain ⟨rfl, h4⟩ := rv0_some h3
  obtain ⟨p, hp, hk⟩ := Option.bind_eq_some_iff.mp h4
  exact ⟨_, _, _, hd, m_M_qWordOf N a1 a2 hp, hk, fun qy hq hf => by cases y_M_qWordOf.symm.trans hq; exact ⟨_, _, rfl, rfl⟩⟩
/-! METHOD PorterDoorsModel.qOpens(II)V -/
set_option maxRecDepth 20000 in
noncomputable def q_M_qOpens : mI := (⟨"PorterDoorsModel", "qOpens", "(II)V"⟩, prog_13_method_98_code, 3, none, 10, 1502, 139, 1, 2, 1501, 61)
theorem y_M_qOpens : mT[168]? = some q_M_qOpens := mT_at_4 (k := 8) rfl
noncomputable def bl_M_qOpens : List (Nat × List mO) := [(0, [o0 (.aload_n 0), o2 (.getfield 227) 10 5, o1 (.ifCond .eq 4) 8, o0 (.return_)]),
  (8, [o0 (.aload_n 0), o2 (.getfield 310) 10 91, o0 (.bipush 6), o1 (.if_icmp .ne 10) 24, o0 (.aload_n 0), o0 (.iconst 4), o0 (.iload_n 2), o2 (.invokevirtual 257) 152 3, o0 (.return_)]),
  (24, [o0 (.aload_n 0), o0 (.dup), o2 (.getfield 310) 10 91, o0 (.iconst 1), o0 (.iadd), o2 (.putfield 310) 10 91, o0 (.aload_n 0), o2 (.getfield 213) 10 89, o0 (.aload_n 0), o2 (.getfield 307) 10 90, o0 (.iload_n 1), o0 (.iastore), o0 (.aload_n 0), o0 (.dup), o2 (.getfield 307) 10 90, o0 (.iconst 1), o0 (.iadd), o2 (.putfield 307) 10 90, o0 (.return_)])]
theorem bk_M_qOpens : okBlks q_M_qOpens bl_M_qOpens = true := by decide +kernel
noncomputable def oL_M_qOpens {ρ : Type} (N : Nat) : List (Nat × (List Value → mS → (Option Value → mS → Option ρ) → Option ρ)) := [(152, C_M_fail N)]
theorem oo_M_qOpens {ρ : Type} {t0 : ρ} (N : Nat) : OrcOK Sm R0m oFm nm 2 t0 (mOrc (oL_M_qOpens N)) := mOrc_OK (List.forall_mem_cons.mpr ⟨cs_M_fail N (by decide), mz_nil⟩)
noncomputable def f_M_qOpens (N : Nat) (a1 : Int32) (a2 : Int32) (s : mS) : Option (mS) :=
  if (gI s 1005 0) = 0 then
    if (gI s 1091 0) = 6 then
      (f_M_fail N 4 a2 s).bind fun p4 =>
      some p4
    else
      let s1 := sI s 1091 0 ((gI s 1091 0) + 1)
      grd (inb (gI s1 1090 0) 1700) (
      let s2 := sA s1 65 (ix (gI s1 1090 0)) a1
      let s3 := sI s2 1090 0 ((gI s2 1090 0) + 1)
      some s3)
  else
    some s
set_option maxRecDepth 100000 in
set_option maxHeartbeats 4000000 in
theorem m_M_qOpens (N : Nat) {s9 : mS} (a1 : Int32) (a2 : Int32) {s : mS} (h : f_M_qOpens N a1 a2 s = some s9) : MetM Sm R0m oFm nm 2 168 [.ref 0, .int a1, .int a2] s (none) s9 := by
  refine met_of_G (q := q_M_qOpens) (t0 := s9) y_M_qOpens (Nat.le_of_ble_eq_true rfl) ?_
  rw [← h]
  exact G_eq (mEv_G (orc := mOrc (oL_M_qOpens N)) (ret := rtV) (blks := bl_M_qOpens) (cuts := []) wOKm (by decide) (oo_M_qOpens N) (RetOK_V rfl) bk_M_qOpens (mz_nil)) rfl
noncomputable def C_M_qOpens {ρ : Type} (N : Nat) : List Value → mS → (Option Value → mS → Option ρ) → Option ρ := fun vs s kk => sR vs 0 fun r0 => pi1 r0 fun a1 r1 => pi1 r1 fun a2 r2 => rv0 r2 ((f_M_qOpens N a1 a2 s).bind fun p => kk none p)
theorem cs_M_qOpens {ρ : Type} {t0 : ρ} {d : Nat} (N : Nat) (hd : 2 + 1 ≤ d) : CallOK Sm R0m oFm nm d t0 168 (C_M_qOpens N) := by
  intro vs s kk h0
  obtain ⟨r0, rfl, h1⟩ := sR_some h0
  obtain ⟨a1, r1, rfl, h2⟩ := pi1_some h1
  obtain ⟨a2, r2, rfl, h3⟩ := pi1_some h2
  obtain ⟨rfl, h4⟩ := rv0_some h3
  obtain ⟨p, hp, hk⟩ := Option.bind_eq_some_iff.mp h4
  exact ⟨_, _, _, hd, m_M_qOpens N a1 a2 hp, hk, fun qy hq hf => by cases y_M_qOpens.symm.trans hq; exact ⟨_, _, rfl, rfl⟩⟩
/-! METHOD PorterDoorsModel.qAsksWord(I)V -/
set_option maxRecDepth 20000 in
noncomputable def q_M_qAsksWord : mI := (⟨"PorterDoorsModel", "qAsksWord", "(I)V"⟩, prog_13_method_106_code, 2, none, 10, 1506, 139, 1, 1, 1505, 62)
theorem y_M_qAsksWord : mT[169]? = some q_M_qAsksWord := mT_at_4 (k := 9) rfl
noncomputable def bl_M_qAsksWord : List (Nat × List mO) := [(0, [o0 (.iload_n 1), oS (.tableswitch 165 0 9 #[55, 66, 77, 88, 99, 110, 121, 132, 143, 154]) 166 [56, 67, 78, 89, 100, 111, 122, 133, 144, 155]]),
  (56, [o0 (.aload_n 0), o0 (.aload_n 0), o2 (.getfield 177) 10 76, o2 (.invokevirtual 292) 147 2, o1 (.goto 110) 174]),
  (67, [o0 (.aload_n 0), o0 (.aload_n 0), o2 (.getfield 180) 10 77, o2 (.invokevirtual 292) 147 2, o1 (.goto 99) 174]),
  (78, [o0 (.aload_n 0), o0 (.aload_n 0), o2 (.getfield 183) 10 78, o2 (.invokevirtual 292) 147 2, o1 (.goto 88) 174]),
  (89, [o0 (.aload_n 0), o0 (.aload_n 0), o2 (.getfield 186) 10 79, o2 (.invokevirtual 292) 147 2, o1 (.goto 77) 174]),
  (100, [o0 (.aload_n 0), o0 (.aload_n 0), o2 (.getfield 189) 10 80, o2 (.invokevirtual 292) 147 2, o1 (.goto 66) 174]),
  (111, [o0 (.aload_n 0), o0 (.aload_n 0), o2 (.getfield 192) 10 81, o2 (.invokevirtual 292) 147 2, o1 (.goto 55) 174]),
  (122, [o0 (.aload_n 0), o0 (.aload_n 0), o2 (.getfield 195) 10 82, o2 (.invokevirtual 292) 147 2, o1 (.goto 44) 174]),
  (133, [o0 (.aload_n 0), o0 (.aload_n 0), o2 (.getfield 198) 10 83, o2 (.invokevirtual 292) 147 2, o1 (.goto 33) 174]),
  (144, [o0 (.aload_n 0), o0 (.aload_n 0), o2 (.getfield 201) 10 84, o2 (.invokevirtual 292) 147 2, o1 (.goto 22) 174]),
  (155, [o0 (.aload_n 0), o0 (.aload_n 0), o2 (.getfield 204) 10 85, o2 (.invokevirtual 292) 147 2, o1 (.goto 11) 174]),
  (166, [o0 (.aload_n 0), o0 (.aload_n 0), o2 (.getfield 207) 10 86, o2 (.invokevirtual 292) 147 2]),
  (174, [o0 (.return_)])]
theorem bk_M_qAsksWord : okBlks q_M_qAsksWord bl_M_qAsksWord = true := by decide +kernel
noncomputable def oL_M_qAsksWord {ρ : Type} (N : Nat) : List (Nat × (List Value → mS → (Option Value → mS → Option ρ) → Option ρ)) := [(147, C_M_asks N)]
theorem oo_M_qAsksWord {ρ : Type} {t0 : ρ} (N : Nat) : OrcOK Sm R0m oFm nm 5 t0 (mOrc (oL_M_qAsksWord N)) := mOrc_OK (List.forall_mem_cons.mpr ⟨cs_M_asks N (by decide), mz_nil⟩)
noncomputable def f_M_qAsksWord (N : Nat) (a1 : Int32) (s : mS) : Option (mS) :=
  if a1 = 0 then
    (f_M_asks N 53 s).bind fun p1 =>
    some p1
  else if a1 = 1 then
    (f_M_asks N 54 s).bind fun p2 =>
    some p2
  else if a1 = 2 then
    (f_M_asks N 55 s).bind fun p3 =>
    some p3
  else if a1 = 3 then
    (f_M_asks N 56 s).bind fun p4 =>
    some p4
  else if a1 = 4 then
    (f_M_asks N 57 s).bind fun p5 =>
    some p5
  else if a1 = 5 then
    (f_M_asks N 58 s).bind fun p6 =>
    some p6
  else if a1 = 6 then
    (f_M_asks N 59 s).bind fun p7 =>
    some p7
  else if a1 = 7 then
    (f_M_asks N 60 s).bind fun p8 =>
    some p8
  else if a1 = 8 then
    (f_M_asks N 61 s).bind fun p9 =>
    some p9
  else if a1 = 9 then
    (f_M_asks N 62 s).bind fun p10 =>
    some p10
  else
    (f_M_asks N 63 s).bind fun p11 =>
    some p11
set_option maxRecDepth 100000 in
set_option maxHeartbeats 4000000 in
theorem m_M_qAsksWord (N : Nat) {s9 : mS} (a1 : Int32) {s : mS} (h : f_M_qAsksWord N a1 s = some s9) : MetM Sm R0m oFm nm 5 169 [.ref 0, .int a1] s (none) s9 := by
  refine met_of_G (q := q_M_qAsksWord) (t0 := s9) y_M_qAsksWord (Nat.le_of_ble_eq_true rfl) ?_
  rw [← h]
  exact G_eq (mEv_G (orc := mOrc (oL_M_qAsksWord N)) (ret := rtV) (blks := bl_M_qAsksWord) (cuts := []) wOKm (by decide) (oo_M_qAsksWord N) (RetOK_V rfl) bk_M_qAsksWord (mz_nil)) rfl
noncomputable def C_M_qAsksWord {ρ : Type} (N : Nat) : List Value → mS → (Option Value → mS → Option ρ) → Option ρ := fun vs s kk => sR vs 0 fun r0 => pi1 r0 fun a1 r1 => rv0 r1 ((f_M_qAsksWord N a1 s).bind fun p => kk none p)
theorem cs_M_qAsksWord {ρ : Type} {t0 : ρ} {d : Nat} (N : Nat) (hd : 5 + 1 ≤ d) : CallOK Sm R0m oFm nm d t0 169 (C_M_qAsksWord N) := by
  intro vs s kk h0
  obtain ⟨r0, rfl, h1⟩ := sR_some h0
  obtain ⟨a1, r1, rfl, h2⟩ := pi1_some h1
  obtain ⟨rfl, h3⟩ := rv0_some h2
  obtain ⟨p, hp, hk⟩ := Option.bind_eq_some_iff.mp h3
  exact ⟨_, _, _, hd, m_M_qAsksWord N a1 hp, hk, fun qy hq hf => by cases y_M_qAsksWord.symm.trans hq; exact ⟨_, _, rfl, rfl⟩⟩
/-! METHOD PorterDoorsModel.qCode(I)V -/
set_option maxRecDepth 20000 in
noncomputable def q_M_qCode : mI := (⟨"PorterDoorsModel", "qCode", "(I)V"⟩, prog_13_method_97_code, 2, none, 10, 1510, 139, 1, 1, 1509, 63)
theorem y_M_qCode : mT[170]? = some q_M_qCode := mT_at_4 (k := 10) rfl
noncomputable def bl_M_qCode : List (Nat × List mO) := [(0, [o0 (.aload_n 0), o2 (.getfield 210) 10 87, o0 (.aload_n 0), o2 (.getfield 304) 10 88, o0 (.iload_n 1), o0 (.iastore), o0 (.aload_n 0), o0 (.dup), o2 (.getfield 304) 10 88, o0 (.iconst 1), o0 (.iadd), o2 (.putfield 304) 10 88, o0 (.return_)])]
theorem bk_M_qCode : okBlks q_M_qCode bl_M_qCode = true := by decide +kernel
noncomputable def oL_M_qCode {ρ : Type} (N : Nat) : List (Nat × (List Value → mS → (Option Value → mS → Option ρ) → Option ρ)) := []
theorem oo_M_qCode {ρ : Type} {t0 : ρ} (N : Nat) : OrcOK Sm R0m oFm nm 1 t0 (mOrc (oL_M_qCode N)) := mOrc_OK (mz_nil)
noncomputable def f_M_qCode (N : Nat) (a1 : Int32) (s : mS) : Option (mS) :=
  grd (inb (gI s 1088 0) 1700) (
  let s1 := sA s 64 (ix (gI s 1088 0)) a1
  let s2 := sI s1 1088 0 ((gI s1 1088 0) + 1)
  some s2)
set_option maxRecDepth 100000 in
set_option maxHeartbeats 4000000 in
theorem m_M_qCode (N : Nat) {s9 : mS} (a1 : Int32) {s : mS} (h : f_M_qCode N a1 s = some s9) : MetM Sm R0m oFm nm 1 170 [.ref 0, .int a1] s (none) s9 := by
  refine met_of_G (q := q_M_qCode) (t0 := s9) y_M_qCode (Nat.le_of_ble_eq_true rfl) ?_
  rw [← h]
  exact G_eq (mEv_G (orc := mOrc (oL_M_qCode N)) (ret := rtV) (blks := bl_M_qCode) (cuts := []) wOKm (by decide) (oo_M_qCode N) (RetOK_V rfl) bk_M_qCode (mz_nil)) rfl
noncomputable def C_M_qCode {ρ : Type} (N : Nat) : List Value → mS → (Option Value → mS → Option ρ) → Option ρ := fun vs s kk => sR vs 0 fun r0 => pi1 r0 fun a1 r1 => rv0 r1 ((f_M_qCode N a1 s).bind fun p => kk none p)
theorem cs_M_qCode {ρ : Type} {t0 : ρ} {d : Nat} (N : Nat) (hd : 1 + 1 ≤ d) : CallOK Sm R0m oFm nm d t0 170 (C_M_qCode N) := by
  intro vs s kk h0
  obtain ⟨r0, rfl, h1⟩ := sR_some h0
  obtain ⟨a1, r1, rfl, h2⟩ := pi1_some h1
  obtain ⟨rfl, h3⟩ := rv0_some h2
  obtain ⟨p, hp, hk⟩ := Option.bind_eq_some_iff.mp h3
  exact ⟨_, _, _, hd, m_M_qCode N a1 hp, hk, fun qy hq hf => by cases y_M_qCode.symm.trans hq; exact ⟨_, _, rfl, rfl⟩⟩
/-! METHOD PorterDoorsModel.qDrops()V -/
set_option maxRecDepth 20000 in
noncomputable def q_M_qDrops : mI := (⟨"PorterDoorsModel", "qDrops", "()V"⟩, prog_13_method_100_code, 1, none, 10, 1518, 139, 1, 0, 1517, 65)
theorem y_M_qDrops : mT[172]? = some q_M_qDrops := mT_at_4 (k := 12) rfl
noncomputable def bl_M_qDrops : List (Nat × List mO) := [(0, [o0 (.aload_n 0), o0 (.dup), o2 (.getfield 307) 10 90, o0 (.iconst 1), o0 (.isub), o2 (.putfield 307) 10 90, o0 (.aload_n 0), o0 (.aload_n 0), o2 (.getfield 213) 10 89, o0 (.aload_n 0), o2 (.getfield 307) 10 90, o0 (.iaload), o2 (.invokevirtual 543) 170 2, o0 (.return_)])]
theorem bk_M_qDrops : okBlks q_M_qDrops bl_M_qDrops = true := by decide +kernel
noncomputable def oL_M_qDrops {ρ : Type} (N : Nat) : List (Nat × (List Value → mS → (Option Value → mS → Option ρ) → Option ρ)) := [(170, C_M_qCode N)]
theorem oo_M_qDrops {ρ : Type} {t0 : ρ} (N : Nat) : OrcOK Sm R0m oFm nm 2 t0 (mOrc (oL_M_qDrops N)) := mOrc_OK (List.forall_mem_cons.mpr ⟨cs_M_qCode N (by decide), mz_nil⟩)
noncomputable def f_M_qDrops (N : Nat) (s : mS) : Option (mS) :=
  let s1 := sI s 1090 0 ((gI s 1090 0) - 1)
  grd (inb (gI s1 1090 0) 1700) (
  (f_M_qCode N (gA s1 65 (ix (gI s1 1090 0))) s1).bind fun p2 =>
  some p2)
set_option maxRecDepth 100000 in
set_option maxHeartbeats 4000000 in
theorem m_M_qDrops (N : Nat) {s9 : mS} {s : mS} (h : f_M_qDrops N s = some s9) : MetM Sm R0m oFm nm 2 172 [.ref 0] s (none) s9 := by
  refine met_of_G (q := q_M_qDrops) (t0 := s9) y_M_qDrops (Nat.le_of_ble_eq_true rfl) ?_
  rw [← h]
  exact G_eq (mEv_G (orc := mOrc (oL_M_qDrops N)) (ret := rtV) (blks := bl_M_qDrops) (cuts := []) wOKm (by decide) (oo_M_qDrops N) (RetOK_V rfl) bk_M_qDrops (mz_nil)) rfl
noncomputable def C_M_qDrops {ρ : Type} (N : Nat) : List Value → mS → (Option Value → mS → Option ρ) → Option ρ := fun vs s kk => sR vs 0 fun r0 => rv0 r0 ((f_M_qDrops N s).bind fun p => kk none p)
theorem cs_M_qDrops {ρ : Type} {t0 : ρ} {d : Nat} (N : Nat) (hd : 2 + 1 ≤ d) : CallOK Sm R0m oFm nm d t0 172 (C_M_qDrops N) := by
  intro vs s kk h0
  obtain ⟨r0, rfl, h1⟩ := sR_some h0
  obtain ⟨rfl, h2⟩ := rv0_some h1
  obtain ⟨p, hp, hk⟩ := Option.bind_eq_some_iff.mp h2
  exact ⟨_, _, _, hd, m_M_qDrops N hp, hk, fun qy hq hf => by cases y_M_qDrops.symm.trans hq; exact ⟨_, _, rfl, rfl⟩⟩
/-! METHOD PorterDoorsModel.qEndsPart()V -/
set_option maxRecDepth 20000 in
noncomputable def q_M_qEndsPart : mI := (⟨"PorterDoorsModel", "qEndsPart", "()V"⟩, prog_13_method_107_code, 1, none, 10, 1514, 139, 1, 0, 1513, 64)
theorem y_M_qEndsPart : mT[171]? = some q_M_qEndsPart := mT_at_4 (k := 11) rfl
noncomputable def bl_M_qEndsPart : List (Nat × List mO) := [(0, [o0 (.aload_n 0), o2 (.getfield 227) 10 5, o1 (.ifCond .ne 47) 51, o0 (.aload_n 0), o2 (.getfield 307) 10 90, o0 (.aload_n 0), o2 (.getfield 313) 10 92, o1 (.if_icmp .le 36) 51, o0 (.aload_n 0), o2 (.getfield 213) 10 89, o0 (.aload_n 0), o2 (.getfield 307) 10 90, o0 (.iconst 1), o0 (.isub), o0 (.iaload), o0 (.bipush 60), o1 (.if_icmp .lt 20) 51, o0 (.aload_n 0), o0 (.dup), o2 (.getfield 310) 10 91, o0 (.iconst 1), o0 (.isub), o2 (.putfield 310) 10 91, o0 (.aload_n 0), o2 (.invokevirtual 549) 172 1, o1 (.goto (-48)) 0]),
  (51, [o0 (.return_)])]
theorem bk_M_qEndsPart : okBlks q_M_qEndsPart bl_M_qEndsPart = true := by decide +kernel
noncomputable def oL_M_qEndsPart {ρ : Type} (N : Nat) : List (Nat × (List Value → mS → (Option Value → mS → Option ρ) → Option ρ)) := [(172, C_M_qDrops N)]
theorem oo_M_qEndsPart {ρ : Type} {t0 : ρ} (N : Nat) : OrcOK Sm R0m oFm nm 3 t0 (mOrc (oL_M_qEndsPart N)) := mOrc_OK (List.forall_mem_cons.mpr ⟨cs_M_qDrops N (by decide), mz_nil⟩)
noncomputable def H_M_qEndsPart_0 {ρ : Type} (k : mS → Option ρ) : mL → List Value → mS → Option ρ := fun loc st s => cR loc 0 0 (rv0 st (k s))
noncomputable def f_M_qEndsPart_L0 (N : Nat) (k0 : mS → Option (mS)) (x : mS) : Option (mS) :=
  if (gI x 1005 0) = 0 then
    if (gI x 1092 0) < (gI x 1090 0) then
      grd (inb ((gI x 1090 0) - 1) 1700) (
      if (gA x 65 (ix ((gI x 1090 0) - 1))) < 60 then
        some x
      else
        let s1 := sI x 1091 0 ((gI x 1091 0) - 1)
        (f_M_qDrops N s1).bind fun p2 =>
        k0 p2)
    else
      some x
  else
    some x
set_option maxRecDepth 100000 in
set_option maxHeartbeats 4000000 in
theorem t_M_qEndsPart_0 (N : Nat) {s9 : mS} {k0 : mS → Option (mS)} (hk0 : SCd Sm R0m oFm nm 3 q_M_qEndsPart (none, s9) s9 0 (H_M_qEndsPart_0 k0)) : SCd Sm R0m oFm nm 3 q_M_qEndsPart (none, s9) s9 0 (H_M_qEndsPart_0 (f_M_qEndsPart_L0 N k0)) := by
  intro loc st s
  refine G_cR (fun h0 => ?_)
  refine G_rv0 (fun e9 => ?_)
  subst e9
  refine G_sub (loc0 := [(0, .ref 0)]) (List.forall_mem_cons.mpr ⟨h0, mz_nil⟩) ?_
  exact G_eq (mEv_G (orc := mOrc (oL_M_qEndsPart N)) (ret := rtV) (blks := bl_M_qEndsPart) (cuts := [(0, H_M_qEndsPart_0 k0)]) wOKm (by decide) (oo_M_qEndsPart N) (RetOK_V rfl) bk_M_qEndsPart (List.forall_mem_cons.mpr ⟨hk0, mz_nil⟩)) rfl
theorem s_M_qEndsPart_0 (N : Nat) {s9 : mS} : SCd Sm R0m oFm nm 3 q_M_qEndsPart (none, s9) s9 0 (H_M_qEndsPart_0 (mfix N (f_M_qEndsPart_L0 N))) := by
  refine mfix_SC (H := H_M_qEndsPart_0) (fun loc st s => ?_) (fun k hk => t_M_qEndsPart_0 N hk) N
  refine G_cR (fun h0 => ?_)
  refine G_rv0 (fun e9 => ?_)
  subst e9
  exact G_none
noncomputable def f_M_qEndsPart (N : Nat) (s : mS) : Option (mS) :=
  mfix N (f_M_qEndsPart_L0 N) s
set_option maxRecDepth 100000 in
set_option maxHeartbeats 4000000 in
theorem m_M_qEndsPart (N : Nat) {s9 : mS} {s : mS} (h : f_M_qEndsPart N s = some s9) : MetM Sm R0m oFm nm 3 171 [.ref 0] s (none) s9 := by
  refine met_of_G (q := q_M_qEndsPart) (t0 := s9) y_M_qEndsPart (Nat.le_of_ble_eq_true rfl) ?_
  rw [← h]
  exact s_M_qEndsPart_0 N _ _ _
noncomputable def C_M_qEndsPart {ρ : Type} (N : Nat) : List Value → mS → (Option Value → mS → Option ρ) → Option ρ := fun vs s kk => sR vs 0 fun r0 => rv0 r0 ((f_M_qEndsPart N s).bind fun p => kk none p)
theorem cs_M_qEndsPart {ρ : Type} {t0 : ρ} {d : Nat} (N : Nat) (hd : 3 + 1 ≤ d) : CallOK Sm R0m oFm nm d t0 171 (C_M_qEndsPart N) := by
  intro vs s kk h0
  obtain ⟨r0, rfl, h1⟩ := sR_some h0
  obtain ⟨rfl, h2⟩ := rv0_some h1
  obtain ⟨p, hp, hk⟩ := Option.bind_eq_some_iff.mp h2
  exact ⟨_, _, _, hd, m_M_qEndsPart N hp, hk, fun qy hq hf => by cases y_M_qEndsPart.symm.trans hq; exact ⟨_, _, rfl, rfl⟩⟩
/-! METHOD PorterDoorsModel.qPartTold()V -/
set_option maxRecDepth 20000 in
noncomputable def q_M_qPartTold : mI := (⟨"PorterDoorsModel", "qPartTold", "()V"⟩, prog_13_method_108_code, 6, none, 10, 1484, 139, 1, 0, 1483, 57)
theorem y_M_qPartTold : mT[164]? = some q_M_qPartTold := mT_at_4 (k := 4) rfl
noncomputable def bl_M_qPartTold : List (Nat × List mO) := [(0, [o0 (.iconst 1), o0 (.istore_n 1)]),
  (2, [o0 (.iload_n 1), o1 (.ifCond .eq 183) 186, o0 (.aload_n 0), o2 (.getfield 227) 10 5, o1 (.ifCond .ne 176) 186, o0 (.aload_n 0), o2 (.invokevirtual 239) 150 1, o0 (.istore_n 2), o0 (.aload_n 0), o0 (.bipush 9), o0 (.bipush 11), o2 (.invokevirtual 558) 165 3, o0 (.istore_n 3), o0 (.iload_n 2), o0 (.bipush 40), o1 (.if_icmp .ne 26) 56, o0 (.aload_n 0), o0 (.bipush 20), o0 (.aload_n 0), o2 (.getfield 233) 10 2, o2 (.invokevirtual 561) 168 3, o0 (.aload_n 0), o0 (.dup), o2 (.getfield 233) 10 2, o0 (.iconst 1), o0 (.iadd), o2 (.putfield 233) 10 2, o1 (.goto 130) 183]),
  (56, [o0 (.aload_n 0), o0 (.aload_n 0), o2 (.getfield 171) 10 74, o2 (.invokevirtual 250) 149 2, o1 (.ifCond .ne 14) 78, o0 (.aload_n 0), o0 (.aload_n 0), o2 (.getfield 174) 10 75, o2 (.invokevirtual 250) 149 2, o1 (.ifCond .eq 78) 153]),
  (78, [o0 (.aload_n 0), o0 (.aload_n 0), o2 (.getfield 171) 10 74, o2 (.invokevirtual 254) 148 2, o0 (.istore 4), o0 (.iload 4), o1 (.ifCond .ne 11) 101, o0 (.aload_n 0), o0 (.aload_n 0), o2 (.getfield 174) 10 75, o2 (.invokevirtual 292) 147 2]),
  (101, [o0 (.aload_n 0), o2 (.invokevirtual 239) 150 1, o0 (.bipush 40), o1 (.if_icmp .ne 10) 117, o0 (.aload_n 0), o2 (.getfield 233) 10 2, o1 (.goto 4) 118]),
  (117, [o0 (.iconst (-1))]),
  (118, [o0 (.istore 5), o0 (.iload 5), o0 (.iconst (-1)), o1 (.if_icmp .eq 21) 144, o0 (.aload_n 0), o0 (.iload 4), o1 (.ifCond .eq 8) 137, o0 (.bipush 21), o1 (.goto 5) 139]),
  (137, [o0 (.bipush 22)]),
  (139, [o0 (.iload 5), o2 (.invokevirtual 561) 168 3]),
  (144, [o0 (.aload_n 0), o0 (.bipush 40), o2 (.invokevirtual 300) 156 2, o1 (.goto 33) 183]),
  (153, [o0 (.iload_n 3), o0 (.iconst (-1)), o1 (.if_icmp .eq 26) 181, o0 (.aload_n 0), o0 (.bipush 60), o0 (.iload_n 3), o0 (.iadd), o0 (.bipush 9), o0 (.isub), o0 (.aload_n 0), o2 (.getfield 233) 10 2, o2 (.invokevirtual 561) 168 3, o0 (.aload_n 0), o0 (.iload_n 3), o2 (.invokevirtual 564) 169 2, o1 (.goto 5) 183]),
  (181, [o0 (.iconst 0), o0 (.istore_n 1)]),
  (183, [o1 (.goto (-181)) 2]),
  (186, [o0 (.aload_n 0), o2 (.getfield 227) 10 5, o1 (.ifCond .eq 4) 194, o0 (.return_)]),
  (194, [o0 (.aload_n 0), o0 (.iconst 0), o0 (.bipush 9), o2 (.invokevirtual 558) 165 3, o0 (.istore_n 2), o0 (.iload_n 2), o0 (.iconst (-1)), o1 (.if_icmp .eq 8) 212, o0 (.aload_n 0), o0 (.iload_n 2), o2 (.invokevirtual 564) 169 2]),
  (212, [o0 (.aload_n 0), o0 (.iload_n 2), o0 (.iconst (-1)), o1 (.if_icmp .eq 10) 225, o0 (.bipush 40), o0 (.iload_n 2), o0 (.iadd), o1 (.goto 15) 237]),
  (225, [o0 (.sipush 1000), o0 (.aload_n 0), o0 (.iconst 0), o0 (.sipush 9999), o2 (.invokevirtual 296) 153 3, o0 (.iadd)]),
  (237, [o2 (.invokevirtual 543) 170 2, o0 (.aload_n 0), o2 (.invokevirtual 567) 171 1, o0 (.return_)])]
theorem bk_M_qPartTold : okBlks q_M_qPartTold bl_M_qPartTold = true := by decide +kernel
noncomputable def oL_M_qPartTold {ρ : Type} (N : Nat) : List (Nat × (List Value → mS → (Option Value → mS → Option ρ) → Option ρ)) := [(150, C_M_look N), (165, C_M_qWordOf N), (168, C_M_qOpens N), (149, C_M_isHere N), (148, C_M_takes N), (147, C_M_asks N), (156, C_M_asksSign N), (169, C_M_qAsksWord N), (153, C_M_number N), (170, C_M_qCode N), (171, C_M_qEndsPart N)]
theorem oo_M_qPartTold {ρ : Type} {t0 : ρ} (N : Nat) : OrcOK Sm R0m oFm nm 6 t0 (mOrc (oL_M_qPartTold N)) := mOrc_OK (List.forall_mem_cons.mpr ⟨cs_M_look N (by decide), List.forall_mem_cons.mpr ⟨cs_M_qWordOf N (by decide), List.forall_mem_cons.mpr ⟨cs_M_qOpens N (by decide), List.forall_mem_cons.mpr ⟨cs_M_isHere N (by decide), List.forall_mem_cons.mpr ⟨cs_M_takes N (by decide), List.forall_mem_cons.mpr ⟨cs_M_asks N (by decide), List.forall_mem_cons.mpr ⟨cs_M_asksSign N (by decide), List.forall_mem_cons.mpr ⟨cs_M_qAsksWord N (by decide), List.forall_mem_cons.mpr ⟨cs_M_number N (by decide), List.forall_mem_cons.mpr ⟨cs_M_qCode N (by decide), List.forall_mem_cons.mpr ⟨cs_M_qEndsPart N (by decide), mz_nil⟩⟩⟩⟩⟩⟩⟩⟩⟩⟩⟩)
noncomputable def H_M_qPartTold_2 {ρ : Type} (k : (Int32 × mS) → Option ρ) : mL → List Value → mS → Option ρ := fun loc st s => cR loc 0 0 (li1 loc 1 fun v0 => rv0 st (k (v0, s)))
noncomputable def H_M_qPartTold_78 {ρ : Type} (k : (Int32 × mS) → Option ρ) : mL → List Value → mS → Option ρ := fun loc st s => cR loc 0 0 (li1 loc 1 fun v0 => rv0 st (k (v0, s)))
noncomputable def H_M_qPartTold_101 {ρ : Type} (k : (Int32 × Int32 × mS) → Option ρ) : mL → List Value → mS → Option ρ := fun loc st s => cR loc 0 0 (li1 loc 1 fun v0 => li1 loc 4 fun v1 => rv0 st (k (v0, v1, s)))
noncomputable def H_M_qPartTold_118 {ρ : Type} (k : (Int32 × Int32 × Int32 × mS) → Option ρ) : mL → List Value → mS → Option ρ := fun loc st s => cR loc 0 0 (li1 loc 1 fun v0 => li1 loc 4 fun v1 => pi1 st fun w0 r0 => rv0 r0 (k (v0, v1, w0, s)))
noncomputable def H_M_qPartTold_144 {ρ : Type} (k : (Int32 × mS) → Option ρ) : mL → List Value → mS → Option ρ := fun loc st s => cR loc 0 0 (li1 loc 1 fun v0 => rv0 st (k (v0, s)))
noncomputable def H_M_qPartTold_186 {ρ : Type} (k : mS → Option ρ) : mL → List Value → mS → Option ρ := fun loc st s => cR loc 0 0 (rv0 st (k s))
noncomputable def H_M_qPartTold_212 {ρ : Type} (k : (Int32 × mS) → Option ρ) : mL → List Value → mS → Option ρ := fun loc st s => cR loc 0 0 (li1 loc 2 fun v0 => rv0 st (k (v0, s)))
noncomputable def H_M_qPartTold_237 {ρ : Type} (k : (Int32 × mS) → Option ρ) : mL → List Value → mS → Option ρ := fun loc st s => cR loc 0 0 (pi1 st fun w1 r0 => sR r0 0 fun r1 => rv0 r1 (k (w1, s)))
noncomputable def f_M_qPartTold_j144 (N : Nat) (k2 : (Int32 × mS) → Option (mS)) (x : Int32 × mS) : Option (mS) :=
  (f_M_asksSign N 40 x.2).bind fun p1 =>
  k2 (x.1, p1)
set_option maxRecDepth 100000 in
set_option maxHeartbeats 4000000 in
theorem s_M_qPartTold_144 (N : Nat) {s9 : mS} {k2 : (Int32 × mS) → Option (mS)} (hk2 : SCd Sm R0m oFm nm 6 q_M_qPartTold (none, s9) s9 2 (H_M_qPartTold_2 k2)) : SCd Sm R0m oFm nm 6 q_M_qPartTold (none, s9) s9 144 (H_M_qPartTold_144 (f_M_qPartTold_j144 N k2)) := by
  intro loc st s
  refine G_cR (fun h0 => ?_)
  refine G_li (fun v0 h1 => ?_)
  refine G_rv0 (fun e9 => ?_)
  subst e9
  refine G_sub (loc0 := [(0, .ref 0), (1, .int v0)]) (List.forall_mem_cons.mpr ⟨h0, List.forall_mem_cons.mpr ⟨h1, mz_nil⟩⟩) ?_
  exact G_eq (mEv_G (orc := mOrc (oL_M_qPartTold N)) (ret := rtV) (blks := bl_M_qPartTold) (cuts := [(2, H_M_qPartTold_2 k2)]) wOKm (by decide) (oo_M_qPartTold N) (RetOK_V rfl) bk_M_qPartTold (List.forall_mem_cons.mpr ⟨hk2, mz_nil⟩)) rfl
noncomputable def f_M_qPartTold_j118 (N : Nat) (k2 : (Int32 × mS) → Option (mS)) (x : Int32 × Int32 × Int32 × mS) : Option (mS) :=
  if x.2.2.1 = (-1) then
    f_M_qPartTold_j144 N k2 (x.1, x.2.2.2)
  else
    if x.2.1 = 0 then
      (f_M_qOpens N 22 x.2.2.1 x.2.2.2).bind fun p1 =>
      f_M_qPartTold_j144 N k2 (x.1, p1)
    else
      (f_M_qOpens N 21 x.2.2.1 x.2.2.2).bind fun p2 =>
      f_M_qPartTold_j144 N k2 (x.1, p2)
set_option maxRecDepth 100000 in
set_option maxHeartbeats 4000000 in
theorem s_M_qPartTold_118 (N : Nat) {s9 : mS} {k2 : (Int32 × mS) → Option (mS)} (hk2 : SCd Sm R0m oFm nm 6 q_M_qPartTold (none, s9) s9 2 (H_M_qPartTold_2 k2)) : SCd Sm R0m oFm nm 6 q_M_qPartTold (none, s9) s9 118 (H_M_qPartTold_118 (f_M_qPartTold_j118 N k2)) := by
  intro loc st s
  refine G_cR (fun h0 => ?_)
  refine G_li (fun v0 h1 => ?_)
  refine G_li (fun v1 h4 => ?_)
  refine G_pi (fun w0 r0 e0 => ?_)
  refine G_rv0 (fun e9 => ?_)
  subst e9
  subst e0
  refine G_sub (loc0 := [(0, .ref 0), (1, .int v0), (4, .int v1)]) (List.forall_mem_cons.mpr ⟨h0, List.forall_mem_cons.mpr ⟨h1, List.forall_mem_cons.mpr ⟨h4, mz_nil⟩⟩⟩) ?_
  exact G_eq (mEv_G (orc := mOrc (oL_M_qPartTold N)) (ret := rtV) (blks := bl_M_qPartTold) (cuts := [(144, H_M_qPartTold_144 (f_M_qPartTold_j144 N k2))]) wOKm (by decide) (oo_M_qPartTold N) (RetOK_V rfl) bk_M_qPartTold (List.forall_mem_cons.mpr ⟨s_M_qPartTold_144 N hk2, mz_nil⟩)) rfl
noncomputable def f_M_qPartTold_j101 (N : Nat) (k2 : (Int32 × mS) → Option (mS)) (x : Int32 × Int32 × mS) : Option (mS) :=
  (f_M_look N x.2.2).bind fun p1 =>
  if p1.1 = 40 then
    f_M_qPartTold_j118 N k2 (x.1, x.2.1, (gI p1.2 1002 0), p1.2)
  else
    f_M_qPartTold_j118 N k2 (x.1, x.2.1, (-1), p1.2)
set_option maxRecDepth 100000 in
set_option maxHeartbeats 4000000 in
theorem s_M_qPartTold_101 (N : Nat) {s9 : mS} {k2 : (Int32 × mS) → Option (mS)} (hk2 : SCd Sm R0m oFm nm 6 q_M_qPartTold (none, s9) s9 2 (H_M_qPartTold_2 k2)) : SCd Sm R0m oFm nm 6 q_M_qPartTold (none, s9) s9 101 (H_M_qPartTold_101 (f_M_qPartTold_j101 N k2)) := by
  intro loc st s
  refine G_cR (fun h0 => ?_)
  refine G_li (fun v0 h1 => ?_)
  refine G_li (fun v1 h4 => ?_)
  refine G_rv0 (fun e9 => ?_)
  subst e9
  refine G_sub (loc0 := [(0, .ref 0), (1, .int v0), (4, .int v1)]) (List.forall_mem_cons.mpr ⟨h0, List.forall_mem_cons.mpr ⟨h1, List.forall_mem_cons.mpr ⟨h4, mz_nil⟩⟩⟩) ?_
  exact G_eq (mEv_G (orc := mOrc (oL_M_qPartTold N)) (ret := rtV) (blks := bl_M_qPartTold) (cuts := [(118, H_M_qPartTold_118 (f_M_qPartTold_j118 N k2))]) wOKm (by decide) (oo_M_qPartTold N) (RetOK_V rfl) bk_M_qPartTold (List.forall_mem_cons.mpr ⟨s_M_qPartTold_118 N hk2, mz_nil⟩)) rfl
noncomputable def f_M_qPartTold_j78 (N : Nat) (k2 : (Int32 × mS) → Option (mS)) (x : Int32 × mS) : Option (mS) :=
  (f_M_takes N 51 x.2).bind fun p1 =>
  if p1.1 = 0 then
    (f_M_asks N 52 p1.2).bind fun p2 =>
    f_M_qPartTold_j101 N k2 (x.1, p1.1, p2)
  else
    f_M_qPartTold_j101 N k2 (x.1, p1.1, p1.2)
set_option maxRecDepth 100000 in
set_option maxHeartbeats 4000000 in
theorem s_M_qPartTold_78 (N : Nat) {s9 : mS} {k2 : (Int32 × mS) → Option (mS)} (hk2 : SCd Sm R0m oFm nm 6 q_M_qPartTold (none, s9) s9 2 (H_M_qPartTold_2 k2)) : SCd Sm R0m oFm nm 6 q_M_qPartTold (none, s9) s9 78 (H_M_qPartTold_78 (f_M_qPartTold_j78 N k2)) := by
  intro loc st s
  refine G_cR (fun h0 => ?_)
  refine G_li (fun v0 h1 => ?_)
  refine G_rv0 (fun e9 => ?_)
  subst e9
  refine G_sub (loc0 := [(0, .ref 0), (1, .int v0)]) (List.forall_mem_cons.mpr ⟨h0, List.forall_mem_cons.mpr ⟨h1, mz_nil⟩⟩) ?_
  exact G_eq (mEv_G (orc := mOrc (oL_M_qPartTold N)) (ret := rtV) (blks := bl_M_qPartTold) (cuts := [(101, H_M_qPartTold_101 (f_M_qPartTold_j101 N k2))]) wOKm (by decide) (oo_M_qPartTold N) (RetOK_V rfl) bk_M_qPartTold (List.forall_mem_cons.mpr ⟨s_M_qPartTold_101 N hk2, mz_nil⟩)) rfl
noncomputable def f_M_qPartTold_j237 (N : Nat) (x : Int32 × mS) : Option (mS) :=
  (f_M_qCode N x.1 x.2).bind fun p1 =>
  (f_M_qEndsPart N p1).bind fun p2 =>
  some p2
set_option maxRecDepth 100000 in
set_option maxHeartbeats 4000000 in
theorem s_M_qPartTold_237 (N : Nat) {s9 : mS} : SCd Sm R0m oFm nm 6 q_M_qPartTold (none, s9) s9 237 (H_M_qPartTold_237 (f_M_qPartTold_j237 N)) := by
  intro loc st s
  refine G_cR (fun h0 => ?_)
  refine G_pi (fun w1 r0 e0 => ?_)
  refine G_sR (fun r1 e1 => ?_)
  refine G_rv0 (fun e9 => ?_)
  subst e9
  subst e1
  subst e0
  refine G_sub (loc0 := [(0, .ref 0)]) (List.forall_mem_cons.mpr ⟨h0, mz_nil⟩) ?_
  exact G_eq (mEv_G (orc := mOrc (oL_M_qPartTold N)) (ret := rtV) (blks := bl_M_qPartTold) (cuts := []) wOKm (by decide) (oo_M_qPartTold N) (RetOK_V rfl) bk_M_qPartTold (mz_nil)) rfl
noncomputable def f_M_qPartTold_j212 (N : Nat) (x : Int32 × mS) : Option (mS) :=
  if x.1 = (-1) then
    (f_M_number N 0 9999 x.2).bind fun p1 =>
    f_M_qPartTold_j237 N ((1000 + p1.1), p1.2)
  else
    f_M_qPartTold_j237 N ((40 + x.1), x.2)
set_option maxRecDepth 100000 in
set_option maxHeartbeats 4000000 in
theorem s_M_qPartTold_212 (N : Nat) {s9 : mS} : SCd Sm R0m oFm nm 6 q_M_qPartTold (none, s9) s9 212 (H_M_qPartTold_212 (f_M_qPartTold_j212 N)) := by
  intro loc st s
  refine G_cR (fun h0 => ?_)
  refine G_li (fun v0 h2 => ?_)
  refine G_rv0 (fun e9 => ?_)
  subst e9
  refine G_sub (loc0 := [(0, .ref 0), (2, .int v0)]) (List.forall_mem_cons.mpr ⟨h0, List.forall_mem_cons.mpr ⟨h2, mz_nil⟩⟩) ?_
  exact G_eq (mEv_G (orc := mOrc (oL_M_qPartTold N)) (ret := rtV) (blks := bl_M_qPartTold) (cuts := [(237, H_M_qPartTold_237 (f_M_qPartTold_j237 N))]) wOKm (by decide) (oo_M_qPartTold N) (RetOK_V rfl) bk_M_qPartTold (List.forall_mem_cons.mpr ⟨s_M_qPartTold_237 N, mz_nil⟩)) rfl
noncomputable def f_M_qPartTold_j186 (N : Nat) (x : mS) : Option (mS) :=
  if (gI x 1005 0) = 0 then
    (f_M_qWordOf N 0 9 x).bind fun p1 =>
    if p1.1 = (-1) then
      f_M_qPartTold_j212 N (p1.1, p1.2)
    else
      (f_M_qAsksWord N p1.1 p1.2).bind fun p2 =>
      f_M_qPartTold_j212 N (p1.1, p2)
  else
    some x
set_option maxRecDepth 100000 in
set_option maxHeartbeats 4000000 in
theorem s_M_qPartTold_186 (N : Nat) {s9 : mS} : SCd Sm R0m oFm nm 6 q_M_qPartTold (none, s9) s9 186 (H_M_qPartTold_186 (f_M_qPartTold_j186 N)) := by
  intro loc st s
  refine G_cR (fun h0 => ?_)
  refine G_rv0 (fun e9 => ?_)
  subst e9
  refine G_sub (loc0 := [(0, .ref 0)]) (List.forall_mem_cons.mpr ⟨h0, mz_nil⟩) ?_
  exact G_eq (mEv_G (orc := mOrc (oL_M_qPartTold N)) (ret := rtV) (blks := bl_M_qPartTold) (cuts := [(212, H_M_qPartTold_212 (f_M_qPartTold_j212 N))]) wOKm (by decide) (oo_M_qPartTold N) (RetOK_V rfl) bk_M_qPartTold (List.forall_mem_cons.mpr ⟨s_M_qPartTold_212 N, mz_nil⟩)) rfl
noncomputable def f_M_qPartTold_L2 (N : Nat) (k2 : (Int32 × mS) → Option (mS)) (x : Int32 × mS) : Option (mS) :=
  if x.1 = 0 then
    f_M_qPartTold_j186 N x.2
  else
    if (gI x.2 1005 0) = 0 then
      (f_M_look N x.2).bind fun p1 =>
      (f_M_qWordOf N 9 11 p1.2).bind fun p2 =>
      if p1.1 = 40 then
        (f_M_qOpens N 20 (gI p2.2 1002 0) p2.2).bind fun p7 =>
        let s8 := sI p7 1002 0 ((gI p7 1002 0) + 1)
        k2 (x.1, s8)
      else
        (f_M_isHere N 51 p2.2).bind fun p3 =>
        if p3.1 = 0 then
          (f_M_isHere N 52 p3.2).bind fun p4 =>
          if p4.1 = 0 then
            if p2.1 = (-1) then
              k2 (0, p4.2)
            else
              (f_M_qOpens N ((60 + p2.1) - 9) (gI p4.2 1002 0) p4.2).bind fun p5 =>
              (f_M_qAsksWord N p2.1 p5).bind fun p6 =>
              k2 (x.1, p6)
          else
            f_M_qPartTold_j78 N k2 (x.1, p4.2)
        else
          f_M_qPartTold_j78 N k2 (x.1, p3.2)
    else
      f_M_qPartTold_j186 N x.2
set_option maxRecDepth 100000 in
set_option maxHeartbeats 4000000 in
theorem t_M_qPartTold_2 (N : Nat) {s9 : mS} {k2 : (Int32 × mS) → Option (mS)} (hk2 : SCd Sm R0m oFm nm 6 q_M_qPartTold (none, s9) s9 2 (H_M_qPartTold_2 k2)) : SCd Sm R0m oFm nm 6 q_M_qPartTold (none, s9) s9 2 (H_M_qPartTold_2 (f_M_qPartTold_L2 N k2)) := by
  intro loc st s
  refine G_cR (fun h0 => ?_)
  refine G_li (fun v0 h1 => ?_)
  refine G_rv0 (fun e9 => ?_)
  subst e9
  refine G_sub (loc0 := [(0, .ref 0), (1, .int v0)]) (List.forall_mem_cons.mpr ⟨h0, List.forall_mem_cons.mpr ⟨h1, mz_nil⟩⟩) ?_
  exact G_eq (mEv_G (orc := mOrc (oL_M_qPartTold N)) (ret := rtV) (blks := bl_M_qPartTold) (cuts := [(2, H_M_qPartTold_2 k2), (78, H_M_qPartTold_78 (f_M_qPartTold_j78 N k2)), (186, H_M_qPartTold_186 (f_M_qPartTold_j186 N))]) wOKm (by decide) (oo_M_qPartTold N) (RetOK_V rfl) bk_M_qPartTold (List.forall_mem_cons.mpr ⟨hk2, List.forall_mem_cons.mpr ⟨s_M_qPartTold_78 N hk2, List.forall_mem_cons.mpr ⟨s_M_qPartTold_186 N, mz_nil⟩⟩⟩)) rfl
theorem s_M_qPartTold_2 (N : Nat) {s9 : mS} : SCd Sm R0m oFm nm 6 q_M_qPartTold (none, s9) s9 2 (H_M_qPartTold_2 (mfix N (f_M_qPartTold_L2 N))) := by
  refine mfix_SC (H := H_M_qPartTold_2) (fun loc st s => ?_) (fun k hk => t_M_qPartTold_2 N hk) N
  refine G_cR (fun h0 => ?_)
  refine G_li (fun v0 h1 => ?_)
  refine G_rv0 (fun e9 => ?_)
  subst e9
  exact G_none
noncomputable def f_M_qPartTold (N : Nat) (s : mS) : Option (mS) :=
  mfix N (f_M_qPartTold_L2 N) (1, s)
set_option maxRecDepth 100000 in
set_option maxHeartbeats 4000000 in
theorem m_M_qPartTold (N : Nat) {s9 : mS} {s : mS} (h : f_M_qPartTold N s = some s9) : MetM Sm R0m oFm nm 6 164 [.ref 0] s (none) s9 := by
  refine met_of_G (q := q_M_qPartTold) (t0 := s9) y_M_qPartTold (Nat.le_of_ble_eq_true rfl) ?_
  rw [← h]
  exact G_eq (mEv_G (orc := mOrc (oL_M_qPartTold N)) (ret := rtV) (blks := bl_M_qPartTold) (cuts := [(2, H_M_qPartTold_2 (mfix N (f_M_qPartTold_L2 N)))]) wOKm (by decide) (oo_M_qPartTold N) (RetOK_V rfl) bk_M_qPartTold (List.forall_mem_cons.mpr ⟨s_M_qPartTold_2 N, mz_nil⟩)) rfl
noncomputable def C_M_qPartTold {ρ : Type} (N : Nat) : List Value → mS → (Option Value → mS → Option ρ) → Option ρ := fun vs s kk => sR vs 0 fun r0 => rv0 r0 ((f_M_qPartTold N s).bind fun p => kk none p)
theorem cs_M_qPartTold {ρ : Type} {t0 : ρ} {d : Nat} (N : Nat) (hd : 6 + 1 ≤ d) : CallOK Sm R0m oFm nm d t0 164 (C_M_qPartTold N) := by
  intro vs s kk h0
  obtain ⟨r0, rfl, h1⟩ := sR_some h0
  obtain ⟨rfl, h2⟩ := rv0_some h1
  obtain ⟨p, hp, hk⟩ := Option.bind_eq_some_iff.mp h2
  exact ⟨_, _, _, hd, m_M_qPartTold N hp, hk, fun qy hq hf => by cases y_M_qPartTold.symm.trans hq; exact ⟨_, _, rfl, rfl⟩⟩
/-! METHOD PorterDoorsModel.qIsBracket(I)Z -/
set_option maxRecDepth 20000 in
noncomputable def q_M_qIsBracket : mI := (⟨"PorterDoorsModel", "qIsBracket", "(I)Z"⟩, prog_13_method_101_code, 1, (some .boolean), 10, 1529, 139, 0, 1, 1528, 0)
theorem y_M_qIsBracket : mT[175]? = some q_M_qIsBracket := mT_at_4 (k := 15) rfl
noncomputable def bl_M_qIsBracket : List (Nat × List mO) := [(0, [o0 (.iload_n 0), o0 (.bipush 20), o1 (.if_icmp .lt 13) 16, o0 (.iload_n 0), o0 (.bipush 24), o1 (.if_icmp .gt 7) 16, o0 (.iconst 1), o1 (.goto 4) 17]),
  (16, [o0 (.iconst 0)]),
  (17, [o0 (.ireturn)])]
theorem bk_M_qIsBracket : okBlks q_M_qIsBracket bl_M_qIsBracket = true := by decide +kernel
noncomputable def oL_M_qIsBracket {ρ : Type} (N : Nat) : List (Nat × (List Value → mS → (Option Value → mS → Option ρ) → Option ρ)) := []
theorem oo_M_qIsBracket {ρ : Type} {t0 : ρ} (N : Nat) : OrcOK Sm R0m oFm nm 1 t0 (mOrc (oL_M_qIsBracket N)) := mOrc_OK (mz_nil)
noncomputable def f_M_qIsBracket (N : Nat) (a0 : Int32) (s : mS) : Option (Int32 × mS) :=
  if a0 < 20 then
    some (0, s)
  else
    if 24 < a0 then
      some (0, s)
    else
      some (1, s)
set_option maxRecDepth 100000 in
set_option maxHeartbeats 4000000 in
theorem m_M_qIsBracket (N : Nat) {x9 : Int32} {s9 : mS} (a0 : Int32) {s : mS} (h : f_M_qIsBracket N a0 s = some (x9, s9)) : MetM Sm R0m oFm nm 1 175 [.int a0] s (some (.int x9)) s9 := by
  refine met_of_G (q := q_M_qIsBracket) (t0 := (x9, s9)) y_M_qIsBracket (Nat.le_of_ble_eq_true rfl) ?_
  rw [← h]
  exact G_eq (mEv_G (orc := mOrc (oL_M_qIsBracket N)) (ret := rtZ) (blks := bl_M_qIsBracket) (cuts := []) wOKm (by decide) (oo_M_qIsBracket N) (RetOK_Z rfl) bk_M_qIsBracket (mz_nil)) rfl
noncomputable def C_M_qIsBracket {ρ : Type} (N : Nat) : List Value → mS → (Option Value → mS → Option ρ) → Option ρ := fun vs s kk => pi1 vs fun a0 r0 => rv0 r0 ((f_M_qIsBracket N a0 s).bind fun p => kk (some (.int p.1)) p.2)
theorem cs_M_qIsBracket {ρ : Type} {t0 : ρ} {d : Nat} (N : Nat) (hd : 1 + 1 ≤ d) : CallOK Sm R0m oFm nm d t0 175 (C_M_qIsBracket N) := by
  intro vs s kk h0
  obtain ⟨a0, r0, rfl, h1⟩ := pi1_some h0
  obtain ⟨rfl, h2⟩ := rv0_some h1
  obtain ⟨p, hp, hk⟩ := Option.bind_eq_some_iff.mp h2
  exact ⟨_, _, _, hd, m_M_qIsBracket N a0 hp, hk, fun qy hq hf => by cases y_M_qIsBracket.symm.trans hq; exact absurd hf (by decide)⟩
/-! METHOD PorterDoorsModel.qBracket()I -/
set_option maxRecDepth 20000 in
noncomputable def q_M_qBracket : mI := (⟨"PorterDoorsModel", "qBracket", "()I"⟩, prog_13_method_102_code, 2, (some .int), 10, 1526, 139, 1, 0, 1525, 67)
theorem y_M_qBracket : mT[174]? = some q_M_qBracket := mT_at_4 (k := 14) rfl
noncomputable def bl_M_qBracket : List (Nat × List mO) := [(0, [o0 (.aload_n 0), o2 (.getfield 307) 10 90, o0 (.iconst 1), o0 (.isub), o0 (.istore_n 1)]),
  (7, [o0 (.iload_n 1), o0 (.aload_n 0), o2 (.getfield 313) 10 92, o1 (.if_icmp .lt 21) 33, o0 (.aload_n 0), o2 (.getfield 213) 10 89, o0 (.iload_n 1), o0 (.iaload), o2 (.invokestatic 546) 175 1, o1 (.ifCond .ne 9) 33, o0 (.iinc 1 (-1)), o1 (.goto (-23)) 7]),
  (33, [o0 (.iload_n 1), o0 (.aload_n 0), o2 (.getfield 313) 10 92, o1 (.if_icmp .lt 12) 50, o0 (.aload_n 0), o2 (.getfield 213) 10 89, o0 (.iload_n 1), o0 (.iaload), o1 (.goto 4) 51]),
  (50, [o0 (.iconst (-1))]),
  (51, [o0 (.ireturn)])]
theorem bk_M_qBracket : okBlks q_M_qBracket bl_M_qBracket = true := by decide +kernel
noncomputable def oL_M_qBracket {ρ : Type} (N : Nat) : List (Nat × (List Value → mS → (Option Value → mS → Option ρ) → Option ρ)) := [(175, C_M_qIsBracket N)]
theorem oo_M_qBracket {ρ : Type} {t0 : ρ} (N : Nat) : OrcOK Sm R0m oFm nm 2 t0 (mOrc (oL_M_qBracket N)) := mOrc_OK (List.forall_mem_cons.mpr ⟨cs_M_qIsBracket N (by decide), mz_nil⟩)
noncomputable def H_M_qBracket_7 {ρ : Type} (k : (Int32 × mS) → Option ρ) : mL → List Value → mS → Option ρ := fun loc st s => cR loc 0 0 (li1 loc 1 fun v0 => rv0 st (k (v0, s)))
noncomputable def H_M_qBracket_33 {ρ : Type} (k : (Int32 × mS) → Option ρ) : mL → List Value → mS → Option ρ := fun loc st s => cR loc 0 0 (li1 loc 1 fun v0 => rv0 st (k (v0, s)))
noncomputable def f_M_qBracket_j33 (N : Nat) (x : Int32 × mS) : Option (Int32 × mS) :=
  if x.1 < (gI x.2 1092 0) then
    some ((-1), x.2)
  else
    grd (inb x.1 1700) (
    some ((gA x.2 65 (ix x.1)), x.2))
set_option maxRecDepth 100000 in
set_option maxHeartbeats 4000000 in
theorem s_M_qBracket_33 (N : Nat) {x9 : Int32} {s9 : mS} : SCd Sm R0m oFm nm 2 q_M_qBracket (some (.int x9), s9) (x9, s9) 33 (H_M_qBracket_33 (f_M_qBracket_j33 N)) := by
  intro loc st s
  refine G_cR (fun h0 => ?_)
  refine G_li (fun v0 h1 => ?_)
  refine G_rv0 (fun e9 => ?_)
  subst e9
  refine G_sub (loc0 := [(0, .ref 0), (1, .int v0)]) (List.forall_mem_cons.mpr ⟨h0, List.forall_mem_cons.mpr ⟨h1, mz_nil⟩⟩) ?_
  exact G_eq (mEv_G (orc := mOrc (oL_M_qBracket N)) (ret := rtI) (blks := bl_M_qBracket) (cuts := []) wOKm (by decide) (oo_M_qBracket N) (RetOK_I rfl) bk_M_qBracket (mz_nil)) rfl
noncomputable def f_M_qBracket_L7 (N : Nat) (k7 : (Int32 × mS) → Option (Int32 × mS)) (x : Int32 × mS) : Option (Int32 × mS) :=
  if x.1 < (gI x.2 1092 0) then
    f_M_qBracket_j33 N (x.1, x.2)
  else
    grd (inb x.1 1700) (
    (f_M_qIsBracket N (gA x.2 65 (ix x.1)) x.2).bind fun p1 =>
    if p1.1 = 0 then
      k7 ((x.1 - 1), p1.2)
    else
      f_M_qBracket_j33 N (x.1, p1.2))
set_option maxRecDepth 100000 in
set_option maxHeartbeats 4000000 in
theorem t_M_qBracket_7 (N : Nat) {x9 : Int32} {s9 : mS} {k7 : (Int32 × mS) → Option (Int32 × mS)} (hk7 : SCd Sm R0m oFm nm 2 q_M_qBracket (some (.int x9), s9) (x9, s9) 7 (H_M_qBracket_7 k7)) : SCd Sm R0m oFm nm 2 q_M_qBracket (some (.int x9), s9) (x9, s9) 7 (H_M_qBracket_7 (f_M_qBracket_L7 N k7)) := by
  intro loc st s
  refine G_cR (fun h0 => ?_)
  refine G_li (fun v0 h1 => ?_)
  refine G_rv0 (fun e9 => ?_)
  subst e9
  refine G_sub (loc0 := [(0, .ref 0), (1, .int v0)]) (List.forall_mem_cons.mpr ⟨h0, List.forall_mem_cons.mpr ⟨h1, mz_nil⟩⟩) ?_
  exact G_eq (mEv_G (orc := mOrc (oL_M_qBracket N)) (ret := rtI) (blks := bl_M_qBracket) (cuts := [(7, H_M_qBracket_7 k7), (33, H_M_qBracket_33 (f_M_qBracket_j33 N))]) wOKm (by decide) (oo_M_qBracket N) (RetOK_I rfl) bk_M_qBracket (List.forall_mem_cons.mpr ⟨hk7, List.forall_mem_cons.mpr ⟨s_M_qBracket_33 N, mz_nil⟩⟩)) rfl
theorem s_M_qBracket_7 (N : Nat) {x9 : Int32} {s9 : mS} : SCd Sm R0m oFm nm 2 q_M_qBracket (some (.int x9), s9) (x9, s9) 7 (H_M_qBracket_7 (mfix N (f_M_qBracket_L7 N))) := by
  refine mfix_SC (H := H_M_qBracket_7) (fun loc st s => ?_) (fun k hk => t_M_qBracket_7 N hk) N
  refine G_cR (fun h0 => ?_)
  refine G_li (fun v0 h1 => ?_)
  refine G_rv0 (fun e9 => ?_)
  subst e9
  exact G_none
noncomputable def f_M_qBracket (N : Nat) (s : mS) : Option (Int32 × mS) :=
  mfix N (f_M_qBracket_L7 N) (((gI s 1090 0) - 1), s)
set_option maxRecDepth 100000 in
set_option maxHeartbeats 4000000 in
theorem m_M_qBracket (N : Nat) {x9 : Int32} {s9 : mS} {s : mS} (h : f_M_qBracket N s = some (x9, s9)) : MetM Sm R0m oFm nm 2 174 [.ref 0] s (some (.int x9)) s9 := by
  refine met_of_G (q := q_M_qBracket) (t0 := (x9, s9)) y_M_qBracket (Nat.le_of_ble_eq_true rfl) ?_
  rw [← h]
  exact G_eq (mEv_G (orc := mOrc (oL_M_qBracket N)) (ret := rtI) (blks := bl_M_qBracket) (cuts := [(7, H_M_qBracket_7 (mfix N (f_M_qBracket_L7 N)))]) wOKm (by decide) (oo_M_qBracket N) (RetOK_I rfl) bk_M_qBracket (List.forall_mem_cons.mpr ⟨s_M_qBracket_7 N, mz_nil⟩)) rfl
noncomputable def C_M_qBracket {ρ : Type} (N : Nat) : List Value → mS → (Option Value → mS → Option ρ) → Option ρ := fun vs s kk => sR vs 0 fun r0 => rv0 r0 ((f_M_qBracket N s).bind fun p => kk (some (.int p.1)) p.2)
theorem cs_M_qBracket {ρ : Type} {t0 : ρ} {d : Nat} (N : Nat) (hd : 2 + 1 ≤ d) : CallOK Sm R0m oFm nm d t0 174 (C_M_qBracket N) := by
  intro vs s kk h0
  obtain ⟨r0, rfl, h1⟩ := sR_some h0
  obtain ⟨rfl, h2⟩ := rv0_some h1
  obtain ⟨p, hp, hk⟩ := Option.bind_eq_some_iff.mp h2
  exact ⟨_, _, _, hd, m_M_qBracket N hp, hk, fun qy hq hf => by cases y_M_qBracket.symm.trans hq; exact ⟨_, _, rfl, rfl⟩⟩
/-! METHOD PorterDoorsModel.qDropsToBracket()V -/
set_option maxRecDepth 20000 in
noncomputable def q_M_qDropsToBracket : mI := (⟨"PorterDoorsModel", "qDropsToBracket", "()V"⟩, prog_13_method_103_code, 1, none, 10, 1533, 139, 1, 0, 1532, 68)
theorem y_M_qDropsToBracket : mT[176]? = some q_M_qDropsToBracket := mT_at_4 (k := 16) rfl
noncomputable def bl_M_qDropsToBracket : List (Nat × List mO) := [(0, [o0 (.aload_n 0), o2 (.getfield 307) 10 90, o0 (.aload_n 0), o2 (.getfield 313) 10 92, o1 (.if_icmp .le 27) 35, o0 (.aload_n 0), o2 (.getfield 213) 10 89, o0 (.aload_n 0), o2 (.getfield 307) 10 90, o0 (.iconst 1), o0 (.isub), o0 (.iaload), o2 (.invokestatic 546) 175 1, o1 (.ifCond .ne 10) 35, o0 (.aload_n 0), o2 (.invokevirtual 549) 172 1, o1 (.goto (-32)) 0]),
  (35, [o0 (.return_)])]
theorem bk_M_qDropsToBracket : okBlks q_M_qDropsToBracket bl_M_qDropsToBracket = true := by decide +kernel
noncomputable def oL_M_qDropsToBracket {ρ : Type} (N : Nat) : List (Nat × (List Value → mS → (Option Value → mS → Option ρ) → Option ρ)) := [(175, C_M_qIsBracket N), (172, C_M_qDrops N)]
theorem oo_M_qDropsToBracket {ρ : Type} {t0 : ρ} (N : Nat) : OrcOK Sm R0m oFm nm 3 t0 (mOrc (oL_M_qDropsToBracket N)) := mOrc_OK (List.forall_mem_cons.mpr ⟨cs_M_qIsBracket N (by decide), List.forall_mem_cons.mpr ⟨cs_M_qDrops N (by decide), mz_nil⟩⟩)
noncomputable def H_M_qDropsToBracket_0 {ρ : Type} (k : mS → Option ρ) : mL → List Value → mS → Option ρ := fun loc st s => cR loc 0 0 (rv0 st (k s))
noncomputable def f_M_qDropsToBracket_L0 (N : Nat) (k0 : mS → Option (mS)) (x : mS) : Option (mS) :=
  if (gI x 1092 0) < (gI x 1090 0) then
    grd (inb ((gI x 1090 0) - 1) 1700) (
    (f_M_qIsBracket N (gA x 65 (ix ((gI x 1090 0) - 1))) x).bind fun p1 =>
    if p1.1 = 0 then
      (f_M_qDrops N p1.2).bind fun p2 =>
      k0 p2
    else
      some p1.2)
  else
    some x
set_option maxRecDepth 100000 in
set_option maxHeartbeats 4000000 in
theorem t_M_qDropsToBracket_0 (N : Nat) {s9 : mS} {k0 : mS → Option (mS)} (hk0 : SCd Sm R0m oFm nm 3 q_M_qDropsToBracket (none, s9) s9 0 (H_M_qDropsToBracket_0 k0)) : SCd Sm R0m oFm nm 3 q_M_qDropsToBracket (none, s9) s9 0 (H_M_qDropsToBracket_0 (f_M_qDropsToBracket_L0 N k0)) := by
  intro loc st s
  refine G_cR (fun h0 => ?_)
  refine G_rv0 (fun e9 => ?_)
  subst e9
  refine G_sub (loc0 := [(0, .ref 0)]) (List.forall_mem_cons.mpr ⟨h0, mz_nil⟩) ?_
  exact G_eq (mEv_G (orc := mOrc (oL_M_qDropsToBracket N)) (ret := rtV) (blks := bl_M_qDropsToBracket) (cuts := [(0, H_M_qDropsToBracket_0 k0)]) wOKm (by decide) (oo_M_qDropsToBracket N) (RetOK_V rfl) bk_M_qDropsToBracket (List.forall_mem_cons.mpr ⟨hk0, mz_nil⟩)) rfl
theorem s_M_qDropsToBracket_0 (N : Nat) {s9 : mS} : SCd Sm R0m oFm nm 3 q_M_qDropsToBracket (none, s9) s9 0 (H_M_qDropsToBracket_0 (mfix N (f_M_qDropsToBracket_L0 N))) := by
  refine mfix_SC (H := H_M_qDropsToBracket_0) (fun loc st s => ?_) (fun k hk => t_M_qDropsToBracket_0 N hk) N
  refine G_cR (fun h0 => ?_)
  refine G_rv0 (fun e9 => ?_)
  subst e9
  exact G_none
noncomputable def f_M_qDropsToBracket (N : Nat) (s : mS) : Option (mS) :=
  mfix N (f_M_qDropsToBracket_L0 N) s
set_option maxRecDepth 100000 in
set_option maxHeartbeats 4000000 in
theorem m_M_qDropsToBracket (N : Nat) {s9 : mS} {s : mS} (h : f_M_qDropsToBracket N s = some s9) : MetM Sm R0m oFm nm 3 176 [.ref 0] s (none) s9 := by
  refine met_of_G (q := q_M_qDropsToBracket) (t0 := s9) y_M_qDropsToBracket (Nat.le_of_ble_eq_true rfl) ?_
  rw [← h]
  exact s_M_qDropsToBracket_0 N _ _ _
noncomputable def C_M_qDropsToBracket {ρ : Type} (N : Nat) : List Value → mS → (Option Value → mS → Option ρ) → Option ρ := fun vs s kk => sR vs 0 fun r0 => rv0 r0 ((f_M_qDropsToBracket N s).bind fun p => kk none p)
theorem cs_M_qDropsToBracket {ρ : Type} {t0 : ρ} {d : Nat} (N : Nat) (hd : 3 + 1 ≤ d) : CallOK Sm R0m oFm nm d t0 176 (C_M_qDropsToBracket N) := by
  intro vs s kk h0
  obtain ⟨r0, rfl, h1⟩ := sR_some h0
  obtain ⟨rfl, h2⟩ := rv0_some h1
  obtain ⟨p, hp, hk⟩ := Option.bind_eq_some_iff.mp h2
  exact ⟨_, _, _, hd, m_M_qDropsToBracket N hp, hk, fun qy hq hf => by cases y_M_qDropsToBracket.symm.trans hq; exact ⟨_, _, rfl, rfl⟩⟩
/-! METHOD PorterDoorsModel.qIsOn(I)Z -/
set_option maxRecDepth 20000 in
noncomputable def q_M_qIsOn : mI := (⟨"PorterDoorsModel", "qIsOn", "(I)Z"⟩, prog_13_method_99_code, 2, (some .boolean), 10, 1537, 139, 1, 1, 1536, 69)
theorem y_M_qIsOn : mT[177]? = some q_M_qIsOn := mT_at_4 (k := 17) rfl
noncomputable def bl_M_qIsOn : List (Nat × List mO) := [(0, [o0 (.aload_n 0), o2 (.getfield 307) 10 90, o1 (.ifCond .le 22) 26, o0 (.aload_n 0), o2 (.getfield 213) 10 89, o0 (.aload_n 0), o2 (.getfield 307) 10 90, o0 (.iconst 1), o0 (.isub), o0 (.iaload), o0 (.iload_n 1), o1 (.if_icmp .ne 7) 26, o0 (.iconst 1), o1 (.goto 4) 27]),
  (26, [o0 (.iconst 0)]),
  (27, [o0 (.ireturn)])]
theorem bk_M_qIsOn : okBlks q_M_qIsOn bl_M_qIsOn = true := by decide +kernel
noncomputable def oL_M_qIsOn {ρ : Type} (N : Nat) : List (Nat × (List Value → mS → (Option Value → mS → Option ρ) → Option ρ)) := []
theorem oo_M_qIsOn {ρ : Type} {t0 : ρ} (N : Nat) : OrcOK Sm R0m oFm nm 1 t0 (mOrc (oL_M_qIsOn N)) := mOrc_OK (mz_nil)
noncomputable def f_M_qIsOn (N : Nat) (a1 : Int32) (s : mS) : Option (Int32 × mS) :=
  if 0 < (gI s 1090 0) then
    grd (inb ((gI s 1090 0) - 1) 1700) (
    if (gA s 65 (ix ((gI s 1090 0) - 1))) = a1 then
      some (1, s)
    else
      some (0, s))
  else
    some (0, s)
set_option maxRecDepth 100000 in
set_option maxHeartbeats 4000000 in
theorem m_M_qIsOn (N : Nat) {x9 : Int32} {s9 : mS} (a1 : Int32) {s : mS} (h : f_M_qIsOn N a1 s = some (x9, s9)) : MetM Sm R0m oFm nm 1 177 [.ref 0, .int a1] s (some (.int x9)) s9 := by
  refine met_of_G (q := q_M_qIsOn) (t0 := (x9, s9)) y_M_qIsOn (Nat.le_of_ble_eq_true rfl) ?_
  rw [← h]
  exact G_eq (mEv_G (orc := mOrc (oL_M_qIsOn N)) (ret := rtZ) (blks := bl_M_qIsOn) (cuts := []) wOKm (by decide) (oo_M_qIsOn N) (RetOK_Z rfl) bk_M_qIsOn (mz_nil)) rfl
noncomputable def C_M_qIsOn {ρ : Type} (N : Nat) : List Value → mS → (Option Value → mS → Option ρ) → Option ρ := fun vs s kk => sR vs 0 fun r0 => pi1 r0 fun a1 r1 => rv0 r1 ((f_M_qIsOn N a1 s).bind fun p => kk (some (.int p.1)) p.2)
theorem cs_M_qIsOn {ρ : Type} {t0 : ρ} {d : Nat} (N : Nat) (hd : 1 + 1 ≤ d) : CallOK Sm R0m oFm nm d t0 177 (C_M_qIsOn N) := by
  intro vs s kk h0
  obtain ⟨r0, rfl, h1⟩ := sR_some h0
  obtain ⟨a1, r1, rfl, h2⟩ := pi1_some h1
  obtain ⟨rfl, h3⟩ := rv0_some h2
  obtain ⟨p, hp, hk⟩ := Option.bind_eq_some_iff.mp h3
  exact ⟨_, _, _, hd, m_M_qIsOn N a1 hp, hk, fun qy hq hf => by cases y_M_qIsOn.symm.trans hq; exact ⟨_, _, rfl, rfl⟩⟩
/-! METHOD PorterDoorsModel.qGoesOn()Z -/
set_option maxRecDepth 20000 in
noncomputable def q_M_qGoesOn : mI := (⟨"PorterDoorsModel", "qGoesOn", "()Z"⟩, prog_13_method_109_code, 2, (some .boolean), 10, 1522, 139, 1, 0, 1521, 66)
theorem y_M_qGoesOn : mT[173]? = some q_M_qGoesOn := mT_at_4 (k := 13) rfl
noncomputable def bl_M_qGoesOn : List (Nat × List mO) := [(0, [o0 (.aload_n 0), o2 (.getfield 227) 10 5, o1 (.ifCond .ne 118) 122, o0 (.aload_n 0), o2 (.invokevirtual 239) 150 1, o0 (.bipush 41), o1 (.if_icmp .ne 109) 122, o0 (.aload_n 0), o2 (.invokevirtual 570) 174 1, o0 (.bipush 20), o1 (.if_icmp .eq 21) 43, o0 (.aload_n 0), o2 (.invokevirtual 570) 174 1, o0 (.bipush 23), o1 (.if_icmp .eq 12) 43, o0 (.aload_n 0), o2 (.invokevirtual 570) 174 1, o0 (.bipush 24), o1 (.if_icmp .ne 82) 122]),
  (43, [o0 (.aload_n 0), o0 (.dup), o2 (.getfield 233) 10 2, o0 (.iconst 1), o0 (.iadd), o2 (.putfield 233) 10 2, o0 (.aload_n 0), o2 (.invokevirtual 573) 176 1, o0 (.aload_n 0), o0 (.dup), o2 (.getfield 307) 10 90, o0 (.iconst 1), o0 (.isub), o2 (.putfield 307) 10 90, o0 (.aload_n 0), o0 (.dup), o2 (.getfield 310) 10 91, o0 (.iconst 1), o0 (.isub), o2 (.putfield 310) 10 91, o0 (.aload_n 0), o2 (.getfield 213) 10 89, o0 (.aload_n 0), o2 (.getfield 307) 10 90, o0 (.iaload), o0 (.bipush 20), o1 (.if_icmp .eq 27) 115, o0 (.aload_n 0), o0 (.aload_n 0), o2 (.getfield 213) 10 89, o0 (.aload_n 0), o2 (.getfield 307) 10 90, o0 (.iaload), o0 (.bipush 23), o1 (.if_icmp .ne 7) 110, o0 (.iconst 5), o1 (.goto 5) 112]),
  (110, [o0 (.bipush 6)]),
  (112, [o2 (.invokevirtual 543) 170 2]),
  (115, [o0 (.aload_n 0), o2 (.invokevirtual 567) 171 1, o1 (.goto (-119)) 0]),
  (122, [o0 (.aload_n 0), o0 (.bipush 42), o2 (.invokevirtual 261) 157 2, o1 (.ifCond .ne 12) 140, o0 (.aload_n 0), o0 (.bipush 47), o2 (.invokevirtual 261) 157 2, o1 (.ifCond .eq 70) 207]),
  (140, [o0 (.aload_n 0), o2 (.getfield 7) 10 0, o0 (.aload_n 0), o2 (.getfield 233) 10 2, o0 (.iconst 1), o0 (.isub), o0 (.iaload), o0 (.bipush 42), o1 (.if_icmp .ne 7) 160, o0 (.iconst 3), o1 (.goto 4) 161]),
  (160, [o0 (.iconst 4)]),
  (161, [o0 (.istore_n 1)]),
  (162, [o0 (.aload_n 0), o0 (.iconst 3), o2 (.invokevirtual 576) 177 2, o1 (.ifCond .ne 11) 178, o0 (.aload_n 0), o0 (.iconst 4), o2 (.invokevirtual 576) 177 2, o1 (.ifCond .eq 10) 185]),
  (178, [o0 (.aload_n 0), o2 (.invokevirtual 549) 172 1, o1 (.goto (-20)) 162]),
  (185, [o0 (.aload_n 0), o2 (.getfield 213) 10 89, o0 (.aload_n 0), o2 (.getfield 307) 10 90, o0 (.iload_n 1), o0 (.iastore), o0 (.aload_n 0), o0 (.dup), o2 (.getfield 307) 10 90, o0 (.iconst 1), o0 (.iadd), o2 (.putfield 307) 10 90, o0 (.iconst 1), o0 (.ireturn)]),
  (207, [o0 (.aload_n 0), o0 (.bipush 43), o2 (.invokevirtual 261) 157 2, o1 (.ifCond .ne 12) 225, o0 (.aload_n 0), o0 (.bipush 45), o2 (.invokevirtual 261) 157 2, o1 (.ifCond .eq 86) 308]),
  (225, [o0 (.aload_n 0), o2 (.getfield 7) 10 0, o0 (.aload_n 0), o2 (.getfield 233) 10 2, o0 (.iconst 1), o0 (.isub), o0 (.iaload), o0 (.bipush 43), o1 (.if_icmp .ne 7) 245, o0 (.iconst 1), o1 (.goto 4) 246]),
  (245, [o0 (.iconst 2)]),
  (246, [o0 (.istore_n 1)]),
  (247, [o0 (.aload_n 0), o0 (.iconst 3), o2 (.invokevirtual 576) 177 2, o1 (.ifCond .ne 27) 279, o0 (.aload_n 0), o0 (.iconst 4), o2 (.invokevirtual 576) 177 2, o1 (.ifCond .ne 19) 279, o0 (.aload_n 0), o0 (.iconst 1), o2 (.invokevirtual 576) 177 2, o1 (.ifCond .ne 11) 279, o0 (.aload_n 0), o0 (.iconst 2), o2 (.invokevirtual 576) 177 2, o1 (.ifCond .eq 10) 286]),
  (279, [o0 (.aload_n 0), o2 (.invokevirtual 549) 172 1, o1 (.goto (-36)) 247]),
  (286, [o0 (.aload_n 0), o2 (.getfield 213) 10 89, o0 (.aload_n 0), o2 (.getfield 307) 10 90, o0 (.iload_n 1), o0 (.iastore), o0 (.aload_n 0), o0 (.dup), o2 (.getfield 307) 10 90, o0 (.iconst 1), o0 (.iadd), o2 (.putfield 307) 10 90, o0 (.iconst 1), o0 (.ireturn)]),
  (308, [o0 (.aload_n 0), o2 (.invokevirtual 570) 174 1, o0 (.bipush 21), o1 (.if_icmp .eq 12) 326, o0 (.aload_n 0), o2 (.invokevirtual 570) 174 1, o0 (.bipush 22), o1 (.if_icmp .ne 39) 362]),
  (326, [o0 (.aload_n 0), o0 (.bipush 44), o2 (.invokevirtual 300) 156 2, o0 (.aload_n 0), o2 (.getfield 227) 10 5, o1 (.ifCond .eq 5) 341, o0 (.iconst 0), o0 (.ireturn)]),
  (341, [o0 (.aload_n 0), o2 (.invokevirtual 573) 176 1, o0 (.aload_n 0), o2 (.getfield 213) 10 89, o0 (.aload_n 0), o2 (.getfield 307) 10 90, o0 (.iconst 1), o0 (.isub), o0 (.dup2), o0 (.iaload), o0 (.iconst 2), o0 (.iadd), o0 (.iastore), o0 (.iconst 1), o0 (.ireturn)]),
  (362, [o0 (.aload_n 0), o2 (.invokevirtual 570) 174 1, o0 (.iconst (-1)), o1 (.if_icmp .eq 19) 386, o0 (.aload_n 0), o2 (.getfield 227) 10 5, o1 (.ifCond .ne 12) 386, o0 (.aload_n 0), o0 (.iconst 1), o0 (.aload_n 0), o2 (.getfield 233) 10 2, o2 (.invokevirtual 257) 152 3]),
  (386, [o0 (.iconst 0), o0 (.ireturn)])]
theorem bk_M_qGoesOn : okBlks q_M_qGoesOn bl_M_qGoesOn = true := by decide +kernel
noncomputable def oL_M_qGoesOn {ρ : Type} (N : Nat) : List (Nat × (List Value → mS → (Option Value → mS → Option ρ) → Option ρ)) := [(150, C_M_look N), (174, C_M_qBracket N), (176, C_M_qDropsToBracket N), (170, C_M_qCode N), (171, C_M_qEndsPart N), (157, C_M_takesSign N), (177, C_M_qIsOn N), (172, C_M_qDrops N), (156, C_M_asksSign N), (152, C_M_fail N)]
theorem oo_M_qGoesOn {ρ : Type} {t0 : ρ} (N : Nat) : OrcOK Sm R0m oFm nm 4 t0 (mOrc (oL_M_qGoesOn N)) := mOrc_OK (List.forall_mem_cons.mpr ⟨cs_M_look N (by decide), List.forall_mem_cons.mpr ⟨cs_M_qBracket N (by decide), List.forall_mem_cons.mpr ⟨cs_M_qDropsToBracket N (by decide), List.forall_mem_cons.mpr ⟨cs_M_qCode N (by decide), List.forall_mem_cons.mpr ⟨cs_M_qEndsPart N (by decide), List.forall_mem_cons.mpr ⟨cs_M_takesSign N (by decide), List.forall_mem_cons.mpr ⟨cs_M_qIsOn N (by decide), List.forall_mem_cons.mpr ⟨cs_M_qDrops N (by decide), List.forall_mem_cons.mpr ⟨cs_M_asksSign N (by decide), List.forall_mem_cons.mpr ⟨cs_M_fail N (by decide), mz_nil⟩⟩⟩⟩⟩⟩⟩⟩⟩⟩)
noncomputable def H_M_qGoesOn_0 {ρ : Type} (k : mS → Option ρ) : mL → List Value → mS → Option ρ := fun loc st s => cR loc 0 0 (rv0 st (k s))
noncomputable def H_M_qGoesOn_43 {ρ : Type} (k : mS → Option ρ) : mL → List Value → mS → Option ρ := fun loc st s => cR loc 0 0 (rv0 st (k s))
noncomputable def H_M_qGoesOn_112 {ρ : Type} (k : (Int32 × mS) → Option ρ) : mL → List Value → mS → Option ρ := fun loc st s => cR loc 0 0 (pi1 st fun w1 r0 => sR r0 0 fun r1 => rv0 r1 (k (w1, s)))
noncomputable def H_M_qGoesOn_122 {ρ : Type} (k : mS → Option ρ) : mL → List Value → mS → Option ρ := fun loc st s => cR loc 0 0 (rv0 st (k s))
noncomputable def H_M_qGoesOn_140 {ρ : Type} (k : mS → Option ρ) : mL → List Value → mS → Option ρ := fun loc st s => cR loc 0 0 (rv0 st (k s))
noncomputable def H_M_qGoesOn_162 {ρ : Type} (k : (Int32 × mS) → Option ρ) : mL → List Value → mS → Option ρ := fun loc st s => cR loc 0 0 (li1 loc 1 fun v0 => rv0 st (k (v0, s)))
noncomputable def H_M_qGoesOn_225 {ρ : Type} (k : mS → Option ρ) : mL → List Value → mS → Option ρ := fun loc st s => cR loc 0 0 (rv0 st (k s))
noncomputable def H_M_qGoesOn_247 {ρ : Type} (k : (Int32 × mS) → Option ρ) : mL → List Value → mS → Option ρ := fun loc st s => cR loc 0 0 (li1 loc 1 fun v0 => rv0 st (k (v0, s)))
noncomputable def H_M_qGoesOn_326 {ρ : Type} (k : mS → Option ρ) : mL → List Value → mS → Option ρ := fun loc st s => cR loc 0 0 (rv0 st (k s))
noncomputable def f_M_qGoesOn_j112 (N : Nat) (k0 : mS → Option (Int32 × mS)) (x : Int32 × mS) : Option (Int32 × mS) :=
  (f_M_qCode N x.1 x.2).bind fun p1 =>
  (f_M_qEndsPart N p1).bind fun p2 =>
  k0 p2
set_option maxRecDepth 100000 in
set_option maxHeartbeats 4000000 in
theorem s_M_qGoesOn_112 (N : Nat) {x9 : Int32} {s9 : mS} {k0 : mS → Option (Int32 × mS)} (hk0 : SCd Sm R0m oFm nm 4 q_M_qGoesOn (some (.int x9), s9) (x9, s9) 0 (H_M_qGoesOn_0 k0)) : SCd Sm R0m oFm nm 4 q_M_qGoesOn (some (.int x9), s9) (x9, s9) 112 (H_M_qGoesOn_112 (f_M_qGoesOn_j112 N k0)) := by
  intro loc st s
  refine G_cR (fun h0 => ?_)
  refine G_pi (fun w1 r0 e0 => ?_)
  refine G_sR (fun r1 e1 => ?_)
  refine G_rv0 (fun e9 => ?_)
  subst e9
  subst e1
  subst e0
  refine G_sub (loc0 := [(0, .ref 0)]) (List.forall_mem_cons.mpr ⟨h0, mz_nil⟩) ?_
  exact G_eq (mEv_G (orc := mOrc (oL_M_qGoesOn N)) (ret := rtZ) (blks := bl_M_qGoesOn) (cuts := [(0, H_M_qGoesOn_0 k0)]) wOKm (by decide) (oo_M_qGoesOn N) (RetOK_Z rfl) bk_M_qGoesOn (List.forall_mem_cons.mpr ⟨hk0, mz_nil⟩)) rfl
noncomputable def f_M_qGoesOn_j43 (N : Nat) (k0 : mS → Option (Int32 × mS)) (x : mS) : Option (Int32 × mS) :=
  let s1 := sI x 1002 0 ((gI x 1002 0) + 1)
  (f_M_qDropsToBracket N s1).bind fun p2 =>
  let s3 := sI p2 1090 0 ((gI p2 1090 0) - 1)
  let s4 := sI s3 1091 0 ((gI s3 1091 0) - 1)
  grd (inb (gI s4 1090 0) 1700) (
  if (gA s4 65 (ix (gI s4 1090 0))) = 20 then
    (f_M_qEndsPart N s4).bind fun p5 =>
    k0 p5
  else
    grd (inb (gI s4 1090 0) 1700) (
    if (gA s4 65 (ix (gI s4 1090 0))) = 23 then
      f_M_qGoesOn_j112 N k0 (5, s4)
    else
      f_M_qGoesOn_j112 N k0 (6, s4)))
set_option maxRecDepth 100000 in
set_option maxHeartbeats 4000000 in
theorem s_M_qGoesOn_43 (N : Nat) {x9 : Int32} {s9 : mS} {k0 : mS → Option (Int32 × mS)} (hk0 : SCd Sm R0m oFm nm 4 q_M_qGoesOn (some (.int x9), s9) (x9, s9) 0 (H_M_qGoesOn_0 k0)) : SCd Sm R0m oFm nm 4 q_M_qGoesOn (some (.int x9), s9) (x9, s9) 43 (H_M_qGoesOn_43 (f_M_qGoesOn_j43 N k0)) := by
  intro loc st s
  refine G_cR (fun h0 => ?_)
  refine G_rv0 (fun e9 => ?_)
  subst e9
  refine G_sub (loc0 := [(0, .ref 0)]) (List.forall_mem_cons.mpr ⟨h0, mz_nil⟩) ?_
  exact G_eq (mEv_G (orc := mOrc (oL_M_qGoesOn N)) (ret := rtZ) (blks := bl_M_qGoesOn) (cuts := [(0, H_M_qGoesOn_0 k0), (112, H_M_qGoesOn_112 (f_M_qGoesOn_j112 N k0))]) wOKm (by decide) (oo_M_qGoesOn N) (RetOK_Z rfl) bk_M_qGoesOn (List.forall_mem_cons.mpr ⟨hk0, List.forall_mem_cons.mpr ⟨s_M_qGoesOn_112 N hk0, mz_nil⟩⟩)) rfl
noncomputable def f_M_qGoesOn_L162 (N : Nat) (k162 : (Int32 × mS) → Option (Int32 × mS)) (x : Int32 × mS) : Option (Int32 × mS) :=
  (f_M_qIsOn N 3 x.2).bind fun p1 =>
  if p1.1 = 0 then
    (f_M_qIsOn N 4 p1.2).bind fun p3 =>
    if p3.1 = 0 then
      grd (inb (gI p3.2 1090 0) 1700) (
      let s4 := sA p3.2 65 (ix (gI p3.2 1090 0)) x.1
      let s5 := sI s4 1090 0 ((gI s4 1090 0) + 1)
      some (1, s5))
    else
      (f_M_qDrops N p3.2).bind fun p6 =>
      k162 (x.1, p6)
  else
    (f_M_qDrops N p1.2).bind fun p2 =>
    k162 (x.1, p2)
set_option maxRecDepth 100000 in
set_option maxHeartbeats 4000000 in
theorem t_M_qGoesOn_162 (N : Nat) {x9 : Int32} {s9 : mS} {k162 : (Int32 × mS) → Option (Int32 × mS)} (hk162 : SCd Sm R0m oFm nm 4 q_M_qGoesOn (some (.int x9), s9) (x9, s9) 162 (H_M_qGoesOn_162 k162)) : SCd Sm R0m oFm nm 4 q_M_qGoesOn (some (.int x9), s9) (x9, s9) 162 (H_M_qGoesOn_162 (f_M_qGoesOn_L162 N k162)) := by
  intro loc st s
  refine G_cR (fun h0 => ?_)
  refine G_li (fun v0 h1 => ?_)
  refine G_rv0 (fun e9 => ?_)
  subst e9
  refine G_sub (loc0 := [(0, .ref 0), (1, .int v0)]) (List.forall_mem_cons.mpr ⟨h0, List.forall_mem_cons.mpr ⟨h1, mz_nil⟩⟩) ?_
  exact G_eq (mEv_G (orc := mOrc (oL_M_qGoesOn N)) (ret := rtZ) (blks := bl_M_qGoesOn) (cuts := [(162, H_M_qGoesOn_162 k162)]) wOKm (by decide) (oo_M_qGoesOn N) (RetOK_Z rfl) bk_M_qGoesOn (List.forall_mem_cons.mpr ⟨hk162, mz_nil⟩)) rfl
theorem s_M_qGoesOn_162 (N : Nat) {x9 : Int32} {s9 : mS} : SCd Sm R0m oFm nm 4 q_M_qGoesOn (some (.int x9), s9) (x9, s9) 162 (H_M_qGoesOn_162 (mfix N (f_M_qGoesOn_L162 N))) := by
  refine mfix_SC (H := H_M_qGoesOn_162) (fun loc st s => ?_) (fun k hk => t_M_qGoesOn_162 N hk) N
  refine G_cR (fun h0 => ?_)
  refine G_li (fun v0 h1 => ?_)
  refine G_rv0 (fun e9 => ?_)
  subst e9
  exact G_none
noncomputable def f_M_qGoesOn_j140 (N : Nat) (x : mS) : Option (Int32 × mS) :=
  grd (inb ((gI x 1002 0) - 1) 1600) (
  if (gA x 1 (ix ((gI x 1002 0) - 1))) = 42 then
    mfix N (f_M_qGoesOn_L162 N) (3, x)
  else
    mfix N (f_M_qGoesOn_L162 N) (4, x))
set_option maxRecDepth 100000 in
set_option maxHeartbeats 4000000 in
theorem s_M_qGoesOn_140 (N : Nat) {x9 : Int32} {s9 : mS} : SCd Sm R0m oFm nm 4 q_M_qGoesOn (some (.int x9), s9) (x9, s9) 140 (H_M_qGoesOn_140 (f_M_qGoesOn_j140 N)) := by
  intro loc st s
  refine G_cR (fun h0 => ?_)
  refine G_rv0 (fun e9 => ?_)
  subst e9
  refine G_sub (loc0 := [(0, .ref 0)]) (List.forall_mem_cons.mpr ⟨h0, mz_nil⟩) ?_
  exact G_eq (mEv_G (orc := mOrc (oL_M_qGoesOn N)) (ret := rtZ) (blks := bl_M_qGoesOn) (cuts := [(162, H_M_qGoesOn_162 (mfix N (f_M_qGoesOn_L162 N)))]) wOKm (by decide) (oo_M_qGoesOn N) (RetOK_Z rfl) bk_M_qGoesOn (List.forall_mem_cons.mpr ⟨s_M_qGoesOn_162 N, mz_nil⟩)) rfl
noncomputable def f_M_qGoesOn_L247 (N : Nat) (k247 : (Int32 × mS) → Option (Int32 × mS)) (x : Int32 × mS) : Option (Int32 × mS) :=
  (f_M_qIsOn N 3 x.2).bind fun p1 =>
  if p1.1 = 0 then
    (f_M_qIsOn N 4 p1.2).bind fun p3 =>
    if p3.1 = 0 then
      (f_M_qIsOn N 1 p3.2).bind fun p5 =>
      if p5.1 = 0 then
        (f_M_qIsOn N 2 p5.2).bind fun p7 =>
        if p7.1 = 0 then
          grd (inb (gI p7.2 1090 0) 1700) (
          let s8 := sA p7.2 65 (ix (gI p7.2 1090 0)) x.1
          let s9 := sI s8 1090 0 ((gI s8 1090 0) + 1)
          some (1, s9))
        else
          (f_M_qDrops N p7.2).bind fun p10 =>
          k247 (x.1, p10)
      else
        (f_M_qDrops N p5.2).bind fun p6 =>
        k247 (x.1, p6)
    else
      (f_M_qDrops N p3.2).bind fun p4 =>
      k247 (x.1, p4)
  else
    (f_M_qDrops N p1.2).bind fun p2 =>
    k247 (x.1, p2)
set_option maxRecDepth 100000 in
set_option maxHeartbeats 4000000 in
theorem t_M_qGoesOn_247 (N : Nat) {x9 : Int32} {s9 : mS} {k247 : (Int32 × mS) → Option (Int32 × mS)} (hk247 : SCd Sm R0m oFm nm 4 q_M_qGoesOn (some (.int x9), s9) (x9, s9) 247 (H_M_qGoesOn_247 k247)) : SCd Sm R0m oFm nm 4 q_M_qGoesOn (some (.int x9), s9) (x9, s9) 247 (H_M_qGoesOn_247 (f_M_qGoesOn_L247 N k247)) := by
  intro loc st s
  refine G_cR (fun h0 => ?_)
  refine G_li (fun v0 h1 => ?_)
  refine G_rv0 (fun e9 => ?_)
  subst e9
  refine G_sub (loc0 := [(0, .ref 0), (1, .int v0)]) (List.forall_mem_cons.mpr ⟨h0, List.forall_mem_cons.mpr ⟨h1, mz_nil⟩⟩) ?_
  exact G_eq (mEv_G (orc := mOrc (oL_M_qGoesOn N)) (ret := rtZ) (blks := bl_M_qGoesOn) (cuts := [(247, H_M_qGoesOn_247 k247)]) wOKm (by decide) (oo_M_qGoesOn N) (RetOK_Z rfl) bk_M_qGoesOn (List.forall_mem_cons.mpr ⟨hk247, mz_nil⟩)) rfl
theorem s_M_qGoesOn_247 (N : Nat) {x9 : Int32} {s9 : mS} : SCd Sm R0m oFm nm 4 q_M_qGoesOn (some (.int x9), s9) (x9, s9) 247 (H_M_qGoesOn_247 (mfix N (f_M_qGoesOn_L247 N))) := by
  refine mfix_SC (H := H_M_qGoesOn_247) (fun loc st s => ?_) (fun k hk => t_M_qGoesOn_247 N hk) N
  refine G_cR (fun h0 => ?_)
  refine G_li (fun v0 h1 => ?_)
  refine G_rv0 (fun e9 => ?_)
  subst e9
  exact G_none
noncomputable def f_M_qGoesOn_j225 (N : Nat) (x : mS) : Option (Int32 × mS) :=
  grd (inb ((gI x 1002 0) - 1) 1600) (
  if (gA x 1 (ix ((gI x 1002 0) - 1))) = 43 then
    mfix N (f_M_qGoesOn_L247 N) (1, x)
  else
    mfix N (f_M_qGoesOn_L247 N) (2, x))
set_option maxRecDepth 100000 in
set_option maxHeartbeats 4000000 in
theorem s_M_qGoesOn_225 (N : Nat) {x9 : Int32} {s9 : mS} : SCd Sm R0m oFm nm 4 q_M_qGoesOn (some (.int x9), s9) (x9, s9) 225 (H_M_qGoesOn_225 (f_M_qGoesOn_j225 N)) := by
  intro loc st s
  refine G_cR (fun h0 => ?_)
  refine G_rv0 (fun e9 => ?_)
  subst e9
  refine G_sub (loc0 := [(0, .ref 0)]) (List.forall_mem_cons.mpr ⟨h0, mz_nil⟩) ?_
  exact G_eq (mEv_G (orc := mOrc (oL_M_qGoesOn N)) (ret := rtZ) (blks := bl_M_qGoesOn) (cuts := [(247, H_M_qGoesOn_247 (mfix N (f_M_qGoesOn_L247 N)))]) wOKm (by decide) (oo_M_qGoesOn N) (RetOK_Z rfl) bk_M_qGoesOn (List.forall_mem_cons.mpr ⟨s_M_qGoesOn_247 N, mz_nil⟩)) rfl
noncomputable def f_M_qGoesOn_j326 (N : Nat) (x : mS) : Option (Int32 × mS) :=
  (f_M_asksSign N 44 x).bind fun p1 =>
  if (gI p1 1005 0) = 0 then
    (f_M_qDropsToBracket N p1).bind fun p2 =>
    grd (inb ((gI p2 1090 0) - 1) 1700) (
    grd (inb ((gI p2 1090 0) - 1) 1700) (
    let s3 := sA p2 65 (ix ((gI p2 1090 0) - 1)) ((gA p2 65 (ix ((gI p2 1090 0) - 1))) + 2)
    some (1, s3)))
  else
    some (0, p1)
set_option maxRecDepth 100000 in
set_option maxHeartbeats 4000000 in
theorem s_M_qGoesOn_326 (N : Nat) {x9 : Int32} {s9 : mS} : SCd Sm R0m oFm nm 4 q_M_qGoesOn (some (.int x9), s9) (x9, s9) 326 (H_M_qGoesOn_326 (f_M_qGoesOn_j326 N)) := by
  intro loc st s
  refine G_cR (fun h0 => ?_)
  refine G_rv0 (fun e9 => ?_)
  subst e9
  refine G_sub (loc0 := [(0, .ref 0)]) (List.forall_mem_cons.mpr ⟨h0, mz_nil⟩) ?_
  exact G_eq (mEv_G (orc := mOrc (oL_M_qGoesOn N)) (ret := rtZ) (blks := bl_M_qGoesOn) (cuts := []) wOKm (by decide) (oo_M_qGoesOn N) (RetOK_Z rfl) bk_M_qGoesOn (mz_nil)) rfl
noncomputable def f_M_qGoesOn_j122 (N : Nat) (x : mS) : Option (Int32 × mS) :=
  (f_M_takesSign N 42 x).bind fun p1 =>
  if p1.1 = 0 then
    (f_M_takesSign N 47 p1.2).bind fun p2 =>
    if p2.1 = 0 then
      (f_M_takesSign N 43 p2.2).bind fun p3 =>
      if p3.1 = 0 then
        (f_M_takesSign N 45 p3.2).bind fun p4 =>
        if p4.1 = 0 then
          (f_M_qBracket N p4.2).bind fun p5 =>
          if p5.1 = 21 then
            f_M_qGoesOn_j326 N p5.2
          else
            (f_M_qBracket N p5.2).bind fun p6 =>
            if p6.1 = 22 then
              f_M_qGoesOn_j326 N p6.2
            else
              (f_M_qBracket N p6.2).bind fun p7 =>
              if p7.1 = (-1) then
                some (0, p7.2)
              else
                if (gI p7.2 1005 0) = 0 then
                  (f_M_fail N 1 (gI p7.2 1002 0) p7.2).bind fun p8 =>
                  some (0, p8)
                else
                  some (0, p7.2)
        else
          f_M_qGoesOn_j225 N p4.2
      else
        f_M_qGoesOn_j225 N p3.2
    else
      f_M_qGoesOn_j140 N p2.2
  else
    f_M_qGoesOn_j140 N p1.2
set_option maxRecDepth 100000 in
set_option maxHeartbeats 4000000 in
theorem s_M_qGoesOn_122 (N : Nat) {x9 : Int32} {s9 : mS} : SCd Sm R0m oFm nm 4 q_M_qGoesOn (some (.int x9), s9) (x9, s9) 122 (H_M_qGoesOn_122 (f_M_qGoesOn_j122 N)) := by
  intro loc st s
  refine G_cR (fun h0 => ?_)
  refine G_rv0 (fun e9 => ?_)
  subst e9
  refine G_sub (loc0 := [(0, .ref 0)]) (List.forall_mem_cons.mpr ⟨h0, mz_nil⟩) ?_
  exact G_eq (mEv_G (orc := mOrc (oL_M_qGoesOn N)) (ret := rtZ) (blks := bl_M_qGoesOn) (cuts := [(140, H_M_qGoesOn_140 (f_M_qGoesOn_j140 N)), (225, H_M_qGoesOn_225 (f_M_qGoesOn_j225 N)), (326, H_M_qGoesOn_326 (f_M_qGoesOn_j326 N))]) wOKm (by decide) (oo_M_qGoesOn N) (RetOK_Z rfl) bk_M_qGoesOn (List.forall_mem_cons.mpr ⟨s_M_qGoesOn_140 N, List.forall_mem_cons.mpr ⟨s_M_qGoesOn_225 N, List.forall_mem_cons.mpr ⟨s_M_qGoesOn_326 N, mz_nil⟩⟩⟩)) rfl
noncomputable def f_M_qGoesOn_L0 (N : Nat) (k0 : mS → Option (Int32 × mS)) (x : mS) : Option (Int32 × mS) :=
  if (gI x 1005 0) = 0 then
    (f_M_look N x).bind fun p1 =>
    if p1.1 = 41 then
      (f_M_qBracket N p1.2).bind fun p2 =>
      if p2.1 = 20 then
        f_M_qGoesOn_j43 N k0 p2.2
      else
        (f_M_qBracket N p2.2).bind fun p3 =>
        if p3.1 = 23 then
          f_M_qGoesOn_j43 N k0 p3.2
        else
          (f_M_qBracket N p3.2).bind fun p4 =>
          if p4.1 = 24 then
            f_M_qGoesOn_j43 N k0 p4.2
          else
            f_M_qGoesOn_j122 N p4.2
    else
      f_M_qGoesOn_j122 N p1.2
  else
    f_M_qGoesOn_j122 N x
set_option maxRecDepth 100000 in
set_option maxHeartbeats 4000000 in
theorem t_M_qGoesOn_0 (N : Nat) {x9 : Int32} {s9 : mS} {k0 : mS → Option (Int32 × mS)} (hk0 : SCd Sm R0m oFm nm 4 q_M_qGoesOn (some (.int x9), s9) (x9, s9) 0 (H_M_qGoesOn_0 k0)) : SCd Sm R0m oFm nm 4 q_M_qGoesOn (some (.int x9), s9) (x9, s9) 0 (H_M_qGoesOn_0 (f_M_qGoesOn_L0 N k0)) := by
  intro loc st s
  refine G_cR (fun h0 => ?_)
  refine G_rv0 (fun e9 => ?_)
  subst e9
  refine G_sub (loc0 := [(0, .ref 0)]) (List.forall_mem_cons.mpr ⟨h0, mz_nil⟩) ?_
  exact G_eq (mEv_G (orc := mOrc (oL_M_qGoesOn N)) (ret := rtZ) (blks := bl_M_qGoesOn) (cuts := [(43, H_M_qGoesOn_43 (f_M_qGoesOn_j43 N k0)), (122, H_M_qGoesOn_122 (f_M_qGoesOn_j122 N))]) wOKm (by decide) (oo_M_qGoesOn N) (RetOK_Z rfl) bk_M_qGoesOn (List.forall_mem_cons.mpr ⟨s_M_qGoesOn_43 N hk0, List.forall_mem_cons.mpr ⟨s_M_qGoesOn_122 N, mz_nil⟩⟩)) rfl
theorem s_M_qGoesOn_0 (N : Nat) {x9 : Int32} {s9 : mS} : SCd Sm R0m oFm nm 4 q_M_qGoesOn (some (.int x9), s9) (x9, s9) 0 (H_M_qGoesOn_0 (mfix N (f_M_qGoesOn_L0 N))) := by
  refine mfix_SC (H := H_M_qGoesOn_0) (fun loc st s => ?_) (fun k hk => t_M_qGoesOn_0 N hk) N
  refine G_cR (fun h0 => ?_)
  refine G_rv0 (fun e9 => ?_)
  subst e9
  exact G_none
noncomputable def f_M_qGoesOn (N : Nat) (s : mS) : Option (Int32 × mS) :=
  mfix N (f_M_qGoesOn_L0 N) s
set_option maxRecDepth 100000 in
set_option maxHeartbeats 4000000 in
theorem m_M_qGoesOn (N : Nat) {x9 : Int32} {s9 : mS} {s : mS} (h : f_M_qGoesOn N s = some (x9, s9)) : MetM Sm R0m oFm nm 4 173 [.ref 0] s (some (.int x9)) s9 := by
  refine met_of_G (q := q_M_qGoesOn) (t0 := (x9, s9)) y_M_qGoesOn (Nat.le_of_ble_eq_true rfl) ?_
  rw [← h]
  exact s_M_qGoesOn_0 N _ _ _
noncomputable def C_M_qGoesOn {ρ : Type} (N : Nat) : List Value → mS → (Option Value → mS → Option ρ) → Option ρ := fun vs s kk => sR vs 0 fun r0 => rv0 r0 ((f_M_qGoesOn N s).bind fun p => kk (some (.int p.1)) p.2)
theorem cs_M_qGoesOn {ρ : Type} {t0 : ρ} {d : Nat} (N : Nat) (hd : 4 + 1 ≤ d) : CallOK Sm R0m oFm nm d t0 173 (C_M_qGoesOn N) := by
  intro vs s kk h0
  obtain ⟨r0, rfl, h1⟩ := sR_some h0
  obtain ⟨rfl, h2⟩ := rv0_some h1
  obtain ⟨p, hp, hk⟩ := Option.bind_eq_some_iff.mp h2
  exact ⟨_, _, _, hd, m_M_qGoesOn N hp, hk, fun qy hq hf => by cases y_M_qGoesOn.symm.trans hq; exact ⟨_, _, rfl, rfl⟩⟩
/-! METHOD PorterDoorsModel.qSums()V -/
set_option maxRecDepth 20000 in
noncomputable def q_M_qSums : mI := (⟨"PorterDoorsModel", "qSums", "()V"⟩, prog_13_method_110_code, 3, none, 10, 1480, 139, 1, 0, 1479, 56)
theorem y_M_qSums : mT[163]? = some q_M_qSums := mT_at_4 (k := 3) rfl
noncomputable def bl_M_qSums : List (Nat × List mO) := [(0, [o0 (.aload_n 0), o2 (.getfield 313) 10 92, o0 (.istore_n 1), o0 (.aload_n 0), o0 (.aload_n 0), o2 (.getfield 307) 10 90, o2 (.putfield 313) 10 92, o0 (.iconst 1), o0 (.istore_n 2)]),
  (15, [o0 (.iload_n 2), o1 (.ifCond .eq 37) 53, o0 (.aload_n 0), o2 (.getfield 227) 10 5, o1 (.ifCond .ne 30) 53, o0 (.aload_n 0), o2 (.invokevirtual 579) 164 1, o0 (.aload_n 0), o2 (.getfield 227) 10 5, o1 (.ifCond .ne 14) 48, o0 (.aload_n 0), o2 (.invokevirtual 582) 173 1, o1 (.ifCond .eq 7) 48, o0 (.iconst 1), o1 (.goto 4) 49]),
  (48, [o0 (.iconst 0)]),
  (49, [o0 (.istore_n 2), o1 (.goto (-35)) 15]),
  (53, [o0 (.aload_n 0), o2 (.getfield 227) 10 5, o1 (.ifCond .ne 21) 78, o0 (.aload_n 0), o2 (.getfield 307) 10 90, o0 (.aload_n 0), o2 (.getfield 313) 10 92, o1 (.if_icmp .le 10) 78, o0 (.aload_n 0), o2 (.invokevirtual 549) 172 1, o1 (.goto (-22)) 53]),
  (78, [o0 (.aload_n 0), o0 (.iload_n 1), o2 (.putfield 313) 10 92, o0 (.return_)])]
theorem bk_M_qSums : okBlks q_M_qSums bl_M_qSums = true := by decide +kernel
noncomputable def oL_M_qSums {ρ : Type} (N : Nat) : List (Nat × (List Value → mS → (Option Value → mS → Option ρ) → Option ρ)) := [(164, C_M_qPartTold N), (173, C_M_qGoesOn N), (172, C_M_qDrops N)]
theorem oo_M_qSums {ρ : Type} {t0 : ρ} (N : Nat) : OrcOK Sm R0m oFm nm 7 t0 (mOrc (oL_M_qSums N)) := mOrc_OK (List.forall_mem_cons.mpr ⟨cs_M_qPartTold N (by decide), List.forall_mem_cons.mpr ⟨cs_M_qGoesOn N (by decide), List.forall_mem_cons.mpr ⟨cs_M_qDrops N (by decide), mz_nil⟩⟩⟩)
noncomputable def H_M_qSums_15 {ρ : Type} (k : (Int32 × Int32 × mS) → Option ρ) : mL → List Value → mS → Option ρ := fun loc st s => cR loc 0 0 (li1 loc 1 fun v0 => li1 loc 2 fun v1 => rv0 st (k (v0, v1, s)))
noncomputable def H_M_qSums_53 {ρ : Type} (k : (Int32 × mS) → Option ρ) : mL → List Value → mS → Option ρ := fun loc st s => cR loc 0 0 (li1 loc 1 fun v0 => rv0 st (k (v0, s)))
noncomputable def f_M_qSums_L53 (N : Nat) (k53 : (Int32 × mS) → Option (mS)) (x : Int32 × mS) : Option (mS) :=
  if (gI x.2 1005 0) = 0 then
    if (gI x.2 1092 0) < (gI x.2 1090 0) then
      (f_M_qDrops N x.2).bind fun p3 =>
      k53 (x.1, p3)
    else
      let s2 := sI x.2 1092 0 x.1
      some s2
  else
    let s1 := sI x.2 1092 0 x.1
    some s1
set_option maxRecDepth 100000 in
set_option maxHeartbeats 4000000 in
theorem t_M_qSums_53 (N : Nat) {s9 : mS} {k53 : (Int32 × mS) → Option (mS)} (hk53 : SCd Sm R0m oFm nm 7 q_M_qSums (none, s9) s9 53 (H_M_qSums_53 k53)) : SCd Sm R0m oFm nm 7 q_M_qSums (none, s9) s9 53 (H_M_qSums_53 (f_M_qSums_L53 N k53)) := by
  intro loc st s
  refine G_cR (fun h0 => ?_)
  refine G_li (fun v0 h1 => ?_)
  refine G_rv0 (fun e9 => ?_)
  subst e9
  refine G_sub (loc0 := [(0, .ref 0), (1, .int v0)]) (List.forall_mem_cons.mpr ⟨h0, List.forall_mem_cons.mpr ⟨h1, mz_nil⟩⟩) ?_
  exact G_eq (mEv_G (orc := mOrc (oL_M_qSums N)) (ret := rtV) (blks := bl_M_qSums) (cuts := [(53, H_M_qSums_53 k53)]) wOKm (by decide) (oo_M_qSums N) (RetOK_V rfl) bk_M_qSums (List.forall_mem_cons.mpr ⟨hk53, mz_nil⟩)) rfl
theorem s_M_qSums_53 (N : Nat) {s9 : mS} : SCd Sm R0m oFm nm 7 q_M_qSums (none, s9) s9 53 (H_M_qSums_53 (mfix N (f_M_qSums_L53 N))) := by
  refine mfix_SC (H := H_M_qSums_53) (fun loc st s => ?_) (fun k hk => t_M_qSums_53 N hk) N
  refine G_cR (fun h0 => ?_)
  refine G_li (fun v0 h1 => ?_)
  refine G_rv0 (fun e9 => ?_)
  subst e9
  exact G_none
noncomputable def f_M_qSums_L15 (N : Nat) (k15 : (Int32 × Int32 × mS) → Option (mS)) (x : Int32 × Int32 × mS) : Option (mS) :=
  if x.2.1 = 0 then
    mfix N (f_M_qSums_L53 N) (x.1, x.2.2)
  else
    if (gI x.2.2 1005 0) = 0 then
      (f_M_qPartTold N x.2.2).bind fun p1 =>
      if (gI p1 1005 0) = 0 then
        (f_M_qGoesOn N p1).bind fun p2 =>
        if p2.1 = 0 then
          k15 (x.1, 0, p2.2)
        else
          k15 (x.1, 1, p2.2)
      else
        k15 (x.1, 0, p1)
    else
      mfix N (f_M_qSums_L53 N) (x.1, x.2.2)
set_option maxRecDepth 100000 in
set_option maxHeartbeats 4000000 in
theorem t_M_qSums_15 (N : Nat) {s9 : mS} {k15 : (Int32 × Int32 × mS) → Option (mS)} (hk15 : SCd Sm R0m oFm nm 7 q_M_qSums (none, s9) s9 15 (H_M_qSums_15 k15)) : SCd Sm R0m oFm nm 7 q_M_qSums (none, s9) s9 15 (H_M_qSums_15 (f_M_qSums_L15 N k15)) := by
  intro loc st s
  refine G_cR (fun h0 => ?_)
  refine G_li (fun v0 h1 => ?_)
  refine G_li (fun v1 h2 => ?_)
  refine G_rv0 (fun e9 => ?_)
  subst e9
  refine G_sub (loc0 := [(0, .ref 0), (1, .int v0), (2, .int v1)]) (List.forall_mem_cons.mpr ⟨h0, List.forall_mem_cons.mpr ⟨h1, List.forall_mem_cons.mpr ⟨h2, mz_nil⟩⟩⟩) ?_
  exact G_eq (mEv_G (orc := mOrc (oL_M_qSums N)) (ret := rtV) (blks := bl_M_qSums) (cuts := [(15, H_M_qSums_15 k15), (53, H_M_qSums_53 (mfix N (f_M_qSums_L53 N)))]) wOKm (by decide) (oo_M_qSums N) (RetOK_V rfl) bk_M_qSums (List.forall_mem_cons.mpr ⟨hk15, List.forall_mem_cons.mpr ⟨s_M_qSums_53 N, mz_nil⟩⟩)) rfl
theorem s_M_qSums_15 (N : Nat) {s9 : mS} : SCd Sm R0m oFm nm 7 q_M_qSums (none, s9) s9 15 (H_M_qSums_15 (mfix N (f_M_qSums_L15 N))) := by
  refine mfix_SC (H := H_M_qSums_15) (fun loc st s => ?_) (fun k hk => t_M_qSums_15 N hk) N
  refine G_cR (fun h0 => ?_)
  refine G_li (fun v0 h1 => ?_)
  refine G_li (fun v1 h2 => ?_)
  refine G_rv0 (fun e9 => ?_)
  subst e9
  exact G_none
noncomputable def f_M_qSums (N : Nat) (s : mS) : Option (mS) :=
  let s1 := sI s 1092 0 (gI s 1090 0)
  mfix N (f_M_qSums_L15 N) ((gI s 1092 0), 1, s1)
set_option maxRecDepth 100000 in
set_option maxHeartbeats 4000000 in
theorem m_M_qSums (N : Nat) {s9 : mS} {s : mS} (h : f_M_qSums N s = some s9) : MetM Sm R0m oFm nm 7 163 [.ref 0] s (none) s9 := by
  refine met_of_G (q := q_M_qSums) (t0 := s9) y_M_qSums (Nat.le_of_ble_eq_true rfl) ?_
  rw [← h]
  exact G_eq (mEv_G (orc := mOrc (oL_M_qSums N)) (ret := rtV) (blks := bl_M_qSums) (cuts := [(15, H_M_qSums_15 (mfix N (f_M_qSums_L15 N)))]) wOKm (by decide) (oo_M_qSums N) (RetOK_V rfl) bk_M_qSums (List.forall_mem_cons.mpr ⟨s_M_qSums_15 N, mz_nil⟩)) rfl
noncomputable def C_M_qSums {ρ : Type} (N : Nat) : List Value → mS → (Option Value → mS → Option ρ) → Option ρ := fun vs s kk => sR vs 0 fun r0 => rv0 r0 ((f_M_qSums N s).bind fun p => kk none p)
theorem cs_M_qSums {ρ : Type} {t0 : ρ} {d : Nat} (N : Nat) (hd : 7 + 1 ≤ d) : CallOK Sm R0m oFm nm d t0 163 (C_M_qSums N) := by
  intro vs s kk h0
  obtain ⟨r0, rfl, h1⟩ := sR_some h0
  obtain ⟨rfl, h2⟩ := rv0_some h1
  obtain ⟨p, hp, hk⟩ := Option.bind_eq_some_iff.mp h2
  exact ⟨_, _, _, hd, m_M_qSums N hp, hk, fun qy hq hf => by cases y_M_qSums.symm.trans hq; exact ⟨_, _, rfl, rfl⟩⟩
/-! METHOD PorterDoorsModel.qFact()V -/
set_option maxRecDepth 20000 in
noncomputable def q_M_qFact : mI := (⟨"PorterDoorsModel", "qFact", "()V"⟩, prog_13_method_111_code, 2, none, 10, 1545, 139, 1, 0, 1544, 71)
theorem y_M_qFact : mT[179]? = some q_M_qFact := mT_at_4 (k := 19) rfl
noncomputable def bl_M_qFact : List (Nat × List mO) := [(0, [o0 (.aload_n 0), o0 (.aload_n 0), o2 (.getfield 168) 10 73, o2 (.invokevirtual 254) 148 2, o1 (.ifCond .eq 10) 18, o0 (.aload_n 0), o0 (.bipush 13), o2 (.invokevirtual 543) 170 2, o0 (.return_)]),
  (18, [o0 (.aload_n 0), o2 (.invokevirtual 316) 163 1, o0 (.aload_n 0), o2 (.getfield 227) 10 5, o1 (.ifCond .eq 4) 30, o0 (.return_)]),
  (30, [o0 (.aload_n 0), o2 (.invokevirtual 239) 150 1, o0 (.istore_n 1), o0 (.iload_n 1), o0 (.bipush 60), o1 (.if_icmp .eq 25) 63, o0 (.iload_n 1), o0 (.bipush 62), o1 (.if_icmp .eq 19) 63, o0 (.iload_n 1), o0 (.bipush 61), o1 (.if_icmp .eq 13) 63, o0 (.aload_n 0), o0 (.iconst 1), o0 (.aload_n 0), o2 (.getfield 233) 10 2, o2 (.invokevirtual 257) 152 3, o0 (.return_)]),
  (63, [o0 (.aload_n 0), o0 (.dup), o2 (.getfield 233) 10 2, o0 (.iconst 1), o0 (.iadd), o2 (.putfield 233) 10 2, o0 (.aload_n 0), o2 (.invokevirtual 316) 163 1, o0 (.aload_n 0), o0 (.iload_n 1), o0 (.bipush 60), o1 (.if_icmp .ne 8) 89, o0 (.bipush 7), o1 (.goto 16) 102]),
  (89, [o0 (.iload_n 1), o0 (.bipush 62), o1 (.if_icmp .ne 8) 100, o0 (.bipush 8), o1 (.goto 5) 102]),
  (100, [o0 (.bipush 9)]),
  (102, [o2 (.invokevirtual 543) 170 2, o0 (.return_)])]
theorem bk_M_qFact : okBlks q_M_qFact bl_M_qFact = true := by decide +kernel
noncomputable def oL_M_qFact {ρ : Type} (N : Nat) : List (Nat × (List Value → mS → (Option Value → mS → Option ρ) → Option ρ)) := [(148, C_M_takes N), (170, C_M_qCode N), (163, C_M_qSums N), (150, C_M_look N), (152, C_M_fail N)]
theorem oo_M_qFact {ρ : Type} {t0 : ρ} (N : Nat) : OrcOK Sm R0m oFm nm 8 t0 (mOrc (oL_M_qFact N)) := mOrc_OK (List.forall_mem_cons.mpr ⟨cs_M_takes N (by decide), List.forall_mem_cons.mpr ⟨cs_M_qCode N (by decide), List.forall_mem_cons.mpr ⟨cs_M_qSums N (by decide), List.forall_mem_cons.mpr ⟨cs_M_look N (by decide), List.forall_mem_cons.mpr ⟨cs_M_fail N (by decide), mz_nil⟩⟩⟩⟩⟩)
noncomputable def H_M_qFact_63 {ρ : Type} (k : (Int32 × mS) → Option ρ) : mL → List Value → mS → Option ρ := fun loc st s => cR loc 0 0 (li1 loc 1 fun v0 => rv0 st (k (v0, s)))
noncomputable def f_M_qFact_j63 (N : Nat) (x : Int32 × mS) : Option (mS) :=
  let s1 := sI x.2 1002 0 ((gI x.2 1002 0) + 1)
  (f_M_qSums N s1).bind fun p2 =>
  if x.1 = 60 then
    (f_M_qCode N 7 p2).bind fun p5 =>
    some p5
  else
    if x.1 = 62 then
      (f_M_qCode N 8 p2).bind fun p4 =>
      some p4
    else
      (f_M_qCode N 9 p2).bind fun p3 =>
      some p3
set_option maxRecDepth 100000 in
set_option maxHeartbeats 4000000 in
theorem s_M_qFact_63 (N : Nat) {s9 : mS} : SCd Sm R0m oFm nm 8 q_M_qFact (none, s9) s9 63 (H_M_qFact_63 (f_M_qFact_j63 N)) := by
  intro loc st s
  refine G_cR (fun h0 => ?_)
  refine G_li (fun v0 h1 => ?_)
  refine G_rv0 (fun e9 => ?_)
  subst e9
  refine G_sub (loc0 := [(0, .ref 0), (1, .int v0)]) (List.forall_mem_cons.mpr ⟨h0, List.forall_mem_cons.mpr ⟨h1, mz_nil⟩⟩) ?_
  exact G_eq (mEv_G (orc := mOrc (oL_M_qFact N)) (ret := rtV) (blks := bl_M_qFact) (cuts := []) wOKm (by decide) (oo_M_qFact N) (RetOK_V rfl) bk_M_qFact (mz_nil)) rfl
noncomputable def f_M_qFact (N : Nat) (s : mS) : Option (mS) :=
  (f_M_takes N 50 s).bind fun p1 =>
  if p1.1 = 0 then
    (f_M_qSums N p1.2).bind fun p2 =>
    if (gI p2 1005 0) = 0 then
      (f_M_look N p2).bind fun p3 =>
      if p3.1 = 60 then
        f_M_qFact_j63 N (p3.1, p3.2)
      else
        if p3.1 = 62 then
          f_M_qFact_j63 N (p3.1, p3.2)
        else
          if p3.1 = 61 then
            f_M_qFact_j63 N (p3.1, p3.2)
          else
            (f_M_fail N 1 (gI p3.2 1002 0) p3.2).bind fun p4 =>
            some p4
    else
      some p2
  else
    (f_M_qCode N 13 p1.2).bind fun p5 =>
    some p5
set_option maxRecDepth 100000 in
set_option maxHeartbeats 4000000 in
theorem m_M_qFact (N : Nat) {s9 : mS} {s : mS} (h : f_M_qFact N s = some s9) : MetM Sm R0m oFm nm 8 179 [.ref 0] s (none) s9 := by
  refine met_of_G (q := q_M_qFact) (t0 := s9) y_M_qFact (Nat.le_of_ble_eq_true rfl) ?_
  rw [← h]
  exact G_eq (mEv_G (orc := mOrc (oL_M_qFact N)) (ret := rtV) (blks := bl_M_qFact) (cuts := [(63, H_M_qFact_63 (f_M_qFact_j63 N))]) wOKm (by decide) (oo_M_qFact N) (RetOK_V rfl) bk_M_qFact (List.forall_mem_cons.mpr ⟨s_M_qFact_63 N, mz_nil⟩)) rfl
noncomputable def C_M_qFact {ρ : Type} (N : Nat) : List Value → mS → (Option Value → mS → Option ρ) → Option ρ := fun vs s kk => sR vs 0 fun r0 => rv0 r0 ((f_M_qFact N s).bind fun p => kk none p)
theorem cs_M_qFact {ρ : Type} {t0 : ρ} {d : Nat} (N : Nat) (hd : 8 + 1 ≤ d) : CallOK Sm R0m oFm nm d t0 179 (C_M_qFact N) := by
  intro vs s kk h0
  obtain ⟨r0, rfl, h1⟩ := sR_some h0
  obtain ⟨rfl, h2⟩ := rv0_some h1
  obtain ⟨p, hp, hk⟩ := Option.bind_eq_some_iff.mp h2
  exact ⟨_, _, _, hd, m_M_qFact N hp, hk, fun qy hq hf => by cases y_M_qFact.symm.trans hq; exact ⟨_, _, rfl, rfl⟩⟩
/-! METHOD PorterDoorsModel.qDropsNots()V -/
set_option maxRecDepth 20000 in
noncomputable def q_M_qDropsNots : mI := (⟨"PorterDoorsModel", "qDropsNots", "()V"⟩, prog_13_method_113_code, 1, none, 10, 1549, 139, 1, 0, 1548, 72)
theorem y_M_qDropsNots : mT[180]? = some q_M_qDropsNots := mT_at_4 (k := 20) rfl
noncomputable def bl_M_qDropsNots : List (Nat × List mO) := [(0, [o0 (.aload_n 0), o2 (.getfield 227) 10 5, o1 (.ifCond .ne 29) 33, o0 (.aload_n 0), o0 (.bipush 12), o2 (.invokevirtual 576) 177 2, o1 (.ifCond .eq 20) 33, o0 (.aload_n 0), o0 (.dup), o2 (.getfield 310) 10 91, o0 (.iconst 1), o0 (.isub), o2 (.putfield 310) 10 91, o0 (.aload_n 0), o2 (.invokevirtual 549) 172 1, o1 (.goto (-30)) 0]),
  (33, [o0 (.return_)])]
theorem bk_M_qDropsNots : okBlks q_M_qDropsNots bl_M_qDropsNots = true := by decide +kernel
noncomputable def oL_M_qDropsNots {ρ : Type} (N : Nat) : List (Nat × (List Value → mS → (Option Value → mS → Option ρ) → Option ρ)) := [(177, C_M_qIsOn N), (172, C_M_qDrops N)]
theorem oo_M_qDropsNots {ρ : Type} {t0 : ρ} (N : Nat) : OrcOK Sm R0m oFm nm 3 t0 (mOrc (oL_M_qDropsNots N)) := mOrc_OK (List.forall_mem_cons.mpr ⟨cs_M_qIsOn N (by decide), List.forall_mem_cons.mpr ⟨cs_M_qDrops N (by decide), mz_nil⟩⟩)
noncomputable def H_M_qDropsNots_0 {ρ : Type} (k : mS → Option ρ) : mL → List Value → mS → Option ρ := fun loc st s => cR loc 0 0 (rv0 st (k s))
noncomputable def f_M_qDropsNots_L0 (N : Nat) (k0 : mS → Option (mS)) (x : mS) : Option (mS) :=
  if (gI x 1005 0) = 0 then
    (f_M_qIsOn N 12 x).bind fun p1 =>
    if p1.1 = 0 then
      some p1.2
    else
      let s2 := sI p1.2 1091 0 ((gI p1.2 1091 0) - 1)
      (f_M_qDrops N s2).bind fun p3 =>
      k0 p3
  else
    some x
set_option maxRecDepth 100000 in
set_option maxHeartbeats 4000000 in
theorem t_M_qDropsNots_0 (N : Nat) {s9 : mS} {k0 : mS → Option (mS)} (hk0 : SCd Sm R0m oFm nm 3 q_M_qDropsNots (none, s9) s9 0 (H_M_qDropsNots_0 k0)) : SCd Sm R0m oFm nm 3 q_M_qDropsNots (none, s9) s9 0 (H_M_qDropsNots_0 (f_M_qDropsNots_L0 N k0)) := by
  intro loc st s
  refine G_cR (fun h0 => ?_)
  refine G_rv0 (fun e9 => ?_)
  subst e9
  refine G_sub (loc0 := [(0, .ref 0)]) (List.forall_mem_cons.mpr ⟨h0, mz_nil⟩) ?_
  exact G_eq (mEv_G (orc := mOrc (oL_M_qDropsNots N)) (ret := rtV) (blks := bl_M_qDropsNots) (cuts := [(0, H_M_qDropsNots_0 k0)]) wOKm (by decide) (oo_M_qDropsNots N) (RetOK_V rfl) bk_M_qDropsNots (List.forall_mem_cons.mpr ⟨hk0, mz_nil⟩)) rfl
theorem s_M_qDropsNots_0 (N : Nat) {s9 : mS} : SCd Sm R0m oFm nm 3 q_M_qDropsNots (none, s9) s9 0 (H_M_qDropsNots_0 (mfix N (f_M_qDropsNots_L0 N))) := by
  refine mfix_SC (H := H_M_qDropsNots_0) (fun loc st s => ?_) (fun k hk => t_M_qDropsNots_0 N hk) N
  refine G_cR (fun h0 => ?_)
  refine G_rv0 (fun e9 => ?_)
  subst e9
  exact G_none
noncomputable def f_M_qDropsNots (N : Nat) (s : mS) : Option (mS) :=
  mfix N (f_M_qDropsNots_L0 N) s
set_option maxRecDepth 100000 in
set_option maxHeartbeats 4000000 in
theorem m_M_qDropsNots (N : Nat) {s9 : mS} {s : mS} (h : f_M_qDropsNots N s = some s9) : MetM Sm R0m oFm nm 3 180 [.ref 0] s (none) s9 := by
  refine met_of_G (q := q_M_qDropsNots) (t0 := s9) y_M_qDropsNots (Nat.le_of_ble_eq_true rfl) ?_
  rw [← h]
  exact s_M_qDropsNots_0 N _ _ _
noncomputable def C_M_qDropsNots {ρ : Type} (N : Nat) : List Value → mS → (Option Value → mS → Option ρ) → Option ρ := fun vs s kk => sR vs 0 fun r0 => rv0 r0 ((f_M_qDropsNots N s).bind fun p => kk none p)
theorem cs_M_qDropsNots {ρ : Type} {t0 : ρ} {d : Nat} (N : Nat) (hd : 3 + 1 ≤ d) : CallOK Sm R0m oFm nm d t0 180 (C_M_qDropsNots N) := by
  intro vs s kk h0
  obtain ⟨r0, rfl, h1⟩ := sR_some h0
  obtain ⟨rfl, h2⟩ := rv0_some h1
  obtain ⟨p, hp, hk⟩ := Option.bind_eq_some_iff.mp h2
  exact ⟨_, _, _, hd, m_M_qDropsNots N hp, hk, fun qy hq hf => by cases y_M_qDropsNots.symm.trans hq; exact ⟨_, _, rfl, rfl⟩⟩
/-! METHOD PorterDoorsModel.qHasSquare()Z -/
set_option maxRecDepth 20000 in
noncomputable def q_M_qHasSquare : mI := (⟨"PorterDoorsModel", "qHasSquare", "()Z"⟩, prog_13_method_112_code, 2, (some .boolean), 10, 1557, 139, 1, 0, 1556, 74)
theorem y_M_qHasSquare : mT[182]? = some q_M_qHasSquare := mT_at_4 (k := 22) rfl
noncomputable def bl_M_qHasSquare : List (Nat × List mO) := [(0, [o0 (.iconst 0), o0 (.istore_n 1)]),
  (2, [o0 (.iload_n 1), o0 (.aload_n 0), o2 (.getfield 307) 10 90, o1 (.if_icmp .ge 22) 29, o0 (.aload_n 0), o2 (.getfield 213) 10 89, o0 (.iload_n 1), o0 (.iaload), o0 (.bipush 25), o1 (.if_icmp .ne 5) 23, o0 (.iconst 1), o0 (.ireturn)]),
  (23, [o0 (.iinc 1 1), o1 (.goto (-24)) 2]),
  (29, [o0 (.iconst 0), o0 (.ireturn)])]
theorem bk_M_qHasSquare : okBlks q_M_qHasSquare bl_M_qHasSquare = true := by decide +kernel
noncomputable def oL_M_qHasSquare {ρ : Type} (N : Nat) : List (Nat × (List Value → mS → (Option Value → mS → Option ρ) → Option ρ)) := []
theorem oo_M_qHasSquare {ρ : Type} {t0 : ρ} (N : Nat) : OrcOK Sm R0m oFm nm 1 t0 (mOrc (oL_M_qHasSquare N)) := mOrc_OK (mz_nil)
noncomputable def H_M_qHasSquare_2 {ρ : Type} (k : (Int32 × mS) → Option ρ) : mL → List Value → mS → Option ρ := fun loc st s => cR loc 0 0 (li1 loc 1 fun v0 => rv0 st (k (v0, s)))
noncomputable def f_M_qHasSquare_L2 (N : Nat) (k2 : (Int32 × mS) → Option (Int32 × mS)) (x : Int32 × mS) : Option (Int32 × mS) :=
  if x.1 < (gI x.2 1090 0) then
    grd (inb x.1 1700) (
    if (gA x.2 65 (ix x.1)) = 25 then
      some (1, x.2)
    else
      k2 ((x.1 + 1), x.2))
  else
    some (0, x.2)
set_option maxRecDepth 100000 in
set_option maxHeartbeats 4000000 in
theorem t_M_qHasSquare_2 (N : Nat) {x9 : Int32} {s9 : mS} {k2 : (Int32 × mS) → Option (Int32 × mS)} (hk2 : SCd Sm R0m oFm nm 1 q_M_qHasSquare (some (.int x9), s9) (x9, s9) 2 (H_M_qHasSquare_2 k2)) : SCd Sm R0m oFm nm 1 q_M_qHasSquare (some (.int x9), s9) (x9, s9) 2 (H_M_qHasSquare_2 (f_M_qHasSquare_L2 N k2)) := by
  intro loc st s
  refine G_cR (fun h0 => ?_)
  refine G_li (fun v0 h1 => ?_)
  refine G_rv0 (fun e9 => ?_)
  subst e9
  refine G_sub (loc0 := [(0, .ref 0), (1, .int v0)]) (List.forall_mem_cons.mpr ⟨h0, List.forall_mem_cons.mpr ⟨h1, mz_nil⟩⟩) ?_
  exact G_eq (mEv_G (orc := mOrc (oL_M_qHasSquare N)) (ret := rtZ) (blks := bl_M_qHasSquare) (cuts := [(2, H_M_qHasSquare_2 k2)]) wOKm (by decide) (oo_M_qHasSquare N) (RetOK_Z rfl) bk_M_qHasSquare (List.forall_mem_cons.mpr ⟨hk2, mz_nil⟩)) rfl
theorem s_M_qHasSquare_2 (N : Nat) {x9 : Int32} {s9 : mS} : SCd Sm R0m oFm nm 1 q_M_qHasSquare (some (.int x9), s9) (x9, s9) 2 (H_M_qHasSquare_2 (mfix N (f_M_qHasSquare_L2 N))) := by
  refine mfix_SC (H := H_M_qHasSquare_2) (fun loc st s => ?_) (fun k hk => t_M_qHasSquare_2 N hk) N
  refine G_cR (fun h0 => ?_)
  refine G_li (fun v0 h1 => ?_)
  refine G_rv0 (fun e9 => ?_)
  subst e9
  exact G_none
noncomputable def f_M_qHasSquare (N : Nat) (s : mS) : Option (Int32 × mS) :=
  mfix N (f_M_qHasSquare_L2 N) (0, s)
set_option maxRecDepth 100000 in
set_option maxHeartbeats 4000000 in
theorem m_M_qHasSquare (N : Nat) {x9 : Int32} {s9 : mS} {s : mS} (h : f_M_qHasSquare N s = some (x9, s9)) : MetM Sm R0m oFm nm 1 182 [.ref 0] s (some (.int x9)) s9 := by
  refine met_of_G (q := q_M_qHasSquare) (t0 := (x9, s9)) y_M_qHasSquare (Nat.le_of_ble_eq_true rfl) ?_
  rw [← h]
  exact G_eq (mEv_G (orc := mOrc (oL_M_qHasSquare N)) (ret := rtZ) (blks := bl_M_qHasSquare) (cuts := [(2, H_M_qHasSquare_2 (mfix N (f_M_qHasSquare_L2 N)))]) wOKm (by decide) (oo_M_qHasSquare N) (RetOK_Z rfl) bk_M_qHasSquare (List.forall_mem_cons.mpr ⟨s_M_qHasSquare_2 N, mz_nil⟩)) rfl
noncomputable def C_M_qHasSquare {ρ : Type} (N : Nat) : List Value → mS → (Option Value → mS → Option ρ) → Option ρ := fun vs s kk => sR vs 0 fun r0 => rv0 r0 ((f_M_qHasSquare N s).bind fun p => kk (some (.int p.1)) p.2)
theorem cs_M_qHasSquare {ρ : Type} {t0 : ρ} {d : Nat} (N : Nat) (hd : 1 + 1 ≤ d) : CallOK Sm R0m oFm nm d t0 182 (C_M_qHasSquare N) := by
  intro vs s kk h0
  obtain ⟨r0, rfl, h1⟩ := sR_some h0
  obtain ⟨rfl, h2⟩ := rv0_some h1
  obtain ⟨p, hp, hk⟩ := Option.bind_eq_some_iff.mp h2
  exact ⟨_, _, _, hd, m_M_qHasSquare N hp, hk, fun qy hq hf => by cases y_M_qHasSquare.symm.trans hq; exact ⟨_, _, rfl, rfl⟩⟩
/-! METHOD PorterDoorsModel.qGoesOnTest()Z -/
set_option maxRecDepth 20000 in
noncomputable def q_M_qGoesOnTest : mI := (⟨"PorterDoorsModel", "qGoesOnTest", "()Z"⟩, prog_13_method_115_code, 1, (some .boolean), 10, 1553, 139, 1, 0, 1552, 73)
theorem y_M_qGoesOnTest : mT[181]? = some q_M_qGoesOnTest := mT_at_4 (k := 21) rfl
noncomputable def bl_M_qGoesOnTest : List (Nat × List mO) := [(0, [o0 (.aload_n 0), o2 (.getfield 227) 10 5, o1 (.ifCond .ne 72) 76, o0 (.aload_n 0), o2 (.invokevirtual 239) 150 1, o0 (.bipush 93), o1 (.if_icmp .ne 63) 76, o0 (.aload_n 0), o2 (.invokevirtual 594) 182 1, o1 (.ifCond .eq 56) 76, o0 (.aload_n 0), o0 (.dup), o2 (.getfield 233) 10 2, o0 (.iconst 1), o0 (.iadd), o2 (.putfield 233) 10 2]),
  (33, [o0 (.aload_n 0), o0 (.bipush 25), o2 (.invokevirtual 576) 177 2, o1 (.ifCond .ne 10) 49, o0 (.aload_n 0), o2 (.invokevirtual 549) 172 1, o1 (.goto (-13)) 33]),
  (49, [o0 (.aload_n 0), o0 (.dup), o2 (.getfield 307) 10 90, o0 (.iconst 1), o0 (.isub), o2 (.putfield 307) 10 90, o0 (.aload_n 0), o0 (.dup), o2 (.getfield 310) 10 91, o0 (.iconst 1), o0 (.isub), o2 (.putfield 310) 10 91, o0 (.aload_n 0), o2 (.invokevirtual 588) 180 1, o1 (.goto (-73)) 0]),
  (76, [o0 (.aload_n 0), o0 (.aload_n 0), o2 (.getfield 162) 10 71, o2 (.invokevirtual 254) 148 2, o1 (.ifCond .eq 42) 126]),
  (87, [o0 (.aload_n 0), o0 (.bipush 10), o2 (.invokevirtual 576) 177 2, o1 (.ifCond .eq 10) 103, o0 (.aload_n 0), o2 (.invokevirtual 549) 172 1, o1 (.goto (-13)) 87]),
  (103, [o0 (.aload_n 0), o2 (.getfield 213) 10 89, o0 (.aload_n 0), o2 (.getfield 307) 10 90, o0 (.bipush 10), o0 (.iastore), o0 (.aload_n 0), o0 (.dup), o2 (.getfield 307) 10 90, o0 (.iconst 1), o0 (.iadd), o2 (.putfield 307) 10 90, o0 (.iconst 1), o0 (.ireturn)]),
  (126, [o0 (.aload_n 0), o0 (.aload_n 0), o2 (.getfield 165) 10 72, o2 (.invokevirtual 254) 148 2, o1 (.ifCond .eq 51) 185]),
  (137, [o0 (.aload_n 0), o0 (.bipush 10), o2 (.invokevirtual 576) 177 2, o1 (.ifCond .ne 12) 155, o0 (.aload_n 0), o0 (.bipush 11), o2 (.invokevirtual 576) 177 2, o1 (.ifCond .eq 10) 162]),
  (155, [o0 (.aload_n 0), o2 (.invokevirtual 549) 172 1, o1 (.goto (-22)) 137]),
  (162, [o0 (.aload_n 0), o2 (.getfield 213) 10 89, o0 (.aload_n 0), o2 (.getfield 307) 10 90, o0 (.bipush 11), o0 (.iastore), o0 (.aload_n 0), o0 (.dup), o2 (.getfield 307) 10 90, o0 (.iconst 1), o0 (.iadd), o2 (.putfield 307) 10 90, o0 (.iconst 1), o0 (.ireturn)]),
  (185, [o0 (.aload_n 0), o2 (.getfield 227) 10 5, o1 (.ifCond .ne 19) 208, o0 (.aload_n 0), o2 (.invokevirtual 594) 182 1, o1 (.ifCond .eq 12) 208, o0 (.aload_n 0), o0 (.iconst 1), o0 (.aload_n 0), o2 (.getfield 233) 10 2, o2 (.invokevirtual 257) 152 3]),
  (208, [o0 (.iconst 0), o0 (.ireturn)])]
theorem bk_M_qGoesOnTest : okBlks q_M_qGoesOnTest bl_M_qGoesOnTest = true := by decide +kernel
noncomputable def oL_M_qGoesOnTest {ρ : Type} (N : Nat) : List (Nat × (List Value → mS → (Option Value → mS → Option ρ) → Option ρ)) := [(150, C_M_look N), (182, C_M_qHasSquare N), (177, C_M_qIsOn N), (172, C_M_qDrops N), (180, C_M_qDropsNots N), (148, C_M_takes N), (152, C_M_fail N)]
theorem oo_M_qGoesOnTest {ρ : Type} {t0 : ρ} (N : Nat) : OrcOK Sm R0m oFm nm 4 t0 (mOrc (oL_M_qGoesOnTest N)) := mOrc_OK (List.forall_mem_cons.mpr ⟨cs_M_look N (by decide), List.forall_mem_cons.mpr ⟨cs_M_qHasSquare N (by decide), List.forall_mem_cons.mpr ⟨cs_M_qIsOn N (by decide), List.forall_mem_cons.mpr ⟨cs_M_qDrops N (by decide), List.forall_mem_cons.mpr ⟨cs_M_qDropsNots N (by decide), List.forall_mem_cons.mpr ⟨cs_M_takes N (by decide), List.forall_mem_cons.mpr ⟨cs_M_fail N (by decide), mz_nil⟩⟩⟩⟩⟩⟩⟩)
noncomputable def H_M_qGoesOnTest_0 {ρ : Type} (k : mS → Option ρ) : mL → List Value → mS → Option ρ := fun loc st s => cR loc 0 0 (rv0 st (k s))
noncomputable def H_M_qGoesOnTest_33 {ρ : Type} (k : mS → Option ρ) : mL → List Value → mS → Option ρ := fun loc st s => cR loc 0 0 (rv0 st (k s))
noncomputable def H_M_qGoesOnTest_76 {ρ : Type} (k : mS → Option ρ) : mL → List Value → mS → Option ρ := fun loc st s => cR loc 0 0 (rv0 st (k s))
noncomputable def H_M_qGoesOnTest_87 {ρ : Type} (k : mS → Option ρ) : mL → List Value → mS → Option ρ := fun loc st s => cR loc 0 0 (rv0 st (k s))
noncomputable def H_M_qGoesOnTest_137 {ρ : Type} (k : mS → Option ρ) : mL → List Value → mS → Option ρ := fun loc st s => cR loc 0 0 (rv0 st (k s))
noncomputable def f_M_qGoesOnTest_L33 (N : Nat) (k0 : mS → Option (Int32 × mS)) (k33 : mS → Option (Int32 × mS)) (x : mS) : Option (Int32 × mS) :=
  (f_M_qIsOn N 25 x).bind fun p1 =>
  if p1.1 = 0 then
    (f_M_qDrops N p1.2).bind fun p5 =>
    k33 p5
  else
    let s2 := sI p1.2 1090 0 ((gI p1.2 1090 0) - 1)
    let s3 := sI s2 1091 0 ((gI s2 1091 0) - 1)
    (f_M_qDropsNots N s3).bind fun p4 =>
    k0 p4
set_option maxRecDepth 100000 in
set_option maxHeartbeats 4000000 in
theorem t_M_qGoesOnTest_33 (N : Nat) {x9 : Int32} {s9 : mS} {k0 : mS → Option (Int32 × mS)} (hk0 : SCd Sm R0m oFm nm 4 q_M_qGoesOnTest (some (.int x9), s9) (x9, s9) 0 (H_M_qGoesOnTest_0 k0)) {k33 : mS → Option (Int32 × mS)} (hk33 : SCd Sm R0m oFm nm 4 q_M_qGoesOnTest (some (.int x9), s9) (x9, s9) 33 (H_M_qGoesOnTest_33 k33)) : SCd Sm R0m oFm nm 4 q_M_qGoesOnTest (some (.int x9), s9) (x9, s9) 33 (H_M_qGoesOnTest_33 (f_M_qGoesOnTest_L33 N k0 k33)) := by
  intro loc st s
  refine G_cR (fun h0 => ?_)
  refine G_rv0 (fun e9 => ?_)
  subst e9
  refine G_sub (loc0 := [(0, .ref 0)]) (List.forall_mem_cons.mpr ⟨h0, mz_nil⟩) ?_
  exact G_eq (mEv_G (orc := mOrc (oL_M_qGoesOnTest N)) (ret := rtZ) (blks := bl_M_qGoesOnTest) (cuts := [(0, H_M_qGoesOnTest_0 k0), (33, H_M_qGoesOnTest_33 k33)]) wOKm (by decide) (oo_M_qGoesOnTest N) (RetOK_Z rfl) bk_M_qGoesOnTest (List.forall_mem_cons.mpr ⟨hk0, List.forall_mem_cons.mpr ⟨hk33, mz_nil⟩⟩)) rfl
theorem s_M_qGoesOnTest_33 (N : Nat) {x9 : Int32} {s9 : mS} {k0 : mS → Option (Int32 × mS)} (hk0 : SCd Sm R0m oFm nm 4 q_M_qGoesOnTest (some (.int x9), s9) (x9, s9) 0 (H_M_qGoesOnTest_0 k0)) : SCd Sm R0m oFm nm 4 q_M_qGoesOnTest (some (.int x9), s9) (x9, s9) 33 (H_M_qGoesOnTest_33 (mfix N (f_M_qGoesOnTest_L33 N k0))) := by
  refine mfix_SC (H := H_M_qGoesOnTest_33) (fun loc st s => ?_) (fun k hk => t_M_qGoesOnTest_33 N hk0 hk) N
  refine G_cR (fun h0 => ?_)
  refine G_rv0 (fun e9 => ?_)
  subst e9
  exact G_none
noncomputable def f_M_qGoesOnTest_L87 (N : Nat) (k87 : mS → Option (Int32 × mS)) (x : mS) : Option (Int32 × mS) :=
  (f_M_qIsOn N 10 x).bind fun p1 =>
  if p1.1 = 0 then
    grd (inb (gI p1.2 1090 0) 1700) (
    let s2 := sA p1.2 65 (ix (gI p1.2 1090 0)) 10
    let s3 := sI s2 1090 0 ((gI s2 1090 0) + 1)
    some (1, s3))
  else
    (f_M_qDrops N p1.2).bind fun p4 =>
    k87 p4
set_option maxRecDepth 100000 in
set_option maxHeartbeats 4000000 in
theorem t_M_qGoesOnTest_87 (N : Nat) {x9 : Int32} {s9 : mS} {k87 : mS → Option (Int32 × mS)} (hk87 : SCd Sm R0m oFm nm 4 q_M_qGoesOnTest (some (.int x9), s9) (x9, s9) 87 (H_M_qGoesOnTest_87 k87)) : SCd Sm R0m oFm nm 4 q_M_qGoesOnTest (some (.int x9), s9) (x9, s9) 87 (H_M_qGoesOnTest_87 (f_M_qGoesOnTest_L87 N k87)) := by
  intro loc st s
  refine G_cR (fun h0 => ?_)
  refine G_rv0 (fun e9 => ?_)
  subst e9
  refine G_sub (loc0 := [(0, .ref 0)]) (List.forall_mem_cons.mpr ⟨h0, mz_nil⟩) ?_
  exact G_eq (mEv_G (orc := mOrc (oL_M_qGoesOnTest N)) (ret := rtZ) (blks := bl_M_qGoesOnTest) (cuts := [(87, H_M_qGoesOnTest_87 k87)]) wOKm (by decide) (oo_M_qGoesOnTest N) (RetOK_Z rfl) bk_M_qGoesOnTest (List.forall_mem_cons.mpr ⟨hk87, mz_nil⟩)) rfl
theorem s_M_qGoesOnTest_87 (N : Nat) {x9 : Int32} {s9 : mS} : SCd Sm R0m oFm nm 4 q_M_qGoesOnTest (some (.int x9), s9) (x9, s9) 87 (H_M_qGoesOnTest_87 (mfix N (f_M_qGoesOnTest_L87 N))) := by
  refine mfix_SC (H := H_M_qGoesOnTest_87) (fun loc st s => ?_) (fun k hk => t_M_qGoesOnTest_87 N hk) N
  refine G_cR (fun h0 => ?_)
  refine G_rv0 (fun e9 => ?_)
  subst e9
  exact G_none
noncomputable def f_M_qGoesOnTest_L137 (N : Nat) (k137 : mS → Option (Int32 × mS)) (x : mS) : Option (Int32 × mS) :=
  (f_M_qIsOn N 10 x).bind fun p1 =>
  if p1.1 = 0 then
    (f_M_qIsOn N 11 p1.2).bind fun p3 =>
    if p3.1 = 0 then
      grd (inb (gI p3.2 1090 0) 1700) (
      let s4 := sA p3.2 65 (ix (gI p3.2 1090 0)) 11
      let s5 := sI s4 1090 0 ((gI s4 1090 0) + 1)
      some (1, s5))
    else
      (f_M_qDrops N p3.2).bind fun p6 =>
      k137 p6
  else
    (f_M_qDrops N p1.2).bind fun p2 =>
    k137 p2
set_option maxRecDepth 100000 in
set_option maxHeartbeats 4000000 in
theorem t_M_qGoesOnTest_137 (N : Nat) {x9 : Int32} {s9 : mS} {k137 : mS → Option (Int32 × mS)} (hk137 : SCd Sm R0m oFm nm 4 q_M_qGoesOnTest (some (.int x9), s9) (x9, s9) 137 (H_M_qGoesOnTest_137 k137)) : SCd Sm R0m oFm nm 4 q_M_qGoesOnTest (some (.int x9), s9) (x9, s9) 137 (H_M_qGoesOnTest_137 (f_M_qGoesOnTest_L137 N k137)) := by
  intro loc st s
  refine G_cR (fun h0 => ?_)
  refine G_rv0 (fun e9 => ?_)
  subst e9
  refine G_sub (loc0 := [(0, .ref 0)]) (List.forall_mem_cons.mpr ⟨h0, mz_nil⟩) ?_
  exact G_eq (mEv_G (orc := mOrc (oL_M_qGoesOnTest N)) (ret := rtZ) (blks := bl_M_qGoesOnTest) (cuts := [(137, H_M_qGoesOnTest_137 k137)]) wOKm (by decide) (oo_M_qGoesOnTest N) (RetOK_Z rfl) bk_M_qGoesOnTest (List.forall_mem_cons.mpr ⟨hk137, mz_nil⟩)) rfl
theorem s_M_qGoesOnTest_137 (N : Nat) {x9 : Int32} {s9 : mS} : SCd Sm R0m oFm nm 4 q_M_qGoesOnTest (some (.int x9), s9) (x9, s9) 137 (H_M_qGoesOnTest_137 (mfix N (f_M_qGoesOnTest_L137 N))) := by
  refine mfix_SC (H := H_M_qGoesOnTest_137) (fun loc st s => ?_) (fun k hk => t_M_qGoesOnTest_137 N hk) N
  refine G_cR (fun h0 => ?_)
  refine G_rv0 (fun e9 => ?_)
  subst e9
  exact G_none
noncomputable def f_M_qGoesOnTest_j76 (N : Nat) (x : mS) : Option (Int32 × mS) :=
  (f_M_takes N 48 x).bind fun p1 =>
  if p1.1 = 0 then
    (f_M_takes N 49 p1.2).bind fun p2 =>
    if p2.1 = 0 then
      if (gI p2.2 1005 0) = 0 then
        (f_M_qHasSquare N p2.2).bind fun p3 =>
        if p3.1 = 0 then
          some (0, p3.2)
        else
          (f_M_fail N 1 (gI p3.2 1002 0) p3.2).bind fun p4 =>
          some (0, p4)
      else
        some (0, p2.2)
    else
      mfix N (f_M_qGoesOnTest_L137 N) p2.2
  else
    mfix N (f_M_qGoesOnTest_L87 N) p1.2
set_option maxRecDepth 100000 in
set_option maxHeartbeats 4000000 in
theorem s_M_qGoesOnTest_76 (N : Nat) {x9 : Int32} {s9 : mS} : SCd Sm R0m oFm nm 4 q_M_qGoesOnTest (some (.int x9), s9) (x9, s9) 76 (H_M_qGoesOnTest_76 (f_M_qGoesOnTest_j76 N)) := by
  intro loc st s
  refine G_cR (fun h0 => ?_)
  refine G_rv0 (fun e9 => ?_)
  subst e9
  refine G_sub (loc0 := [(0, .ref 0)]) (List.forall_mem_cons.mpr ⟨h0, mz_nil⟩) ?_
  exact G_eq (mEv_G (orc := mOrc (oL_M_qGoesOnTest N)) (ret := rtZ) (blks := bl_M_qGoesOnTest) (cuts := [(87, H_M_qGoesOnTest_87 (mfix N (f_M_qGoesOnTest_L87 N))), (137, H_M_qGoesOnTest_137 (mfix N (f_M_qGoesOnTest_L137 N)))]) wOKm (by decide) (oo_M_qGoesOnTest N) (RetOK_Z rfl) bk_M_qGoesOnTest (List.forall_mem_cons.mpr ⟨s_M_qGoesOnTest_87 N, List.forall_mem_cons.mpr ⟨s_M_qGoesOnTest_137 N, mz_nil⟩⟩)) rfl
noncomputable def f_M_qGoesOnTest_L0 (N : Nat) (k0 : mS → Option (Int32 × mS)) (x : mS) : Option (Int32 × mS) :=
  if (gI x 1005 0) = 0 then
    (f_M_look N x).bind fun p1 =>
    if p1.1 = 93 then
      (f_M_qHasSquare N p1.2).bind fun p2 =>
      if p2.1 = 0 then
        f_M_qGoesOnTest_j76 N p2.2
      else
        let s3 := sI p2.2 1002 0 ((gI p2.2 1002 0) + 1)
        mfix N (f_M_qGoesOnTest_L33 N k0) s3
    else
      f_M_qGoesOnTest_j76 N p1.2
  else
    f_M_qGoesOnTest_j76 N x
set_option maxRecDepth 100000 in
set_option maxHeartbeats 4000000 in
theorem t_M_qGoesOnTest_0 (N : Nat) {x9 : Int32} {s9 : mS} {k0 : mS → Option (Int32 × mS)} (hk0 : SCd Sm R0m oFm nm 4 q_M_qGoesOnTest (some (.int x9), s9) (x9, s9) 0 (H_M_qGoesOnTest_0 k0)) : SCd Sm R0m oFm nm 4 q_M_qGoesOnTest (some (.int x9), s9) (x9, s9) 0 (H_M_qGoesOnTest_0 (f_M_qGoesOnTest_L0 N k0)) := by
  intro loc st s
  refine G_cR (fun h0 => ?_)
  refine G_rv0 (fun e9 => ?_)
  subst e9
  refine G_sub (loc0 := [(0, .ref 0)]) (List.forall_mem_cons.mpr ⟨h0, mz_nil⟩) ?_
  exact G_eq (mEv_G (orc := mOrc (oL_M_qGoesOnTest N)) (ret := rtZ) (blks := bl_M_qGoesOnTest) (cuts := [(33, H_M_qGoesOnTest_33 (mfix N (f_M_qGoesOnTest_L33 N k0))), (76, H_M_qGoesOnTest_76 (f_M_qGoesOnTest_j76 N))]) wOKm (by decide) (oo_M_qGoesOnTest N) (RetOK_Z rfl) bk_M_qGoesOnTest (List.forall_mem_cons.mpr ⟨s_M_qGoesOnTest_33 N hk0, List.forall_mem_cons.mpr ⟨s_M_qGoesOnTest_76 N, mz_nil⟩⟩)) rfl
theorem s_M_qGoesOnTest_0 (N : Nat) {x9 : Int32} {s9 : mS} : SCd Sm R0m oFm nm 4 q_M_qGoesOnTest (some (.int x9), s9) (x9, s9) 0 (H_M_qGoesOnTest_0 (mfix N (f_M_qGoesOnTest_L0 N))) := by
  refine mfix_SC (H := H_M_qGoesOnTest_0) (fun loc st s => ?_) (fun k hk => t_M_qGoesOnTest_0 N hk) N
  refine G_cR (fun h0 => ?_)
  refine G_rv0 (fun e9 => ?_)
  subst e9
  exact G_none
noncomputable def f_M_qGoesOnTest (N : Nat) (s : mS) : Option (Int32 × mS) :=
  mfix N (f_M_qGoesOnTest_L0 N) s
set_option maxRecDepth 100000 in
set_option maxHeartbeats 4000000 in
theorem m_M_qGoesOnTest (N : Nat) {x9 : Int32} {s9 : mS} {s : mS} (h : f_M_qGoesOnTest N s = some (x9, s9)) : MetM Sm R0m oFm nm 4 181 [.ref 0] s (some (.int x9)) s9 := by
  refine met_of_G (q := q_M_qGoesOnTest) (t0 := (x9, s9)) y_M_qGoesOnTest (Nat.le_of_ble_eq_true rfl) ?_
  rw [← h]
  exact s_M_qGoesOnTest_0 N _ _ _
noncomputable def C_M_qGoesOnTest {ρ : Type} (N : Nat) : List Value → mS → (Option Value → mS → Option ρ) → Option ρ := fun vs s kk => sR vs 0 fun r0 => rv0 r0 ((f_M_qGoesOnTest N s).bind fun p => kk (some (.int p.1)) p.2)
theorem cs_M_qGoesOnTest {ρ : Type} {t0 : ρ} {d : Nat} (N : Nat) (hd : 4 + 1 ≤ d) : CallOK Sm R0m oFm nm d t0 181 (C_M_qGoesOnTest N) := by
  intro vs s kk h0
  obtain ⟨r0, rfl, h1⟩ := sR_some h0
  obtain ⟨rfl, h2⟩ := rv0_some h1
  obtain ⟨p, hp, hk⟩ := Option.bind_eq_some_iff.mp h2
  exact ⟨_, _, _, hd, m_M_qGoesOnTest N hp, hk, fun qy hq hf => by cases y_M_qGoesOnTest.symm.trans hq; exact ⟨_, _, rfl, rfl⟩⟩
/-! METHOD PorterDoorsModel.qTest()V -/
set_option maxRecDepth 20000 in
noncomputable def q_M_qTest : mI := (⟨"PorterDoorsModel", "qTest", "()V"⟩, prog_13_method_114_code, 3, none, 10, 1541, 139, 1, 0, 1540, 70)
theorem y_M_qTest : mT[178]? = some q_M_qTest := mT_at_4 (k := 18) rfl
noncomputable def bl_M_qTest : List (Nat × List mO) := [(0, [o0 (.iconst 1), o0 (.istore_n 1)]),
  (2, [o0 (.iload_n 1), o1 (.ifCond .eq 107) 110, o0 (.aload_n 0), o2 (.getfield 227) 10 5, o1 (.ifCond .ne 100) 110, o0 (.aload_n 0), o2 (.invokevirtual 239) 150 1, o0 (.istore_n 2), o0 (.iload_n 2), o0 (.bipush 91), o1 (.if_icmp .ne 26) 47, o0 (.aload_n 0), o0 (.bipush 25), o0 (.aload_n 0), o2 (.getfield 233) 10 2, o2 (.invokevirtual 561) 168 3, o0 (.aload_n 0), o0 (.dup), o2 (.getfield 233) 10 2, o0 (.iconst 1), o0 (.iadd), o2 (.putfield 233) 10 2, o1 (.goto (-42)) 2]),
  (47, [o0 (.aload_n 0), o0 (.aload_n 0), o2 (.getfield 159) 10 70, o2 (.invokevirtual 250) 149 2, o1 (.ifCond .eq 24) 79, o0 (.aload_n 0), o0 (.bipush 12), o0 (.aload_n 0), o2 (.getfield 233) 10 2, o2 (.invokevirtual 561) 168 3, o0 (.aload_n 0), o0 (.aload_n 0), o2 (.getfield 159) 10 70, o2 (.invokevirtual 292) 147 2, o1 (.goto (-74)) 2]),
  (79, [o0 (.aload_n 0), o2 (.invokevirtual 585) 179 1, o0 (.aload_n 0), o2 (.invokevirtual 588) 180 1, o0 (.aload_n 0), o2 (.getfield 227) 10 5, o1 (.ifCond .ne 14) 105, o0 (.aload_n 0), o2 (.invokevirtual 591) 181 1, o1 (.ifCond .eq 7) 105, o0 (.iconst 1), o1 (.goto 4) 106]),
  (105, [o0 (.iconst 0)]),
  (106, [o0 (.istore_n 1), o1 (.goto (-105)) 2]),
  (110, [o0 (.aload_n 0), o2 (.getfield 227) 10 5, o1 (.ifCond .ne 17) 131, o0 (.aload_n 0), o2 (.getfield 307) 10 90, o1 (.ifCond .le 10) 131, o0 (.aload_n 0), o2 (.invokevirtual 549) 172 1, o1 (.goto (-18)) 110]),
  (131, [o0 (.return_)])]
theorem bk_M_qTest : okBlks q_M_qTest bl_M_qTest = true := by decide +kernel
noncomputable def oL_M_qTest {ρ : Type} (N : Nat) : List (Nat × (List Value → mS → (Option Value → mS → Option ρ) → Option ρ)) := [(150, C_M_look N), (168, C_M_qOpens N), (149, C_M_isHere N), (147, C_M_asks N), (179, C_M_qFact N), (180, C_M_qDropsNots N), (181, C_M_qGoesOnTest N), (172, C_M_qDrops N)]
theorem oo_M_qTest {ρ : Type} {t0 : ρ} (N : Nat) : OrcOK Sm R0m oFm nm 9 t0 (mOrc (oL_M_qTest N)) := mOrc_OK (List.forall_mem_cons.mpr ⟨cs_M_look N (by decide), List.forall_mem_cons.mpr ⟨cs_M_qOpens N (by decide), List.forall_mem_cons.mpr ⟨cs_M_isHere N (by decide), List.forall_mem_cons.mpr ⟨cs_M_asks N (by decide), List.forall_mem_cons.mpr ⟨cs_M_qFact N (by decide), List.forall_mem_cons.mpr ⟨cs_M_qDropsNots N (by decide), List.forall_mem_cons.mpr ⟨cs_M_qGoesOnTest N (by decide), List.forall_mem_cons.mpr ⟨cs_M_qDrops N (by decide), mz_nil⟩⟩⟩⟩⟩⟩⟩⟩)
noncomputable def H_M_qTest_2 {ρ : Type} (k : (Int32 × mS) → Option ρ) : mL → List Value → mS → Option ρ := fun loc st s => cR loc 0 0 (li1 loc 1 fun v0 => rv0 st (k (v0, s)))
noncomputable def H_M_qTest_110 {ρ : Type} (k : mS → Option ρ) : mL → List Value → mS → Option ρ := fun loc st s => cR loc 0 0 (rv0 st (k s))
noncomputable def f_M_qTest_L110 (N : Nat) (k110 : mS → Option (mS)) (x : mS) : Option (mS) :=
  if (gI x 1005 0) = 0 then
    if 0 < (gI x 1090 0) then
      (f_M_qDrops N x).bind fun p1 =>
      k110 p1
    else
      some x
  else
    some x
set_option maxRecDepth 100000 in
set_option maxHeartbeats 4000000 in
theorem t_M_qTest_110 (N : Nat) {s9 : mS} {k110 : mS → Option (mS)} (hk110 : SCd Sm R0m oFm nm 9 q_M_qTest (none, s9) s9 110 (H_M_qTest_110 k110)) : SCd Sm R0m oFm nm 9 q_M_qTest (none, s9) s9 110 (H_M_qTest_110 (f_M_qTest_L110 N k110)) := by
  intro loc st s
  refine G_cR (fun h0 => ?_)
  refine G_rv0 (fun e9 => ?_)
  subst e9
  refine G_sub (loc0 := [(0, .ref 0)]) (List.forall_mem_cons.mpr ⟨h0, mz_nil⟩) ?_
  exact G_eq (mEv_G (orc := mOrc (oL_M_qTest N)) (ret := rtV) (blks := bl_M_qTest) (cuts := [(110, H_M_qTest_110 k110)]) wOKm (by decide) (oo_M_qTest N) (RetOK_V rfl) bk_M_qTest (List.forall_mem_cons.mpr ⟨hk110, mz_nil⟩)) rfl
theorem s_M_qTest_110 (N : Nat) {s9 : mS} : SCd Sm R0m oFm nm 9 q_M_qTest (none, s9) s9 110 (H_M_qTest_110 (mfix N (f_M_qTest_L110 N))) := by
  refine mfix_SC (H := H_M_qTest_110) (fun loc st s => ?_) (fun k hk => t_M_qTest_110 N hk) N
  refine G_cR (fun h0 => ?_)
  refine G_rv0 (fun e9 => ?_)
  subst e9
  exact G_none
noncomputable def f_M_qTest_L2 (N : Nat) (k2 : (Int32 × mS) → Option (mS)) (x : Int32 × mS) : Option (mS) :=
  if x.1 = 0 then
    mfix N (f_M_qTest_L110 N) x.2
  else
    if (gI x.2 1005 0) = 0 then
      (f_M_look N x.2).bind fun p1 =>
      if p1.1 = 91 then
        (f_M_qOpens N 25 (gI p1.2 1002 0) p1.2).bind fun p8 =>
        let s9 := sI p8 1002 0 ((gI p8 1002 0) + 1)
        k2 (x.1, s9)
      else
        (f_M_isHere N 47 p1.2).bind fun p2 =>
        if p2.1 = 0 then
          (f_M_qFact N p2.2).bind fun p3 =>
          (f_M_qDropsNots N p3).bind fun p4 =>
          if (gI p4 1005 0) = 0 then
            (f_M_qGoesOnTest N p4).bind fun p5 =>
            if p5.1 = 0 then
              k2 (0, p5.2)
            else
              k2 (1, p5.2)
          else
            k2 (0, p4)
        else
          (f_M_qOpens N 12 (gI p2.2 1002 0) p2.2).bind fun p6 =>
          (f_M_asks N 47 p6).bind fun p7 =>
          k2 (x.1, p7)
    else
      mfix N (f_M_qTest_L110 N) x.2
set_option maxRecDepth 100000 in
set_option maxHeartbeats 4000000 in
theorem t_M_qTest_2 (N : Nat) {s9 : mS} {k2 : (Int32 × mS) → Option (mS)} (hk2 : SCd Sm R0m oFm nm 9 q_M_qTest (none, s9) s9 2 (H_M_qTest_2 k2)) : SCd Sm R0m oFm nm 9 q_M_qTest (none, s9) s9 2 (H_M_qTest_2 (f_M_qTest_L2 N k2)) := by
  intro loc st s
  refine G_cR (fun h0 => ?_)
  refine G_li (fun v0 h1 => ?_)
  refine G_rv0 (fun e9 => ?_)
  subst e9
  refine G_sub (loc0 := [(0, .ref 0), (1, .int v0)]) (List.forall_mem_cons.mpr ⟨h0, List.forall_mem_cons.mpr ⟨h1, mz_nil⟩⟩) ?_
  exact G_eq (mEv_G (orc := mOrc (oL_M_qTest N)) (ret := rtV) (blks := bl_M_qTest) (cuts := [(2, H_M_qTest_2 k2), (110, H_M_qTest_110 (mfix N (f_M_qTest_L110 N)))]) wOKm (by decide) (oo_M_qTest N) (RetOK_V rfl) bk_M_qTest (List.forall_mem_cons.mpr ⟨hk2, List.forall_mem_cons.mpr ⟨s_M_qTest_110 N, mz_nil⟩⟩)) rfl
theorem s_M_qTest_2 (N : Nat) {s9 : mS} : SCd Sm R0m oFm nm 9 q_M_qTest (none, s9) s9 2 (H_M_qTest_2 (mfix N (f_M_qTest_L2 N))) := by
  refine mfix_SC (H := H_M_qTest_2) (fun loc st s => ?_) (fun k hk => t_M_qTest_2 N hk) N
  refine G_cR (fun h0 => ?_)
  refine G_li (fun v0 h1 => ?_)
  refine G_rv0 (fun e9 => ?_)
  subst e9
  exact G_none
noncomputable def f_M_qTest (N : Nat) (s : mS) : Option (mS) :=
  mfix N (f_M_qTest_L2 N) (1, s)
set_option maxRecDepth 100000 in
set_option maxHeartbeats 4000000 in
theorem m_M_qTest (N : Nat) {s9 : mS} {s : mS} (h : f_M_qTest N s = some s9) : MetM Sm R0m oFm nm 9 178 [.ref 0] s (none) s9 := by
  refine met_of_G (q := q_M_qTest) (t0 := s9) y_M_qTest (Nat.le_of_ble_eq_true rfl) ?_
  rw [← h]
  exact G_eq (mEv_G (orc := mOrc (oL_M_qTest N)) (ret := rtV) (blks := bl_M_qTest) (cuts := [(2, H_M_qTest_2 (mfix N (f_M_qTest_L2 N)))]) wOKm (by decide) (oo_M_qTest N) (RetOK_V rfl) bk_M_qTest (List.forall_mem_cons.mpr ⟨s_M_qTest_2 N, mz_nil⟩)) rfl
noncomputable def C_M_qTest {ρ : Type} (N : Nat) : List Value → mS → (Option Value → mS → Option ρ) → Option ρ := fun vs s kk => sR vs 0 fun r0 => rv0 r0 ((f_M_qTest N s).bind fun p => kk none p)
theorem cs_M_qTest {ρ : Type} {t0 : ρ} {d : Nat} (N : Nat) (hd : 9 + 1 ≤ d) : CallOK Sm R0m oFm nm d t0 178 (C_M_qTest N) := by
  intro vs s kk h0
  obtain ⟨r0, rfl, h1⟩ := sR_some h0
  obtain ⟨rfl, h2⟩ := rv0_some h1
  obtain ⟨p, hp, hk⟩ := Option.bind_eq_some_iff.mp h2
  exact ⟨_, _, _, hd, m_M_qTest N hp, hk, fun qy hq hf => by cases y_M_qTest.symm.trans hq; exact ⟨_, _, rfl, rfl⟩⟩
/-! METHOD PorterDoorsModel.reads(II)V -/
set_option maxRecDepth 20000 in
noncomputable def q_M_reads : mI := (⟨"PorterDoorsModel", "reads", "(II)V"⟩, prog_13_method_20_code, 4, none, 10, 1476, 139, 1, 2, 1475, 55)
theorem y_M_reads : mT[162]? = some q_M_reads := mT_at_4 (k := 2) rfl
noncomputable def bl_M_reads : List (Nat × List mO) := [(0, [o0 (.aload_n 0), o0 (.iload_n 2), o2 (.putfield 285) 10 47, o0 (.aload_n 0), o0 (.iconst 0), o2 (.putfield 304) 10 88, o0 (.aload_n 0), o0 (.iconst 0), o2 (.putfield 307) 10 90, o0 (.aload_n 0), o0 (.iconst 0), o2 (.putfield 310) 10 91, o0 (.aload_n 0), o0 (.iconst 0), o2 (.putfield 313) 10 92, o0 (.iload_n 1), o0 (.bipush 11), o1 (.if_icmp .ne 10) 38, o0 (.aload_n 0), o2 (.invokevirtual 316) 163 1, o1 (.goto 7) 42]),
  (38, [o0 (.aload_n 0), o2 (.invokevirtual 319) 178 1]),
  (42, [o0 (.aload_n 0), o2 (.getfield 227) 10 5, o1 (.ifCond .eq 4) 50, o0 (.return_)]),
  (50, [o0 (.aload_n 0), o2 (.getfield 106) 10 41, o0 (.iload_n 1), o0 (.aload_n 0), o2 (.getfield 322) 10 44, o0 (.iastore), o0 (.iconst 0), o0 (.istore_n 3)]),
  (62, [o0 (.iload_n 3), o0 (.aload_n 0), o2 (.getfield 304) 10 88, o1 (.if_icmp .ge 34) 101, o0 (.aload_n 0), o2 (.getfield 112) 10 43, o0 (.aload_n 0), o2 (.getfield 322) 10 44, o0 (.aload_n 0), o2 (.getfield 210) 10 87, o0 (.iload_n 3), o0 (.iaload), o0 (.iastore), o0 (.aload_n 0), o0 (.dup), o2 (.getfield 322) 10 44, o0 (.iconst 1), o0 (.iadd), o2 (.putfield 322) 10 44, o0 (.iinc 3 1), o1 (.goto (-36)) 62]),
  (101, [o0 (.aload_n 0), o2 (.getfield 109) 10 42, o0 (.iload_n 1), o0 (.aload_n 0), o2 (.getfield 322) 10 44, o0 (.iastore), o0 (.return_)])]
theorem bk_M_reads : okBlks q_M_reads bl_M_reads = true := by decide +kernel
noncomputable def oL_M_reads {ρ : Type} (N : Nat) : List (Nat × (List Value → mS → (Option Value → mS → Option ρ) → Option ρ)) := [(163, C_M_qSums N), (178, C_M_qTest N)]
theorem oo_M_reads {ρ : Type} {t0 : ρ} (N : Nat) : OrcOK Sm R0m oFm nm 10 t0 (mOrc (oL_M_reads N)) := mOrc_OK (List.forall_mem_cons.mpr ⟨cs_M_qSums N (by decide), List.forall_mem_cons.mpr ⟨cs_M_qTest N (by decide), mz_nil⟩⟩)
noncomputable def H_M_reads_42 {ρ : Type} (k : (Int32 × mS) → Option ρ) : mL → List Value → mS → Option ρ := fun loc st s => cR loc 0 0 (li1 loc 1 fun v0 => rv0 st (k (v0, s)))
noncomputable def H_M_reads_62 {ρ : Type} (k : (Int32 × Int32 × mS) → Option ρ) : mL → List Value → mS → Option ρ := fun loc st s => cR loc 0 0 (li1 loc 1 fun v0 => li1 loc 3 fun v1 => rv0 st (k (v0, v1, s)))
noncomputable def f_M_reads_L62 (N : Nat) (k62 : (Int32 × Int32 × mS) → Option (mS)) (x : Int32 × Int32 × mS) : Option (mS) :=
  if x.2.1 < (gI x.2.2 1088 0) then
    grd (inb x.2.1 1700) (
    grd (inb (gI x.2.2 1044 0) 3200) (
    let s2 := sA x.2.2 33 (ix (gI x.2.2 1044 0)) (gA x.2.2 64 (ix x.2.1))
    let s3 := sI s2 1044 0 ((gI s2 1044 0) + 1)
    k62 (x.1, (x.2.1 + 1), s3)))
  else
    grd (inb x.1 24) (
    let s1 := sA x.2.2 32 (ix x.1) (gI x.2.2 1044 0)
    some s1)
set_option maxRecDepth 100000 in
set_option maxHeartbeats 4000000 in
theorem t_M_reads_62 (N : Nat) {s9 : mS} {k62 : (Int32 × Int32 × mS) → Option (mS)} (hk62 : SCd Sm R0m oFm nm 10 q_M_reads (none, s9) s9 62 (H_M_reads_62 k62)) : SCd Sm R0m oFm nm 10 q_M_reads (none, s9) s9 62 (H_M_reads_62 (f_M_reads_L62 N k62)) := by
  intro loc st s
  refine G_cR (fun h0 => ?_)
  refine G_li (fun v0 h1 => ?_)
  refine G_li (fun v1 h3 => ?_)
  refine G_rv0 (fun e9 => ?_)
  subst e9
  refine G_sub (loc0 := [(0, .ref 0), (1, .int v0), (3, .int v1)]) (List.forall_mem_cons.mpr ⟨h0, List.forall_mem_cons.mpr ⟨h1, List.forall_mem_cons.mpr ⟨h3, mz_nil⟩⟩⟩) ?_
  exact G_eq (mEv_G (orc := mOrc (oL_M_reads N)) (ret := rtV) (blks := bl_M_reads) (cuts := [(62, H_M_reads_62 k62)]) wOKm (by decide) (oo_M_reads N) (RetOK_V rfl) bk_M_reads (List.forall_mem_cons.mpr ⟨hk62, mz_nil⟩)) rfl
theorem s_M_reads_62 (N : Nat) {s9 : mS} : SCd Sm R0m oFm nm 10 q_M_reads (none, s9) s9 62 (H_M_reads_62 (mfix N (f_M_reads_L62 N))) := by
  refine mfix_SC (H := H_M_reads_62) (fun loc st s => ?_) (fun k hk => t_M_reads_62 N hk) N
  refine G_cR (fun h0 => ?_)
  refine G_li (fun v0 h1 => ?_)
  refine G_li (fun v1 h3 => ?_)
  refine G_rv0 (fun e9 => ?_)
  subst e9
  exact G_none
noncomputable def f_M_reads_j42 (N : Nat) (x : Int32 × mS) : Option (mS) :=
  if (gI x.2 1005 0) = 0 then
    grd (inb x.1 24) (
    let s1 := sA x.2 31 (ix x.1) (gI x.2 1044 0)
    mfix N (f_M_reads_L62 N) (x.1, 0, s1))
  else
    some x.2
set_option maxRecDepth 100000 in
set_option maxHeartbeats 4000000 in
theorem s_M_reads_42 (N : Nat) {s9 : mS} : SCd Sm R0m oFm nm 10 q_M_reads (none, s9) s9 42 (H_M_reads_42 (f_M_reads_j42 N)) := by
  intro loc st s
  refine G_cR (fun h0 => ?_)
  refine G_li (fun v0 h1 => ?_)
  refine G_rv0 (fun e9 => ?_)
  subst e9
  refine G_sub (loc0 := [(0, .ref 0), (1, .int v0)]) (List.forall_mem_cons.mpr ⟨h0, List.forall_mem_cons.mpr ⟨h1, mz_nil⟩⟩) ?_
  exact G_eq (mEv_G (orc := mOrc (oL_M_reads N)) (ret := rtV) (blks := bl_M_reads) (cuts := [(62, H_M_reads_62 (mfix N (f_M_reads_L62 N)))]) wOKm (by decide) (oo_M_reads N) (RetOK_V rfl) bk_M_reads (List.forall_mem_cons.mpr ⟨s_M_reads_62 N, mz_nil⟩)) rfl
noncomputable def f_M_reads (N : Nat) (a1 : Int32) (a2 : Int32) (s : mS) : Option (mS) :=
  let s1 := sI s 1047 0 a2
  let s2 := sI s1 1088 0 0
  let s3 := sI s2 1090 0 0
  let s4 := sI s3 1091 0 0
  let s5 := sI s4 1092 0 0
  if a1 = 11 then
    (f_M_qSums N s5).bind fun p7 =>
    f_M_reads_j42 N (a1, p7)
  else
    (f_M_qTest N s5).bind fun p6 =>
    f_M_reads_j42 N (a1, p6)
set_option maxRecDepth 100000 in
set_option maxHeartbeats 4000000 in
theorem m_M_reads (N : Nat) {s9 : mS} (a1 : Int32) (a2 : Int32) {s : mS} (h : f_M_reads N a1 a2 s = some s9) : MetM Sm R0m oFm nm 10 162 [.ref 0, .int a1, .int a2] s (none) s9 := by
  refine met_of_G (q := q_M_reads) (t0 := s9) y_M_reads (Nat.le_of_ble_eq_true rfl) ?_
  rw [← h]
  exact G_eq (mEv_G (orc := mOrc (oL_M_reads N)) (ret := rtV) (blks := bl_M_reads) (cuts := [(42, H_M_reads_42 (f_M_reads_j42 N))]) wOKm (by decide) (oo_M_reads N) (RetOK_V rfl) bk_M_reads (List.forall_mem_cons.mpr ⟨s_M_reads_42 N, mz_nil⟩)) rfl
noncomputable def C_M_reads {ρ : Type} (N : Nat) : List Value → mS → (Option Value → mS → Option ρ) → Option ρ := fun vs s kk => sR vs 0 fun r0 => pi1 r0 fun a1 r1 => pi1 r1 fun a2 r2 => rv0 r2 ((f_M_reads N a1 a2 s).bind fun p => kk none p)
theorem cs_M_reads {ρ : Type} {t0 : ρ} {d : Nat} (N : Nat) (hd : 10 + 1 ≤ d) : CallOK Sm R0m oFm nm d t0 162 (C_M_reads N) := by
  intro vs s kk h0
  obtain ⟨r0, rfl, h1⟩ := sR_some h0
  obtain ⟨a1, r1, rfl, h2⟩ := pi1_some h1
  obtain ⟨a2, r2, rfl, h3⟩ := pi1_some h2
  obtain ⟨rfl, h4⟩ := rv0_some h3
  obtain ⟨p, hp, hk⟩ := Option.bind_eq_some_iff.mp h4
  exact ⟨_, _, _, hd, m_M_reads N a1 a2 hp, hk, fun qy hq hf => by cases y_M_reads.symm.trans hq; exact ⟨_, _, rfl, rfl⟩⟩
/-! METHOD PorterDoorsModel.porterTold(I)V -/
set_option maxRecDepth 20000 in
noncomputable def q_M_porterTold : mI := (⟨"PorterDoorsModel", "porterTold", "(I)V"⟩, prog_13_method_22_code, 5, none, 10, 1462, 139, 1, 1, 1461, 52)
theorem y_M_porterTold : mT[159]? = some q_M_porterTold := mT_at_3 (k := 39) rfl
noncomputable def bl_M_porterTold : List (Nat × List mO) := [(0, [o0 (.aload_n 0), o2 (.getfield 227) 10 5, o1 (.ifCond .ne 20) 24, o0 (.aload_n 0), o2 (.getfield 96) 10 37, o0 (.iconst 1), o0 (.iaload), o0 (.bipush 10), o1 (.if_icmp .ne 9) 24, o0 (.aload_n 0), o0 (.iconst 5), o0 (.iload_n 1), o2 (.invokevirtual 257) 152 3]),
  (24, [o0 (.aload_n 0), o2 (.invokevirtual 328) 160 1, o0 (.lstore_n 2), o0 (.iconst 0), o0 (.istore 4)]),
  (32, [o0 (.iload 4), o0 (.aload_n 0), o2 (.getfield 96) 10 37, o0 (.iconst 1), o0 (.iaload), o1 (.if_icmp .ge 37) 77, o0 (.aload_n 0), o2 (.getfield 227) 10 5, o1 (.ifCond .ne 24) 71, o0 (.aload_n 0), o2 (.getfield 99) 10 38, o0 (.iload 4), o0 (.laload), o0 (.lload_n 2), o0 (.lcmp), o1 (.ifCond .ne 12) 71, o0 (.aload_n 0), o0 (.iconst 3), o0 (.aload_n 0), o2 (.getfield 278) 10 36, o2 (.invokevirtual 257) 152 3]),
  (71, [o0 (.iinc 4 1), o1 (.goto (-42)) 32]),
  (77, [o0 (.aload_n 0), o0 (.aload_n 0), o2 (.getfield 27) 10 13, o2 (.invokevirtual 292) 147 2, o0 (.aload_n 0), o2 (.getfield 227) 10 5, o1 (.ifCond .ne 14) 103, o0 (.aload_n 0), o0 (.aload_n 0), o2 (.getfield 96) 10 37, o0 (.iconst 1), o0 (.iaload), o0 (.iconst 0), o2 (.invokevirtual 325) 162 3]),
  (103, [o0 (.aload_n 0), o2 (.getfield 227) 10 5, o1 (.ifCond .eq 4) 111, o0 (.return_)]),
  (111, [o0 (.aload_n 0), o2 (.getfield 99) 10 38, o0 (.aload_n 0), o2 (.getfield 96) 10 37, o0 (.iconst 1), o0 (.iaload), o0 (.lload_n 2), o0 (.lastore), o0 (.aload_n 0), o2 (.getfield 96) 10 37, o0 (.iconst 1), o0 (.dup2), o0 (.iaload), o0 (.iconst 1), o0 (.iadd), o0 (.iastore), o0 (.return_)])]
theorem bk_M_porterTold : okBlks q_M_porterTold bl_M_porterTold = true := by decide +kernel
noncomputable def oL_M_porterTold {ρ : Type} (N : Nat) : List (Nat × (List Value → mS → (Option Value → mS → Option ρ) → Option ρ)) := [(152, C_M_fail N), (160, C_M_name N), (147, C_M_asks N), (162, C_M_reads N)]
theorem oo_M_porterTold {ρ : Type} {t0 : ρ} (N : Nat) : OrcOK Sm R0m oFm nm 11 t0 (mOrc (oL_M_porterTold N)) := mOrc_OK (List.forall_mem_cons.mpr ⟨cs_M_fail N (by decide), List.forall_mem_cons.mpr ⟨cs_M_name N (by decide), List.forall_mem_cons.mpr ⟨cs_M_asks N (by decide), List.forall_mem_cons.mpr ⟨cs_M_reads N (by decide), mz_nil⟩⟩⟩⟩)
noncomputable def H_M_porterTold_24 {ρ : Type} (k : mS → Option ρ) : mL → List Value → mS → Option ρ := fun loc st s => cR loc 0 0 (rv0 st (k s))
noncomputable def H_M_porterTold_32 {ρ : Type} (k : (Int64 × Int32 × mS) → Option ρ) : mL → List Value → mS → Option ρ := fun loc st s => cR loc 0 0 (ll1 loc 2 fun v0 => li1 loc 4 fun v1 => rv0 st (k (v0, v1, s)))
noncomputable def H_M_porterTold_103 {ρ : Type} (k : (Int64 × mS) → Option ρ) : mL → List Value → mS → Option ρ := fun loc st s => cR loc 0 0 (ll1 loc 2 fun v0 => rv0 st (k (v0, s)))
noncomputable def f_M_porterTold_j103 (N : Nat) (x : Int64 × mS) : Option (mS) :=
  if (gI x.2 1005 0) = 0 then
    grd (inb (gA x.2 28 1) 20) (
    let s1 := sQ x.2 29 (ix (gA x.2 28 1)) x.1
    let s2 := sA s1 28 1 ((gA s1 28 1) + 1)
    some s2)
  else
    some x.2
set_option maxRecDepth 100000 in
set_option maxHeartbeats 4000000 in
theorem s_M_porterTold_103 (N : Nat) {s9 : mS} : SCd Sm R0m oFm nm 11 q_M_porterTold (none, s9) s9 103 (H_M_porterTold_103 (f_M_porterTold_j103 N)) := by
  intro loc st s
  refine G_cR (fun h0 => ?_)
  refine G_ll (fun v0 h2 => ?_)
  refine G_rv0 (fun e9 => ?_)
  subst e9
  refine G_sub (loc0 := [(0, .ref 0), (2, .long v0)]) (List.forall_mem_cons.mpr ⟨h0, List.forall_mem_cons.mpr ⟨h2, mz_nil⟩⟩) ?_
  exact G_eq (mEv_G (orc := mOrc (oL_M_porterTold N)) (ret := rtV) (blks := bl_M_porterTold) (cuts := []) wOKm (by decide) (oo_M_porterTold N) (RetOK_V rfl) bk_M_porterTold (mz_nil)) rfl
noncomputable def f_M_porterTold_L32 (N : Nat) (k32 : (Int64 × Int32 × mS) → Option (mS)) (x : Int64 × Int32 × mS) : Option (mS) :=
  if x.2.1 < (gA x.2.2 28 1) then
    if (gI x.2.2 1005 0) = 0 then
      grd (inb x.2.1 20) (
      if (lg_cmp (gQ x.2.2 29 (ix x.2.1)) x.1) = 0 then
        (f_M_fail N 3 (gI x.2.2 1036 0) x.2.2).bind fun p3 =>
        k32 (x.1, (x.2.1 + 1), p3)
      else
        k32 (x.1, (x.2.1 + 1), x.2.2))
    else
      k32 (x.1, (x.2.1 + 1), x.2.2)
  else
    (f_M_asks N 5 x.2.2).bind fun p1 =>
    if (gI p1 1005 0) = 0 then
      (f_M_reads N (gA p1 28 1) 0 p1).bind fun p2 =>
      f_M_porterTold_j103 N (x.1, p2)
    else
      f_M_porterTold_j103 N (x.1, p1)
set_option maxRecDepth 100000 in
set_option maxHeartbeats 4000000 in
theorem t_M_porterTold_32 (N : Nat) {s9 : mS} {k32 : (Int64 × Int32 × mS) → Option (mS)} (hk32 : SCd Sm R0m oFm nm 11 q_M_porterTold (none, s9) s9 32 (H_M_porterTold_32 k32)) : SCd Sm R0m oFm nm 11 q_M_porterTold (none, s9) s9 32 (H_M_porterTold_32 (f_M_porterTold_L32 N k32)) := by
  intro loc st s
  refine G_cR (fun h0 => ?_)
  refine G_ll (fun v0 h2 => ?_)
  refine G_li (fun v1 h4 => ?_)
  refine G_rv0 (fun e9 => ?_)
  subst e9
  refine G_sub (loc0 := [(0, .ref 0), (2, .long v0), (4, .int v1)]) (List.forall_mem_cons.mpr ⟨h0, List.forall_mem_cons.mpr ⟨h2, List.forall_mem_cons.mpr ⟨h4, mz_nil⟩⟩⟩) ?_
  exact G_eq (mEv_G (orc := mOrc (oL_M_porterTold N)) (ret := rtV) (blks := bl_M_porterTold) (cuts := [(32, H_M_porterTold_32 k32), (103, H_M_porterTold_103 (f_M_porterTold_j103 N))]) wOKm (by decide) (oo_M_porterTold N) (RetOK_V rfl) bk_M_porterTold (List.forall_mem_cons.mpr ⟨hk32, List.forall_mem_cons.mpr ⟨s_M_porterTold_103 N, mz_nil⟩⟩)) rfl
theorem s_M_porterTold_32 (N : Nat) {s9 : mS} : SCd Sm R0m oFm nm 11 q_M_porterTold (none, s9) s9 32 (H_M_porterTold_32 (mfix N (f_M_porterTold_L32 N))) := by
  refine mfix_SC (H := H_M_porterTold_32) (fun loc st s => ?_) (fun k hk => t_M_porterTold_32 N hk) N
  refine G_cR (fun h0 => ?_)
  refine G_ll (fun v0 h2 => ?_)
  refine G_li (fun v1 h4 => ?_)
  refine G_rv0 (fun e9 => ?_)
  subst e9
  exact G_none
noncomputable def f_M_porterTold_j24 (N : Nat) (x : mS) : Option (mS) :=
  (f_M_name N x).bind fun p1 =>
  mfix N (f_M_porterTold_L32 N) (p1.1, 0, p1.2)
set_option maxRecDepth 100000 in
set_option maxHeartbeats 4000000 in
theorem s_M_porterTold_24 (N : Nat) {s9 : mS} : SCd Sm R0m oFm nm 11 q_M_porterTold (none, s9) s9 24 (H_M_porterTold_24 (f_M_porterTold_j24 N)) := by
  intro loc st s
  refine G_cR (fun h0 => ?_)
  refine G_rv0 (fun e9 => ?_)
  subst e9
  refine G_sub (loc0 := [(0, .ref 0)]) (List.forall_mem_cons.mpr ⟨h0, mz_nil⟩) ?_
  exact G_eq (mEv_G (orc := mOrc (oL_M_porterTold N)) (ret := rtV) (blks := bl_M_porterTold) (cuts := [(32, H_M_porterTold_32 (mfix N (f_M_porterTold_L32 N)))]) wOKm (by decide) (oo_M_porterTold N) (RetOK_V rfl) bk_M_porterTold (List.forall_mem_cons.mpr ⟨s_M_porterTold_32 N, mz_nil⟩)) rfl
noncomputable def f_M_porterTold (N : Nat) (a1 : Int32) (s : mS) : Option (mS) :=
  if (gI s 1005 0) = 0 then
    if (gA s 28 1) = 10 then
      (f_M_fail N 5 a1 s).bind fun p1 =>
      f_M_porterTold_j24 N p1
    else
      f_M_porterTold_j24 N s
  else
    f_M_porterTold_j24 N s
set_option maxRecDepth 100000 in
set_option maxHeartbeats 4000000 in
theorem m_M_porterTold (N : Nat) {s9 : mS} (a1 : Int32) {s : mS} (h : f_M_porterTold N a1 s = some s9) : MetM Sm R0m oFm nm 11 159 [.ref 0, .int a1] s (none) s9 := by
  refine met_of_G (q := q_M_porterTold) (t0 := s9) y_M_porterTold (Nat.le_of_ble_eq_true rfl) ?_
  rw [← h]
  exact G_eq (mEv_G (orc := mOrc (oL_M_porterTold N)) (ret := rtV) (blks := bl_M_porterTold) (cuts := [(24, H_M_porterTold_24 (f_M_porterTold_j24 N))]) wOKm (by decide) (oo_M_porterTold N) (RetOK_V rfl) bk_M_porterTold (List.forall_mem_cons.mpr ⟨s_M_porterTold_24 N, mz_nil⟩)) rfl
noncomputable def C_M_porterTold {ρ : Type} (N : Nat) : List Value → mS → (Option Value → mS → Option ρ) → Option ρ := fun vs s kk => sR vs 0 fun r0 => pi1 r0 fun a1 r1 => rv0 r1 ((f_M_porterTold N a1 s).bind fun p => kk none p)
theorem cs_M_porterTold {ρ : Type} {t0 : ρ} {d : Nat} (N : Nat) (hd : 11 + 1 ≤ d) : CallOK Sm R0m oFm nm d t0 159 (C_M_porterTold N) := by
  intro vs s kk h0
  obtain ⟨r0, rfl, h1⟩ := sR_some h0
  obtain ⟨a1, r1, rfl, h2⟩ := pi1_some h1
  obtain ⟨rfl, h3⟩ := rv0_some h2
  obtain ⟨p, hp, hk⟩ := Option.bind_eq_some_iff.mp h3
  exact ⟨_, _, _, hd, m_M_porterTold N a1 hp, hk, fun qy hq hf => by cases y_M_porterTold.symm.trans hq; exact ⟨_, _, rfl, rfl⟩⟩
/-! METHOD PorterDoorsModel.paintTold()V -/
set_option maxRecDepth 20000 in
noncomputable def q_M_paintTold : mI := (⟨"PorterDoorsModel", "paintTold", "()V"⟩, prog_13_method_23_code, 3, none, 10, 1561, 139, 1, 0, 1560, 75)
theorem y_M_paintTold : mT[183]? = some q_M_paintTold := mT_at_4 (k := 23) rfl
noncomputable def bl_M_paintTold : List (Nat × List mO) := [(0, [o0 (.aload_n 0), o0 (.iconst 0), o0 (.aload_n 0), o2 (.getfield 96) 10 37, o0 (.iconst 0), o0 (.iaload), o0 (.iconst 1), o0 (.isub), o2 (.invokevirtual 296) 153 3, o0 (.istore_n 1), o0 (.aload_n 0), o0 (.iconst 0), o0 (.bipush 9), o2 (.invokevirtual 296) 153 3, o0 (.istore_n 2), o0 (.aload_n 0), o2 (.getfield 227) 10 5, o1 (.ifCond .ne 10) 36, o0 (.aload_n 0), o2 (.getfield 103) 10 39, o0 (.iload_n 1), o0 (.iload_n 2), o0 (.iastore)]),
  (36, [o0 (.return_)])]
theorem bk_M_paintTold : okBlks q_M_paintTold bl_M_paintTold = true := by decide +kernel
noncomputable def oL_M_paintTold {ρ : Type} (N : Nat) : List (Nat × (List Value → mS → (Option Value → mS → Option ρ) → Option ρ)) := [(153, C_M_number N)]
theorem oo_M_paintTold {ρ : Type} {t0 : ρ} (N : Nat) : OrcOK Sm R0m oFm nm 3 t0 (mOrc (oL_M_paintTold N)) := mOrc_OK (List.forall_mem_cons.mpr ⟨cs_M_number N (by decide), mz_nil⟩)
noncomputable def f_M_paintTold (N : Nat) (s : mS) : Option (mS) :=
  (f_M_number N 0 ((gA s 28 0) - 1) s).bind fun p1 =>
  (f_M_number N 0 9 p1.2).bind fun p2 =>
  if (gI p2.2 1005 0) = 0 then
    grd (inb p1.1 24) (
    let s3 := sA p2.2 30 (ix p1.1) p2.1
    some s3)
  else
    some p2.2
set_option maxRecDepth 100000 in
set_option maxHeartbeats 4000000 in
theorem m_M_paintTold (N : Nat) {s9 : mS} {s : mS} (h : f_M_paintTold N s = some s9) : MetM Sm R0m oFm nm 3 183 [.ref 0] s (none) s9 := by
  refine met_of_G (q := q_M_paintTold) (t0 := s9) y_M_paintTold (Nat.le_of_ble_eq_true rfl) ?_
  rw [← h]
  exact G_eq (mEv_G (orc := mOrc (oL_M_paintTold N)) (ret := rtV) (blks := bl_M_paintTold) (cuts := []) wOKm (by decide) (oo_M_paintTold N) (RetOK_V rfl) bk_M_paintTold (mz_nil)) rfl
noncomputable def C_M_paintTold {ρ : Type} (N : Nat) : List Value → mS → (Option Value → mS → Option ρ) → Option ρ := fun vs s kk => sR vs 0 fun r0 => rv0 r0 ((f_M_paintTold N s).bind fun p => kk none p)
theorem cs_M_paintTold {ρ : Type} {t0 : ρ} {d : Nat} (N : Nat) (hd : 3 + 1 ≤ d) : CallOK Sm R0m oFm nm d t0 183 (C_M_paintTold N) := by
  intro vs s kk h0
  obtain ⟨r0, rfl, h1⟩ := sR_some h0
  obtain ⟨rfl, h2⟩ := rv0_some h1
  obtain ⟨p, hp, hk⟩ := Option.bind_eq_some_iff.mp h2
  exact ⟨_, _, _, hd, m_M_paintTold N hp, hk, fun qy hq hf => by cases y_M_paintTold.symm.trans hq; exact ⟨_, _, rfl, rfl⟩⟩
/-! METHOD PorterDoorsModel.openTold()V -/
set_option maxRecDepth 20000 in
noncomputable def q_M_openTold : mI := (⟨"PorterDoorsModel", "openTold", "()V"⟩, prog_13_method_24_code, 2, none, 10, 1565, 139, 1, 0, 1564, 76)
theorem y_M_openTold : mT[184]? = some q_M_openTold := mT_at_4 (k := 24) rfl
noncomputable def bl_M_openTold : List (Nat × List mO) := [(0, [o0 (.aload_n 0), o0 (.iconst 0), o0 (.aload_n 0), o2 (.getfield 96) 10 37, o0 (.iconst 0), o0 (.iaload), o0 (.iconst 1), o0 (.isub), o2 (.invokevirtual 296) 153 3, o0 (.istore_n 1), o0 (.aload_n 0), o2 (.getfield 227) 10 5, o1 (.ifCond .ne 24) 42, o0 (.aload_n 0), o2 (.getfield 332) 10 40, o0 (.iload_n 1), o0 (.ishr), o0 (.iconst 1), o0 (.iand), o0 (.iconst 1), o1 (.if_icmp .ne 12) 42, o0 (.aload_n 0), o0 (.iconst 2), o0 (.aload_n 0), o2 (.getfield 267) 10 10, o2 (.invokevirtual 257) 152 3]),
  (42, [o0 (.aload_n 0), o2 (.getfield 227) 10 5, o1 (.ifCond .ne 15) 61, o0 (.aload_n 0), o0 (.dup), o2 (.getfield 332) 10 40, o0 (.iconst 1), o0 (.iload_n 1), o0 (.ishl), o0 (.ior), o2 (.putfield 332) 10 40]),
  (61, [o0 (.return_)])]
theorem bk_M_openTold : okBlks q_M_openTold bl_M_openTold = true := by decide +kernel
noncomputable def oL_M_openTold {ρ : Type} (N : Nat) : List (Nat × (List Value → mS → (Option Value → mS → Option ρ) → Option ρ)) := [(153, C_M_number N), (152, C_M_fail N)]
theorem oo_M_openTold {ρ : Type} {t0 : ρ} (N : Nat) : OrcOK Sm R0m oFm nm 3 t0 (mOrc (oL_M_openTold N)) := mOrc_OK (List.forall_mem_cons.mpr ⟨cs_M_number N (by decide), List.forall_mem_cons.mpr ⟨cs_M_fail N (by decide), mz_nil⟩⟩)
noncomputable def H_M_openTold_42 {ρ : Type} (k : (Int32 × mS) → Option ρ) : mL → List Value → mS → Option ρ := fun loc st s => cR loc 0 0 (li1 loc 1 fun v0 => rv0 st (k (v0, s)))
noncomputable def f_M_openTold_j42 (N : Nat) (x : Int32 × mS) : Option (mS) :=
  if (gI x.2 1005 0) = 0 then
    let s1 := sI x.2 1040 0 ((gI x.2 1040 0) ||| (ils 1 x.1))
    some s1
  else
    some x.2
set_option maxRecDepth 100000 in
set_option maxHeartbeats 4000000 in
theorem s_M_openTold_42 (N : Nat) {s9 : mS} : SCd Sm R0m oFm nm 3 q_M_openTold (none, s9) s9 42 (H_M_openTold_42 (f_M_openTold_j42 N)) := by
  intro loc st s
  refine G_cR (fun h0 => ?_)
  refine G_li (fun v0 h1 => ?_)
  refine G_rv0 (fun e9 => ?_)
  subst e9
  refine G_sub (loc0 := [(0, .ref 0), (1, .int v0)]) (List.forall_mem_cons.mpr ⟨h0, List.forall_mem_cons.mpr ⟨h1, mz_nil⟩⟩) ?_
  exact G_eq (mEv_G (orc := mOrc (oL_M_openTold N)) (ret := rtV) (blks := bl_M_openTold) (cuts := []) wOKm (by decide) (oo_M_openTold N) (RetOK_V rfl) bk_M_openTold (mz_nil)) rfl
noncomputable def f_M_openTold (N : Nat) (s : mS) : Option (mS) :=
  (f_M_number N 0 ((gA s 28 0) - 1) s).bind fun p1 =>
  if (gI p1.2 1005 0) = 0 then
    if ((irs (gI p1.2 1040 0) p1.1) &&& 1) = 1 then
      (f_M_fail N 2 (gI p1.2 1010 0) p1.2).bind fun p2 =>
      f_M_openTold_j42 N (p1.1, p2)
    else
      f_M_openTold_j42 N (p1.1, p1.2)
  else
    f_M_openTold_j42 N (p1.1, p1.2)
set_option maxRecDepth 100000 in
set_option maxHeartbeats 4000000 in
theorem m_M_openTold (N : Nat) {s9 : mS} {s : mS} (h : f_M_openTold N s = some s9) : MetM Sm R0m oFm nm 3 184 [.ref 0] s (none) s9 := by
  refine met_of_G (q := q_M_openTold) (t0 := s9) y_M_openTold (Nat.le_of_ble_eq_true rfl) ?_
  rw [← h]
  exact G_eq (mEv_G (orc := mOrc (oL_M_openTold N)) (ret := rtV) (blks := bl_M_openTold) (cuts := [(42, H_M_openTold_42 (f_M_openTold_j42 N))]) wOKm (by decide) (oo_M_openTold N) (RetOK_V rfl) bk_M_openTold (List.forall_mem_cons.mpr ⟨s_M_openTold_42 N, mz_nil⟩)) rfl
noncomputable def C_M_openTold {ρ : Type} (N : Nat) : List Value → mS → (Option Value → mS → Option ρ) → Option ρ := fun vs s kk => sR vs 0 fun r0 => rv0 r0 ((f_M_openTold N s).bind fun p => kk none p)
theorem cs_M_openTold {ρ : Type} {t0 : ρ} {d : Nat} (N : Nat) (hd : 3 + 1 ≤ d) : CallOK Sm R0m oFm nm d t0 184 (C_M_openTold N) := by
  intro vs s kk h0
  obtain ⟨r0, rfl, h1⟩ := sR_some h0
  obtain ⟨rfl, h2⟩ := rv0_some h1
  obtain ⟨p, hp, hk⟩ := Option.bind_eq_some_iff.mp h2
  exact ⟨_, _, _, hd, m_M_openTold N hp, hk, fun qy hq hf => by cases y_M_openTold.symm.trans hq; exact ⟨_, _, rfl, rfl⟩⟩
/-! METHOD PorterDoorsModel.lawTold(III)V -/
set_option maxRecDepth 20000 in
noncomputable def q_M_lawTold : mI := (⟨"PorterDoorsModel", "lawTold", "(III)V"⟩, prog_13_method_21_code, 4, none, 10, 1569, 139, 1, 3, 1568, 77)
theorem y_M_lawTold : mT[185]? = some q_M_lawTold := mT_at_4 (k := 25) rfl
noncomputable def bl_M_lawTold : List (Nat × List mO) := [(0, [o0 (.aload_n 0), o2 (.getfield 227) 10 5, o1 (.ifCond .ne 19) 23, o0 (.aload_n 0), o2 (.getfield 106) 10 41, o0 (.iload_n 1), o0 (.iaload), o0 (.iconst (-1)), o1 (.if_icmp .eq 9) 23, o0 (.aload_n 0), o0 (.iconst 5), o0 (.iload_n 3), o2 (.invokevirtual 257) 152 3]),
  (23, [o0 (.aload_n 0), o2 (.getfield 227) 10 5, o1 (.ifCond .ne 9) 36, o0 (.aload_n 0), o0 (.iload_n 1), o0 (.iload_n 2), o2 (.invokevirtual 325) 162 3]),
  (36, [o0 (.return_)])]
theorem bk_M_lawTold : okBlks q_M_lawTold bl_M_lawTold = true := by decide +kernel
noncomputable def oL_M_lawTold {ρ : Type} (N : Nat) : List (Nat × (List Value → mS → (Option Value → mS → Option ρ) → Option ρ)) := [(152, C_M_fail N), (162, C_M_reads N)]
theorem oo_M_lawTold {ρ : Type} {t0 : ρ} (N : Nat) : OrcOK Sm R0m oFm nm 11 t0 (mOrc (oL_M_lawTold N)) := mOrc_OK (List.forall_mem_cons.mpr ⟨cs_M_fail N (by decide), List.forall_mem_cons.mpr ⟨cs_M_reads N (by decide), mz_nil⟩⟩)
noncomputable def H_M_lawTold_23 {ρ : Type} (k : (Int32 × Int32 × mS) → Option ρ) : mL → List Value → mS → Option ρ := fun loc st s => cR loc 0 0 (li1 loc 1 fun v0 => li1 loc 2 fun v1 => rv0 st (k (v0, v1, s)))
noncomputable def f_M_lawTold_j23 (N : Nat) (x : Int32 × Int32 × mS) : Option (mS) :=
  if (gI x.2.2 1005 0) = 0 then
    (f_M_reads N x.1 x.2.1 x.2.2).bind fun p1 =>
    some p1
  else
    some x.2.2
set_option maxRecDepth 100000 in
set_option maxHeartbeats 4000000 in
theorem s_M_lawTold_23 (N : Nat) {s9 : mS} : SCd Sm R0m oFm nm 11 q_M_lawTold (none, s9) s9 23 (H_M_lawTold_23 (f_M_lawTold_j23 N)) := by
  intro loc st s
  refine G_cR (fun h0 => ?_)
  refine G_li (fun v0 h1 => ?_)
  refine G_li (fun v1 h2 => ?_)
  refine G_rv0 (fun e9 => ?_)
  subst e9
  refine G_sub (loc0 := [(0, .ref 0), (1, .int v0), (2, .int v1)]) (List.forall_mem_cons.mpr ⟨h0, List.forall_mem_cons.mpr ⟨h1, List.forall_mem_cons.mpr ⟨h2, mz_nil⟩⟩⟩) ?_
  exact G_eq (mEv_G (orc := mOrc (oL_M_lawTold N)) (ret := rtV) (blks := bl_M_lawTold) (cuts := []) wOKm (by decide) (oo_M_lawTold N) (RetOK_V rfl) bk_M_lawTold (mz_nil)) rfl
noncomputable def f_M_lawTold (N : Nat) (a1 : Int32) (a2 : Int32) (a3 : Int32) (s : mS) : Option (mS) :=
  if (gI s 1005 0) = 0 then
    grd (inb a1 24) (
    if (gA s 31 (ix a1)) = (-1) then
      f_M_lawTold_j23 N (a1, a2, s)
    else
      (f_M_fail N 5 a3 s).bind fun p1 =>
      f_M_lawTold_j23 N (a1, a2, p1))
  else
    f_M_lawTold_j23 N (a1, a2, s)
set_option maxRecDepth 100000 in
set_option maxHeartbeats 4000000 in
theorem m_M_lawTold (N : Nat) {s9 : mS} (a1 : Int32) (a2 : Int32) (a3 : Int32) {s : mS} (h : f_M_lawTold N a1 a2 a3 s = some s9) : MetM Sm R0m oFm nm 11 185 [.ref 0, .int a1, .int a2, .int a3] s (none) s9 := by
  refine met_of_G (q := q_M_lawTold) (t0 := s9) y_M_lawTold (Nat.le_of_ble_eq_true rfl) ?_
  rw [← h]
  exact G_eq (mEv_G (orc := mOrc (oL_M_lawTold N)) (ret := rtV) (blks := bl_M_lawTold) (cuts := [(23, H_M_lawTold_23 (f_M_lawTold_j23 N))]) wOKm (by decide) (oo_M_lawTold N) (RetOK_V rfl) bk_M_lawTold (List.forall_mem_cons.mpr ⟨s_M_lawTold_23 N, mz_nil⟩)) rfl
noncomputable def C_M_lawTold {ρ : Type} (N : Nat) : List Value → mS → (Option Value → mS → Option ρ) → Option ρ := fun vs s kk => sR vs 0 fun r0 => pi1 r0 fun a1 r1 => pi1 r1 fun a2 r2 => pi1 r2 fun a3 r3 => rv0 r3 ((f_M_lawTold N a1 a2 a3 s).bind fun p => kk none p)
theorem cs_M_lawTold {ρ : Type} {t0 : ρ} {d : Nat} (N : Nat) (hd : 11 + 1 ≤ d) : CallOK Sm R0m oFm nm d t0 185 (C_M_lawTold N) := by
  intro vs s kk h0
  obtain ⟨r0, rfl, h1⟩ := sR_some h0
  obtain ⟨a1, r1, rfl, h2⟩ := pi1_some h1
  obtain ⟨a2, r2, rfl, h3⟩ := pi1_some h2
  obtain ⟨a3, r3, rfl, h4⟩ := pi1_some h3
  obtain ⟨rfl, h5⟩ := rv0_some h4
  obtain ⟨p, hp, hk⟩ := Option.bind_eq_some_iff.mp h5
  exact ⟨_, _, _, hd, m_M_lawTold N a1 a2 a3 hp, hk, fun qy hq hf => by cases y_M_lawTold.symm.trans hq; exact ⟨_, _, rfl, rfl⟩⟩
/-! METHOD PorterDoorsModel.statementTold()V -/
set_option maxRecDepth 20000 in
noncomputable def q_M_statementTold : mI := (⟨"PorterDoorsModel", "statementTold", "()V"⟩, prog_13_method_25_code, 2, none, 10, 1458, 139, 1, 0, 1457, 51)
theorem y_M_statementTold : mT[158]? = some q_M_statementTold := mT_at_3 (k := 38) rfl
noncomputable def bl_M_statementTold : List (Nat × List mO) := [(0, [o0 (.aload_n 0), o2 (.getfield 233) 10 2, o0 (.istore_n 1), o0 (.aload_n 0), o2 (.getfield 335) 10 45, o0 (.bipush 60), o1 (.if_icmp .ne 10) 21, o0 (.aload_n 0), o0 (.iconst 5), o0 (.iload_n 1), o2 (.invokevirtual 257) 152 3, o0 (.return_)]),
  (21, [o0 (.aload_n 0), o0 (.aload_n 0), o2 (.getfield 24) 10 12, o2 (.invokevirtual 254) 148 2, o1 (.ifCond .eq 11) 40, o0 (.aload_n 0), o0 (.iload_n 1), o2 (.invokevirtual 338) 159 2, o1 (.goto 131) 168]),
  (40, [o0 (.aload_n 0), o0 (.aload_n 0), o2 (.getfield 30) 10 14, o2 (.invokevirtual 254) 148 2, o1 (.ifCond .eq 10) 58, o0 (.aload_n 0), o2 (.invokevirtual 341) 183 1, o1 (.goto 113) 168]),
  (58, [o0 (.aload_n 0), o0 (.aload_n 0), o2 (.getfield 33) 10 15, o2 (.invokevirtual 254) 148 2, o1 (.ifCond .eq 10) 76, o0 (.aload_n 0), o2 (.invokevirtual 344) 184 1, o1 (.goto 95) 168]),
  (76, [o0 (.aload_n 0), o0 (.aload_n 0), o2 (.getfield 36) 10 16, o2 (.invokevirtual 254) 148 2, o1 (.ifCond .eq 19) 103, o0 (.aload_n 0), o2 (.getfield 96) 10 37, o0 (.iconst 2), o0 (.aload_n 0), o0 (.iconst 0), o0 (.bipush 99), o2 (.invokevirtual 296) 153 3, o0 (.iastore), o1 (.goto 68) 168]),
  (103, [o0 (.aload_n 0), o0 (.aload_n 0), o2 (.getfield 39) 10 17, o2 (.invokevirtual 254) 148 2, o1 (.ifCond .eq 14) 125, o0 (.aload_n 0), o0 (.bipush 10), o0 (.iconst 2), o0 (.iload_n 1), o2 (.invokevirtual 347) 185 4, o1 (.goto 46) 168]),
  (125, [o0 (.aload_n 0), o0 (.aload_n 0), o2 (.getfield 42) 10 18, o2 (.invokevirtual 254) 148 2, o1 (.ifCond .eq 14) 147, o0 (.aload_n 0), o0 (.bipush 11), o0 (.iconst 1), o0 (.iload_n 1), o2 (.invokevirtual 347) 185 4, o1 (.goto 24) 168]),
  (147, [o0 (.aload_n 0), o0 (.aload_n 0), o2 (.getfield 45) 10 19, o2 (.invokevirtual 292) 147 2, o0 (.aload_n 0), o2 (.getfield 96) 10 37, o0 (.iconst 3), o0 (.aload_n 0), o0 (.iconst 0), o0 (.bipush 100), o2 (.invokevirtual 296) 153 3, o0 (.iastore)]),
  (168, [o0 (.aload_n 0), o0 (.bipush 59), o2 (.invokevirtual 300) 156 2, o0 (.aload_n 0), o0 (.dup), o2 (.getfield 335) 10 45, o0 (.iconst 1), o0 (.iadd), o2 (.putfield 335) 10 45, o0 (.return_)])]
theorem bk_M_statementTold : okBlks q_M_statementTold bl_M_statementTold = true := by decide +kernel
noncomputable def oL_M_statementTold {ρ : Type} (N : Nat) : List (Nat × (List Value → mS → (Option Value → mS → Option ρ) → Option ρ)) := [(152, C_M_fail N), (148, C_M_takes N), (159, C_M_porterTold N), (183, C_M_paintTold N), (184, C_M_openTold N), (153, C_M_number N), (185, C_M_lawTold N), (147, C_M_asks N), (156, C_M_asksSign N)]
theorem oo_M_statementTold {ρ : Type} {t0 : ρ} (N : Nat) : OrcOK Sm R0m oFm nm 12 t0 (mOrc (oL_M_statementTold N)) := mOrc_OK (List.forall_mem_cons.mpr ⟨cs_M_fail N (by decide), List.forall_mem_cons.mpr ⟨cs_M_takes N (by decide), List.forall_mem_cons.mpr ⟨cs_M_porterTold N (by decide), List.forall_mem_cons.mpr ⟨cs_M_paintTold N (by decide), List.forall_mem_cons.mpr ⟨cs_M_openTold N (by decide), List.forall_mem_cons.mpr ⟨cs_M_number N (by decide), List.forall_mem_cons.mpr ⟨cs_M_lawTold N (by decide), List.forall_mem_cons.mpr ⟨cs_M_asks N (by decide), List.forall_mem_cons.mpr ⟨cs_M_asksSign N (by decide), mz_nil⟩⟩⟩⟩⟩⟩⟩⟩⟩)
noncomputable def H_M_statementTold_168 {ρ : Type} (k : mS → Option ρ) : mL → List Value → mS → Option ρ := fun loc st s => cR loc 0 0 (rv0 st (k s))
noncomputable def f_M_statementTold_j168 (N : Nat) (x : mS) : Option (mS) :=
  (f_M_asksSign N 59 x).bind fun p1 =>
  let s2 := sI p1 1045 0 ((gI p1 1045 0) + 1)
  some s2
set_option maxRecDepth 100000 in
set_option maxHeartbeats 4000000 in
theorem s_M_statementTold_168 (N : Nat) {s9 : mS} : SCd Sm R0m oFm nm 12 q_M_statementTold (none, s9) s9 168 (H_M_statementTold_168 (f_M_statementTold_j168 N)) := by
  intro loc st s
  refine G_cR (fun h0 => ?_)
  refine G_rv0 (fun e9 => ?_)
  subst e9
  refine G_sub (loc0 := [(0, .ref 0)]) (List.forall_mem_cons.mpr ⟨h0, mz_nil⟩) ?_
  exact G_eq (mEv_G (orc := mOrc (oL_M_statementTold N)) (ret := rtV) (blks := bl_M_statementTold) (cuts := []) wOKm (by decide) (oo_M_statementTold N) (RetOK_V rfl) bk_M_statementTold (mz_nil)) rfl
noncomputable def f_M_statementTold (N : Nat) (s : mS) : Option (mS) :=
  if (gI s 1045 0) = 60 then
    (f_M_fail N 5 (gI s 1002 0) s).bind fun p17 =>
    some p17
  else
    (f_M_takes N 4 s).bind fun p1 =>
    if p1.1 = 0 then
      (f_M_takes N 6 p1.2).bind fun p2 =>
      if p2.1 = 0 then
        (f_M_takes N 7 p2.2).bind fun p3 =>
        if p3.1 = 0 then
          (f_M_takes N 8 p3.2).bind fun p4 =>
          if p4.1 = 0 then
            (f_M_takes N 9 p4.2).bind fun p5 =>
            if p5.1 = 0 then
              (f_M_takes N 10 p5.2).bind fun p6 =>
              if p6.1 = 0 then
                (f_M_asks N 11 p6.2).bind fun p7 =>
                (f_M_number N 0 100 p7).bind fun p8 =>
                let s9 := sA p8.2 28 3 p8.1
                f_M_statementTold_j168 N s9
              else
                (f_M_lawTold N 11 1 (gI s 1002 0) p6.2).bind fun p10 =>
                f_M_statementTold_j168 N p10
            else
              (f_M_lawTold N 10 2 (gI s 1002 0) p5.2).bind fun p11 =>
              f_M_statementTold_j168 N p11
          else
            (f_M_number N 0 99 p4.2).bind fun p12 =>
            let s13 := sA p12.2 28 2 p12.1
            f_M_statementTold_j168 N s13
        else
          (f_M_openTold N p3.2).bind fun p14 =>
          f_M_statementTold_j168 N p14
      else
        (f_M_paintTold N p2.2).bind fun p15 =>
        f_M_statementTold_j168 N p15
    else
      (f_M_porterTold N (gI s 1002 0) p1.2).bind fun p16 =>
      f_M_statementTold_j168 N p16
set_option maxRecDepth 100000 in
set_option maxHeartbeats 4000000 in
theorem m_M_statementTold (N : Nat) {s9 : mS} {s : mS} (h : f_M_statementTold N s = some s9) : MetM Sm R0m oFm nm 12 158 [.ref 0] s (none) s9 := by
  refine met_of_G (q := q_M_statementTold) (t0 := s9) y_M_statementTold (Nat.le_of_ble_eq_true rfl) ?_
  rw [← h]
  exact G_eq (mEv_G (orc := mOrc (oL_M_statementTold N)) (ret := rtV) (blks := bl_M_statementTold) (cuts := [(168, H_M_statementTold_168 (f_M_statementTold_j168 N))]) wOKm (by decide) (oo_M_statementTold N) (RetOK_V rfl) bk_M_statementTold (List.forall_mem_cons.mpr ⟨s_M_statementTold_168 N, mz_nil⟩)) rfl
noncomputable def C_M_statementTold {ρ : Type} (N : Nat) : List Value → mS → (Option Value → mS → Option ρ) → Option ρ := fun vs s kk => sR vs 0 fun r0 => rv0 r0 ((f_M_statementTold N s).bind fun p => kk none p)
theorem cs_M_statementTold {ρ : Type} {t0 : ρ} {d : Nat} (N : Nat) (hd : 12 + 1 ≤ d) : CallOK Sm R0m oFm nm d t0 158 (C_M_statementTold N) := by
  intro vs s kk h0
  obtain ⟨r0, rfl, h1⟩ := sR_some h0
  obtain ⟨rfl, h2⟩ := rv0_some h1
  obtain ⟨p, hp, hk⟩ := Option.bind_eq_some_iff.mp h2
  exact ⟨_, _, _, hd, m_M_statementTold N hp, hk, fun qy hq hf => by cases y_M_statementTold.symm.trans hq; exact ⟨_, _, rfl, rfl⟩⟩
/-! METHOD PorterDoorsModel.refuses(I)I -/
set_option maxRecDepth 20000 in
noncomputable def q_M_refuses : mI := (⟨"PorterDoorsModel", "refuses", "(I)I"⟩, prog_13_method_87_code, 2, (some .int), 10, 1573, 139, 1, 1, 1572, 78)
theorem y_M_refuses : mT[186]? = some q_M_refuses := mT_at_4 (k := 26) rfl
noncomputable def bl_M_refuses : List (Nat × List mO) := [(0, [o0 (.aload_n 0), o2 (.getfield 17) 10 9, o0 (.iload_n 1), o0 (.dup2), o0 (.iaload), o0 (.iconst 1), o0 (.iadd), o0 (.iastore), o0 (.iconst (-1)), o0 (.ireturn)])]
theorem bk_M_refuses : okBlks q_M_refuses bl_M_refuses = true := by decide +kernel
noncomputable def oL_M_refuses {ρ : Type} (N : Nat) : List (Nat × (List Value → mS → (Option Value → mS → Option ρ) → Option ρ)) := []
theorem oo_M_refuses {ρ : Type} {t0 : ρ} (N : Nat) : OrcOK Sm R0m oFm nm 1 t0 (mOrc (oL_M_refuses N)) := mOrc_OK (mz_nil)
noncomputable def f_M_refuses (N : Nat) (a1 : Int32) (s : mS) : Option (Int32 × mS) :=
  grd (inb a1 6) (
  grd (inb a1 6) (
  let s1 := sA s 2 (ix a1) ((gA s 2 (ix a1)) + 1)
  some ((-1), s1)))
set_option maxRecDepth 100000 in
set_option maxHeartbeats 4000000 in
theorem m_M_refuses (N : Nat) {x9 : Int32} {s9 : mS} (a1 : Int32) {s : mS} (h : f_M_refuses N a1 s = some (x9, s9)) : MetM Sm R0m oFm nm 1 186 [.ref 0, .int a1] s (some (.int x9)) s9 := by
  refine met_of_G (q := q_M_refuses) (t0 := (x9, s9)) y_M_refuses (Nat.le_of_ble_eq_true rfl) ?_
  rw [← h]
  exact G_eq (mEv_G (orc := mOrc (oL_M_refuses N)) (ret := rtI) (blks := bl_M_refuses) (cuts := []) wOKm (by decide) (oo_M_refuses N) (RetOK_I rfl) bk_M_refuses (mz_nil)) rfl
noncomputable def C_M_refuses {ρ : Type} (N : Nat) : List Value → mS → (Option Value → mS → Option ρ) → Option ρ := fun vs s kk => sR vs 0 fun r0 => pi1 r0 fun a1 r1 => rv0 r1 ((f_M_refuses N a1 s).bind fun p => kk (some (.int p.1)) p.2)
theorem cs_M_refuses {ρ : Type} {t0 : ρ} {d : Nat} (N : Nat) (hd : 1 + 1 ≤ d) : CallOK Sm R0m oFm nm d t0 186 (C_M_refuses N) := by
  intro vs s kk h0
  obtain ⟨r0, rfl, h1⟩ := sR_some h0
  obtain ⟨a1, r1, rfl, h2⟩ := pi1_some h1
  obtain ⟨rfl, h3⟩ := rv0_some h2
  obtain ⟨p, hp, hk⟩ := Option.bind_eq_some_iff.mp h3
  exact ⟨_, _, _, hd, m_M_refuses N a1 hp, hk, fun qy hq hf => by cases y_M_refuses.symm.trans hq; exact ⟨_, _, rfl, rfl⟩⟩
/-! METHOD PorterDoorsModel.stands()V -/
set_option maxRecDepth 20000 in
noncomputable def q_M_stands : mI := (⟨"PorterDoorsModel", "stands", "()V"⟩, prog_13_method_27_code, 2, none, 10, 1577, 139, 1, 0, 1576, 79)
theorem y_M_stands : mT[187]? = some q_M_stands := mT_at_4 (k := 27) rfl
noncomputable def bl_M_stands : List (Nat × List mO) := [(0, [o0 (.aload_n 0), o0 (.iconst 1), o2 (.putfield 367) 10 46, o0 (.iconst 0), o0 (.istore_n 1)]),
  (7, [o0 (.iload_n 1), o0 (.iconst 4), o1 (.if_icmp .ge 23) 32, o0 (.aload_n 0), o2 (.getfield 96) 10 37, o0 (.iconst 4), o0 (.iload_n 1), o0 (.iadd), o0 (.aload_n 0), o2 (.getfield 96) 10 37, o0 (.iload_n 1), o0 (.iaload), o0 (.iastore), o0 (.iinc 1 1), o1 (.goto (-22)) 7]),
  (32, [o0 (.iconst 0), o0 (.istore_n 1)]),
  (34, [o0 (.iload_n 1), o0 (.bipush 12), o1 (.if_icmp .ge 39) 76, o0 (.aload_n 0), o2 (.getfield 106) 10 41, o0 (.bipush 12), o0 (.iload_n 1), o0 (.iadd), o0 (.aload_n 0), o2 (.getfield 106) 10 41, o0 (.iload_n 1), o0 (.iaload), o0 (.iastore), o0 (.aload_n 0), o2 (.getfield 109) 10 42, o0 (.bipush 12), o0 (.iload_n 1), o0 (.iadd), o0 (.aload_n 0), o2 (.getfield 109) 10 42, o0 (.iload_n 1), o0 (.iaload), o0 (.iastore), o0 (.iinc 1 1), o1 (.goto (-39)) 34]),
  (76, [o0 (.iconst 0), o0 (.istore_n 1)]),
  (78, [o0 (.iload_n 1), o0 (.bipush 10), o1 (.if_icmp .ge 24) 105, o0 (.aload_n 0), o2 (.getfield 99) 10 38, o0 (.bipush 10), o0 (.iload_n 1), o0 (.iadd), o0 (.aload_n 0), o2 (.getfield 99) 10 38, o0 (.iload_n 1), o0 (.laload), o0 (.lastore), o0 (.iinc 1 1), o1 (.goto (-24)) 78]),
  (105, [o0 (.iconst 0), o0 (.istore_n 1)]),
  (107, [o0 (.iload_n 1), o0 (.aload_n 0), o2 (.getfield 322) 10 44, o1 (.if_icmp .ge 25) 137, o0 (.aload_n 0), o2 (.getfield 112) 10 43, o0 (.sipush 1600), o0 (.iload_n 1), o0 (.iadd), o0 (.aload_n 0), o2 (.getfield 112) 10 43, o0 (.iload_n 1), o0 (.iaload), o0 (.iastore), o0 (.iinc 1 1), o1 (.goto (-27)) 107]),
  (137, [o0 (.iconst 0), o0 (.istore_n 1)]),
  (139, [o0 (.iload_n 1), o0 (.sipush 205), o1 (.if_icmp .ge 16) 159, o0 (.aload_n 0), o2 (.getfield 115) 10 48, o0 (.iload_n 1), o0 (.iconst 0), o0 (.iastore), o0 (.iinc 1 1), o1 (.goto (-17)) 139]),
  (159, [o0 (.iconst 0), o0 (.istore_n 1)]),
  (161, [o0 (.iload_n 1), o0 (.aload_n 0), o2 (.getfield 96) 10 37, o0 (.iconst 0), o0 (.iaload), o1 (.if_icmp .ge 43) 211, o0 (.aload_n 0), o2 (.getfield 115) 10 48, o0 (.iconst 2), o0 (.iconst 3), o0 (.iload_n 1), o0 (.imul), o0 (.iadd), o0 (.aload_n 0), o2 (.getfield 332) 10 40, o0 (.iload_n 1), o0 (.ishr), o0 (.iconst 1), o0 (.iand), o0 (.iastore), o0 (.aload_n 0), o2 (.getfield 115) 10 48, o0 (.iconst 4), o0 (.iconst 3), o0 (.iload_n 1), o0 (.imul), o0 (.iadd), o0 (.aload_n 0), o2 (.getfield 103) 10 39, o0 (.iload_n 1), o0 (.iaload), o0 (.iastore), o0 (.iinc 1 1), o1 (.goto (-47)) 161]),
  (211, [o0 (.aload_n 0), o0 (.iconst 0), o2 (.putfield 371) 10 61, o0 (.aload_n 0), o0 (.iconst 0), o2 (.putfield 374) 10 55, o0 (.return_)])]
theorem bk_M_stands : okBlks q_M_stands bl_M_stands = true := by decide +kernel
noncomputable def oL_M_stands {ρ : Type} (N : Nat) : List (Nat × (List Value → mS → (Option Value → mS → Option ρ) → Option ρ)) := []
theorem oo_M_stands {ρ : Type} {t0 : ρ} (N : Nat) : OrcOK Sm R0m oFm nm 1 t0 (mOrc (oL_M_stands N)) := mOrc_OK (mz_nil)
noncomputable def H_M_stands_7 {ρ : Type} (k : (Int32 × mS) → Option ρ) : mL → List Value → mS → Option ρ := fun loc st s => cR loc 0 0 (li1 loc 1 fun v0 => rv0 st (k (v0, s)))
noncomputable def H_M_stands_34 {ρ : Type} (k : (Int32 × mS) → Option ρ) : mL → List Value → mS → Option ρ := fun loc st s => cR loc 0 0 (li1 loc 1 fun v0 => rv0 st (k (v0, s)))
noncomputable def H_M_stands_78 {ρ : Type} (k : (Int32 × mS) → Option ρ) : mL → List Value → mS → Option ρ := fun loc st s => cR loc 0 0 (li1 loc 1 fun v0 => rv0 st (k (v0, s)))
noncomputable def H_M_stands_107 {ρ : Type} (k : (Int32 × mS) → Option ρ) : mL → List Value → mS → Option ρ := fun loc st s => cR loc 0 0 (li1 loc 1 fun v0 => rv0 st (k (v0, s)))
noncomputable def H_M_stands_139 {ρ : Type} (k : (Int32 × mS) → Option ρ) : mL → List Value → mS → Option ρ := fun loc st s => cR loc 0 0 (li1 loc 1 fun v0 => rv0 st (k (v0, s)))
noncomputable def H_M_stands_161 {ρ : Type} (k : (Int32 × mS) → Option ρ) : mL → List Value → mS → Option ρ := fun loc st s => cR loc 0 0 (li1 loc 1 fun v0 => rv0 st (k (v0, s)))
noncomputable def f_M_stands_L161 (N : Nat) (k161 : (Int32 × mS) → Option (mS)) (x : Int32 × mS) : Option (mS) :=
  if x.1 < (gA x.2 28 0) then
    grd (inb (2 + (3 * x.1)) 205) (
    let s3 := sA x.2 34 (ix (2 + (3 * x.1))) ((irs (gI x.2 1040 0) x.1) &&& 1)
    grd (inb x.1 24) (
    grd (inb (4 + (3 * x.1)) 205) (
    let s4 := sA s3 34 (ix (4 + (3 * x.1))) (gA s3 30 (ix x.1))
    k161 ((x.1 + 1), s4))))
  else
    let s1 := sI x.2 1061 0 0
    let s2 := sI s1 1055 0 0
    some s2
set_option maxRecDepth 100000 in
set_option maxHeartbeats 4000000 in
theorem t_M_stands_161 (N : Nat) {s9 : mS} {k161 : (Int32 × mS) → Option (mS)} (hk161 : SCd Sm R0m oFm nm 1 q_M_stands (none, s9) s9 161 (H_M_stands_161 k161)) : SCd Sm R0m oFm nm 1 q_M_stands (none, s9) s9 161 (H_M_stands_161 (f_M_stands_L161 N k161)) := by
  intro loc st s
  refine G_cR (fun h0 => ?_)
  refine G_li (fun v0 h1 => ?_)
  refine G_rv0 (fun e9 => ?_)
  subst e9
  refine G_sub (loc0 := [(0, .ref 0), (1, .int v0)]) (List.forall_mem_cons.mpr ⟨h0, List.forall_mem_cons.mpr ⟨h1, mz_nil⟩⟩) ?_
  exact G_eq (mEv_G (orc := mOrc (oL_M_stands N)) (ret := rtV) (blks := bl_M_stands) (cuts := [(161, H_M_stands_161 k161)]) wOKm (by decide) (oo_M_stands N) (RetOK_V rfl) bk_M_stands (List.forall_mem_cons.mpr ⟨hk161, mz_nil⟩)) rfl
theorem s_M_stands_161 (N : Nat) {s9 : mS} : SCd Sm R0m oFm nm 1 q_M_stands (none, s9) s9 161 (H_M_stands_161 (mfix N (f_M_stands_L161 N))) := by
  refine mfix_SC (H := H_M_stands_161) (fun loc st s => ?_) (fun k hk => t_M_stands_161 N hk) N
  refine G_cR (fun h0 => ?_)
  refine G_li (fun v0 h1 => ?_)
  refine G_rv0 (fun e9 => ?_)
  subst e9
  exact G_none
noncomputable def f_M_stands_L139 (N : Nat) (k139 : (Int32 × mS) → Option (mS)) (x : Int32 × mS) : Option (mS) :=
  if x.1 < 205 then
    grd (inb x.1 205) (
    let s1 := sA x.2 34 (ix x.1) 0
    k139 ((x.1 + 1), s1))
  else
    mfix N (f_M_stands_L161 N) (0, x.2)
set_option maxRecDepth 100000 in
set_option maxHeartbeats 4000000 in
theorem t_M_stands_139 (N : Nat) {s9 : mS} {k139 : (Int32 × mS) → Option (mS)} (hk139 : SCd Sm R0m oFm nm 1 q_M_stands (none, s9) s9 139 (H_M_stands_139 k139)) : SCd Sm R0m oFm nm 1 q_M_stands (none, s9) s9 139 (H_M_stands_139 (f_M_stands_L139 N k139)) := by
  intro loc st s
  refine G_cR (fun h0 => ?_)
  refine G_li (fun v0 h1 => ?_)
  refine G_rv0 (fun e9 => ?_)
  subst e9
  refine G_sub (loc0 := [(0, .ref 0), (1, .int v0)]) (List.forall_mem_cons.mpr ⟨h0, List.forall_mem_cons.mpr ⟨h1, mz_nil⟩⟩) ?_
  exact G_eq (mEv_G (orc := mOrc (oL_M_stands N)) (ret := rtV) (blks := bl_M_stands) (cuts := [(139, H_M_stands_139 k139), (161, H_M_stands_161 (mfix N (f_M_stands_L161 N)))]) wOKm (by decide) (oo_M_stands N) (RetOK_V rfl) bk_M_stands (List.forall_mem_cons.mpr ⟨hk139, List.forall_mem_cons.mpr ⟨s_M_stands_161 N, mz_nil⟩⟩)) rfl
theorem s_M_stands_139 (N : Nat) {s9 : mS} : SCd Sm R0m oFm nm 1 q_M_stands (none, s9) s9 139 (H_M_stands_139 (mfix N (f_M_stands_L139 N))) := by
  refine mfix_SC (H := H_M_stands_139) (fun loc st s => ?_) (fun k hk => t_M_stands_139 N hk) N
  refine G_cR (fun h0 => ?_)
  refine G_li (fun v0 h1 => ?_)
  refine G_rv0 (fun e9 => ?_)
  subst e9
  exact G_none
noncomputable def f_M_stands_L107 (N : Nat) (k107 : (Int32 × mS) → Option (mS)) (x : Int32 × mS) : Option (mS) :=
  if x.1 < (gI x.2 1044 0) then
    grd (inb x.1 3200) (
    grd (inb (1600 + x.1) 3200) (
    let s1 := sA x.2 33 (ix (1600 + x.1)) (gA x.2 33 (ix x.1))
    k107 ((x.1 + 1), s1)))
  else
    mfix N (f_M_stands_L139 N) (0, x.2)
set_option maxRecDepth 100000 in
set_option maxHeartbeats 4000000 in
theorem t_M_stands_107 (N : Nat) {s9 : mS} {k107 : (Int32 × mS) → Option (mS)} (hk107 : SCd Sm R0m oFm nm 1 q_M_stands (none, s9) s9 107 (H_M_stands_107 k107)) : SCd Sm R0m oFm nm 1 q_M_stands (none, s9) s9 107 (H_M_stands_107 (f_M_stands_L107 N k107)) := by
  intro loc st s
  refine G_cR (fun h0 => ?_)
  refine G_li (fun v0 h1 => ?_)
  refine G_rv0 (fun e9 => ?_)
  subst e9
  refine G_sub (loc0 := [(0, .ref 0), (1, .int v0)]) (List.forall_mem_cons.mpr ⟨h0, List.forall_mem_cons.mpr ⟨h1, mz_nil⟩⟩) ?_
  exact G_eq (mEv_G (orc := mOrc (oL_M_stands N)) (ret := rtV) (blks := bl_M_stands) (cuts := [(107, H_M_stands_107 k107), (139, H_M_stands_139 (mfix N (f_M_stands_L139 N)))]) wOKm (by decide) (oo_M_stands N) (RetOK_V rfl) bk_M_stands (List.forall_mem_cons.mpr ⟨hk107, List.forall_mem_cons.mpr ⟨s_M_stands_139 N, mz_nil⟩⟩)) rfl
theorem s_M_stands_107 (N : Nat) {s9 : mS} : SCd Sm R0m oFm nm 1 q_M_stands (none, s9) s9 107 (H_M_stands_107 (mfix N (f_M_stands_L107 N))) := by
  refine mfix_SC (H := H_M_stands_107) (fun loc st s => ?_) (fun k hk => t_M_stands_107 N hk) N
  refine G_cR (fun h0 => ?_)
  refine G_li (fun v0 h1 => ?_)
  refine G_rv0 (fun e9 => ?_)
  subst e9
  exact G_none
noncomputable def f_M_stands_L78 (N : Nat) (k78 : (Int32 × mS) → Option (mS)) (x : Int32 × mS) : Option (mS) :=
  if x.1 < 10 then
    grd (inb x.1 20) (
    grd (inb (10 + x.1) 20) (
    let s1 := sQ x.2 29 (ix (10 + x.1)) (gQ x.2 29 (ix x.1))
    k78 ((x.1 + 1), s1)))
  else
    mfix N (f_M_stands_L107 N) (0, x.2)
set_option maxRecDepth 100000 in
set_option maxHeartbeats 4000000 in
theorem t_M_stands_78 (N : Nat) {s9 : mS} {k78 : (Int32 × mS) → Option (mS)} (hk78 : SCd Sm R0m oFm nm 1 q_M_stands (none, s9) s9 78 (H_M_stands_78 k78)) : SCd Sm R0m oFm nm 1 q_M_stands (none, s9) s9 78 (H_M_stands_78 (f_M_stands_L78 N k78)) := by
  intro loc st s
  refine G_cR (fun h0 => ?_)
  refine G_li (fun v0 h1 => ?_)
  refine G_rv0 (fun e9 => ?_)
  subst e9
  refine G_sub (loc0 := [(0, .ref 0), (1, .int v0)]) (List.forall_mem_cons.mpr ⟨h0, List.forall_mem_cons.mpr ⟨h1, mz_nil⟩⟩) ?_
  exact G_eq (mEv_G (orc := mOrc (oL_M_stands N)) (ret := rtV) (blks := bl_M_stands) (cuts := [(78, H_M_stands_78 k78), (107, H_M_stands_107 (mfix N (f_M_stands_L107 N)))]) wOKm (by decide) (oo_M_stands N) (RetOK_V rfl) bk_M_stands (List.forall_mem_cons.mpr ⟨hk78, List.forall_mem_cons.mpr ⟨s_M_stands_107 N, mz_nil⟩⟩)) rfl
theorem s_M_stands_78 (N : Nat) {s9 : mS} : SCd Sm R0m oFm nm 1 q_M_stands (none, s9) s9 78 (H_M_stands_78 (mfix N (f_M_stands_L78 N))) := by
  refine mfix_SC (H := H_M_stands_78) (fun loc st s => ?_) (fun k hk => t_M_stands_78 N hk) N
  refine G_cR (fun h0 => ?_)
  refine G_li (fun v0 h1 => ?_)
  refine G_rv0 (fun e9 => ?_)
  subst e9
  exact G_none
noncomputable def f_M_stands_L34 (N : Nat) (k34 : (Int32 × mS) → Option (mS)) (x : Int32 × mS) : Option (mS) :=
  if x.1 < 12 then
    grd (inb x.1 24) (
    grd (inb (12 + x.1) 24) (
    let s1 := sA x.2 31 (ix (12 + x.1)) (gA x.2 31 (ix x.1))
    grd (inb x.1 24) (
    grd (inb (12 + x.1) 24) (
    let s2 := sA s1 32 (ix (12 + x.1)) (gA s1 32 (ix x.1))
    k34 ((x.1 + 1), s2)))))
  else
    mfix N (f_M_stands_L78 N) (0, x.2)
set_option maxRecDepth 100000 in
set_option maxHeartbeats 4000000 in
theorem t_M_stands_34 (N : Nat) {s9 : mS} {k34 : (Int32 × mS) → Option (mS)} (hk34 : SCd Sm R0m oFm nm 1 q_M_stands (none, s9) s9 34 (H_M_stands_34 k34)) : SCd Sm R0m oFm nm 1 q_M_stands (none, s9) s9 34 (H_M_stands_34 (f_M_stands_L34 N k34)) := by
  intro loc st s
  refine G_cR (fun h0 => ?_)
  refine G_li (fun v0 h1 => ?_)
  refine G_rv0 (fun e9 => ?_)
  subst e9
  refine G_sub (loc0 := [(0, .ref 0), (1, .int v0)]) (List.forall_mem_cons.mpr ⟨h0, List.forall_mem_cons.mpr ⟨h1, mz_nil⟩⟩) ?_
  exact G_eq (mEv_G (orc := mOrc (oL_M_stands N)) (ret := rtV) (blks := bl_M_stands) (cuts := [(34, H_M_stands_34 k34), (78, H_M_stands_78 (mfix N (f_M_stands_L78 N)))]) wOKm (by decide) (oo_M_stands N) (RetOK_V rfl) bk_M_stands (List.forall_mem_cons.mpr ⟨hk34, List.forall_mem_cons.mpr ⟨s_M_stands_78 N, mz_nil⟩⟩)) rfl
theorem s_M_stands_34 (N : Nat) {s9 : mS} : SCd Sm R0m oFm nm 1 q_M_stands (none, s9) s9 34 (H_M_stands_34 (mfix N (f_M_stands_L34 N))) := by
  refine mfix_SC (H := H_M_stands_34) (fun loc st s => ?_) (fun k hk => t_M_stands_34 N hk) N
  refine G_cR (fun h0 => ?_)
  refine G_li (fun v0 h1 => ?_)
  refine G_rv0 (fun e9 => ?_)
  subst e9
  exact G_none
noncomputable def f_M_stands_L7 (N : Nat) (k7 : (Int32 × mS) → Option (mS)) (x : Int32 × mS) : Option (mS) :=
  if x.1 < 4 then
    grd (inb x.1 8) (
    grd (inb (4 + x.1) 8) (
    let s1 := sA x.2 28 (ix (4 + x.1)) (gA x.2 28 (ix x.1))
    k7 ((x.1 + 1), s1)))
  else
    mfix N (f_M_stands_L34 N) (0, x.2)
set_option maxRecDepth 100000 in
set_option maxHeartbeats 4000000 in
theorem t_M_stands_7 (N : Nat) {s9 : mS} {k7 : (Int32 × mS) → Option (mS)} (hk7 : SCd Sm R0m oFm nm 1 q_M_stands (none, s9) s9 7 (H_M_stands_7 k7)) : SCd Sm R0m oFm nm 1 q_M_stands (none, s9) s9 7 (H_M_stands_7 (f_M_stands_L7 N k7)) := by
  intro loc st s
  refine G_cR (fun h0 => ?_)
  refine G_li (fun v0 h1 => ?_)
  refine G_rv0 (fun e9 => ?_)
  subst e9
  refine G_sub (loc0 := [(0, .ref 0), (1, .int v0)]) (List.forall_mem_cons.mpr ⟨h0, List.forall_mem_cons.mpr ⟨h1, mz_nil⟩⟩) ?_
  exact G_eq (mEv_G (orc := mOrc (oL_M_stands N)) (ret := rtV) (blks := bl_M_stands) (cuts := [(7, H_M_stands_7 k7), (34, H_M_stands_34 (mfix N (f_M_stands_L34 N)))]) wOKm (by decide) (oo_M_stands N) (RetOK_V rfl) bk_M_stands (List.forall_mem_cons.mpr ⟨hk7, List.forall_mem_cons.mpr ⟨s_M_stands_34 N, mz_nil⟩⟩)) rfl
theorem s_M_stands_7 (N : Nat) {s9 : mS} : SCd Sm R0m oFm nm 1 q_M_stands (none, s9) s9 7 (H_M_stands_7 (mfix N (f_M_stands_L7 N))) := by
  refine mfix_SC (H := H_M_stands_7) (fun loc st s => ?_) (fun k hk => t_M_stands_7 N hk) N
  refine G_cR (fun h0 => ?_)
  refine G_li (fun v0 h1 => ?_)
  refine G_rv0 (fun e9 => ?_)
  subst e9
  exact G_none
noncomputable def f_M_stands (N : Nat) (s : mS) : Option (mS) :=
  let s1 := sI s 1046 0 1
  mfix N (f_M_stands_L7 N) (0, s1)
set_option maxRecDepth 100000 in
set_option maxHeartbeats 4000000 in
theorem m_M_stands (N : Nat) {s9 : mS} {s : mS} (h : f_M_stands N s = some s9) : MetM Sm R0m oFm nm 1 187 [.ref 0] s (none) s9 := by
  refine met_of_G (q := q_M_stands) (t0 := s9) y_M_stands (Nat.le_of_ble_eq_true rfl) ?_
  rw [← h]
  exact G_eq (mEv_G (orc := mOrc (oL_M_stands N)) (ret := rtV) (blks := bl_M_stands) (cuts := [(7, H_M_stands_7 (mfix N (f_M_stands_L7 N)))]) wOKm (by decide) (oo_M_stands N) (RetOK_V rfl) bk_M_stands (List.forall_mem_cons.mpr ⟨s_M_stands_7 N, mz_nil⟩)) rfl
noncomputable def C_M_stands {ρ : Type} (N : Nat) : List Value → mS → (Option Value → mS → Option ρ) → Option ρ := fun vs s kk => sR vs 0 fun r0 => rv0 r0 ((f_M_stands N s).bind fun p => kk none p)
theorem cs_M_stands {ρ : Type} {t0 : ρ} {d : Nat} (N : Nat) (hd : 1 + 1 ≤ d) : CallOK Sm R0m oFm nm d t0 187 (C_M_stands N) := by
  intro vs s kk h0
  obtain ⟨r0, rfl, h1⟩ := sR_some h0
  obtain ⟨rfl, h2⟩ := rv0_some h1
  obtain ⟨p, hp, hk⟩ := Option.bind_eq_some_iff.mp h2
  exact ⟨_, _, _, hd, m_M_stands N hp, hk, fun qy hq hf => by cases y_M_stands.symm.trans hq; exact ⟨_, _, rfl, rfl⟩⟩
/-! METHOD PorterDoorsModel.corridor()I -/
set_option maxRecDepth 20000 in
noncomputable def q_M_corridor : mI := (⟨"PorterDoorsModel", "corridor", "()I"⟩, prog_13_method_26_code, 2, (some .int), 10, 1409, 139, 1, 0, 1407, 1408)
theorem y_M_corridor : mT[145]? = some q_M_corridor := mT_at_3 (k := 25) rfl
noncomputable def bl_M_corridor : List (Nat × List mO) := [(0, [o0 (.aload_n 0), o0 (.aload_n 0), o2 (.getfield 224) 10 1, o2 (.putfield 236) 10 3, o0 (.aload_n 0), o0 (.iconst 0), o2 (.putfield 224) 10 1, o0 (.aload_n 0), o0 (.iconst 0), o2 (.putfield 233) 10 2, o0 (.aload_n 0), o0 (.iconst (-1)), o2 (.putfield 247) 10 4, o0 (.aload_n 0), o0 (.iconst 0), o2 (.putfield 227) 10 5, o0 (.aload_n 0), o0 (.iconst (-1)), o2 (.putfield 230) 10 6, o0 (.aload_n 0), o0 (.iconst 0), o2 (.putfield 322) 10 44, o0 (.aload_n 0), o0 (.iconst 0), o2 (.putfield 332) 10 40, o0 (.iconst 0), o0 (.istore_n 1)]),
  (45, [o0 (.iload_n 1), o0 (.iconst 4), o1 (.if_icmp .ge 16) 63, o0 (.aload_n 0), o2 (.getfield 96) 10 37, o0 (.iload_n 1), o0 (.iconst 0), o0 (.iastore), o0 (.iinc 1 1), o1 (.goto (-15)) 45]),
  (63, [o0 (.iconst 0), o0 (.istore_n 1)]),
  (65, [o0 (.iload_n 1), o0 (.bipush 24), o1 (.if_icmp .ge 16) 84, o0 (.aload_n 0), o2 (.getfield 103) 10 39, o0 (.iload_n 1), o0 (.iconst 0), o0 (.iastore), o0 (.iinc 1 1), o1 (.goto (-16)) 65]),
  (84, [o0 (.iconst 0), o0 (.istore_n 1)]),
  (86, [o0 (.iload_n 1), o0 (.bipush 12), o1 (.if_icmp .ge 16) 105, o0 (.aload_n 0), o2 (.getfield 106) 10 41, o0 (.iload_n 1), o0 (.iconst (-1)), o0 (.iastore), o0 (.iinc 1 1), o1 (.goto (-16)) 86]),
  (105, [o0 (.aload_n 0), o2 (.invokevirtual 351) 146 1, o0 (.aload_n 0), o0 (.iconst 1), o2 (.putfield 335) 10 45]),
  (114, [o0 (.aload_n 0), o2 (.getfield 227) 10 5, o1 (.ifCond .ne 18) 136, o0 (.aload_n 0), o2 (.invokevirtual 239) 150 1, o0 (.iconst (-1)), o1 (.if_icmp .eq 10) 136, o0 (.aload_n 0), o2 (.invokevirtual 354) 158 1, o1 (.goto (-19)) 114]),
  (136, [o0 (.aload_n 0), o0 (.aload_n 0), o2 (.getfield 227) 10 5, o2 (.putfield 357) 10 7, o0 (.aload_n 0), o0 (.aload_n 0), o2 (.getfield 230) 10 6, o2 (.putfield 13) 10 8, o0 (.aload_n 0), o2 (.getfield 227) 10 5, o1 (.ifCond .eq 9) 165, o0 (.aload_n 0), o0 (.iconst 1), o2 (.invokevirtual 360) 186 2, o0 (.ireturn)]),
  (165, [o0 (.aload_n 0), o2 (.invokevirtual 364) 187 1, o0 (.aload_n 0), o2 (.getfield 335) 10 45, o0 (.ireturn)])]
theorem bk_M_corridor : okBlks q_M_corridor bl_M_corridor = true := by decide +kernel
noncomputable def oL_M_corridor {ρ : Type} (N : Nat) : List (Nat × (List Value → mS → (Option Value → mS → Option ρ) → Option ρ)) := [(146, C_M_doorsTold N), (150, C_M_look N), (158, C_M_statementTold N), (186, C_M_refuses N), (187, C_M_stands N)]
theorem oo_M_corridor {ρ : Type} {t0 : ρ} (N : Nat) : OrcOK Sm R0m oFm nm 13 t0 (mOrc (oL_M_corridor N)) := mOrc_OK (List.forall_mem_cons.mpr ⟨cs_M_doorsTold N (by decide), List.forall_mem_cons.mpr ⟨cs_M_look N (by decide), List.forall_mem_cons.mpr ⟨cs_M_statementTold N (by decide), List.forall_mem_cons.mpr ⟨cs_M_refuses N (by decide), List.forall_mem_cons.mpr ⟨cs_M_stands N (by decide), mz_nil⟩⟩⟩⟩⟩)
noncomputable def H_M_corridor_45 {ρ : Type} (k : (Int32 × mS) → Option ρ) : mL → List Value → mS → Option ρ := fun loc st s => cR loc 0 0 (li1 loc 1 fun v0 => rv0 st (k (v0, s)))
noncomputable def H_M_corridor_65 {ρ : Type} (k : (Int32 × mS) → Option ρ) : mL → List Value → mS → Option ρ := fun loc st s => cR loc 0 0 (li1 loc 1 fun v0 => rv0 st (k (v0, s)))
noncomputable def H_M_corridor_86 {ρ : Type} (k : (Int32 × mS) → Option ρ) : mL → List Value → mS → Option ρ := fun loc st s => cR loc 0 0 (li1 loc 1 fun v0 => rv0 st (k (v0, s)))
noncomputable def H_M_corridor_114 {ρ : Type} (k : mS → Option ρ) : mL → List Value → mS → Option ρ := fun loc st s => cR loc 0 0 (rv0 st (k s))
noncomputable def H_M_corridor_136 {ρ : Type} (k : mS → Option ρ) : mL → List Value → mS → Option ρ := fun loc st s => cR loc 0 0 (rv0 st (k s))
noncomputable def f_M_corridor_j136 (N : Nat) (x : mS) : Option (Int32 × mS) :=
  let s1 := sI x 1007 0 (gI x 1005 0)
  let s2 := sI s1 1008 0 (gI s1 1006 0)
  if (gI s2 1005 0) = 0 then
    (f_M_stands N s2).bind fun p3 =>
    some ((gI p3 1045 0), p3)
  else
    (f_M_refuses N 1 s2).bind fun p4 =>
    some (p4.1, p4.2)
set_option maxRecDepth 100000 in
set_option maxHeartbeats 4000000 in
theorem s_M_corridor_136 (N : Nat) {x9 : Int32} {s9 : mS} : SCd Sm R0m oFm nm 13 q_M_corridor (some (.int x9), s9) (x9, s9) 136 (H_M_corridor_136 (f_M_corridor_j136 N)) := by
  intro loc st s
  refine G_cR (fun h0 => ?_)
  refine G_rv0 (fun e9 => ?_)
  subst e9
  refine G_sub (loc0 := [(0, .ref 0)]) (List.forall_mem_cons.mpr ⟨h0, mz_nil⟩) ?_
  exact G_eq (mEv_G (orc := mOrc (oL_M_corridor N)) (ret := rtI) (blks := bl_M_corridor) (cuts := []) wOKm (by decide) (oo_M_corridor N) (RetOK_I rfl) bk_M_corridor (mz_nil)) rfl
noncomputable def f_M_corridor_L114 (N : Nat) (k114 : mS → Option (Int32 × mS)) (x : mS) : Option (Int32 × mS) :=
  if (gI x 1005 0) = 0 then
    (f_M_look N x).bind fun p1 =>
    if p1.1 = (-1) then
      f_M_corridor_j136 N p1.2
    else
      (f_M_statementTold N p1.2).bind fun p2 =>
      k114 p2
  else
    f_M_corridor_j136 N x
set_option maxRecDepth 100000 in
set_option maxHeartbeats 4000000 in
theorem t_M_corridor_114 (N : Nat) {x9 : Int32} {s9 : mS} {k114 : mS → Option (Int32 × mS)} (hk114 : SCd Sm R0m oFm nm 13 q_M_corridor (some (.int x9), s9) (x9, s9) 114 (H_M_corridor_114 k114)) : SCd Sm R0m oFm nm 13 q_M_corridor (some (.int x9), s9) (x9, s9) 114 (H_M_corridor_114 (f_M_corridor_L114 N k114)) := by
  intro loc st s
  refine G_cR (fun h0 => ?_)
  refine G_rv0 (fun e9 => ?_)
  subst e9
  refine G_sub (loc0 := [(0, .ref 0)]) (List.forall_mem_cons.mpr ⟨h0, mz_nil⟩) ?_
  exact G_eq (mEv_G (orc := mOrc (oL_M_corridor N)) (ret := rtI) (blks := bl_M_corridor) (cuts := [(114, H_M_corridor_114 k114), (136, H_M_corridor_136 (f_M_corridor_j136 N))]) wOKm (by decide) (oo_M_corridor N) (RetOK_I rfl) bk_M_corridor (List.forall_mem_cons.mpr ⟨hk114, List.forall_mem_cons.mpr ⟨s_M_corridor_136 N, mz_nil⟩⟩)) rfl
theorem s_M_corridor_114 (N : Nat) {x9 : Int32} {s9 : mS} : SCd Sm R0m oFm nm 13 q_M_corridor (some (.int x9), s9) (x9, s9) 114 (H_M_corridor_114 (mfix N (f_M_corridor_L114 N))) := by
  refine mfix_SC (H := H_M_corridor_114) (fun loc st s => ?_) (fun k hk => t_M_corridor_114 N hk) N
  refine G_cR (fun h0 => ?_)
  refine G_rv0 (fun e9 => ?_)
  subst e9
  exact G_none
noncomputable def f_M_corridor_L86 (N : Nat) (k86 : (Int32 × mS) → Option (Int32 × mS)) (x : Int32 × mS) : Option (Int32 × mS) :=
  if x.1 < 12 then
    grd (inb x.1 24) (
    let s3 := sA x.2 31 (ix x.1) (-1)
    k86 ((x.1 + 1), s3))
  else
    (f_M_doorsTold N x.2).bind fun p1 =>
    let s2 := sI p1 1045 0 1
    mfix N (f_M_corridor_L114 N) s2
set_option maxRecDepth 100000 in
set_option maxHeartbeats 4000000 in
theorem t_M_corridor_86 (N : Nat) {x9 : Int32} {s9 : mS} {k86 : (Int32 × mS) → Option (Int32 × mS)} (hk86 : SCd Sm R0m oFm nm 13 q_M_corridor (some (.int x9), s9) (x9, s9) 86 (H_M_corridor_86 k86)) : SCd Sm R0m oFm nm 13 q_M_corridor (some (.int x9), s9) (x9, s9) 86 (H_M_corridor_86 (f_M_corridor_L86 N k86)) := by
  intro loc st s
  refine G_cR (fun h0 => ?_)
  refine G_li (fun v0 h1 => ?_)
  refine G_rv0 (fun e9 => ?_)
  subst e9
  refine G_sub (loc0 := [(0, .ref 0), (1, .int v0)]) (List.forall_mem_cons.mpr ⟨h0, List.forall_mem_cons.mpr ⟨h1, mz_nil⟩⟩) ?_
  exact G_eq (mEv_G (orc := mOrc (oL_M_corridor N)) (ret := rtI) (blks := bl_M_corridor) (cuts := [(86, H_M_corridor_86 k86), (114, H_M_corridor_114 (mfix N (f_M_corridor_L114 N)))]) wOKm (by decide) (oo_M_corridor N) (RetOK_I rfl) bk_M_corridor (List.forall_mem_cons.mpr ⟨hk86, List.forall_mem_cons.mpr ⟨s_M_corridor_114 N, mz_nil⟩⟩)) rfl
theorem s_M_corridor_86 (N : Nat) {x9 : Int32} {s9 : mS} : SCd Sm R0m oFm nm 13 q_M_corridor (some (.int x9), s9) (x9, s9) 86 (H_M_corridor_86 (mfix N (f_M_corridor_L86 N))) := by
  refine mfix_SC (H := H_M_corridor_86) (fun loc st s => ?_) (fun k hk => t_M_corridor_86 N hk) N
  refine G_cR (fun h0 => ?_)
  refine G_li (fun v0 h1 => ?_)
  refine G_rv0 (fun e9 => ?_)
  subst e9
  exact G_none
noncomputable def f_M_corridor_L65 (N : Nat) (k65 : (Int32 × mS) → Option (Int32 × mS)) (x : Int32 × mS) : Option (Int32 × mS) :=
  if x.1 < 24 then
    grd (inb x.1 24) (
    let s1 := sA x.2 30 (ix x.1) 0
    k65 ((x.1 + 1), s1))
  else
    mfix N (f_M_corridor_L86 N) (0, x.2)
set_option maxRecDepth 100000 in
set_option maxHeartbeats 4000000 in
theorem t_M_corridor_65 (N : Nat) {x9 : Int32} {s9 : mS} {k65 : (Int32 × mS) → Option (Int32 × mS)} (hk65 : SCd Sm R0m oFm nm 13 q_M_corridor (some (.int x9), s9) (x9, s9) 65 (H_M_corridor_65 k65)) : SCd Sm R0m oFm nm 13 q_M_corridor (some (.int x9), s9) (x9, s9) 65 (H_M_corridor_65 (f_M_corridor_L65 N k65)) := by
  intro loc st s
  refine G_cR (fun h0 => ?_)
  refine G_li (fun v0 h1 => ?_)
  refine G_rv0 (fun e9 => ?_)
  subst e9
  refine G_sub (loc0 := [(0, .ref 0), (1, .int v0)]) (List.forall_mem_cons.mpr ⟨h0, List.forall_mem_cons.mpr ⟨h1, mz_nil⟩⟩) ?_
  exact G_eq (mEv_G (orc := mOrc (oL_M_corridor N)) (ret := rtI) (blks := bl_M_corridor) (cuts := [(65, H_M_corridor_65 k65), (86, H_M_corridor_86 (mfix N (f_M_corridor_L86 N)))]) wOKm (by decide) (oo_M_corridor N) (RetOK_I rfl) bk_M_corridor (List.forall_mem_cons.mpr ⟨hk65, List.forall_mem_cons.mpr ⟨s_M_corridor_86 N, mz_nil⟩⟩)) rfl
theorem s_M_corridor_65 (N : Nat) {x9 : Int32} {s9 : mS} : SCd Sm R0m oFm nm 13 q_M_corridor (some (.int x9), s9) (x9, s9) 65 (H_M_corridor_65 (mfix N (f_M_corridor_L65 N))) := by
  refine mfix_SC (H := H_M_corridor_65) (fun loc st s => ?_) (fun k hk => t_M_corridor_65 N hk) N
  refine G_cR (fun h0 => ?_)
  refine G_li (fun v0 h1 => ?_)
  refine G_rv0 (fun e9 => ?_)
  subst e9
  exact G_none
noncomputable def f_M_corridor_L45 (N : Nat) (k45 : (Int32 × mS) → Option (Int32 × mS)) (x : Int32 × mS) : Option (Int32 × mS) :=
  if x.1 < 4 then
    grd (inb x.1 8) (
    let s1 := sA x.2 28 (ix x.1) 0
    k45 ((x.1 + 1), s1))
  else
    mfix N (f_M_corridor_L65 N) (0, x.2)
set_option maxRecDepth 100000 in
set_option maxHeartbeats 4000000 in
theorem t_M_corridor_45 (N : Nat) {x9 : Int32} {s9 : mS} {k45 : (Int32 × mS) → Option (Int32 × mS)} (hk45 : SCd Sm R0m oFm nm 13 q_M_corridor (some (.int x9), s9) (x9, s9) 45 (H_M_corridor_45 k45)) : SCd Sm R0m oFm nm 13 q_M_corridor (some (.int x9), s9) (x9, s9) 45 (H_M_corridor_45 (f_M_corridor_L45 N k45)) := by
  intro loc st s
  refine G_cR (fun h0 => ?_)
  refine G_li (fun v0 h1 => ?_)
  refine G_rv0 (fun e9 => ?_)
  subst e9
  refine G_sub (loc0 := [(0, .ref 0), (1, .int v0)]) (List.forall_mem_cons.mpr ⟨h0, List.forall_mem_cons.mpr ⟨h1, mz_nil⟩⟩) ?_
  exact G_eq (mEv_G (orc := mOrc (oL_M_corridor N)) (ret := rtI) (blks := bl_M_corridor) (cuts := [(45, H_M_corridor_45 k45), (65, H_M_corridor_65 (mfix N (f_M_corridor_L65 N)))]) wOKm (by decide) (oo_M_corridor N) (RetOK_I rfl) bk_M_corridor (List.forall_mem_cons.mpr ⟨hk45, List.forall_mem_cons.mpr ⟨s_M_corridor_65 N, mz_nil⟩⟩)) rfl
theorem s_M_corridor_45 (N : Nat) {x9 : Int32} {s9 : mS} : SCd Sm R0m oFm nm 13 q_M_corridor (some (.int x9), s9) (x9, s9) 45 (H_M_corridor_45 (mfix N (f_M_corridor_L45 N))) := by
  refine mfix_SC (H := H_M_corridor_45) (fun loc st s => ?_) (fun k hk => t_M_corridor_45 N hk) N
  refine G_cR (fun h0 => ?_)
  refine G_li (fun v0 h1 => ?_)
  refine G_rv0 (fun e9 => ?_)
  subst e9
  exact G_none
noncomputable def f_M_corridor (N : Nat) (s : mS) : Option (Int32 × mS) :=
  let s1 := sI s 1003 0 (gI s 1001 0)
  let s2 := sI s1 1001 0 0
  let s3 := sI s2 1002 0 0
  let s4 := sI s3 1004 0 (-1)
  let s5 := sI s4 1005 0 0
  let s6 := sI s5 1006 0 (-1)
  let s7 := sI s6 1044 0 0
  let s8 := sI s7 1040 0 0
  mfix N (f_M_corridor_L45 N) (0, s8)
set_option maxRecDepth 100000 in
set_option maxHeartbeats 4000000 in
theorem m_M_corridor (N : Nat) {x9 : Int32} {s9 : mS} {s : mS} (h : f_M_corridor N s = some (x9, s9)) : MetM Sm R0m oFm nm 13 145 [.ref 0] s (some (.int x9)) s9 := by
  refine met_of_G (q := q_M_corridor) (t0 := (x9, s9)) y_M_corridor (Nat.le_of_ble_eq_true rfl) ?_
  rw [← h]
  exact G_eq (mEv_G (orc := mOrc (oL_M_corridor N)) (ret := rtI) (blks := bl_M_corridor) (cuts := [(45, H_M_corridor_45 (mfix N (f_M_corridor_L45 N)))]) wOKm (by decide) (oo_M_corridor N) (RetOK_I rfl) bk_M_corridor (List.forall_mem_cons.mpr ⟨s_M_corridor_45 N, mz_nil⟩)) rfl
noncomputable def C_M_corridor {ρ : Type} (N : Nat) : List Value → mS → (Option Value → mS → Option ρ) → Option ρ := fun vs s kk => sR vs 0 fun r0 => rv0 r0 ((f_M_corridor N s).bind fun p => kk (some (.int p.1)) p.2)
theorem cs_M_corridor {ρ : Type} {t0 : ρ} {d : Nat} (N : Nat) (hd : 13 + 1 ≤ d) : CallOK Sm R0m oFm nm d t0 145 (C_M_corridor N) := by
  intro vs s kk h0
  obtain ⟨r0, rfl, h1⟩ := sR_some h0
  obtain ⟨rfl, h2⟩ := rv0_some h1
  obtain ⟨p, hp, hk⟩ := Option.bind_eq_some_iff.mp h2
  exact ⟨_, _, _, hd, m_M_corridor N hp, hk, fun qy hq hf => by cases y_M_corridor.symm.trans hq; exact ⟨_, _, rfl, rfl⟩⟩
/-! METHOD PorterDoorsModel.fault(I)I -/
set_option maxRecDepth 20000 in
noncomputable def q_M_fault : mI := (⟨"PorterDoorsModel", "fault", "(I)I"⟩, prog_13_method_28_code, 2, (some .int), 10, 1581, 139, 1, 1, 1579, 1580)
theorem y_M_fault : mT[188]? = some q_M_fault := mT_at_4 (k := 28) rfl
noncomputable def bl_M_fault : List (Nat × List mO) := [(0, [o0 (.iload_n 1), o1 (.ifCond .ne 10) 11, o0 (.aload_n 0), o2 (.getfield 357) 10 7, o1 (.goto 16) 24]),
  (11, [o0 (.iload_n 1), o0 (.iconst 1), o1 (.if_icmp .ne 10) 23, o0 (.aload_n 0), o2 (.getfield 13) 10 8, o1 (.goto 4) 24]),
  (23, [o0 (.iconst (-1))]),
  (24, [o0 (.ireturn)])]
theorem bk_M_fault : okBlks q_M_fault bl_M_fault = true := by decide +kernel
noncomputable def oL_M_fault {ρ : Type} (N : Nat) : List (Nat × (List Value → mS → (Option Value → mS → Option ρ) → Option ρ)) := []
theorem oo_M_fault {ρ : Type} {t0 : ρ} (N : Nat) : OrcOK Sm R0m oFm nm 1 t0 (mOrc (oL_M_fault N)) := mOrc_OK (mz_nil)
noncomputable def f_M_fault (N : Nat) (a1 : Int32) (s : mS) : Option (Int32 × mS) :=
  if a1 = 0 then
    some ((gI s 1007 0), s)
  else
    if a1 = 1 then
      some ((gI s 1008 0), s)
    else
      some ((-1), s)
set_option maxRecDepth 100000 in
set_option maxHeartbeats 4000000 in
theorem m_M_fault (N : Nat) {x9 : Int32} {s9 : mS} (a1 : Int32) {s : mS} (h : f_M_fault N a1 s = some (x9, s9)) : MetM Sm R0m oFm nm 1 188 [.ref 0, .int a1] s (some (.int x9)) s9 := by
  refine met_of_G (q := q_M_fault) (t0 := (x9, s9)) y_M_fault (Nat.le_of_ble_eq_true rfl) ?_
  rw [← h]
  exact G_eq (mEv_G (orc := mOrc (oL_M_fault N)) (ret := rtI) (blks := bl_M_fault) (cuts := []) wOKm (by decide) (oo_M_fault N) (RetOK_I rfl) bk_M_fault (mz_nil)) rfl
noncomputable def C_M_fault {ρ : Type} (N : Nat) : List Value → mS → (Option Value → mS → Option ρ) → Option ρ := fun vs s kk => sR vs 0 fun r0 => pi1 r0 fun a1 r1 => rv0 r1 ((f_M_fault N a1 s).bind fun p => kk (some (.int p.1)) p.2)
theorem cs_M_fault {ρ : Type} {t0 : ρ} {d : Nat} (N : Nat) (hd : 1 + 1 ≤ d) : CallOK Sm R0m oFm nm d t0 188 (C_M_fault N) := by
  intro vs s kk h0
  obtain ⟨r0, rfl, h1⟩ := sR_some h0
  obtain ⟨a1, r1, rfl, h2⟩ := pi1_some h1
  obtain ⟨rfl, h3⟩ := rv0_some h2
  obtain ⟨p, hp, hk⟩ := Option.bind_eq_some_iff.mp h3
  exact ⟨_, _, _, hd, m_M_fault N a1 hp, hk, fun qy hq hf => by cases y_M_fault.symm.trans hq; exact ⟨_, _, rfl, rfl⟩⟩
/-! METHOD PorterDoorsModel.doorMany()I -/
set_option maxRecDepth 20000 in
noncomputable def q_M_doorMany : mI := (⟨"PorterDoorsModel", "doorMany", "()I"⟩, prog_13_method_29_code, 1, (some .int), 10, 1589, 139, 1, 0, 1588, 80)
theorem y_M_doorMany : mT[190]? = some q_M_doorMany := mT_at_4 (k := 30) rfl
noncomputable def bl_M_doorMany : List (Nat × List mO) := [(0, [o0 (.aload_n 0), o2 (.getfield 96) 10 37, o0 (.iconst 4), o0 (.iaload), o0 (.ireturn)])]
theorem bk_M_doorMany : okBlks q_M_doorMany bl_M_doorMany = true := by decide +kernel
noncomputable def oL_M_doorMany {ρ : Type} (N : Nat) : List (Nat × (List Value → mS → (Option Value → mS → Option ρ) → Option ρ)) := []
theorem oo_M_doorMany {ρ : Type} {t0 : ρ} (N : Nat) : OrcOK Sm R0m oFm nm 1 t0 (mOrc (oL_M_doorMany N)) := mOrc_OK (mz_nil)
noncomputable def f_M_doorMany (N : Nat) (s : mS) : Option (Int32 × mS) :=
  some ((gA s 28 4), s)
set_option maxRecDepth 100000 in
set_option maxHeartbeats 4000000 in
theorem m_M_doorMany (N : Nat) {x9 : Int32} {s9 : mS} {s : mS} (h : f_M_doorMany N s = some (x9, s9)) : MetM Sm R0m oFm nm 1 190 [.ref 0] s (some (.int x9)) s9 := by
  refine met_of_G (q := q_M_doorMany) (t0 := (x9, s9)) y_M_doorMany (Nat.le_of_ble_eq_true rfl) ?_
  rw [← h]
  exact G_eq (mEv_G (orc := mOrc (oL_M_doorMany N)) (ret := rtI) (blks := bl_M_doorMany) (cuts := []) wOKm (by decide) (oo_M_doorMany N) (RetOK_I rfl) bk_M_doorMany (mz_nil)) rfl
noncomputable def C_M_doorMany {ρ : Type} (N : Nat) : List Value → mS → (Option Value → mS → Option ρ) → Option ρ := fun vs s kk => sR vs 0 fun r0 => rv0 r0 ((f_M_doorMany N s).bind fun p => kk (some (.int p.1)) p.2)
theorem cs_M_doorMany {ρ : Type} {t0 : ρ} {d : Nat} (N : Nat) (hd : 1 + 1 ≤ d) : CallOK Sm R0m oFm nm d t0 190 (C_M_doorMany N) := by
  intro vs s kk h0
  obtain ⟨r0, rfl, h1⟩ := sR_some h0
  obtain ⟨rfl, h2⟩ := rv0_some h1
  obtain ⟨p, hp, hk⟩ := Option.bind_eq_some_iff.mp h2
  exact ⟨_, _, _, hd, m_M_doorMany N hp, hk, fun qy hq hf => by cases y_M_doorMany.symm.trans hq; exact ⟨_, _, rfl, rfl⟩⟩
/-! METHOD PorterDoorsModel.porterMany()I -/
set_option maxRecDepth 20000 in
noncomputable def q_M_porterMany : mI := (⟨"PorterDoorsModel", "porterMany", "()I"⟩, prog_13_method_30_code, 1, (some .int), 10, 1593, 139, 1, 0, 1592, 81)
theorem y_M_porterMany : mT[191]? = some q_M_porterMany := mT_at_4 (k := 31) rfl
noncomputable def bl_M_porterMany : List (Nat × List mO) := [(0, [o0 (.aload_n 0), o2 (.getfield 96) 10 37, o0 (.iconst 5), o0 (.iaload), o0 (.ireturn)])]
theorem bk_M_porterMany : okBlks q_M_porterMany bl_M_porterMany = true := by decide +kernel
noncomputable def oL_M_porterMany {ρ : Type} (N : Nat) : List (Nat × (List Value → mS → (Option Value → mS → Option ρ) → Option ρ)) := []
theorem oo_M_porterMany {ρ : Type} {t0 : ρ} (N : Nat) : OrcOK Sm R0m oFm nm 1 t0 (mOrc (oL_M_porterMany N)) := mOrc_OK (mz_nil)
noncomputable def f_M_porterMany (N : Nat) (s : mS) : Option (Int32 × mS) :=
  some ((gA s 28 5), s)
set_option maxRecDepth 100000 in
set_option maxHeartbeats 4000000 in
theorem m_M_porterMany (N : Nat) {x9 : Int32} {s9 : mS} {s : mS} (h : f_M_porterMany N s = some (x9, s9)) : MetM Sm R0m oFm nm 1 191 [.ref 0] s (some (.int x9)) s9 := by
  refine met_of_G (q := q_M_porterMany) (t0 := (x9, s9)) y_M_porterMany (Nat.le_of_ble_eq_true rfl) ?_
  rw [← h]
  exact G_eq (mEv_G (orc := mOrc (oL_M_porterMany N)) (ret := rtI) (blks := bl_M_porterMany) (cuts := []) wOKm (by decide) (oo_M_porterMany N) (RetOK_I rfl) bk_M_porterMany (mz_nil)) rfl
noncomputable def C_M_porterMany {ρ : Type} (N : Nat) : List Value → mS → (Option Value → mS → Option ρ) → Option ρ := fun vs s kk => sR vs 0 fun r0 => rv0 r0 ((f_M_porterMany N s).bind fun p => kk (some (.int p.1)) p.2)
theorem cs_M_porterMany {ρ : Type} {t0 : ρ} {d : Nat} (N : Nat) (hd : 1 + 1 ≤ d) : CallOK Sm R0m oFm nm d t0 191 (C_M_porterMany N) := by
  intro vs s kk h0
  obtain ⟨r0, rfl, h1⟩ := sR_some h0
  obtain ⟨rfl, h2⟩ := rv0_some h1
  obtain ⟨p, hp, hk⟩ := Option.bind_eq_some_iff.mp h2
  exact ⟨_, _, _, hd, m_M_porterMany N hp, hk, fun qy hq hf => by cases y_M_porterMany.symm.trans hq; exact ⟨_, _, rfl, rfl⟩⟩
/-! METHOD PorterDoorsModel.openOf(I)I -/
set_option maxRecDepth 20000 in
noncomputable def q_M_openOf : mI := (⟨"PorterDoorsModel", "openOf", "(I)I"⟩, prog_13_method_33_code, 2, (some .int), 10, 1605, 139, 1, 1, 1604, 84)
theorem y_M_openOf : mT[194]? = some q_M_openOf := mT_at_4 (k := 34) rfl
noncomputable def bl_M_openOf : List (Nat × List mO) := [(0, [o0 (.aload_n 0), o2 (.getfield 115) 10 48, o0 (.iconst 2), o0 (.iconst 3), o0 (.iload_n 1), o0 (.imul), o0 (.iadd), o0 (.iaload), o0 (.ireturn)])]
theorem bk_M_openOf : okBlks q_M_openOf bl_M_openOf = true := by decide +kernel
noncomputable def oL_M_openOf {ρ : Type} (N : Nat) : List (Nat × (List Value → mS → (Option Value → mS → Option ρ) → Option ρ)) := []
theorem oo_M_openOf {ρ : Type} {t0 : ρ} (N : Nat) : OrcOK Sm R0m oFm nm 1 t0 (mOrc (oL_M_openOf N)) := mOrc_OK (mz_nil)
noncomputable def f_M_openOf (N : Nat) (a1 : Int32) (s : mS) : Option (Int32 × mS) :=
  grd (inb (2 + (3 * a1)) 205) (
  some ((gA s 34 (ix (2 + (3 * a1)))), s))
set_option maxRecDepth 100000 in
set_option maxHeartbeats 4000000 in
theorem m_M_openOf (N : Nat) {x9 : Int32} {s9 : mS} (a1 : Int32) {s : mS} (h : f_M_openOf N a1 s = some (x9, s9)) : MetM Sm R0m oFm nm 1 194 [.ref 0, .int a1] s (some (.int x9)) s9 := by
  refine met_of_G (q := q_M_openOf) (t0 := (x9, s9)) y_M_openOf (Nat.le_of_ble_eq_true rfl) ?_
  rw [← h]
  exact G_eq (mEv_G (orc := mOrc (oL_M_openOf N)) (ret := rtI) (blks := bl_M_openOf) (cuts := []) wOKm (by decide) (oo_M_openOf N) (RetOK_I rfl) bk_M_openOf (mz_nil)) rfl
noncomputable def C_M_openOf {ρ : Type} (N : Nat) : List Value → mS → (Option Value → mS → Option ρ) → Option ρ := fun vs s kk => sR vs 0 fun r0 => pi1 r0 fun a1 r1 => rv0 r1 ((f_M_openOf N a1 s).bind fun p => kk (some (.int p.1)) p.2)
theorem cs_M_openOf {ρ : Type} {t0 : ρ} {d : Nat} (N : Nat) (hd : 1 + 1 ≤ d) : CallOK Sm R0m oFm nm d t0 194 (C_M_openOf N) := by
  intro vs s kk h0
  obtain ⟨r0, rfl, h1⟩ := sR_some h0
  obtain ⟨a1, r1, rfl, h2⟩ := pi1_some h1
  obtain ⟨rfl, h3⟩ := rv0_some h2
  obtain ⟨p, hp, hk⟩ := Option.bind_eq_some_iff.mp h3
  exact ⟨_, _, _, hd, m_M_openOf N a1 hp, hk, fun qy hq hf => by cases y_M_openOf.symm.trans hq; exact ⟨_, _, rfl, rfl⟩⟩
/-! METHOD PorterDoorsModel.openSet()I -/
set_option maxRecDepth 20000 in
noncomputable def q_M_openSet : mI := (⟨"PorterDoorsModel", "openSet", "()I"⟩, prog_13_method_37_code, 3, (some .int), 10, 1601, 139, 1, 0, 1600, 83)
theorem y_M_openSet : mT[193]? = some q_M_openSet := mT_at_4 (k := 33) rfl
noncomputable def bl_M_openSet : List (Nat × List mO) := [(0, [o0 (.iconst 0), o0 (.istore_n 1), o0 (.iconst 0), o0 (.istore_n 2)]),
  (4, [o0 (.iload_n 2), o0 (.aload_n 0), o2 (.invokevirtual 377) 190 1, o1 (.if_icmp .ge 19) 28, o0 (.iload_n 1), o0 (.aload_n 0), o0 (.iload_n 2), o2 (.invokevirtual 386) 194 2, o0 (.iload_n 2), o0 (.ishl), o0 (.ior), o0 (.istore_n 1), o0 (.iinc 2 1), o1 (.goto (-21)) 4]),
  (28, [o0 (.iload_n 1), o0 (.ireturn)])]
theorem bk_M_openSet : okBlks q_M_openSet bl_M_openSet = true := by decide +kernel
noncomputable def oL_M_openSet {ρ : Type} (N : Nat) : List (Nat × (List Value → mS → (Option Value → mS → Option ρ) → Option ρ)) := [(190, C_M_doorMany N), (194, C_M_openOf N)]
theorem oo_M_openSet {ρ : Type} {t0 : ρ} (N : Nat) : OrcOK Sm R0m oFm nm 2 t0 (mOrc (oL_M_openSet N)) := mOrc_OK (List.forall_mem_cons.mpr ⟨cs_M_doorMany N (by decide), List.forall_mem_cons.mpr ⟨cs_M_openOf N (by decide), mz_nil⟩⟩)
noncomputable def H_M_openSet_4 {ρ : Type} (k : (Int32 × Int32 × mS) → Option ρ) : mL → List Value → mS → Option ρ := fun loc st s => cR loc 0 0 (li1 loc 1 fun v0 => li1 loc 2 fun v1 => rv0 st (k (v0, v1, s)))
noncomputable def f_M_openSet_L4 (N : Nat) (k4 : (Int32 × Int32 × mS) → Option (Int32 × mS)) (x : Int32 × Int32 × mS) : Option (Int32 × mS) :=
  (f_M_doorMany N x.2.2).bind fun p1 =>
  if x.2.1 < p1.1 then
    (f_M_openOf N x.2.1 p1.2).bind fun p2 =>
    k4 ((x.1 ||| (ils p2.1 x.2.1)), (x.2.1 + 1), p2.2)
  else
    some (x.1, p1.2)
set_option maxRecDepth 100000 in
set_option maxHeartbeats 4000000 in
theorem t_M_openSet_4 (N : Nat) {x9 : Int32} {s9 : mS} {k4 : (Int32 × Int32 × mS) → Option (Int32 × mS)} (hk4 : SCd Sm R0m oFm nm 2 q_M_openSet (some (.int x9), s9) (x9, s9) 4 (H_M_openSet_4 k4)) : SCd Sm R0m oFm nm 2 q_M_openSet (some (.int x9), s9) (x9, s9) 4 (H_M_openSet_4 (f_M_openSet_L4 N k4)) := by
  intro loc st s
  refine G_cR (fun h0 => ?_)
  refine G_li (fun v0 h1 => ?_)
  refine G_li (fun v1 h2 => ?_)
  refine G_rv0 (fun e9 => ?_)
  subst e9
  refine G_sub (loc0 := [(0, .ref 0), (1, .int v0), (2, .int v1)]) (List.forall_mem_cons.mpr ⟨h0, List.forall_mem_cons.mpr ⟨h1, List.forall_mem_cons.mpr ⟨h2, mz_nil⟩⟩⟩) ?_
  exact G_eq (mEv_G (orc := mOrc (oL_M_openSet N)) (ret := rtI) (blks := bl_M_openSet) (cuts := [(4, H_M_openSet_4 k4)]) wOKm (by decide) (oo_M_openSet N) (RetOK_I rfl) bk_M_openSet (List.forall_mem_cons.mpr ⟨hk4, mz_nil⟩)) rfl
theorem s_M_openSet_4 (N : Nat) {x9 : Int32} {s9 : mS} : SCd Sm R0m oFm nm 2 q_M_openSet (some (.int x9), s9) (x9, s9) 4 (H_M_openSet_4 (mfix N (f_M_openSet_L4 N))) := by
  refine mfix_SC (H := H_M_openSet_4) (fun loc st s => ?_) (fun k hk => t_M_openSet_4 N hk) N
  refine G_cR (fun h0 => ?_)
  refine G_li (fun v0 h1 => ?_)
  refine G_li (fun v1 h2 => ?_)
  refine G_rv0 (fun e9 => ?_)
  subst e9
  exact G_none
noncomputable def f_M_openSet (N : Nat) (s : mS) : Option (Int32 × mS) :=
  mfix N (f_M_openSet_L4 N) (0, 0, s)
set_option maxRecDepth 100000 in
set_option maxHeartbeats 4000000 in
theorem m_M_openSet (N : Nat) {x9 : Int32} {s9 : mS} {s : mS} (h : f_M_openSet N s = some (x9, s9)) : MetM Sm R0m oFm nm 2 193 [.ref 0] s (some (.int x9)) s9 := by
  refine met_of_G (q := q_M_openSet) (t0 := (x9, s9)) y_M_openSet (Nat.le_of_ble_eq_true rfl) ?_
  rw [← h]
  exact G_eq (mEv_G (orc := mOrc (oL_M_openSet N)) (ret := rtI) (blks := bl_M_openSet) (cuts := [(4, H_M_openSet_4 (mfix N (f_M_openSet_L4 N)))]) wOKm (by decide) (oo_M_openSet N) (RetOK_I rfl) bk_M_openSet (List.forall_mem_cons.mpr ⟨s_M_openSet_4 N, mz_nil⟩)) rfl
noncomputable def C_M_openSet {ρ : Type} (N : Nat) : List Value → mS → (Option Value → mS → Option ρ) → Option ρ := fun vs s kk => sR vs 0 fun r0 => rv0 r0 ((f_M_openSet N s).bind fun p => kk (some (.int p.1)) p.2)
theorem cs_M_openSet {ρ : Type} {t0 : ρ} {d : Nat} (N : Nat) (hd : 2 + 1 ≤ d) : CallOK Sm R0m oFm nm d t0 193 (C_M_openSet N) := by
  intro vs s kk h0
  obtain ⟨r0, rfl, h1⟩ := sR_some h0
  obtain ⟨rfl, h2⟩ := rv0_some h1
  obtain ⟨p, hp, hk⟩ := Option.bind_eq_some_iff.mp h2
  exact ⟨_, _, _, hd, m_M_openSet N hp, hk, fun qy hq hf => by cases y_M_openSet.symm.trans hq; exact ⟨_, _, rfl, rfl⟩⟩
/-! METHOD PorterDoorsModel.bits(I)I -/
set_option maxRecDepth 20000 in
noncomputable def q_M_bits : mI := (⟨"PorterDoorsModel", "bits", "(I)I"⟩, prog_13_method_38_code, 3, (some .int), 10, 1608, 139, 0, 1, 1607, 0)
theorem y_M_bits : mT[195]? = some q_M_bits := mT_at_4 (k := 35) rfl
noncomputable def bl_M_bits : List (Nat × List mO) := [(0, [o0 (.iconst 0), o0 (.istore_n 1), o0 (.iload_n 0), o0 (.istore_n 2)]),
  (4, [o0 (.iload_n 2), o1 (.ifCond .eq 15) 20, o0 (.iinc 1 1), o0 (.iload_n 2), o0 (.iload_n 2), o0 (.iconst 1), o0 (.isub), o0 (.iand), o0 (.istore_n 2), o1 (.goto (-13)) 4]),
  (20, [o0 (.iload_n 1), o0 (.ireturn)])]
theorem bk_M_bits : okBlks q_M_bits bl_M_bits = true := by decide +kernel
noncomputable def oL_M_bits {ρ : Type} (N : Nat) : List (Nat × (List Value → mS → (Option Value → mS → Option ρ) → Option ρ)) := []
theorem oo_M_bits {ρ : Type} {t0 : ρ} (N : Nat) : OrcOK Sm R0m oFm nm 1 t0 (mOrc (oL_M_bits N)) := mOrc_OK (mz_nil)
noncomputable def H_M_bits_4 {ρ : Type} (k : (Int32 × Int32 × mS) → Option ρ) : mL → List Value → mS → Option ρ := fun loc st s => li1 loc 1 fun v0 => li1 loc 2 fun v1 => rv0 st (k (v0, v1, s))
noncomputable def f_M_bits_L4 (N : Nat) (k4 : (Int32 × Int32 × mS) → Option (Int32 × mS)) (x : Int32 × Int32 × mS) : Option (Int32 × mS) :=
  if x.2.1 = 0 then
    some (x.1, x.2.2)
  else
    k4 ((x.1 + 1), (x.2.1 &&& (x.2.1 - 1)), x.2.2)
set_option maxRecDepth 100000 in
set_option maxHeartbeats 4000000 in
theorem t_M_bits_4 (N : Nat) {x9 : Int32} {s9 : mS} {k4 : (Int32 × Int32 × mS) → Option (Int32 × mS)} (hk4 : SCd Sm R0m oFm nm 1 q_M_bits (some (.int x9), s9) (x9, s9) 4 (H_M_bits_4 k4)) : SCd Sm R0m oFm nm 1 q_M_bits (some (.int x9), s9) (x9, s9) 4 (H_M_bits_4 (f_M_bits_L4 N k4)) := by
  intro loc st s
  refine G_li (fun v0 h1 => ?_)
  refine G_li (fun v1 h2 => ?_)
  refine G_rv0 (fun e9 => ?_)
  subst e9
  refine G_sub (loc0 := [(1, .int v0), (2, .int v1)]) (List.forall_mem_cons.mpr ⟨h1, List.forall_mem_cons.mpr ⟨h2, mz_nil⟩⟩) ?_
  exact G_eq (mEv_G (orc := mOrc (oL_M_bits N)) (ret := rtI) (blks := bl_M_bits) (cuts := [(4, H_M_bits_4 k4)]) wOKm (by decide) (oo_M_bits N) (RetOK_I rfl) bk_M_bits (List.forall_mem_cons.mpr ⟨hk4, mz_nil⟩)) rfl
theorem s_M_bits_4 (N : Nat) {x9 : Int32} {s9 : mS} : SCd Sm R0m oFm nm 1 q_M_bits (some (.int x9), s9) (x9, s9) 4 (H_M_bits_4 (mfix N (f_M_bits_L4 N))) := by
  refine mfix_SC (H := H_M_bits_4) (fun loc st s => ?_) (fun k hk => t_M_bits_4 N hk) N
  refine G_li (fun v0 h1 => ?_)
  refine G_li (fun v1 h2 => ?_)
  refine G_rv0 (fun e9 => ?_)
  subst e9
  exact G_none
noncomputable def f_M_bits (N : Nat) (a0 : Int32) (s : mS) : Option (Int32 × mS) :=
  mfix N (f_M_bits_L4 N) (0, a0, s)
set_option maxRecDepth 100000 in
set_option maxHeartbeats 4000000 in
theorem m_M_bits (N : Nat) {x9 : Int32} {s9 : mS} (a0 : Int32) {s : mS} (h : f_M_bits N a0 s = some (x9, s9)) : MetM Sm R0m oFm nm 1 195 [.int a0] s (some (.int x9)) s9 := by
  refine met_of_G (q := q_M_bits) (t0 := (x9, s9)) y_M_bits (Nat.le_of_ble_eq_true rfl) ?_
  rw [← h]
  exact G_eq (mEv_G (orc := mOrc (oL_M_bits N)) (ret := rtI) (blks := bl_M_bits) (cuts := [(4, H_M_bits_4 (mfix N (f_M_bits_L4 N)))]) wOKm (by decide) (oo_M_bits N) (RetOK_I rfl) bk_M_bits (List.forall_mem_cons.mpr ⟨s_M_bits_4 N, mz_nil⟩)) rfl
noncomputable def C_M_bits {ρ : Type} (N : Nat) : List Value → mS → (Option Value → mS → Option ρ) → Option ρ := fun vs s kk => pi1 vs fun a0 r0 => rv0 r0 ((f_M_bits N a0 s).bind fun p => kk (some (.int p.1)) p.2)
theorem cs_M_bits {ρ : Type} {t0 : ρ} {d : Nat} (N : Nat) (hd : 1 + 1 ≤ d) : CallOK Sm R0m oFm nm d t0 195 (C_M_bits N) := by
  intro vs s kk h0
  obtain ⟨a0, r0, rfl, h1⟩ := pi1_some h0
  obtain ⟨rfl, h2⟩ := rv0_some h1
  obtain ⟨p, hp, hk⟩ := Option.bind_eq_some_iff.mp h2
  exact ⟨_, _, _, hd, m_M_bits N a0 hp, hk, fun qy hq hf => by cases y_M_bits.symm.trans hq; exact absurd hf (by decide)⟩
/-! METHOD PorterDoorsModel.openMany()I -/
set_option maxRecDepth 20000 in
noncomputable def q_M_openMany : mI := (⟨"PorterDoorsModel", "openMany", "()I"⟩, prog_13_method_39_code, 1, (some .int), 10, 1597, 139, 1, 0, 1596, 82)
theorem y_M_openMany : mT[192]? = some q_M_openMany := mT_at_4 (k := 32) rfl
noncomputable def bl_M_openMany : List (Nat × List mO) := [(0, [o0 (.aload_n 0), o2 (.invokevirtual 389) 193 1, o2 (.invokestatic 392) 195 1, o0 (.ireturn)])]
theorem bk_M_openMany : okBlks q_M_openMany bl_M_openMany = true := by decide +kernel
noncomputable def oL_M_openMany {ρ : Type} (N : Nat) : List (Nat × (List Value → mS → (Option Value → mS → Option ρ) → Option ρ)) := [(193, C_M_openSet N), (195, C_M_bits N)]
theorem oo_M_openMany {ρ : Type} {t0 : ρ} (N : Nat) : OrcOK Sm R0m oFm nm 3 t0 (mOrc (oL_M_openMany N)) := mOrc_OK (List.forall_mem_cons.mpr ⟨cs_M_openSet N (by decide), List.forall_mem_cons.mpr ⟨cs_M_bits N (by decide), mz_nil⟩⟩)
noncomputable def f_M_openMany (N : Nat) (s : mS) : Option (Int32 × mS) :=
  (f_M_openSet N s).bind fun p1 =>
  (f_M_bits N p1.1 p1.2).bind fun p2 =>
  some (p2.1, p2.2)
set_option maxRecDepth 100000 in
set_option maxHeartbeats 4000000 in
theorem m_M_openMany (N : Nat) {x9 : Int32} {s9 : mS} {s : mS} (h : f_M_openMany N s = some (x9, s9)) : MetM Sm R0m oFm nm 3 192 [.ref 0] s (some (.int x9)) s9 := by
  refine met_of_G (q := q_M_openMany) (t0 := (x9, s9)) y_M_openMany (Nat.le_of_ble_eq_true rfl) ?_
  rw [← h]
  exact G_eq (mEv_G (orc := mOrc (oL_M_openMany N)) (ret := rtI) (blks := bl_M_openMany) (cuts := []) wOKm (by decide) (oo_M_openMany N) (RetOK_I rfl) bk_M_openMany (mz_nil)) rfl
noncomputable def C_M_openMany {ρ : Type} (N : Nat) : List Value → mS → (Option Value → mS → Option ρ) → Option ρ := fun vs s kk => sR vs 0 fun r0 => rv0 r0 ((f_M_openMany N s).bind fun p => kk (some (.int p.1)) p.2)
theorem cs_M_openMany {ρ : Type} {t0 : ρ} {d : Nat} (N : Nat) (hd : 3 + 1 ≤ d) : CallOK Sm R0m oFm nm d t0 192 (C_M_openMany N) := by
  intro vs s kk h0
  obtain ⟨r0, rfl, h1⟩ := sR_some h0
  obtain ⟨rfl, h2⟩ := rv0_some h1
  obtain ⟨p, hp, hk⟩ := Option.bind_eq_some_iff.mp h2
  exact ⟨_, _, _, hd, m_M_openMany N hp, hk, fun qy hq hf => by cases y_M_openMany.symm.trans hq; exact ⟨_, _, rfl, rfl⟩⟩
/-! METHOD PorterDoorsModel.turnedOf(I)I -/
set_option maxRecDepth 20000 in
noncomputable def q_M_turnedOf : mI := (⟨"PorterDoorsModel", "turnedOf", "(I)I"⟩, prog_13_method_34_code, 2, (some .int), 10, 1620, 139, 1, 1, 1619, 87)
theorem y_M_turnedOf : mT[198]? = some q_M_turnedOf := mT_at_4 (k := 38) rfl
noncomputable def bl_M_turnedOf : List (Nat × List mO) := [(0, [o0 (.aload_n 0), o2 (.getfield 115) 10 48, o0 (.iconst 3), o0 (.iconst 3), o0 (.iload_n 1), o0 (.imul), o0 (.iadd), o0 (.iaload), o0 (.ireturn)])]
theorem bk_M_turnedOf : okBlks q_M_turnedOf bl_M_turnedOf = true := by decide +kernel
noncomputable def oL_M_turnedOf {ρ : Type} (N : Nat) : List (Nat × (List Value → mS → (Option Value → mS → Option ρ) → Option ρ)) := []
theorem oo_M_turnedOf {ρ : Type} {t0 : ρ} (N : Nat) : OrcOK Sm R0m oFm nm 1 t0 (mOrc (oL_M_turnedOf N)) := mOrc_OK (mz_nil)
noncomputable def f_M_turnedOf (N : Nat) (a1 : Int32) (s : mS) : Option (Int32 × mS) :=
  grd (inb (3 + (3 * a1)) 205) (
  some ((gA s 34 (ix (3 + (3 * a1)))), s))
set_option maxRecDepth 100000 in
set_option maxHeartbeats 4000000 in
theorem m_M_turnedOf (N : Nat) {x9 : Int32} {s9 : mS} (a1 : Int32) {s : mS} (h : f_M_turnedOf N a1 s = some (x9, s9)) : MetM Sm R0m oFm nm 1 198 [.ref 0, .int a1] s (some (.int x9)) s9 := by
  refine met_of_G (q := q_M_turnedOf) (t0 := (x9, s9)) y_M_turnedOf (Nat.le_of_ble_eq_true rfl) ?_
  rw [← h]
  exact G_eq (mEv_G (orc := mOrc (oL_M_turnedOf N)) (ret := rtI) (blks := bl_M_turnedOf) (cuts := []) wOKm (by decide) (oo_M_turnedOf N) (RetOK_I rfl) bk_M_turnedOf (mz_nil)) rfl
noncomputable def C_M_turnedOf {ρ : Type} (N : Nat) : List Value → mS → (Option Value → mS → Option ρ) → Option ρ := fun vs s kk => sR vs 0 fun r0 => pi1 r0 fun a1 r1 => rv0 r1 ((f_M_turnedOf N a1 s).bind fun p => kk (some (.int p.1)) p.2)
theorem cs_M_turnedOf {ρ : Type} {t0 : ρ} {d : Nat} (N : Nat) (hd : 1 + 1 ≤ d) : CallOK Sm R0m oFm nm d t0 198 (C_M_turnedOf N) := by
  intro vs s kk h0
  obtain ⟨r0, rfl, h1⟩ := sR_some h0
  obtain ⟨a1, r1, rfl, h2⟩ := pi1_some h1
  obtain ⟨rfl, h3⟩ := rv0_some h2
  obtain ⟨p, hp, hk⟩ := Option.bind_eq_some_iff.mp h3
  exact ⟨_, _, _, hd, m_M_turnedOf N a1 hp, hk, fun qy hq hf => by cases y_M_turnedOf.symm.trans hq; exact ⟨_, _, rfl, rfl⟩⟩
/-! METHOD PorterDoorsModel.isJammed(I)Z -/
set_option maxRecDepth 20000 in
noncomputable def q_M_isJammed : mI := (⟨"PorterDoorsModel", "isJammed", "(I)Z"⟩, prog_13_method_36_code, 2, (some .boolean), 10, 1616, 139, 1, 1, 1615, 86)
theorem y_M_isJammed : mT[197]? = some q_M_isJammed := mT_at_4 (k := 37) rfl
noncomputable def bl_M_isJammed : List (Nat × List mO) := [(0, [o0 (.aload_n 0), o2 (.getfield 96) 10 37, o0 (.bipush 6), o0 (.iaload), o1 (.ifCond .le 22) 29, o0 (.aload_n 0), o0 (.iload_n 1), o2 (.invokevirtual 383) 198 2, o0 (.aload_n 0), o2 (.getfield 96) 10 37, o0 (.bipush 6), o0 (.iaload), o1 (.if_icmp .lt 7) 29, o0 (.iconst 1), o1 (.goto 4) 30]),
  (29, [o0 (.iconst 0)]),
  (30, [o0 (.ireturn)])]
theorem bk_M_isJammed : okBlks q_M_isJammed bl_M_isJammed = true := by decide +kernel
noncomputable def oL_M_isJammed {ρ : Type} (N : Nat) : List (Nat × (List Value → mS → (Option Value → mS → Option ρ) → Option ρ)) := [(198, C_M_turnedOf N)]
theorem oo_M_isJammed {ρ : Type} {t0 : ρ} (N : Nat) : OrcOK Sm R0m oFm nm 2 t0 (mOrc (oL_M_isJammed N)) := mOrc_OK (List.forall_mem_cons.mpr ⟨cs_M_turnedOf N (by decide), mz_nil⟩)
noncomputable def f_M_isJammed (N : Nat) (a1 : Int32) (s : mS) : Option (Int32 × mS) :=
  if 0 < (gA s 28 6) then
    (f_M_turnedOf N a1 s).bind fun p1 =>
    if p1.1 < (gA p1.2 28 6) then
      some (0, p1.2)
    else
      some (1, p1.2)
  else
    some (0, s)
set_option maxRecDepth 100000 in
set_option maxHeartbeats 4000000 in
theorem m_M_isJammed (N : Nat) {x9 : Int32} {s9 : mS} (a1 : Int32) {s : mS} (h : f_M_isJammed N a1 s = some (x9, s9)) : MetM Sm R0m oFm nm 2 197 [.ref 0, .int a1] s (some (.int x9)) s9 := by
  refine met_of_G (q := q_M_isJammed) (t0 := (x9, s9)) y_M_isJammed (Nat.le_of_ble_eq_true rfl) ?_
  rw [← h]
  exact G_eq (mEv_G (orc := mOrc (oL_M_isJammed N)) (ret := rtZ) (blks := bl_M_isJammed) (cuts := []) wOKm (by decide) (oo_M_isJammed N) (RetOK_Z rfl) bk_M_isJammed (mz_nil)) rfl
noncomputable def C_M_isJammed {ρ : Type} (N : Nat) : List Value → mS → (Option Value → mS → Option ρ) → Option ρ := fun vs s kk => sR vs 0 fun r0 => pi1 r0 fun a1 r1 => rv0 r1 ((f_M_isJammed N a1 s).bind fun p => kk (some (.int p.1)) p.2)
theorem cs_M_isJammed {ρ : Type} {t0 : ρ} {d : Nat} (N : Nat) (hd : 2 + 1 ≤ d) : CallOK Sm R0m oFm nm d t0 197 (C_M_isJammed N) := by
  intro vs s kk h0
  obtain ⟨r0, rfl, h1⟩ := sR_some h0
  obtain ⟨a1, r1, rfl, h2⟩ := pi1_some h1
  obtain ⟨rfl, h3⟩ := rv0_some h2
  obtain ⟨p, hp, hk⟩ := Option.bind_eq_some_iff.mp h3
  exact ⟨_, _, _, hd, m_M_isJammed N a1 hp, hk, fun qy hq hf => by cases y_M_isJammed.symm.trans hq; exact ⟨_, _, rfl, rfl⟩⟩
/-! METHOD PorterDoorsModel.jammedMany()I -/
set_option maxRecDepth 20000 in
noncomputable def q_M_jammedMany : mI := (⟨"PorterDoorsModel", "jammedMany", "()I"⟩, prog_13_method_55_code, 3, (some .int), 10, 1612, 139, 1, 0, 1611, 85)
theorem y_M_jammedMany : mT[196]? = some q_M_jammedMany := mT_at_4 (k := 36) rfl
noncomputable def bl_M_jammedMany : List (Nat × List mO) := [(0, [o0 (.iconst 0), o0 (.istore_n 1), o0 (.iconst 0), o0 (.istore_n 2)]),
  (4, [o0 (.iload_n 2), o0 (.aload_n 0), o2 (.invokevirtual 377) 190 1, o1 (.if_icmp .ge 20) 29, o0 (.aload_n 0), o0 (.iload_n 2), o2 (.invokevirtual 425) 197 2, o1 (.ifCond .eq 6) 23, o0 (.iinc 1 1)]),
  (23, [o0 (.iinc 2 1), o1 (.goto (-22)) 4]),
  (29, [o0 (.iload_n 1), o0 (.ireturn)])]
theorem bk_M_jammedMany : okBlks q_M_jammedMany bl_M_jammedMany = true := by decide +kernel
noncomputable def oL_M_jammedMany {ρ : Type} (N : Nat) : List (Nat × (List Value → mS → (Option Value → mS → Option ρ) → Option ρ)) := [(190, C_M_doorMany N), (197, C_M_isJammed N)]
theorem oo_M_jammedMany {ρ : Type} {t0 : ρ} (N : Nat) : OrcOK Sm R0m oFm nm 3 t0 (mOrc (oL_M_jammedMany N)) := mOrc_OK (List.forall_mem_cons.mpr ⟨cs_M_doorMany N (by decide), List.forall_mem_cons.mpr ⟨cs_M_isJammed N (by decide), mz_nil⟩⟩)
noncomputable def H_M_jammedMany_4 {ρ : Type} (k : (Int32 × Int32 × mS) → Option ρ) : mL → List Value → mS → Option ρ := fun loc st s => cR loc 0 0 (li1 loc 1 fun v0 => li1 loc 2 fun v1 => rv0 st (k (v0, v1, s)))
noncomputable def f_M_jammedMany_L4 (N : Nat) (k4 : (Int32 × Int32 × mS) → Option (Int32 × mS)) (x : Int32 × Int32 × mS) : Option (Int32 × mS) :=
  (f_M_doorMany N x.2.2).bind fun p1 =>
  if x.2.1 < p1.1 then
    (f_M_isJammed N x.2.1 p1.2).bind fun p2 =>
    if p2.1 = 0 then
      k4 (x.1, (x.2.1 + 1), p2.2)
    else
      k4 ((x.1 + 1), (x.2.1 + 1), p2.2)
  else
    some (x.1, p1.2)
set_option maxRecDepth 100000 in
set_option maxHeartbeats 4000000 in
theorem t_M_jammedMany_4 (N : Nat) {x9 : Int32} {s9 : mS} {k4 : (Int32 × Int32 × mS) → Option (Int32 × mS)} (hk4 : SCd Sm R0m oFm nm 3 q_M_jammedMany (some (.int x9), s9) (x9, s9) 4 (H_M_jammedMany_4 k4)) : SCd Sm R0m oFm nm 3 q_M_jammedMany (some (.int x9), s9) (x9, s9) 4 (H_M_jammedMany_4 (f_M_jammedMany_L4 N k4)) := by
  intro loc st s
  refine G_cR (fun h0 => ?_)
  refine G_li (fun v0 h1 => ?_)
  refine G_li (fun v1 h2 => ?_)
  refine G_rv0 (fun e9 => ?_)
  subst e9
  refine G_sub (loc0 := [(0, .ref 0), (1, .int v0), (2, .int v1)]) (List.forall_mem_cons.mpr ⟨h0, List.forall_mem_cons.mpr ⟨h1, List.forall_mem_cons.mpr ⟨h2, mz_nil⟩⟩⟩) ?_
  exact G_eq (mEv_G (orc := mOrc (oL_M_jammedMany N)) (ret := rtI) (blks := bl_M_jammedMany) (cuts := [(4, H_M_jammedMany_4 k4)]) wOKm (by decide) (oo_M_jammedMany N) (RetOK_I rfl) bk_M_jammedMany (List.forall_mem_cons.mpr ⟨hk4, mz_nil⟩)) rfl
theorem s_M_jammedMany_4 (N : Nat) {x9 : Int32} {s9 : mS} : SCd Sm R0m oFm nm 3 q_M_jammedMany (some (.int x9), s9) (x9, s9) 4 (H_M_jammedMany_4 (mfix N (f_M_jammedMany_L4 N))) := by
  refine mfix_SC (H := H_M_jammedMany_4) (fun loc st s => ?_) (fun k hk => t_M_jammedMany_4 N hk) N
  refine G_cR (fun h0 => ?_)
  refine G_li (fun v0 h1 => ?_)
  refine G_li (fun v1 h2 => ?_)
  refine G_rv0 (fun e9 => ?_)
  subst e9
  exact G_none
noncomputable def f_M_jammedMany (N : Nat) (s : mS) : Option (Int32 × mS) :=
  mfix N (f_M_jammedMany_L4 N) (0, 0, s)
set_option maxRecDepth 100000 in
set_option maxHeartbeats 4000000 in
theorem m_M_jammedMany (N : Nat) {x9 : Int32} {s9 : mS} {s : mS} (h : f_M_jammedMany N s = some (x9, s9)) : MetM Sm R0m oFm nm 3 196 [.ref 0] s (some (.int x9)) s9 := by
  refine met_of_G (q := q_M_jammedMany) (t0 := (x9, s9)) y_M_jammedMany (Nat.le_of_ble_eq_true rfl) ?_
  rw [← h]
  exact G_eq (mEv_G (orc := mOrc (oL_M_jammedMany N)) (ret := rtI) (blks := bl_M_jammedMany) (cuts := [(4, H_M_jammedMany_4 (mfix N (f_M_jammedMany_L4 N)))]) wOKm (by decide) (oo_M_jammedMany N) (RetOK_I rfl) bk_M_jammedMany (List.forall_mem_cons.mpr ⟨s_M_jammedMany_4 N, mz_nil⟩)) rfl
noncomputable def C_M_jammedMany {ρ : Type} (N : Nat) : List Value → mS → (Option Value → mS → Option ρ) → Option ρ := fun vs s kk => sR vs 0 fun r0 => rv0 r0 ((f_M_jammedMany N s).bind fun p => kk (some (.int p.1)) p.2)
theorem cs_M_jammedMany {ρ : Type} {t0 : ρ} {d : Nat} (N : Nat) (hd : 3 + 1 ≤ d) : CallOK Sm R0m oFm nm d t0 196 (C_M_jammedMany N) := by
  intro vs s kk h0
  obtain ⟨r0, rfl, h1⟩ := sR_some h0
  obtain ⟨rfl, h2⟩ := rv0_some h1
  obtain ⟨p, hp, hk⟩ := Option.bind_eq_some_iff.mp h2
  exact ⟨_, _, _, hd, m_M_jammedMany N hp, hk, fun qy hq hf => by cases y_M_jammedMany.symm.trans hq; exact ⟨_, _, rfl, rfl⟩⟩
/-! METHOD PorterDoorsModel.has(I)I -/
set_option maxRecDepth 20000 in
noncomputable def q_M_has : mI := (⟨"PorterDoorsModel", "has", "(I)I"⟩, prog_13_method_56_code, 2, (some .int), 10, 1585, 139, 1, 1, 1583, 1584)
theorem y_M_has : mT[189]? = some q_M_has := mT_at_4 (k := 29) rfl
noncomputable def bl_M_has : List (Nat × List mO) := [(0, [o0 (.iload_n 1), oS (.tableswitch 115 0 9 #[55, 60, 65, 72, 77, 82, 89, 97, 105, 110]) 116 [56, 61, 66, 73, 78, 83, 90, 98, 106, 111]]),
  (56, [o0 (.aload_n 0), o2 (.invokevirtual 377) 190 1, o0 (.ireturn)]),
  (61, [o0 (.aload_n 0), o2 (.invokevirtual 380) 191 1, o0 (.ireturn)]),
  (66, [o0 (.aload_n 0), o2 (.getfield 115) 10 48, o0 (.iconst 0), o0 (.iaload), o0 (.ireturn)]),
  (73, [o0 (.aload_n 0), o2 (.invokevirtual 460) 192 1, o0 (.ireturn)]),
  (78, [o0 (.aload_n 0), o2 (.invokevirtual 463) 196 1, o0 (.ireturn)]),
  (83, [o0 (.aload_n 0), o2 (.getfield 115) 10 48, o0 (.iconst 1), o0 (.iaload), o0 (.ireturn)]),
  (90, [o0 (.aload_n 0), o2 (.getfield 96) 10 37, o0 (.bipush 6), o0 (.iaload), o0 (.ireturn)]),
  (98, [o0 (.aload_n 0), o2 (.getfield 115) 10 48, o0 (.bipush 84), o0 (.iaload), o0 (.ireturn)]),
  (106, [o0 (.aload_n 0), o2 (.getfield 374) 10 55, o0 (.ireturn)]),
  (111, [o0 (.aload_n 0), o2 (.getfield 371) 10 61, o0 (.ireturn)]),
  (116, [o0 (.iconst (-1)), o0 (.ireturn)])]
theorem bk_M_has : okBlks q_M_has bl_M_has = true := by decide +kernel
noncomputable def oL_M_has {ρ : Type} (N : Nat) : List (Nat × (List Value → mS → (Option Value → mS → Option ρ) → Option ρ)) := [(190, C_M_doorMany N), (191, C_M_porterMany N), (192, C_M_openMany N), (196, C_M_jammedMany N)]
theorem oo_M_has {ρ : Type} {t0 : ρ} (N : Nat) : OrcOK Sm R0m oFm nm 4 t0 (mOrc (oL_M_has N)) := mOrc_OK (List.forall_mem_cons.mpr ⟨cs_M_doorMany N (by decide), List.forall_mem_cons.mpr ⟨cs_M_porterMany N (by decide), List.forall_mem_cons.mpr ⟨cs_M_openMany N (by decide), List.forall_mem_cons.mpr ⟨cs_M_jammedMany N (by decide), mz_nil⟩⟩⟩⟩)
noncomputable def f_M_has (N : Nat) (a1 : Int32) (s : mS) : Option (Int32 × mS) :=
  if a1 = 0 then
    (f_M_doorMany N s).bind fun p1 =>
    some (p1.1, p1.2)
  else if a1 = 1 then
    (f_M_porterMany N s).bind fun p2 =>
    some (p2.1, p2.2)
  else if a1 = 2 then
    some ((gA s 34 0), s)
  else if a1 = 3 then
    (f_M_openMany N s).bind fun p3 =>
    some (p3.1, p3.2)
  else if a1 = 4 then
    (f_M_jammedMany N s).bind fun p4 =>
    some (p4.1, p4.2)
  else if a1 = 5 then
    some ((gA s 34 1), s)
  else if a1 = 6 then
    some ((gA s 28 6), s)
  else if a1 = 7 then
    some ((gA s 34 84), s)
  else if a1 = 8 then
    some ((gI s 1055 0), s)
  else if a1 = 9 then
    some ((gI s 1061 0), s)
  else
    some ((-1), s)
set_option maxRecDepth 100000 in
set_option maxHeartbeats 4000000 in
theorem m_M_has (N : Nat) {x9 : Int32} {s9 : mS} (a1 : Int32) {s : mS} (h : f_M_has N a1 s = some (x9, s9)) : MetM Sm R0m oFm nm 4 189 [.ref 0, .int a1] s (some (.int x9)) s9 := by
  refine met_of_G (q := q_M_has) (t0 := (x9, s9)) y_M_has (Nat.le_of_ble_eq_true rfl) ?_
  rw [← h]
  exact G_eq (mEv_G (orc := mOrc (oL_M_has N)) (ret := rtI) (blks := bl_M_has) (cuts := []) wOKm (by decide) (oo_M_has N) (RetOK_I rfl) bk_M_has (mz_nil)) rfl
noncomputable def C_M_has {ρ : Type} (N : Nat) : List Value → mS → (Option Value → mS → Option ρ) → Option ρ := fun vs s kk => sR vs 0 fun r0 => pi1 r0 fun a1 r1 => rv0 r1 ((f_M_has N a1 s).bind fun p => kk (some (.int p.1)) p.2)
theorem cs_M_has {ρ : Type} {t0 : ρ} {d : Nat} (N : Nat) (hd : 4 + 1 ≤ d) : CallOK Sm R0m oFm nm d t0 189 (C_M_has N) := by
  intro vs s kk h0
  obtain ⟨r0, rfl, h1⟩ := sR_some h0
  obtain ⟨a1, r1, rfl, h2⟩ := pi1_some h1
  obtain ⟨rfl, h3⟩ := rv0_some h2
  obtain ⟨p, hp, hk⟩ := Option.bind_eq_some_iff.mp h3
  exact ⟨_, _, _, hd, m_M_has N a1 hp, hk, fun qy hq hf => by cases y_M_has.symm.trans hq; exact ⟨_, _, rfl, rfl⟩⟩
/-! METHOD PorterDoorsModel.isPorter(J)Z -/
set_option maxRecDepth 20000 in
noncomputable def q_M_isPorter : mI := (⟨"PorterDoorsModel", "isPorter", "(J)Z"⟩, prog_13_method_32_code, 3, (some .boolean), 10, 1628, 139, 1, 1, 1627, 88)
theorem y_M_isPorter : mT[200]? = some q_M_isPorter := mT_at_5 (k := 0) rfl
noncomputable def bl_M_isPorter : List (Nat × List mO) := [(0, [o0 (.lload_n 1), o0 (.lconst 0), o0 (.aload_n 0), o2 (.invokevirtual 380) 191 1, o0 (.iconst 1), o0 (.isub), o0 (.i2l), o2 (.invokestatic 270) 155 3, o0 (.ireturn)])]
theorem bk_M_isPorter : okBlks q_M_isPorter bl_M_isPorter = true := by decide +kernel
noncomputable def oL_M_isPorter {ρ : Type} (N : Nat) : List (Nat × (List Value → mS → (Option Value → mS → Option ρ) → Option ρ)) := [(191, C_M_porterMany N), (155, C_M_isIn N)]
theorem oo_M_isPorter {ρ : Type} {t0 : ρ} (N : Nat) : OrcOK Sm R0m oFm nm 2 t0 (mOrc (oL_M_isPorter N)) := mOrc_OK (List.forall_mem_cons.mpr ⟨cs_M_porterMany N (by decide), List.forall_mem_cons.mpr ⟨cs_M_isIn N (by decide), mz_nil⟩⟩)
noncomputable def f_M_isPorter (N : Nat) (a1 : Int64) (s : mS) : Option (Int32 × mS) :=
  (f_M_porterMany N s).bind fun p1 =>
  (f_M_isIn N a1 0 ((p1.1 - 1)).toInt64 p1.2).bind fun p2 =>
  grd (isb p2.1) (some (p2.1, p2.2))
set_option maxRecDepth 100000 in
set_option maxHeartbeats 4000000 in
theorem m_M_isPorter (N : Nat) {x9 : Int32} {s9 : mS} (a1 : Int64) {s : mS} (h : f_M_isPorter N a1 s = some (x9, s9)) : MetM Sm R0m oFm nm 2 200 [.ref 0, .long a1] s (some (.int x9)) s9 := by
  refine met_of_G (q := q_M_isPorter) (t0 := (x9, s9)) y_M_isPorter (Nat.le_of_ble_eq_true rfl) ?_
  rw [← h]
  exact G_eq (mEv_G (orc := mOrc (oL_M_isPorter N)) (ret := rtZ) (blks := bl_M_isPorter) (cuts := []) wOKm (by decide) (oo_M_isPorter N) (RetOK_Z rfl) bk_M_isPorter (mz_nil)) rfl
noncomputable def C_M_isPorter {ρ : Type} (N : Nat) : List Value → mS → (Option Value → mS → Option ρ) → Option ρ := fun vs s kk => sR vs 0 fun r0 => pl1 r0 fun a1 r1 => rv0 r1 ((f_M_isPorter N a1 s).bind fun p => kk (some (.int p.1)) p.2)
theorem cs_M_isPorter {ρ : Type} {t0 : ρ} {d : Nat} (N : Nat) (hd : 2 + 1 ≤ d) : CallOK Sm R0m oFm nm d t0 200 (C_M_isPorter N) := by
  intro vs s kk h0
  obtain ⟨r0, rfl, h1⟩ := sR_some h0
  obtain ⟨a1, r1, rfl, h2⟩ := pl1_some h1
  obtain ⟨rfl, h3⟩ := rv0_some h2
  obtain ⟨p, hp, hk⟩ := Option.bind_eq_some_iff.mp h3
  exact ⟨_, _, _, hd, m_M_isPorter N a1 hp, hk, fun qy hq hf => by cases y_M_isPorter.symm.trans hq; exact ⟨_, _, rfl, rfl⟩⟩
/-! METHOD PorterDoorsModel.letter(II)I -/
set_option maxRecDepth 20000 in
noncomputable def q_M_letter : mI := (⟨"PorterDoorsModel", "letter", "(II)I"⟩, prog_13_method_57_code, 8, (some .int), 10, 1624, 139, 1, 2, 1622, 1623)
theorem y_M_letter : mT[199]? = some q_M_letter := mT_at_4 (k := 39) rfl
noncomputable def bl_M_letter : List (Nat × List mO) := [(0, [o0 (.aload_n 0), o0 (.iload_n 1), o0 (.i2l), o2 (.invokevirtual 466) 200 2, o1 (.ifCond .eq 15) 21, o0 (.iload_n 2), o0 (.i2l), o0 (.lconst 0), oC (.ldc2_w 288) (.long 5), o2 (.invokestatic 270) 155 3, o1 (.ifCond .ne 5) 23]),
  (21, [o0 (.iconst (-1)), o0 (.ireturn)]),
  (23, [o0 (.aload_n 0), o2 (.getfield 99) 10 38, o0 (.bipush 10), o0 (.iload_n 1), o0 (.iadd), o0 (.laload), o0 (.lstore_n 3), o0 (.iconst 0), o0 (.istore 5), o0 (.lload_n 3), o0 (.lstore 6)]),
  (39, [o0 (.lload 6), o0 (.lconst 0), o0 (.lcmp), o1 (.ifCond .le 17) 60, o0 (.iinc 5 1), o0 (.lload 6), oC (.ldc2_w 281) (.long 27), o0 (.ldiv), o0 (.lstore 6), o1 (.goto (-18)) 39]),
  (60, [o0 (.iload_n 2), o0 (.iload 5), o1 (.if_icmp .lt 5) 68, o0 (.iconst 0), o0 (.ireturn)]),
  (68, [o0 (.iload 5), o0 (.iconst 1), o0 (.isub), o0 (.istore 6)]),
  (74, [o0 (.iload 6), o0 (.iload_n 2), o1 (.if_icmp .le 15) 92, o0 (.lload_n 3), oC (.ldc2_w 281) (.long 27), o0 (.ldiv), o0 (.lstore_n 3), o0 (.iinc 6 (-1)), o1 (.goto (-15)) 74]),
  (92, [o0 (.lload_n 3), oC (.ldc2_w 281) (.long 27), o0 (.lrem), o0 (.l2i), o0 (.ireturn)])]
theorem bk_M_letter : okBlks q_M_letter bl_M_letter = true := by decide +kernel
noncomputable def oL_M_letter {ρ : Type} (N : Nat) : List (Nat × (List Value → mS → (Option Value → mS → Option ρ) → Option ρ)) := [(200, C_M_isPorter N), (155, C_M_isIn N)]
theorem oo_M_letter {ρ : Type} {t0 : ρ} (N : Nat) : OrcOK Sm R0m oFm nm 3 t0 (mOrc (oL_M_letter N)) := mOrc_OK (List.forall_mem_cons.mpr ⟨cs_M_isPorter N (by decide), List.forall_mem_cons.mpr ⟨cs_M_isIn N (by decide), mz_nil⟩⟩)
noncomputable def H_M_letter_39 {ρ : Type} (k : (Int32 × Int64 × Int32 × Int64 × mS) → Option ρ) : mL → List Value → mS → Option ρ := fun loc st s => li1 loc 2 fun v0 => ll1 loc 3 fun v1 => li1 loc 5 fun v2 => ll1 loc 6 fun v3 => rv0 st (k (v0, v1, v2, v3, s))
noncomputable def H_M_letter_74 {ρ : Type} (k : (Int32 × Int64 × Int32 × mS) → Option ρ) : mL → List Value → mS → Option ρ := fun loc st s => li1 loc 2 fun v0 => ll1 loc 3 fun v1 => li1 loc 6 fun v2 => rv0 st (k (v0, v1, v2, s))
noncomputable def f_M_letter_L74 (N : Nat) (k74 : (Int32 × Int64 × Int32 × mS) → Option (Int32 × mS)) (x : Int32 × Int64 × Int32 × mS) : Option (Int32 × mS) :=
  if x.1 < x.2.2.1 then
    k74 (x.1, (x.2.1 / 27), (x.2.2.1 - 1), x.2.2.2)
  else
    some (((lrm x.2.1 27)).toInt32, x.2.2.2)
set_option maxRecDepth 100000 in
set_option maxHeartbeats 4000000 in
theorem t_M_letter_74 (N : Nat) {x9 : Int32} {s9 : mS} {k74 : (Int32 × Int64 × Int32 × mS) → Option (Int32 × mS)} (hk74 : SCd Sm R0m oFm nm 3 q_M_letter (some (.int x9), s9) (x9, s9) 74 (H_M_letter_74 k74)) : SCd Sm R0m oFm nm 3 q_M_letter (some (.int x9), s9) (x9, s9) 74 (H_M_letter_74 (f_M_letter_L74 N k74)) := by
  intro loc st s
  refine G_li (fun v0 h2 => ?_)
  refine G_ll (fun v1 h3 => ?_)
  refine G_li (fun v2 h6 => ?_)
  refine G_rv0 (fun e9 => ?_)
  subst e9
  refine G_sub (loc0 := [(2, .int v0), (3, .long v1), (6, .int v2)]) (List.forall_mem_cons.mpr ⟨h2, List.forall_mem_cons.mpr ⟨h3, List.forall_mem_cons.mpr ⟨h6, mz_nil⟩⟩⟩) ?_
  exact G_eq (mEv_G (orc := mOrc (oL_M_letter N)) (ret := rtI) (blks := bl_M_letter) (cuts := [(74, H_M_letter_74 k74)]) wOKm (by decide) (oo_M_letter N) (RetOK_I rfl) bk_M_letter (List.forall_mem_cons.mpr ⟨hk74, mz_nil⟩)) rfl
theorem s_M_letter_74 (N : Nat) {x9 : Int32} {s9 : mS} : SCd Sm R0m oFm nm 3 q_M_letter (some (.int x9), s9) (x9, s9) 74 (H_M_letter_74 (mfix N (f_M_letter_L74 N))) := by
  refine mfix_SC (H := H_M_letter_74) (fun loc st s => ?_) (fun k hk => t_M_letter_74 N hk) N
  refine G_li (fun v0 h2 => ?_)
  refine G_ll (fun v1 h3 => ?_)
  refine G_li (fun v2 h6 => ?_)
  refine G_rv0 (fun e9 => ?_)
  subst e9
  exact G_none
noncomputable def f_M_letter_L39 (N : Nat) (k39 : (Int32 × Int64 × Int32 × Int64 × mS) → Option (Int32 × mS)) (x : Int32 × Int64 × Int32 × Int64 × mS) : Option (Int32 × mS) :=
  if 0 < (lg_cmp x.2.2.2.1 0) then
    k39 (x.1, x.2.1, (x.2.2.1 + 1), (x.2.2.2.1 / 27), x.2.2.2.2)
  else
    if x.1 < x.2.2.1 then
      mfix N (f_M_letter_L74 N) (x.1, x.2.1, (x.2.2.1 - 1), x.2.2.2.2)
    else
      some (0, x.2.2.2.2)
set_option maxRecDepth 100000 in
set_option maxHeartbeats 4000000 in
theorem t_M_letter_39 (N : Nat) {x9 : Int32} {s9 : mS} {k39 : (Int32 × Int64 × Int32 × Int64 × mS) → Option (Int32 × mS)} (hk39 : SCd Sm R0m oFm nm 3 q_M_letter (some (.int x9), s9) (x9, s9) 39 (H_M_letter_39 k39)) : SCd Sm R0m oFm nm 3 q_M_letter (some (.int x9), s9) (x9, s9) 39 (H_M_letter_39 (f_M_letter_L39 N k39)) := by
  intro loc st s
  refine G_li (fun v0 h2 => ?_)
  refine G_ll (fun v1 h3 => ?_)
  refine G_li (fun v2 h5 => ?_)
  refine G_ll (fun v3 h6 => ?_)
  refine G_rv0 (fun e9 => ?_)
  subst e9
  refine G_sub (loc0 := [(2, .int v0), (3, .long v1), (5, .int v2), (6, .long v3)]) (List.forall_mem_cons.mpr ⟨h2, List.forall_mem_cons.mpr ⟨h3, List.forall_mem_cons.mpr ⟨h5, List.forall_mem_cons.mpr ⟨h6, mz_nil⟩⟩⟩⟩) ?_
  exact G_eq (mEv_G (orc := mOrc (oL_M_letter N)) (ret := rtI) (blks := bl_M_letter) (cuts := [(39, H_M_letter_39 k39), (74, H_M_letter_74 (mfix N (f_M_letter_L74 N)))]) wOKm (by decide) (oo_M_letter N) (RetOK_I rfl) bk_M_letter (List.forall_mem_cons.mpr ⟨hk39, List.forall_mem_cons.mpr ⟨s_M_letter_74 N, mz_nil⟩⟩)) rfl
theorem s_M_letter_39 (N : Nat) {x9 : Int32} {s9 : mS} : SCd Sm R0m oFm nm 3 q_M_letter (some (.int x9), s9) (x9, s9) 39 (H_M_letter_39 (mfix N (f_M_letter_L39 N))) := by
  refine mfix_SC (H := H_M_letter_39) (fun loc st s => ?_) (fun k hk => t_M_letter_39 N hk) N
  refine G_li (fun v0 h2 => ?_)
  refine G_ll (fun v1 h3 => ?_)
  refine G_li (fun v2 h5 => ?_)
  refine G_ll (fun v3 h6 => ?_)
  refine G_rv0 (fun e9 => ?_)
  subst e9
  exact G_none
noncomputable def f_M_letter (N : Nat) (a1 : Int32) (a2 : Int32) (s : mS) : Option (Int32 × mS) :=
  (f_M_isPorter N (a1).toInt64 s).bind fun p1 =>
  if p1.1 = 0 then
    some ((-1), p1.2)
  else
    (f_M_isIn N (a2).toInt64 0 5 p1.2).bind fun p2 =>
    if p2.1 = 0 then
      some ((-1), p2.2)
    else
      grd (inb (10 + a1) 20) (
      mfix N (f_M_letter_L39 N) (a2, (gQ p2.2 29 (ix (10 + a1))), 0, (gQ p2.2 29 (ix (10 + a1))), p2.2))
set_option maxRecDepth 100000 in
set_option maxHeartbeats 4000000 in
theorem m_M_letter (N : Nat) {x9 : Int32} {s9 : mS} (a1 : Int32) (a2 : Int32) {s : mS} (h : f_M_letter N a1 a2 s = some (x9, s9)) : MetM Sm R0m oFm nm 3 199 [.ref 0, .int a1, .int a2] s (some (.int x9)) s9 := by
  refine met_of_G (q := q_M_letter) (t0 := (x9, s9)) y_M_letter (Nat.le_of_ble_eq_true rfl) ?_
  rw [← h]
  exact G_eq (mEv_G (orc := mOrc (oL_M_letter N)) (ret := rtI) (blks := bl_M_letter) (cuts := [(39, H_M_letter_39 (mfix N (f_M_letter_L39 N)))]) wOKm (by decide) (oo_M_letter N) (RetOK_I rfl) bk_M_letter (List.forall_mem_cons.mpr ⟨s_M_letter_39 N, mz_nil⟩)) rfl
noncomputable def C_M_letter {ρ : Type} (N : Nat) : List Value → mS → (Option Value → mS → Option ρ) → Option ρ := fun vs s kk => sR vs 0 fun r0 => pi1 r0 fun a1 r1 => pi1 r1 fun a2 r2 => rv0 r2 ((f_M_letter N a1 a2 s).bind fun p => kk (some (.int p.1)) p.2)
theorem cs_M_letter {ρ : Type} {t0 : ρ} {d : Nat} (N : Nat) (hd : 3 + 1 ≤ d) : CallOK Sm R0m oFm nm d t0 199 (C_M_letter N) := by
  intro vs s kk h0
  obtain ⟨r0, rfl, h1⟩ := sR_some h0
  obtain ⟨a1, r1, rfl, h2⟩ := pi1_some h1
  obtain ⟨a2, r2, rfl, h3⟩ := pi1_some h2
  obtain ⟨rfl, h4⟩ := rv0_some h3
  obtain ⟨p, hp, hk⟩ := Option.bind_eq_some_iff.mp h4
  exact ⟨_, _, _, hd, m_M_letter N a1 a2 hp, hk, fun qy hq hf => by cases y_M_letter.symm.trans hq; exact ⟨_, _, rfl, rfl⟩⟩
/-! METHOD PorterDoorsModel.isDoor(J)Z -/
set_option maxRecDepth 20000 in
noncomputable def q_M_isDoor : mI := (⟨"PorterDoorsModel", "isDoor", "(J)Z"⟩, prog_13_method_31_code, 3, (some .boolean), 10, 1636, 139, 1, 1, 1635, 89)
theorem y_M_isDoor : mT[202]? = some q_M_isDoor := mT_at_5 (k := 2) rfl
noncomputable def bl_M_isDoor : List (Nat × List mO) := [(0, [o0 (.lload_n 1), o0 (.lconst 0), o0 (.aload_n 0), o2 (.invokevirtual 377) 190 1, o0 (.iconst 1), o0 (.isub), o0 (.i2l), o2 (.invokestatic 270) 155 3, o0 (.ireturn)])]
theorem bk_M_isDoor : okBlks q_M_isDoor bl_M_isDoor = true := by decide +kernel
noncomputable def oL_M_isDoor {ρ : Type} (N : Nat) : List (Nat × (List Value → mS → (Option Value → mS → Option ρ) → Option ρ)) := [(190, C_M_doorMany N), (155, C_M_isIn N)]
theorem oo_M_isDoor {ρ : Type} {t0 : ρ} (N : Nat) : OrcOK Sm R0m oFm nm 2 t0 (mOrc (oL_M_isDoor N)) := mOrc_OK (List.forall_mem_cons.mpr ⟨cs_M_doorMany N (by decide), List.forall_mem_cons.mpr ⟨cs_M_isIn N (by decide), mz_nil⟩⟩)
noncomputable def f_M_isDoor (N : Nat) (a1 : Int64) (s : mS) : Option (Int32 × mS) :=
  (f_M_doorMany N s).bind fun p1 =>
  (f_M_isIn N a1 0 ((p1.1 - 1)).toInt64 p1.2).bind fun p2 =>
  grd (isb p2.1) (some (p2.1, p2.2))
set_option maxRecDepth 100000 in
set_option maxHeartbeats 4000000 in
theorem m_M_isDoor (N : Nat) {x9 : Int32} {s9 : mS} (a1 : Int64) {s : mS} (h : f_M_isDoor N a1 s = some (x9, s9)) : MetM Sm R0m oFm nm 2 202 [.ref 0, .long a1] s (some (.int x9)) s9 := by
  refine met_of_G (q := q_M_isDoor) (t0 := (x9, s9)) y_M_isDoor (Nat.le_of_ble_eq_true rfl) ?_
  rw [← h]
  exact G_eq (mEv_G (orc := mOrc (oL_M_isDoor N)) (ret := rtZ) (blks := bl_M_isDoor) (cuts := []) wOKm (by decide) (oo_M_isDoor N) (RetOK_Z rfl) bk_M_isDoor (mz_nil)) rfl
noncomputable def C_M_isDoor {ρ : Type} (N : Nat) : List Value → mS → (Option Value → mS → Option ρ) → Option ρ := fun vs s kk => sR vs 0 fun r0 => pl1 r0 fun a1 r1 => rv0 r1 ((f_M_isDoor N a1 s).bind fun p => kk (some (.int p.1)) p.2)
theorem cs_M_isDoor {ρ : Type} {t0 : ρ} {d : Nat} (N : Nat) (hd : 2 + 1 ≤ d) : CallOK Sm R0m oFm nm d t0 202 (C_M_isDoor N) := by
  intro vs s kk h0
  obtain ⟨r0, rfl, h1⟩ := sR_some h0
  obtain ⟨a1, r1, rfl, h2⟩ := pl1_some h1
  obtain ⟨rfl, h3⟩ := rv0_some h2
  obtain ⟨p, hp, hk⟩ := Option.bind_eq_some_iff.mp h3
  exact ⟨_, _, _, hd, m_M_isDoor N a1 hp, hk, fun qy hq hf => by cases y_M_isDoor.symm.trans hq; exact ⟨_, _, rfl, rfl⟩⟩
/-! METHOD PorterDoorsModel.paintOf(I)I -/
set_option maxRecDepth 20000 in
noncomputable def q_M_paintOf : mI := (⟨"PorterDoorsModel", "paintOf", "(I)I"⟩, prog_13_method_35_code, 2, (some .int), 10, 1640, 139, 1, 1, 1639, 90)
theorem y_M_paintOf : mT[203]? = some q_M_paintOf := mT_at_5 (k := 3) rfl
noncomputable def bl_M_paintOf : List (Nat × List mO) := [(0, [o0 (.aload_n 0), o2 (.getfield 115) 10 48, o0 (.iconst 4), o0 (.iconst 3), o0 (.iload_n 1), o0 (.imul), o0 (.iadd), o0 (.iaload), o0 (.ireturn)])]
theorem bk_M_paintOf : okBlks q_M_paintOf bl_M_paintOf = true := by decide +kernel
noncomputable def oL_M_paintOf {ρ : Type} (N : Nat) : List (Nat × (List Value → mS → (Option Value → mS → Option ρ) → Option ρ)) := []
theorem oo_M_paintOf {ρ : Type} {t0 : ρ} (N : Nat) : OrcOK Sm R0m oFm nm 1 t0 (mOrc (oL_M_paintOf N)) := mOrc_OK (mz_nil)
noncomputable def f_M_paintOf (N : Nat) (a1 : Int32) (s : mS) : Option (Int32 × mS) :=
  grd (inb (4 + (3 * a1)) 205) (
  some ((gA s 34 (ix (4 + (3 * a1)))), s))
set_option maxRecDepth 100000 in
set_option maxHeartbeats 4000000 in
theorem m_M_paintOf (N : Nat) {x9 : Int32} {s9 : mS} (a1 : Int32) {s : mS} (h : f_M_paintOf N a1 s = some (x9, s9)) : MetM Sm R0m oFm nm 1 203 [.ref 0, .int a1] s (some (.int x9)) s9 := by
  refine met_of_G (q := q_M_paintOf) (t0 := (x9, s9)) y_M_paintOf (Nat.le_of_ble_eq_true rfl) ?_
  rw [← h]
  exact G_eq (mEv_G (orc := mOrc (oL_M_paintOf N)) (ret := rtI) (blks := bl_M_paintOf) (cuts := []) wOKm (by decide) (oo_M_paintOf N) (RetOK_I rfl) bk_M_paintOf (mz_nil)) rfl
noncomputable def C_M_paintOf {ρ : Type} (N : Nat) : List Value → mS → (Option Value → mS → Option ρ) → Option ρ := fun vs s kk => sR vs 0 fun r0 => pi1 r0 fun a1 r1 => rv0 r1 ((f_M_paintOf N a1 s).bind fun p => kk (some (.int p.1)) p.2)
theorem cs_M_paintOf {ρ : Type} {t0 : ρ} {d : Nat} (N : Nat) (hd : 1 + 1 ≤ d) : CallOK Sm R0m oFm nm d t0 203 (C_M_paintOf N) := by
  intro vs s kk h0
  obtain ⟨r0, rfl, h1⟩ := sR_some h0
  obtain ⟨a1, r1, rfl, h2⟩ := pi1_some h1
  obtain ⟨rfl, h3⟩ := rv0_some h2
  obtain ⟨p, hp, hk⟩ := Option.bind_eq_some_iff.mp h3
  exact ⟨_, _, _, hd, m_M_paintOf N a1 hp, hk, fun qy hq hf => by cases y_M_paintOf.symm.trans hq; exact ⟨_, _, rfl, rfl⟩⟩
/-! METHOD PorterDoorsModel.qPuts(J)V -/
set_option maxRecDepth 20000 in
noncomputable def q_M_qPuts : mI := (⟨"PorterDoorsModel", "qPuts", "(J)V"⟩, prog_13_method_118_code, 3, none, 10, 1660, 139, 1, 1, 1659, 95)
theorem y_M_qPuts : mT[208]? = some q_M_qPuts := mT_at_5 (k := 8) rfl
noncomputable def bl_M_qPuts : List (Nat × List mO) := [(0, [o0 (.aload_n 0), o2 (.getfield 216) 10 93, o0 (.aload_n 0), o2 (.getfield 395) 10 94, o0 (.lload_n 1), o0 (.lastore), o0 (.aload_n 0), o0 (.dup), o2 (.getfield 395) 10 94, o0 (.iconst 1), o0 (.iadd), o2 (.putfield 395) 10 94, o0 (.return_)])]
theorem bk_M_qPuts : okBlks q_M_qPuts bl_M_qPuts = true := by decide +kernel
noncomputable def oL_M_qPuts {ρ : Type} (N : Nat) : List (Nat × (List Value → mS → (Option Value → mS → Option ρ) → Option ρ)) := []
theorem oo_M_qPuts {ρ : Type} {t0 : ρ} (N : Nat) : OrcOK Sm R0m oFm nm 1 t0 (mOrc (oL_M_qPuts N)) := mOrc_OK (mz_nil)
noncomputable def f_M_qPuts (N : Nat) (a1 : Int64) (s : mS) : Option (mS) :=
  grd (inb (gI s 1094 0) 1700) (
  let s1 := sQ s 66 (ix (gI s 1094 0)) a1
  let s2 := sI s1 1094 0 ((gI s1 1094 0) + 1)
  some s2)
set_option maxRecDepth 100000 in
set_option maxHeartbeats 4000000 in
theorem m_M_qPuts (N : Nat) {s9 : mS} (a1 : Int64) {s : mS} (h : f_M_qPuts N a1 s = some s9) : MetM Sm R0m oFm nm 1 208 [.ref 0, .long a1] s (none) s9 := by
  refine met_of_G (q := q_M_qPuts) (t0 := s9) y_M_qPuts (Nat.le_of_ble_eq_true rfl) ?_
  rw [← h]
  exact G_eq (mEv_G (orc := mOrc (oL_M_qPuts N)) (ret := rtV) (blks := bl_M_qPuts) (cuts := []) wOKm (by decide) (oo_M_qPuts N) (RetOK_V rfl) bk_M_qPuts (mz_nil)) rfl
noncomputable def C_M_qPuts {ρ : Type} (N : Nat) : List Value → mS → (Option Value → mS → Option ρ) → Option ρ := fun vs s kk => sR vs 0 fun r0 => pl1 r0 fun a1 r1 => rv0 r1 ((f_M_qPuts N a1 s).bind fun p => kk none p)
theorem cs_M_qPuts {ρ : Type} {t0 : ρ} {d : Nat} (N : Nat) (hd : 1 + 1 ≤ d) : CallOK Sm R0m oFm nm d t0 208 (C_M_qPuts N) := by
  intro vs s kk h0
  obtain ⟨r0, rfl, h1⟩ := sR_some h0
  obtain ⟨a1, r1, rfl, h2⟩ := pl1_some h1
  obtain ⟨rfl, h3⟩ := rv0_some h2
  obtain ⟨p, hp, hk⟩ := Option.bind_eq_some_iff.mp h3
  exact ⟨_, _, _, hd, m_M_qPuts N a1 hp, hk, fun qy hq hf => by cases y_M_qPuts.symm.trans hq; exact ⟨_, _, rfl, rfl⟩⟩
/-! METHOD PorterDoorsModel.qPartOf(II)J -/
set_option maxRecDepth 20000 in
noncomputable def q_M_qPartOf : mI := (⟨"PorterDoorsModel", "qPartOf", "(II)J"⟩, prog_13_method_120_code, 3, (some .long), 10, 1664, 139, 1, 2, 1663, 96)
theorem y_M_qPartOf : mT[209]? = some q_M_qPartOf := mT_at_5 (k := 9) rfl
noncomputable def bl_M_qPartOf : List (Nat × List mO) := [(0, [o0 (.iload_n 1), oS (.tableswitch 117 0 7 #[47, 55, 61, 71, 81, 91, 97, 103]) 118 [48, 56, 62, 72, 82, 92, 98, 104]]),
  (48, [o0 (.aload_n 0), o2 (.getfield 115) 10 48, o0 (.iconst 0), o0 (.iaload), o0 (.i2l), o0 (.lreturn)]),
  (56, [o0 (.aload_n 0), o2 (.getfield 409) 10 49, o0 (.i2l), o0 (.lreturn)]),
  (62, [o0 (.aload_n 0), o0 (.aload_n 0), o2 (.getfield 409) 10 49, o2 (.invokevirtual 476) 203 2, o0 (.i2l), o0 (.lreturn)]),
  (72, [o0 (.aload_n 0), o0 (.aload_n 0), o2 (.getfield 409) 10 49, o2 (.invokevirtual 386) 194 2, o0 (.i2l), o0 (.lreturn)]),
  (82, [o0 (.aload_n 0), o0 (.aload_n 0), o2 (.getfield 409) 10 49, o2 (.invokevirtual 383) 198 2, o0 (.i2l), o0 (.lreturn)]),
  (92, [o0 (.aload_n 0), o2 (.getfield 422) 10 50, o0 (.i2l), o0 (.lreturn)]),
  (98, [o0 (.aload_n 0), o2 (.invokevirtual 460) 192 1, o0 (.i2l), o0 (.lreturn)]),
  (104, [o0 (.aload_n 0), o2 (.getfield 115) 10 48, o0 (.bipush 74), o0 (.aload_n 0), o2 (.getfield 422) 10 50, o0 (.iadd), o0 (.iaload), o0 (.i2l), o0 (.lreturn)]),
  (118, [o0 (.aload_n 0), o0 (.aload_n 0), o2 (.getfield 409) 10 49, o2 (.invokevirtual 425) 197 2, o1 (.ifCond .eq 7) 133, o0 (.lconst 1), o1 (.goto 4) 134]),
  (133, [o0 (.lconst 0)]),
  (134, [o0 (.lreturn)])]
theorem bk_M_qPartOf : okBlks q_M_qPartOf bl_M_qPartOf = true := by decide +kernel
noncomputable def oL_M_qPartOf {ρ : Type} (N : Nat) : List (Nat × (List Value → mS → (Option Value → mS → Option ρ) → Option ρ)) := [(203, C_M_paintOf N), (194, C_M_openOf N), (198, C_M_turnedOf N), (192, C_M_openMany N), (197, C_M_isJammed N)]
theorem oo_M_qPartOf {ρ : Type} {t0 : ρ} (N : Nat) : OrcOK Sm R0m oFm nm 4 t0 (mOrc (oL_M_qPartOf N)) := mOrc_OK (List.forall_mem_cons.mpr ⟨cs_M_paintOf N (by decide), List.forall_mem_cons.mpr ⟨cs_M_openOf N (by decide), List.forall_mem_cons.mpr ⟨cs_M_turnedOf N (by decide), List.forall_mem_cons.mpr ⟨cs_M_openMany N (by decide), List.forall_mem_cons.mpr ⟨cs_M_isJammed N (by decide), mz_nil⟩⟩⟩⟩⟩)
noncomputable def f_M_qPartOf (N : Nat) (a1 : Int32) (a2 : Int32) (s : mS) : Option (Int64 × mS) :=
  if a1 = 0 then
    some (((gA s 34 0)).toInt64, s)
  else if a1 = 1 then
    some (((gI s 1049 0)).toInt64, s)
  else if a1 = 2 then
    (f_M_paintOf N (gI s 1049 0) s).bind fun p1 =>
    some ((p1.1).toInt64, p1.2)
  else if a1 = 3 then
    (f_M_openOf N (gI s 1049 0) s).bind fun p2 =>
    some ((p2.1).toInt64, p2.2)
  else if a1 = 4 then
    (f_M_turnedOf N (gI s 1049 0) s).bind fun p3 =>
    some ((p3.1).toInt64, p3.2)
  else if a1 = 5 then
    some (((gI s 1050 0)).toInt64, s)
  else if a1 = 6 then
    (f_M_openMany N s).bind fun p4 =>
    some ((p4.1).toInt64, p4.2)
  else if a1 = 7 then
    grd (inb (74 + (gI s 1050 0)) 205) (
    some (((gA s 34 (ix (74 + (gI s 1050 0))))).toInt64, s))
  else
    (f_M_isJammed N (gI s 1049 0) s).bind fun p5 =>
    if p5.1 = 0 then
      some (0, p5.2)
    else
      some (1, p5.2)
set_option maxRecDepth 100000 in
set_option maxHeartbeats 4000000 in
theorem m_M_qPartOf (N : Nat) {x9 : Int64} {s9 : mS} (a1 : Int32) (a2 : Int32) {s : mS} (h : f_M_qPartOf N a1 a2 s = some (x9, s9)) : MetM Sm R0m oFm nm 4 209 [.ref 0, .int a1, .int a2] s (some (.long x9)) s9 := by
  refine met_of_G (q := q_M_qPartOf) (t0 := (x9, s9)) y_M_qPartOf (Nat.le_of_ble_eq_true rfl) ?_
  rw [← h]
  exact G_eq (mEv_G (orc := mOrc (oL_M_qPartOf N)) (ret := rtL) (blks := bl_M_qPartOf) (cuts := []) wOKm (by decide) (oo_M_qPartOf N) (RetOK_L rfl) bk_M_qPartOf (mz_nil)) rfl
noncomputable def C_M_qPartOf {ρ : Type} (N : Nat) : List Value → mS → (Option Value → mS → Option ρ) → Option ρ := fun vs s kk => sR vs 0 fun r0 => pi1 r0 fun a1 r1 => pi1 r1 fun a2 r2 => rv0 r2 ((f_M_qPartOf N a1 a2 s).bind fun p => kk (some (.long p.1)) p.2)
theorem cs_M_qPartOf {ρ : Type} {t0 : ρ} {d : Nat} (N : Nat) (hd : 4 + 1 ≤ d) : CallOK Sm R0m oFm nm d t0 209 (C_M_qPartOf N) := by
  intro vs s kk h0
  obtain ⟨r0, rfl, h1⟩ := sR_some h0
  obtain ⟨a1, r1, rfl, h2⟩ := pi1_some h1
  obtain ⟨a2, r2, rfl, h3⟩ := pi1_some h2
  obtain ⟨rfl, h4⟩ := rv0_some h3
  obtain ⟨p, hp, hk⟩ := Option.bind_eq_some_iff.mp h4
  exact ⟨_, _, _, hd, m_M_qPartOf N a1 a2 hp, hk, fun qy hq hf => by cases y_M_qPartOf.symm.trans hq; exact ⟨_, _, rfl, rfl⟩⟩
/-! METHOD PorterDoorsModel.qClip(J)J -/
set_option maxRecDepth 20000 in
noncomputable def q_M_qClip : mI := (⟨"PorterDoorsModel", "qClip", "(J)J"⟩, prog_13_method_116_code, 2, (some .long), 10, 1671, 139, 0, 1, 1670, 0)
theorem y_M_qClip : mT[211]? = some q_M_qClip := mT_at_5 (k := 11) rfl
noncomputable def bl_M_qClip : List (Nat × List mO) := [(0, [o0 (.lload_n 0), oC (.ldc2_w 597) (.long 1000000), o0 (.lcmp), o1 (.ifCond .le 9) 14, oC (.ldc2_w 597) (.long 1000000), o1 (.goto 18) 29]),
  (14, [o0 (.lload_n 0), oC (.ldc2_w 599) (.long (-1000000)), o0 (.lcmp), o1 (.ifCond .ge 9) 28, oC (.ldc2_w 599) (.long (-1000000)), o1 (.goto 4) 29]),
  (28, [o0 (.lload_n 0)]),
  (29, [o0 (.lreturn)])]
theorem bk_M_qClip : okBlks q_M_qClip bl_M_qClip = true := by decide +kernel
noncomputable def oL_M_qClip {ρ : Type} (N : Nat) : List (Nat × (List Value → mS → (Option Value → mS → Option ρ) → Option ρ)) := []
theorem oo_M_qClip {ρ : Type} {t0 : ρ} (N : Nat) : OrcOK Sm R0m oFm nm 1 t0 (mOrc (oL_M_qClip N)) := mOrc_OK (mz_nil)
noncomputable def f_M_qClip (N : Nat) (a0 : Int64) (s : mS) : Option (Int64 × mS) :=
  if 0 < (lg_cmp a0 1000000) then
    some (1000000, s)
  else
    if (lg_cmp a0 (-1000000)) < 0 then
      some ((-1000000), s)
    else
      some (a0, s)
set_option maxRecDepth 100000 in
set_option maxHeartbeats 4000000 in
theorem m_M_qClip (N : Nat) {x9 : Int64} {s9 : mS} (a0 : Int64) {s : mS} (h : f_M_qClip N a0 s = some (x9, s9)) : MetM Sm R0m oFm nm 1 211 [.long a0] s (some (.long x9)) s9 := by
  refine met_of_G (q := q_M_qClip) (t0 := (x9, s9)) y_M_qClip (Nat.le_of_ble_eq_true rfl) ?_
  rw [← h]
  exact G_eq (mEv_G (orc := mOrc (oL_M_qClip N)) (ret := rtL) (blks := bl_M_qClip) (cuts := []) wOKm (by decide) (oo_M_qClip N) (RetOK_L rfl) bk_M_qClip (mz_nil)) rfl
noncomputable def C_M_qClip {ρ : Type} (N : Nat) : List Value → mS → (Option Value → mS → Option ρ) → Option ρ := fun vs s kk => pl1 vs fun a0 r0 => rv0 r0 ((f_M_qClip N a0 s).bind fun p => kk (some (.long p.1)) p.2)
theorem cs_M_qClip {ρ : Type} {t0 : ρ} {d : Nat} (N : Nat) (hd : 1 + 1 ≤ d) : CallOK Sm R0m oFm nm d t0 211 (C_M_qClip N) := by
  intro vs s kk h0
  obtain ⟨a0, r0, rfl, h1⟩ := pl1_some h0
  obtain ⟨rfl, h2⟩ := rv0_some h1
  obtain ⟨p, hp, hk⟩ := Option.bind_eq_some_iff.mp h2
  exact ⟨_, _, _, hd, m_M_qClip N a0 hp, hk, fun qy hq hf => by cases y_M_qClip.symm.trans hq; exact absurd hf (by decide)⟩
/-! METHOD PorterDoorsModel.qFloor(JJ)J -/
set_option maxRecDepth 20000 in
noncomputable def q_M_qFloor : mI := (⟨"PorterDoorsModel", "qFloor", "(JJ)J"⟩, prog_13_method_117_code, 6, (some .long), 10, 1676, 139, 0, 2, 1675, 0)
theorem y_M_qFloor : mT[212]? = some q_M_qFloor := mT_at_5 (k := 12) rfl
noncomputable def bl_M_qFloor : List (Nat × List mO) := [(0, [o0 (.lload_n 2), o0 (.lconst 0), o0 (.lcmp), o1 (.ifCond .ne 5) 8, o0 (.lconst 0), o0 (.lreturn)]),
  (8, [o0 (.lload_n 0), o0 (.lload_n 2), o0 (.ldiv), o0 (.lstore 4), o0 (.lload_n 0), o0 (.lload_n 2), o0 (.lrem), o0 (.lconst 0), o0 (.lcmp), o1 (.ifCond .eq 35) 53, o0 (.lload_n 0), o0 (.lconst 0), o0 (.lcmp), o1 (.ifCond .ge 7) 31, o0 (.iconst 1), o1 (.goto 4) 32]),
  (31, [o0 (.iconst 0)]),
  (32, [o0 (.lload_n 2), o0 (.lconst 0), o0 (.lcmp), o1 (.ifCond .ge 7) 42, o0 (.iconst 1), o1 (.goto 4) 43]),
  (42, [o0 (.iconst 0)]),
  (43, [o1 (.if_icmp .eq 10) 53, o0 (.lload 4), o0 (.lconst 1), o0 (.lsub), o1 (.goto 5) 55]),
  (53, [o0 (.lload 4)]),
  (55, [o0 (.lreturn)])]
theorem bk_M_qFloor : okBlks q_M_qFloor bl_M_qFloor = true := by decide +kernel
noncomputable def oL_M_qFloor {ρ : Type} (N : Nat) : List (Nat × (List Value → mS → (Option Value → mS → Option ρ) → Option ρ)) := []
theorem oo_M_qFloor {ρ : Type} {t0 : ρ} (N : Nat) : OrcOK Sm R0m oFm nm 1 t0 (mOrc (oL_M_qFloor N)) := mOrc_OK (mz_nil)
noncomputable def H_M_qFloor_32 {ρ : Type} (k : (Int64 × Int64 × Int32 × mS) → Option ρ) : mL → List Value → mS → Option ρ := fun loc st s => ll1 loc 2 fun v0 => ll1 loc 4 fun v1 => pi1 st fun w0 r0 => rv0 r0 (k (v0, v1, w0, s))
noncomputable def H_M_qFloor_43 {ρ : Type} (k : (Int64 × Int32 × Int32 × mS) → Option ρ) : mL → List Value → mS → Option ρ := fun loc st s => ll1 loc 4 fun v0 => pi1 st fun w1 r0 => pi1 r0 fun w0 r1 => rv0 r1 (k (v0, w0, w1, s))
noncomputable def f_M_qFloor_j43 (N : Nat) (x : Int64 × Int32 × Int32 × mS) : Option (Int64 × mS) :=
  if x.2.1 = x.2.2.1 then
    some (x.1, x.2.2.2)
  else
    some ((x.1 - 1), x.2.2.2)
set_option maxRecDepth 100000 in
set_option maxHeartbeats 4000000 in
theorem s_M_qFloor_43 (N : Nat) {x9 : Int64} {s9 : mS} : SCd Sm R0m oFm nm 1 q_M_qFloor (some (.long x9), s9) (x9, s9) 43 (H_M_qFloor_43 (f_M_qFloor_j43 N)) := by
  intro loc st s
  refine G_ll (fun v0 h4 => ?_)
  refine G_pi (fun w1 r0 e0 => ?_)
  refine G_pi (fun w0 r1 e1 => ?_)
  refine G_rv0 (fun e9 => ?_)
  subst e9
  subst e1
  subst e0
  refine G_sub (loc0 := [(4, .long v0)]) (List.forall_mem_cons.mpr ⟨h4, mz_nil⟩) ?_
  exact G_eq (mEv_G (orc := mOrc (oL_M_qFloor N)) (ret := rtL) (blks := bl_M_qFloor) (cuts := []) wOKm (by decide) (oo_M_qFloor N) (RetOK_L rfl) bk_M_qFloor (mz_nil)) rfl
noncomputable def f_M_qFloor_j32 (N : Nat) (x : Int64 × Int64 × Int32 × mS) : Option (Int64 × mS) :=
  if (lg_cmp x.1 0) < 0 then
    f_M_qFloor_j43 N (x.2.1, x.2.2.1, 1, x.2.2.2)
  else
    f_M_qFloor_j43 N (x.2.1, x.2.2.1, 0, x.2.2.2)
set_option maxRecDepth 100000 in
set_option maxHeartbeats 4000000 in
theorem s_M_qFloor_32 (N : Nat) {x9 : Int64} {s9 : mS} : SCd Sm R0m oFm nm 1 q_M_qFloor (some (.long x9), s9) (x9, s9) 32 (H_M_qFloor_32 (f_M_qFloor_j32 N)) := by
  intro loc st s
  refine G_ll (fun v0 h2 => ?_)
  refine G_ll (fun v1 h4 => ?_)
  refine G_pi (fun w0 r0 e0 => ?_)
  refine G_rv0 (fun e9 => ?_)
  subst e9
  subst e0
  refine G_sub (loc0 := [(2, .long v0), (4, .long v1)]) (List.forall_mem_cons.mpr ⟨h2, List.forall_mem_cons.mpr ⟨h4, mz_nil⟩⟩) ?_
  exact G_eq (mEv_G (orc := mOrc (oL_M_qFloor N)) (ret := rtL) (blks := bl_M_qFloor) (cuts := [(43, H_M_qFloor_43 (f_M_qFloor_j43 N))]) wOKm (by decide) (oo_M_qFloor N) (RetOK_L rfl) bk_M_qFloor (List.forall_mem_cons.mpr ⟨s_M_qFloor_43 N, mz_nil⟩)) rfl
noncomputable def f_M_qFloor (N : Nat) (a0 : Int64) (a2 : Int64) (s : mS) : Option (Int64 × mS) :=
  if (lg_cmp a2 0) = 0 then
    some (0, s)
  else
    grd (!decide (a2 = 0)) (
    grd (!decide (a2 = 0)) (
    if (lg_cmp (lrm a0 a2) 0) = 0 then
      some ((a0 / a2), s)
    else
      if (lg_cmp a0 0) < 0 then
        f_M_qFloor_j32 N (a2, (a0 / a2), 1, s)
      else
        f_M_qFloor_j32 N (a2, (a0 / a2), 0, s)))
set_option maxRecDepth 100000 in
set_option maxHeartbeats 4000000 in
theorem m_M_qFloor (N : Nat) {x9 : Int64} {s9 : mS} (a0 : Int64) (a2 : Int64) {s : mS} (h : f_M_qFloor N a0 a2 s = some (x9, s9)) : MetM Sm R0m oFm nm 1 212 [.long a0, .long a2] s (some (.long x9)) s9 := by
  refine met_of_G (q := q_M_qFloor) (t0 := (x9, s9)) y_M_qFloor (Nat.le_of_ble_eq_true rfl) ?_
  rw [← h]
  exact G_eq (mEv_G (orc := mOrc (oL_M_qFloor N)) (ret := rtL) (blks := bl_M_qFloor) (cuts := [(32, H_M_qFloor_32 (f_M_qFloor_j32 N))]) wOKm (by decide) (oo_M_qFloor N) (RetOK_L rfl) bk_M_qFloor (List.forall_mem_cons.mpr ⟨s_M_qFloor_32 N, mz_nil⟩)) rfl
noncomputable def C_M_qFloor {ρ : Type} (N : Nat) : List Value → mS → (Option Value → mS → Option ρ) → Option ρ := fun vs s kk => pl1 vs fun a0 r0 => pl1 r0 fun a2 r1 => rv0 r1 ((f_M_qFloor N a0 a2 s).bind fun p => kk (some (.long p.1)) p.2)
theorem cs_M_qFloor {ρ : Type} {t0 : ρ} {d : Nat} (N : Nat) (hd : 1 + 1 ≤ d) : CallOK Sm R0m oFm nm d t0 212 (C_M_qFloor N) := by
  intro vs s kk h0
  obtain ⟨a0, r0, rfl, h1⟩ := pl1_some h0
  obtain ⟨a2, r1, rfl, h2⟩ := pl1_some h1
  obtain ⟨rfl, h3⟩ := rv0_some h2
  obtain ⟨p, hp, hk⟩ := Option.bind_eq_some_iff.mp h3
  exact ⟨_, _, _, hd, m_M_qFloor N a0 a2 hp, hk, fun qy hq hf => by cases y_M_qFloor.symm.trans hq; exact absurd hf (by decide)⟩
/-! METHOD PorterDoorsModel.qJoins(I)V -/
set_option maxRecDepth 20000 in
noncomputable def q_M_qJoins : mI := (⟨"PorterDoorsModel", "qJoins", "(I)V"⟩, prog_13_method_119_code, 6, none, 10, 1668, 139, 1, 1, 1667, 97)
theorem y_M_qJoins : mT[210]? = some q_M_qJoins := mT_at_5 (k := 10) rfl
noncomputable def bl_M_qJoins : List (Nat × List mO) := [(0, [o0 (.aload_n 0), o2 (.getfield 216) 10 93, o0 (.aload_n 0), o2 (.getfield 395) 10 94, o0 (.iconst 1), o0 (.isub), o0 (.laload), o0 (.lstore_n 2), o0 (.aload_n 0), o2 (.getfield 216) 10 93, o0 (.aload_n 0), o2 (.getfield 395) 10 94, o0 (.iconst 2), o0 (.isub), o0 (.laload), o0 (.lstore 4), o0 (.aload_n 0), o0 (.dup), o2 (.getfield 395) 10 94, o0 (.iconst 2), o0 (.isub), o2 (.putfield 395) 10 94, o0 (.iload_n 1), oS (.tableswitch 219 1 10 #[56, 70, 84, 98, 111, 131, 151, 170, 189, 208]) 255 [92, 106, 120, 134, 147, 167, 187, 206, 225, 244]]),
  (92, [o0 (.aload_n 0), o0 (.lload 4), o0 (.lload_n 2), o0 (.ladd), o2 (.invokestatic 601) 211 1, o2 (.invokevirtual 398) 208 2, o1 (.goto 170) 273]),
  (106, [o0 (.aload_n 0), o0 (.lload 4), o0 (.lload_n 2), o0 (.lsub), o2 (.invokestatic 601) 211 1, o2 (.invokevirtual 398) 208 2, o1 (.goto 156) 273]),
  (120, [o0 (.aload_n 0), o0 (.lload 4), o0 (.lload_n 2), o0 (.lmul), o2 (.invokestatic 601) 211 1, o2 (.invokevirtual 398) 208 2, o1 (.goto 142) 273]),
  (134, [o0 (.aload_n 0), o0 (.lload 4), o0 (.lload_n 2), o2 (.invokestatic 605) 212 2, o2 (.invokevirtual 398) 208 2, o1 (.goto 129) 273]),
  (147, [o0 (.aload_n 0), o0 (.lload 4), o0 (.lload_n 2), o0 (.lcmp), o1 (.ifCond .ge 8) 160, o0 (.lload 4), o1 (.goto 4) 161]),
  (160, [o0 (.lload_n 2)]),
  (161, [o2 (.invokevirtual 398) 208 2, o1 (.goto 109) 273]),
  (167, [o0 (.aload_n 0), o0 (.lload 4), o0 (.lload_n 2), o0 (.lcmp), o1 (.ifCond .le 8) 180, o0 (.lload 4), o1 (.goto 4) 181]),
  (180, [o0 (.lload_n 2)]),
  (181, [o2 (.invokevirtual 398) 208 2, o1 (.goto 89) 273]),
  (187, [o0 (.aload_n 0), o0 (.lload 4), o0 (.lload_n 2), o0 (.lcmp), o1 (.ifCond .ge 7) 199, o0 (.lconst 1), o1 (.goto 4) 200]),
  (199, [o0 (.lconst 0)]),
  (200, [o2 (.invokevirtual 398) 208 2, o1 (.goto 70) 273]),
  (206, [o0 (.aload_n 0), o0 (.lload 4), o0 (.lload_n 2), o0 (.lcmp), o1 (.ifCond .le 7) 218, o0 (.lconst 1), o1 (.goto 4) 219]),
  (218, [o0 (.lconst 0)]),
  (219, [o2 (.invokevirtual 398) 208 2, o1 (.goto 51) 273]),
  (225, [o0 (.aload_n 0), o0 (.lload 4), o0 (.lload_n 2), o0 (.lcmp), o1 (.ifCond .ne 7) 237, o0 (.lconst 1), o1 (.goto 4) 238]),
  (237, [o0 (.lconst 0)]),
  (238, [o2 (.invokevirtual 398) 208 2, o1 (.goto 32) 273]),
  (244, [o0 (.aload_n 0), o0 (.lload 4), o0 (.lload_n 2), o0 (.lmul), o2 (.invokevirtual 398) 208 2, o1 (.goto 21) 273]),
  (255, [o0 (.aload_n 0), o0 (.lload 4), o0 (.lload_n 2), o0 (.ladd), o0 (.lconst 0), o0 (.lcmp), o1 (.ifCond .le 7) 269, o0 (.lconst 1), o1 (.goto 4) 270]),
  (269, [o0 (.lconst 0)]),
  (270, [o2 (.invokevirtual 398) 208 2]),
  (273, [o0 (.return_)])]
theorem bk_M_qJoins : okBlks q_M_qJoins bl_M_qJoins = true := by decide +kernel
noncomputable def oL_M_qJoins {ρ : Type} (N : Nat) : List (Nat × (List Value → mS → (Option Value → mS → Option ρ) → Option ρ)) := [(211, C_M_qClip N), (208, C_M_qPuts N), (212, C_M_qFloor N)]
theorem oo_M_qJoins {ρ : Type} {t0 : ρ} (N : Nat) : OrcOK Sm R0m oFm nm 2 t0 (mOrc (oL_M_qJoins N)) := mOrc_OK (List.forall_mem_cons.mpr ⟨cs_M_qClip N (by decide), List.forall_mem_cons.mpr ⟨cs_M_qPuts N (by decide), List.forall_mem_cons.mpr ⟨cs_M_qFloor N (by decide), mz_nil⟩⟩⟩)
noncomputable def f_M_qJoins (N : Nat) (a1 : Int32) (s : mS) : Option (mS) :=
  grd (inb ((gI s 1094 0) - 1) 1700) (
  grd (inb ((gI s 1094 0) - 2) 1700) (
  let s1 := sI s 1094 0 ((gI s 1094 0) - 2)
  if a1 = 1 then
    (f_M_qClip N ((gQ s 66 (ix ((gI s 1094 0) - 2))) + (gQ s 66 (ix ((gI s 1094 0) - 1)))) s1).bind fun p2 =>
    (f_M_qPuts N p2.1 p2.2).bind fun p3 =>
    some p3
  else if a1 = 2 then
    (f_M_qClip N ((gQ s 66 (ix ((gI s 1094 0) - 2))) - (gQ s 66 (ix ((gI s 1094 0) - 1)))) s1).bind fun p4 =>
    (f_M_qPuts N p4.1 p4.2).bind fun p5 =>
    some p5
  else if a1 = 3 then
    (f_M_qClip N ((gQ s 66 (ix ((gI s 1094 0) - 2))) * (gQ s 66 (ix ((gI s 1094 0) - 1)))) s1).bind fun p6 =>
    (f_M_qPuts N p6.1 p6.2).bind fun p7 =>
    some p7
  else if a1 = 4 then
    (f_M_qFloor N (gQ s 66 (ix ((gI s 1094 0) - 2))) (gQ s 66 (ix ((gI s 1094 0) - 1))) s1).bind fun p8 =>
    (f_M_qPuts N p8.1 p8.2).bind fun p9 =>
    some p9
  else if a1 = 5 then
    if (lg_cmp (gQ s 66 (ix ((gI s 1094 0) - 2))) (gQ s 66 (ix ((gI s 1094 0) - 1)))) < 0 then
      (f_M_qPuts N (gQ s 66 (ix ((gI s 1094 0) - 2))) s1).bind fun p11 =>
      some p11
    else
      (f_M_qPuts N (gQ s 66 (ix ((gI s 1094 0) - 1))) s1).bind fun p10 =>
      some p10
  else if a1 = 6 then
    if 0 < (lg_cmp (gQ s 66 (ix ((gI s 1094 0) - 2))) (gQ s 66 (ix ((gI s 1094 0) - 1)))) then
      (f_M_qPuts N (gQ s 66 (ix ((gI s 1094 0) - 2))) s1).bind fun p13 =>
      some p13
    else
      (f_M_qPuts N (gQ s 66 (ix ((gI s 1094 0) - 1))) s1).bind fun p12 =>
      some p12
  else if a1 = 7 then
    if (lg_cmp (gQ s 66 (ix ((gI s 1094 0) - 2))) (gQ s 66 (ix ((gI s 1094 0) - 1)))) < 0 then
      (f_M_qPuts N 1 s1).bind fun p15 =>
      some p15
    else
      (f_M_qPuts N 0 s1).bind fun p14 =>
      some p14
  else if a1 = 8 then
    if 0 < (lg_cmp (gQ s 66 (ix ((gI s 1094 0) - 2))) (gQ s 66 (ix ((gI s 1094 0) - 1)))) then
      (f_M_qPuts N 1 s1).bind fun p17 =>
      some p17
    else
      (f_M_qPuts N 0 s1).bind fun p16 =>
      some p16
  else if a1 = 9 then
    if (lg_cmp (gQ s 66 (ix ((gI s 1094 0) - 2))) (gQ s 66 (ix ((gI s 1094 0) - 1)))) = 0 then
      (f_M_qPuts N 1 s1).bind fun p19 =>
      some p19
    else
      (f_M_qPuts N 0 s1).bind fun p18 =>
      some p18
  else if a1 = 10 then
    (f_M_qPuts N ((gQ s 66 (ix ((gI s 1094 0) - 2))) * (gQ s 66 (ix ((gI s 1094 0) - 1)))) s1).bind fun p20 =>
    some p20
  else
    if 0 < (lg_cmp ((gQ s 66 (ix ((gI s 1094 0) - 2))) + (gQ s 66 (ix ((gI s 1094 0) - 1)))) 0) then
      (f_M_qPuts N 1 s1).bind fun p22 =>
      some p22
    else
      (f_M_qPuts N 0 s1).bind fun p21 =>
      some p21))
set_option maxRecDepth 100000 in
set_option maxHeartbeats 4000000 in
theorem m_M_qJoins (N : Nat) {s9 : mS} (a1 : Int32) {s : mS} (h : f_M_qJoins N a1 s = some s9) : MetM Sm R0m oFm nm 2 210 [.ref 0, .int a1] s (none) s9 := by
  refine met_of_G (q := q_M_qJoins) (t0 := s9) y_M_qJoins (Nat.le_of_ble_eq_true rfl) ?_
  rw [← h]
  exact G_eq (mEv_G (orc := mOrc (oL_M_qJoins N)) (ret := rtV) (blks := bl_M_qJoins) (cuts := []) wOKm (by decide) (oo_M_qJoins N) (RetOK_V rfl) bk_M_qJoins (mz_nil)) rfl
noncomputable def C_M_qJoins {ρ : Type} (N : Nat) : List Value → mS → (Option Value → mS → Option ρ) → Option ρ := fun vs s kk => sR vs 0 fun r0 => pi1 r0 fun a1 r1 => rv0 r1 ((f_M_qJoins N a1 s).bind fun p => kk none p)
theorem cs_M_qJoins {ρ : Type} {t0 : ρ} {d : Nat} (N : Nat) (hd : 2 + 1 ≤ d) : CallOK Sm R0m oFm nm d t0 210 (C_M_qJoins N) := by
  intro vs s kk h0
  obtain ⟨r0, rfl, h1⟩ := sR_some h0
  obtain ⟨a1, r1, rfl, h2⟩ := pi1_some h1
  obtain ⟨rfl, h3⟩ := rv0_some h2
  obtain ⟨p, hp, hk⟩ := Option.bind_eq_some_iff.mp h3
  exact ⟨_, _, _, hd, m_M_qJoins N a1 hp, hk, fun qy hq hf => by cases y_M_qJoins.symm.trans hq; exact ⟨_, _, rfl, rfl⟩⟩
/-! METHOD PorterDoorsModel.codesTell(I)J -/
set_option maxRecDepth 20000 in
noncomputable def q_M_codesTell : mI := (⟨"PorterDoorsModel", "codesTell", "(I)J"⟩, prog_13_method_41_code, 4, (some .long), 10, 1656, 139, 1, 1, 1655, 94)
theorem y_M_codesTell : mT[207]? = some q_M_codesTell := mT_at_5 (k := 7) rfl
noncomputable def bl_M_codesTell : List (Nat × List mO) := [(0, [o0 (.aload_n 0), o0 (.iload_n 1), o2 (.putfield 285) 10 47, o0 (.aload_n 0), o0 (.iconst 0), o2 (.putfield 395) 10 94, o0 (.aload_n 0), o2 (.getfield 106) 10 41, o0 (.bipush 12), o0 (.iload_n 1), o0 (.iadd), o0 (.iaload), o0 (.istore_n 2)]),
  (20, [o0 (.iload_n 2), o0 (.aload_n 0), o2 (.getfield 109) 10 42, o0 (.bipush 12), o0 (.iload_n 1), o0 (.iadd), o0 (.iaload), o1 (.if_icmp .ge 114) 144, o0 (.aload_n 0), o2 (.getfield 112) 10 43, o0 (.sipush 1600), o0 (.iload_n 2), o0 (.iadd), o0 (.iaload), o0 (.istore_n 3), o0 (.iload_n 3), o0 (.sipush 1000), o1 (.if_icmp .lt 16) 64, o0 (.aload_n 0), o0 (.iload_n 3), o0 (.sipush 1000), o0 (.isub), o0 (.i2l), o2 (.invokevirtual 398) 208 2, o1 (.goto 77) 138]),
  (64, [o0 (.iload_n 3), o0 (.bipush 40), o1 (.if_icmp .lt 19) 86, o0 (.aload_n 0), o0 (.aload_n 0), o0 (.iload_n 3), o0 (.bipush 40), o0 (.isub), o0 (.iconst 0), o2 (.invokevirtual 402) 209 3, o2 (.invokevirtual 398) 208 2, o1 (.goto 55) 138]),
  (86, [o0 (.iload_n 3), o0 (.bipush 13), o1 (.if_icmp .ne 11) 100, o0 (.aload_n 0), o0 (.lconst 1), o2 (.invokevirtual 398) 208 2, o1 (.goto 41) 138]),
  (100, [o0 (.iload_n 3), o0 (.bipush 12), o1 (.if_icmp .ne 30) 133, o0 (.aload_n 0), o2 (.getfield 216) 10 93, o0 (.aload_n 0), o2 (.getfield 395) 10 94, o0 (.iconst 1), o0 (.isub), o0 (.lconst 1), o0 (.aload_n 0), o2 (.getfield 216) 10 93, o0 (.aload_n 0), o2 (.getfield 395) 10 94, o0 (.iconst 1), o0 (.isub), o0 (.laload), o0 (.lsub), o0 (.lastore), o1 (.goto 8) 138]),
  (133, [o0 (.aload_n 0), o0 (.iload_n 3), o2 (.invokevirtual 406) 210 2]),
  (138, [o0 (.iinc 2 1), o1 (.goto (-121)) 20]),
  (144, [o0 (.aload_n 0), o2 (.getfield 216) 10 93, o0 (.iconst 0), o0 (.laload), o0 (.lreturn)])]
theorem bk_M_codesTell : okBlks q_M_codesTell bl_M_codesTell = true := by decide +kernel
noncomputable def oL_M_codesTell {ρ : Type} (N : Nat) : List (Nat × (List Value → mS → (Option Value → mS → Option ρ) → Option ρ)) := [(208, C_M_qPuts N), (209, C_M_qPartOf N), (210, C_M_qJoins N)]
theorem oo_M_codesTell {ρ : Type} {t0 : ρ} (N : Nat) : OrcOK Sm R0m oFm nm 5 t0 (mOrc (oL_M_codesTell N)) := mOrc_OK (List.forall_mem_cons.mpr ⟨cs_M_qPuts N (by decide), List.forall_mem_cons.mpr ⟨cs_M_qPartOf N (by decide), List.forall_mem_cons.mpr ⟨cs_M_qJoins N (by decide), mz_nil⟩⟩⟩)
noncomputable def H_M_codesTell_20 {ρ : Type} (k : (Int32 × Int32 × mS) → Option ρ) : mL → List Value → mS → Option ρ := fun loc st s => cR loc 0 0 (li1 loc 1 fun v0 => li1 loc 2 fun v1 => rv0 st (k (v0, v1, s)))
noncomputable def f_M_codesTell_L20 (N : Nat) (k20 : (Int32 × Int32 × mS) → Option (Int64 × mS)) (x : Int32 × Int32 × mS) : Option (Int64 × mS) :=
  grd (inb (12 + x.1) 24) (
  if x.2.1 < (gA x.2.2 32 (ix (12 + x.1))) then
    grd (inb (1600 + x.2.1) 3200) (
    if (gA x.2.2 33 (ix (1600 + x.2.1))) < 1000 then
      if (gA x.2.2 33 (ix (1600 + x.2.1))) < 40 then
        if (gA x.2.2 33 (ix (1600 + x.2.1))) = 13 then
          (f_M_qPuts N 1 x.2.2).bind fun p3 =>
          k20 (x.1, (x.2.1 + 1), p3)
        else
          if (gA x.2.2 33 (ix (1600 + x.2.1))) = 12 then
            grd (inb ((gI x.2.2 1094 0) - 1) 1700) (
            grd (inb ((gI x.2.2 1094 0) - 1) 1700) (
            let s2 := sQ x.2.2 66 (ix ((gI x.2.2 1094 0) - 1)) (1 - (gQ x.2.2 66 (ix ((gI x.2.2 1094 0) - 1))))
            k20 (x.1, (x.2.1 + 1), s2)))
          else
            (f_M_qJoins N (gA x.2.2 33 (ix (1600 + x.2.1))) x.2.2).bind fun p1 =>
            k20 (x.1, (x.2.1 + 1), p1)
      else
        (f_M_qPartOf N ((gA x.2.2 33 (ix (1600 + x.2.1))) - 40) 0 x.2.2).bind fun p4 =>
        (f_M_qPuts N p4.1 p4.2).bind fun p5 =>
        k20 (x.1, (x.2.1 + 1), p5)
    else
      (f_M_qPuts N (((gA x.2.2 33 (ix (1600 + x.2.1))) - 1000)).toInt64 x.2.2).bind fun p6 =>
      k20 (x.1, (x.2.1 + 1), p6))
  else
    some ((gQ x.2.2 66 0), x.2.2))
set_option maxRecDepth 100000 in
set_option maxHeartbeats 4000000 in
theorem t_M_codesTell_20 (N : Nat) {x9 : Int64} {s9 : mS} {k20 : (Int32 × Int32 × mS) → Option (Int64 × mS)} (hk20 : SCd Sm R0m oFm nm 5 q_M_codesTell (some (.long x9), s9) (x9, s9) 20 (H_M_codesTell_20 k20)) : SCd Sm R0m oFm nm 5 q_M_codesTell (some (.long x9), s9) (x9, s9) 20 (H_M_codesTell_20 (f_M_codesTell_L20 N k20)) := by
  intro loc st s
  refine G_cR (fun h0 => ?_)
  refine G_li (fun v0 h1 => ?_)
  refine G_li (fun v1 h2 => ?_)
  refine G_rv0 (fun e9 => ?_)
  subst e9
  refine G_sub (loc0 := [(0, .ref 0), (1, .int v0), (2, .int v1)]) (List.forall_mem_cons.mpr ⟨h0, List.forall_mem_cons.mpr ⟨h1, List.forall_mem_cons.mpr ⟨h2, mz_nil⟩⟩⟩) ?_
  exact G_eq (mEv_G (orc := mOrc (oL_M_codesTell N)) (ret := rtL) (blks := bl_M_codesTell) (cuts := [(20, H_M_codesTell_20 k20)]) wOKm (by decide) (oo_M_codesTell N) (RetOK_L rfl) bk_M_codesTell (List.forall_mem_cons.mpr ⟨hk20, mz_nil⟩)) rfl
theorem s_M_codesTell_20 (N : Nat) {x9 : Int64} {s9 : mS} : SCd Sm R0m oFm nm 5 q_M_codesTell (some (.long x9), s9) (x9, s9) 20 (H_M_codesTell_20 (mfix N (f_M_codesTell_L20 N))) := by
  refine mfix_SC (H := H_M_codesTell_20) (fun loc st s => ?_) (fun k hk => t_M_codesTell_20 N hk) N
  refine G_cR (fun h0 => ?_)
  refine G_li (fun v0 h1 => ?_)
  refine G_li (fun v1 h2 => ?_)
  refine G_rv0 (fun e9 => ?_)
  subst e9
  exact G_none
noncomputable def f_M_codesTell (N : Nat) (a1 : Int32) (s : mS) : Option (Int64 × mS) :=
  let s1 := sI s 1047 0 a1
  let s2 := sI s1 1094 0 0
  grd (inb (12 + a1) 24) (
  mfix N (f_M_codesTell_L20 N) (a1, (gA s2 31 (ix (12 + a1))), s2))
set_option maxRecDepth 100000 in
set_option maxHeartbeats 4000000 in
theorem m_M_codesTell (N : Nat) {x9 : Int64} {s9 : mS} (a1 : Int32) {s : mS} (h : f_M_codesTell N a1 s = some (x9, s9)) : MetM Sm R0m oFm nm 5 207 [.ref 0, .int a1] s (some (.long x9)) s9 := by
  refine met_of_G (q := q_M_codesTell) (t0 := (x9, s9)) y_M_codesTell (Nat.le_of_ble_eq_true rfl) ?_
  rw [← h]
  exact G_eq (mEv_G (orc := mOrc (oL_M_codesTell N)) (ret := rtL) (blks := bl_M_codesTell) (cuts := [(20, H_M_codesTell_20 (mfix N (f_M_codesTell_L20 N)))]) wOKm (by decide) (oo_M_codesTell N) (RetOK_L rfl) bk_M_codesTell (List.forall_mem_cons.mpr ⟨s_M_codesTell_20 N, mz_nil⟩)) rfl
noncomputable def C_M_codesTell {ρ : Type} (N : Nat) : List Value → mS → (Option Value → mS → Option ρ) → Option ρ := fun vs s kk => sR vs 0 fun r0 => pi1 r0 fun a1 r1 => rv0 r1 ((f_M_codesTell N a1 s).bind fun p => kk (some (.long p.1)) p.2)
theorem cs_M_codesTell {ρ : Type} {t0 : ρ} {d : Nat} (N : Nat) (hd : 5 + 1 ≤ d) : CallOK Sm R0m oFm nm d t0 207 (C_M_codesTell N) := by
  intro vs s kk h0
  obtain ⟨r0, rfl, h1⟩ := sR_some h0
  obtain ⟨a1, r1, rfl, h2⟩ := pi1_some h1
  obtain ⟨rfl, h3⟩ := rv0_some h2
  obtain ⟨p, hp, hk⟩ := Option.bind_eq_some_iff.mp h3
  exact ⟨_, _, _, hd, m_M_codesTell N a1 hp, hk, fun qy hq hf => by cases y_M_codesTell.symm.trans hq; exact ⟨_, _, rfl, rfl⟩⟩
/-! METHOD PorterDoorsModel.orderOf(I)I -/
set_option maxRecDepth 20000 in
noncomputable def q_M_orderOf : mI := (⟨"PorterDoorsModel", "orderOf", "(I)I"⟩, prog_13_method_42_code, 4, (some .int), 10, 1652, 139, 1, 1, 1651, 93)
theorem y_M_orderOf : mT[206]? = some q_M_orderOf := mT_at_5 (k := 6) rfl
noncomputable def bl_M_orderOf : List (Nat × List mO) := [(0, [o0 (.iconst 0), o0 (.istore_n 2), o0 (.iconst 0), o0 (.istore_n 3)]),
  (4, [o0 (.iload_n 3), o0 (.aload_n 0), o2 (.invokevirtual 377) 190 1, o1 (.if_icmp .ge 30) 39, o0 (.aload_n 0), o0 (.iload_n 3), o2 (.putfield 409) 10 49, o0 (.aload_n 0), o0 (.iload_n 1), o2 (.invokevirtual 412) 207 2, o0 (.lconst 1), o0 (.lcmp), o1 (.ifCond .ne 9) 33, o0 (.iload_n 2), o0 (.iconst 1), o0 (.iload_n 3), o0 (.ishl), o0 (.ior), o0 (.istore_n 2)]),
  (33, [o0 (.iinc 3 1), o1 (.goto (-32)) 4]),
  (39, [o0 (.iload_n 2), o0 (.ireturn)])]
theorem bk_M_orderOf : okBlks q_M_orderOf bl_M_orderOf = true := by decide +kernel
noncomputable def oL_M_orderOf {ρ : Type} (N : Nat) : List (Nat × (List Value → mS → (Option Value → mS → Option ρ) → Option ρ)) := [(190, C_M_doorMany N), (207, C_M_codesTell N)]
theorem oo_M_orderOf {ρ : Type} {t0 : ρ} (N : Nat) : OrcOK Sm R0m oFm nm 6 t0 (mOrc (oL_M_orderOf N)) := mOrc_OK (List.forall_mem_cons.mpr ⟨cs_M_doorMany N (by decide), List.forall_mem_cons.mpr ⟨cs_M_codesTell N (by decide), mz_nil⟩⟩)
noncomputable def H_M_orderOf_4 {ρ : Type} (k : (Int32 × Int32 × Int32 × mS) → Option ρ) : mL → List Value → mS → Option ρ := fun loc st s => cR loc 0 0 (li1 loc 1 fun v0 => li1 loc 2 fun v1 => li1 loc 3 fun v2 => rv0 st (k (v0, v1, v2, s)))
noncomputable def f_M_orderOf_L4 (N : Nat) (k4 : (Int32 × Int32 × Int32 × mS) → Option (Int32 × mS)) (x : Int32 × Int32 × Int32 × mS) : Option (Int32 × mS) :=
  (f_M_doorMany N x.2.2.2).bind fun p1 =>
  if x.2.2.1 < p1.1 then
    let s2 := sI p1.2 1049 0 x.2.2.1
    (f_M_codesTell N x.1 s2).bind fun p3 =>
    if (lg_cmp p3.1 1) = 0 then
      k4 (x.1, (x.2.1 ||| (ils 1 x.2.2.1)), (x.2.2.1 + 1), p3.2)
    else
      k4 (x.1, x.2.1, (x.2.2.1 + 1), p3.2)
  else
    some (x.2.1, p1.2)
set_option maxRecDepth 100000 in
set_option maxHeartbeats 4000000 in
theorem t_M_orderOf_4 (N : Nat) {x9 : Int32} {s9 : mS} {k4 : (Int32 × Int32 × Int32 × mS) → Option (Int32 × mS)} (hk4 : SCd Sm R0m oFm nm 6 q_M_orderOf (some (.int x9), s9) (x9, s9) 4 (H_M_orderOf_4 k4)) : SCd Sm R0m oFm nm 6 q_M_orderOf (some (.int x9), s9) (x9, s9) 4 (H_M_orderOf_4 (f_M_orderOf_L4 N k4)) := by
  intro loc st s
  refine G_cR (fun h0 => ?_)
  refine G_li (fun v0 h1 => ?_)
  refine G_li (fun v1 h2 => ?_)
  refine G_li (fun v2 h3 => ?_)
  refine G_rv0 (fun e9 => ?_)
  subst e9
  refine G_sub (loc0 := [(0, .ref 0), (1, .int v0), (2, .int v1), (3, .int v2)]) (List.forall_mem_cons.mpr ⟨h0, List.forall_mem_cons.mpr ⟨h1, List.forall_mem_cons.mpr ⟨h2, List.forall_mem_cons.mpr ⟨h3, mz_nil⟩⟩⟩⟩) ?_
  exact G_eq (mEv_G (orc := mOrc (oL_M_orderOf N)) (ret := rtI) (blks := bl_M_orderOf) (cuts := [(4, H_M_orderOf_4 k4)]) wOKm (by decide) (oo_M_orderOf N) (RetOK_I rfl) bk_M_orderOf (List.forall_mem_cons.mpr ⟨hk4, mz_nil⟩)) rfl
theorem s_M_orderOf_4 (N : Nat) {x9 : Int32} {s9 : mS} : SCd Sm R0m oFm nm 6 q_M_orderOf (some (.int x9), s9) (x9, s9) 4 (H_M_orderOf_4 (mfix N (f_M_orderOf_L4 N))) := by
  refine mfix_SC (H := H_M_orderOf_4) (fun loc st s => ?_) (fun k hk => t_M_orderOf_4 N hk) N
  refine G_cR (fun h0 => ?_)
  refine G_li (fun v0 h1 => ?_)
  refine G_li (fun v1 h2 => ?_)
  refine G_li (fun v2 h3 => ?_)
  refine G_rv0 (fun e9 => ?_)
  subst e9
  exact G_none
noncomputable def f_M_orderOf (N : Nat) (a1 : Int32) (s : mS) : Option (Int32 × mS) :=
  mfix N (f_M_orderOf_L4 N) (a1, 0, 0, s)
set_option maxRecDepth 100000 in
set_option maxHeartbeats 4000000 in
theorem m_M_orderOf (N : Nat) {x9 : Int32} {s9 : mS} (a1 : Int32) {s : mS} (h : f_M_orderOf N a1 s = some (x9, s9)) : MetM Sm R0m oFm nm 6 206 [.ref 0, .int a1] s (some (.int x9)) s9 := by
  refine met_of_G (q := q_M_orderOf) (t0 := (x9, s9)) y_M_orderOf (Nat.le_of_ble_eq_true rfl) ?_
  rw [← h]
  exact G_eq (mEv_G (orc := mOrc (oL_M_orderOf N)) (ret := rtI) (blks := bl_M_orderOf) (cuts := [(4, H_M_orderOf_4 (mfix N (f_M_orderOf_L4 N)))]) wOKm (by decide) (oo_M_orderOf N) (RetOK_I rfl) bk_M_orderOf (List.forall_mem_cons.mpr ⟨s_M_orderOf_4 N, mz_nil⟩)) rfl
noncomputable def C_M_orderOf {ρ : Type} (N : Nat) : List Value → mS → (Option Value → mS → Option ρ) → Option ρ := fun vs s kk => sR vs 0 fun r0 => pi1 r0 fun a1 r1 => rv0 r1 ((f_M_orderOf N a1 s).bind fun p => kk (some (.int p.1)) p.2)
theorem cs_M_orderOf {ρ : Type} {t0 : ρ} {d : Nat} (N : Nat) (hd : 6 + 1 ≤ d) : CallOK Sm R0m oFm nm d t0 206 (C_M_orderOf N) := by
  intro vs s kk h0
  obtain ⟨r0, rfl, h1⟩ := sR_some h0
  obtain ⟨a1, r1, rfl, h2⟩ := pi1_some h1
  obtain ⟨rfl, h3⟩ := rv0_some h2
  obtain ⟨p, hp, hk⟩ := Option.bind_eq_some_iff.mp h3
  exact ⟨_, _, _, hd, m_M_orderOf N a1 hp, hk, fun qy hq hf => by cases y_M_orderOf.symm.trans hq; exact ⟨_, _, rfl, rfl⟩⟩
/-! METHOD PorterDoorsModel.laysOrders()V -/
set_option maxRecDepth 20000 in
noncomputable def q_M_laysOrders : mI := (⟨"PorterDoorsModel", "laysOrders", "()V"⟩, prog_13_method_43_code, 2, none, 10, 1648, 139, 1, 0, 1647, 92)
theorem y_M_laysOrders : mT[205]? = some q_M_laysOrders := mT_at_5 (k := 5) rfl
noncomputable def bl_M_laysOrders : List (Nat × List mO) := [(0, [o0 (.iconst 0), o0 (.istore_n 1)]),
  (2, [o0 (.iload_n 1), o0 (.aload_n 0), o2 (.invokevirtual 380) 191 1, o1 (.if_icmp .ge 20) 27, o0 (.aload_n 0), o2 (.getfield 118) 10 51, o0 (.iload_n 1), o0 (.aload_n 0), o0 (.iload_n 1), o2 (.invokevirtual 416) 206 2, o0 (.iastore), o0 (.iinc 1 1), o1 (.goto (-22)) 2]),
  (27, [o0 (.return_)])]
theorem bk_M_laysOrders : okBlks q_M_laysOrders bl_M_laysOrders = true := by decide +kernel
noncomputable def oL_M_laysOrders {ρ : Type} (N : Nat) : List (Nat × (List Value → mS → (Option Value → mS → Option ρ) → Option ρ)) := [(191, C_M_porterMany N), (206, C_M_orderOf N)]
theorem oo_M_laysOrders {ρ : Type} {t0 : ρ} (N : Nat) : OrcOK Sm R0m oFm nm 7 t0 (mOrc (oL_M_laysOrders N)) := mOrc_OK (List.forall_mem_cons.mpr ⟨cs_M_porterMany N (by decide), List.forall_mem_cons.mpr ⟨cs_M_orderOf N (by decide), mz_nil⟩⟩)
noncomputable def H_M_laysOrders_2 {ρ : Type} (k : (Int32 × mS) → Option ρ) : mL → List Value → mS → Option ρ := fun loc st s => cR loc 0 0 (li1 loc 1 fun v0 => rv0 st (k (v0, s)))
noncomputable def f_M_laysOrders_L2 (N : Nat) (k2 : (Int32 × mS) → Option (mS)) (x : Int32 × mS) : Option (mS) :=
  (f_M_porterMany N x.2).bind fun p1 =>
  if x.1 < p1.1 then
    (f_M_orderOf N x.1 p1.2).bind fun p2 =>
    grd (inb x.1 10) (
    let s3 := sA p2.2 35 (ix x.1) p2.1
    k2 ((x.1 + 1), s3))
  else
    some p1.2
set_option maxRecDepth 100000 in
set_option maxHeartbeats 4000000 in
theorem t_M_laysOrders_2 (N : Nat) {s9 : mS} {k2 : (Int32 × mS) → Option (mS)} (hk2 : SCd Sm R0m oFm nm 7 q_M_laysOrders (none, s9) s9 2 (H_M_laysOrders_2 k2)) : SCd Sm R0m oFm nm 7 q_M_laysOrders (none, s9) s9 2 (H_M_laysOrders_2 (f_M_laysOrders_L2 N k2)) := by
  intro loc st s
  refine G_cR (fun h0 => ?_)
  refine G_li (fun v0 h1 => ?_)
  refine G_rv0 (fun e9 => ?_)
  subst e9
  refine G_sub (loc0 := [(0, .ref 0), (1, .int v0)]) (List.forall_mem_cons.mpr ⟨h0, List.forall_mem_cons.mpr ⟨h1, mz_nil⟩⟩) ?_
  exact G_eq (mEv_G (orc := mOrc (oL_M_laysOrders N)) (ret := rtV) (blks := bl_M_laysOrders) (cuts := [(2, H_M_laysOrders_2 k2)]) wOKm (by decide) (oo_M_laysOrders N) (RetOK_V rfl) bk_M_laysOrders (List.forall_mem_cons.mpr ⟨hk2, mz_nil⟩)) rfl
theorem s_M_laysOrders_2 (N : Nat) {s9 : mS} : SCd Sm R0m oFm nm 7 q_M_laysOrders (none, s9) s9 2 (H_M_laysOrders_2 (mfix N (f_M_laysOrders_L2 N))) := by
  refine mfix_SC (H := H_M_laysOrders_2) (fun loc st s => ?_) (fun k hk => t_M_laysOrders_2 N hk) N
  refine G_cR (fun h0 => ?_)
  refine G_li (fun v0 h1 => ?_)
  refine G_rv0 (fun e9 => ?_)
  subst e9
  exact G_none
noncomputable def f_M_laysOrders (N : Nat) (s : mS) : Option (mS) :=
  mfix N (f_M_laysOrders_L2 N) (0, s)
set_option maxRecDepth 100000 in
set_option maxHeartbeats 4000000 in
theorem m_M_laysOrders (N : Nat) {s9 : mS} {s : mS} (h : f_M_laysOrders N s = some s9) : MetM Sm R0m oFm nm 7 205 [.ref 0] s (none) s9 := by
  refine met_of_G (q := q_M_laysOrders) (t0 := s9) y_M_laysOrders (Nat.le_of_ble_eq_true rfl) ?_
  rw [← h]
  exact G_eq (mEv_G (orc := mOrc (oL_M_laysOrders N)) (ret := rtV) (blks := bl_M_laysOrders) (cuts := [(2, H_M_laysOrders_2 (mfix N (f_M_laysOrders_L2 N)))]) wOKm (by decide) (oo_M_laysOrders N) (RetOK_V rfl) bk_M_laysOrders (List.forall_mem_cons.mpr ⟨s_M_laysOrders_2 N, mz_nil⟩)) rfl
noncomputable def C_M_laysOrders {ρ : Type} (N : Nat) : List Value → mS → (Option Value → mS → Option ρ) → Option ρ := fun vs s kk => sR vs 0 fun r0 => rv0 r0 ((f_M_laysOrders N s).bind fun p => kk none p)
theorem cs_M_laysOrders {ρ : Type} {t0 : ρ} {d : Nat} (N : Nat) (hd : 7 + 1 ≤ d) : CallOK Sm R0m oFm nm d t0 205 (C_M_laysOrders N) := by
  intro vs s kk h0
  obtain ⟨r0, rfl, h1⟩ := sR_some h0
  obtain ⟨rfl, h2⟩ := rv0_some h1
  obtain ⟨p, hp, hk⟩ := Option.bind_eq_some_iff.mp h2
  exact ⟨_, _, _, hd, m_M_laysOrders N hp, hk, fun qy hq hf => by cases y_M_laysOrders.symm.trans hq; exact ⟨_, _, rfl, rfl⟩⟩
/-! METHOD PorterDoorsModel.orderedBy(I)I -/
set_option maxRecDepth 20000 in
noncomputable def q_M_orderedBy : mI := (⟨"PorterDoorsModel", "orderedBy", "(I)I"⟩, prog_13_method_58_code, 4, (some .int), 10, 1644, 139, 1, 1, 1643, 91)
theorem y_M_orderedBy : mT[204]? = some q_M_orderedBy := mT_at_5 (k := 4) rfl
noncomputable def bl_M_orderedBy : List (Nat × List mO) := [(0, [o0 (.iconst 0), o0 (.istore_n 2), o0 (.aload_n 0), o2 (.invokevirtual 470) 205 1, o0 (.iconst 0), o0 (.istore_n 3)]),
  (8, [o0 (.iload_n 3), o0 (.aload_n 0), o2 (.invokevirtual 380) 191 1, o1 (.if_icmp .ge 22) 35, o0 (.iload_n 2), o0 (.aload_n 0), o2 (.getfield 118) 10 51, o0 (.iload_n 3), o0 (.iaload), o0 (.iload_n 1), o0 (.ishr), o0 (.iconst 1), o0 (.iand), o0 (.iadd), o0 (.istore_n 2), o0 (.iinc 3 1), o1 (.goto (-24)) 8]),
  (35, [o0 (.iload_n 2), o0 (.ireturn)])]
theorem bk_M_orderedBy : okBlks q_M_orderedBy bl_M_orderedBy = true := by decide +kernel
noncomputable def oL_M_orderedBy {ρ : Type} (N : Nat) : List (Nat × (List Value → mS → (Option Value → mS → Option ρ) → Option ρ)) := [(205, C_M_laysOrders N), (191, C_M_porterMany N)]
theorem oo_M_orderedBy {ρ : Type} {t0 : ρ} (N : Nat) : OrcOK Sm R0m oFm nm 8 t0 (mOrc (oL_M_orderedBy N)) := mOrc_OK (List.forall_mem_cons.mpr ⟨cs_M_laysOrders N (by decide), List.forall_mem_cons.mpr ⟨cs_M_porterMany N (by decide), mz_nil⟩⟩)
noncomputable def H_M_orderedBy_8 {ρ : Type} (k : (Int32 × Int32 × Int32 × mS) → Option ρ) : mL → List Value → mS → Option ρ := fun loc st s => cR loc 0 0 (li1 loc 1 fun v0 => li1 loc 2 fun v1 => li1 loc 3 fun v2 => rv0 st (k (v0, v1, v2, s)))
noncomputable def f_M_orderedBy_L8 (N : Nat) (k8 : (Int32 × Int32 × Int32 × mS) → Option (Int32 × mS)) (x : Int32 × Int32 × Int32 × mS) : Option (Int32 × mS) :=
  (f_M_porterMany N x.2.2.2).bind fun p1 =>
  if x.2.2.1 < p1.1 then
    grd (inb x.2.2.1 10) (
    k8 (x.1, (x.2.1 + ((irs (gA p1.2 35 (ix x.2.2.1)) x.1) &&& 1)), (x.2.2.1 + 1), p1.2))
  else
    some (x.2.1, p1.2)
set_option maxRecDepth 100000 in
set_option maxHeartbeats 4000000 in
theorem t_M_orderedBy_8 (N : Nat) {x9 : Int32} {s9 : mS} {k8 : (Int32 × Int32 × Int32 × mS) → Option (Int32 × mS)} (hk8 : SCd Sm R0m oFm nm 8 q_M_orderedBy (some (.int x9), s9) (x9, s9) 8 (H_M_orderedBy_8 k8)) : SCd Sm R0m oFm nm 8 q_M_orderedBy (some (.int x9), s9) (x9, s9) 8 (H_M_orderedBy_8 (f_M_orderedBy_L8 N k8)) := by
  intro loc st s
  refine G_cR (fun h0 => ?_)
  refine G_li (fun v0 h1 => ?_)
  refine G_li (fun v1 h2 => ?_)
  refine G_li (fun v2 h3 => ?_)
  refine G_rv0 (fun e9 => ?_)
  subst e9
  refine G_sub (loc0 := [(0, .ref 0), (1, .int v0), (2, .int v1), (3, .int v2)]) (List.forall_mem_cons.mpr ⟨h0, List.forall_mem_cons.mpr ⟨h1, List.forall_mem_cons.mpr ⟨h2, List.forall_mem_cons.mpr ⟨h3, mz_nil⟩⟩⟩⟩) ?_
  exact G_eq (mEv_G (orc := mOrc (oL_M_orderedBy N)) (ret := rtI) (blks := bl_M_orderedBy) (cuts := [(8, H_M_orderedBy_8 k8)]) wOKm (by decide) (oo_M_orderedBy N) (RetOK_I rfl) bk_M_orderedBy (List.forall_mem_cons.mpr ⟨hk8, mz_nil⟩)) rfl
theorem s_M_orderedBy_8 (N : Nat) {x9 : Int32} {s9 : mS} : SCd Sm R0m oFm nm 8 q_M_orderedBy (some (.int x9), s9) (x9, s9) 8 (H_M_orderedBy_8 (mfix N (f_M_orderedBy_L8 N))) := by
  refine mfix_SC (H := H_M_orderedBy_8) (fun loc st s => ?_) (fun k hk => t_M_orderedBy_8 N hk) N
  refine G_cR (fun h0 => ?_)
  refine G_li (fun v0 h1 => ?_)
  refine G_li (fun v1 h2 => ?_)
  refine G_li (fun v2 h3 => ?_)
  refine G_rv0 (fun e9 => ?_)
  subst e9
  exact G_none
noncomputable def f_M_orderedBy (N : Nat) (a1 : Int32) (s : mS) : Option (Int32 × mS) :=
  (f_M_laysOrders N s).bind fun p1 =>
  mfix N (f_M_orderedBy_L8 N) (a1, 0, 0, p1)
set_option maxRecDepth 100000 in
set_option maxHeartbeats 4000000 in
theorem m_M_orderedBy (N : Nat) {x9 : Int32} {s9 : mS} (a1 : Int32) {s : mS} (h : f_M_orderedBy N a1 s = some (x9, s9)) : MetM Sm R0m oFm nm 8 204 [.ref 0, .int a1] s (some (.int x9)) s9 := by
  refine met_of_G (q := q_M_orderedBy) (t0 := (x9, s9)) y_M_orderedBy (Nat.le_of_ble_eq_true rfl) ?_
  rw [← h]
  exact G_eq (mEv_G (orc := mOrc (oL_M_orderedBy N)) (ret := rtI) (blks := bl_M_orderedBy) (cuts := [(8, H_M_orderedBy_8 (mfix N (f_M_orderedBy_L8 N)))]) wOKm (by decide) (oo_M_orderedBy N) (RetOK_I rfl) bk_M_orderedBy (List.forall_mem_cons.mpr ⟨s_M_orderedBy_8 N, mz_nil⟩)) rfl
noncomputable def C_M_orderedBy {ρ : Type} (N : Nat) : List Value → mS → (Option Value → mS → Option ρ) → Option ρ := fun vs s kk => sR vs 0 fun r0 => pi1 r0 fun a1 r1 => rv0 r1 ((f_M_orderedBy N a1 s).bind fun p => kk (some (.int p.1)) p.2)
theorem cs_M_orderedBy {ρ : Type} {t0 : ρ} {d : Nat} (N : Nat) (hd : 8 + 1 ≤ d) : CallOK Sm R0m oFm nm d t0 204 (C_M_orderedBy N) := by
  intro vs s kk h0
  obtain ⟨r0, rfl, h1⟩ := sR_some h0
  obtain ⟨a1, r1, rfl, h2⟩ := pi1_some h1
  obtain ⟨rfl, h3⟩ := rv0_some h2
  obtain ⟨p, hp, hk⟩ := Option.bind_eq_some_iff.mp h3
  exact ⟨_, _, _, hd, m_M_orderedBy N a1 hp, hk, fun qy hq hf => by cases y_M_orderedBy.symm.trans hq; exact ⟨_, _, rfl, rfl⟩⟩
/-! METHOD PorterDoorsModel.door(II)I -/
set_option maxRecDepth 20000 in
noncomputable def q_M_door : mI := (⟨"PorterDoorsModel", "door", "(II)I"⟩, prog_13_method_59_code, 3, (some .int), 10, 1632, 139, 1, 2, 1630, 1631)
theorem y_M_door : mT[201]? = some q_M_door := mT_at_5 (k := 1) rfl
noncomputable def bl_M_door : List (Nat × List mO) := [(0, [o0 (.aload_n 0), o0 (.iload_n 1), o0 (.i2l), o2 (.invokevirtual 473) 202 2, o1 (.ifCond .ne 5) 11, o0 (.iconst (-1)), o0 (.ireturn)]),
  (11, [o0 (.iload_n 2), oS (.tableswitch 74 0 4 #[36, 42, 48, 54, 68]) 86 [48, 54, 60, 66, 80]]),
  (48, [o0 (.aload_n 0), o0 (.iload_n 1), o2 (.invokevirtual 386) 194 2, o0 (.ireturn)]),
  (54, [o0 (.aload_n 0), o0 (.iload_n 1), o2 (.invokevirtual 476) 203 2, o0 (.ireturn)]),
  (60, [o0 (.aload_n 0), o0 (.iload_n 1), o2 (.invokevirtual 383) 198 2, o0 (.ireturn)]),
  (66, [o0 (.aload_n 0), o0 (.iload_n 1), o2 (.invokevirtual 425) 197 2, o1 (.ifCond .eq 7) 78, o0 (.iconst 1), o1 (.goto 4) 79]),
  (78, [o0 (.iconst 0)]),
  (79, [o0 (.ireturn)]),
  (80, [o0 (.aload_n 0), o0 (.iload_n 1), o2 (.invokevirtual 479) 204 2, o0 (.ireturn)]),
  (86, [o0 (.iconst (-1)), o0 (.ireturn)])]
theorem bk_M_door : okBlks q_M_door bl_M_door = true := by decide +kernel
noncomputable def oL_M_door {ρ : Type} (N : Nat) : List (Nat × (List Value → mS → (Option Value → mS → Option ρ) → Option ρ)) := [(202, C_M_isDoor N), (194, C_M_openOf N), (203, C_M_paintOf N), (198, C_M_turnedOf N), (197, C_M_isJammed N), (204, C_M_orderedBy N)]
theorem oo_M_door {ρ : Type} {t0 : ρ} (N : Nat) : OrcOK Sm R0m oFm nm 9 t0 (mOrc (oL_M_door N)) := mOrc_OK (List.forall_mem_cons.mpr ⟨cs_M_isDoor N (by decide), List.forall_mem_cons.mpr ⟨cs_M_openOf N (by decide), List.forall_mem_cons.mpr ⟨cs_M_paintOf N (by decide), List.forall_mem_cons.mpr ⟨cs_M_turnedOf N (by decide), List.forall_mem_cons.mpr ⟨cs_M_isJammed N (by decide), List.forall_mem_cons.mpr ⟨cs_M_orderedBy N (by decide), mz_nil⟩⟩⟩⟩⟩⟩)
noncomputable def f_M_door (N : Nat) (a1 : Int32) (a2 : Int32) (s : mS) : Option (Int32 × mS) :=
  (f_M_isDoor N (a1).toInt64 s).bind fun p1 =>
  if p1.1 = 0 then
    some ((-1), p1.2)
  else
    if a2 = 0 then
      (f_M_openOf N a1 p1.2).bind fun p2 =>
      some (p2.1, p2.2)
    else if a2 = 1 then
      (f_M_paintOf N a1 p1.2).bind fun p3 =>
      some (p3.1, p3.2)
    else if a2 = 2 then
      (f_M_turnedOf N a1 p1.2).bind fun p4 =>
      some (p4.1, p4.2)
    else if a2 = 3 then
      (f_M_isJammed N a1 p1.2).bind fun p5 =>
      if p5.1 = 0 then
        some (0, p5.2)
      else
        some (1, p5.2)
    else if a2 = 4 then
      (f_M_orderedBy N a1 p1.2).bind fun p6 =>
      some (p6.1, p6.2)
    else
      some ((-1), p1.2)
set_option maxRecDepth 100000 in
set_option maxHeartbeats 4000000 in
theorem m_M_door (N : Nat) {x9 : Int32} {s9 : mS} (a1 : Int32) (a2 : Int32) {s : mS} (h : f_M_door N a1 a2 s = some (x9, s9)) : MetM Sm R0m oFm nm 9 201 [.ref 0, .int a1, .int a2] s (some (.int x9)) s9 := by
  refine met_of_G (q := q_M_door) (t0 := (x9, s9)) y_M_door (Nat.le_of_ble_eq_true rfl) ?_
  rw [← h]
  exact G_eq (mEv_G (orc := mOrc (oL_M_door N)) (ret := rtI) (blks := bl_M_door) (cuts := []) wOKm (by decide) (oo_M_door N) (RetOK_I rfl) bk_M_door (mz_nil)) rfl
noncomputable def C_M_door {ρ : Type} (N : Nat) : List Value → mS → (Option Value → mS → Option ρ) → Option ρ := fun vs s kk => sR vs 0 fun r0 => pi1 r0 fun a1 r1 => pi1 r1 fun a2 r2 => rv0 r2 ((f_M_door N a1 a2 s).bind fun p => kk (some (.int p.1)) p.2)
theorem cs_M_door {ρ : Type} {t0 : ρ} {d : Nat} (N : Nat) (hd : 9 + 1 ≤ d) : CallOK Sm R0m oFm nm d t0 201 (C_M_door N) := by
  intro vs s kk h0
  obtain ⟨r0, rfl, h1⟩ := sR_some h0
  obtain ⟨a1, r1, rfl, h2⟩ := pi1_some h1
  obtain ⟨a2, r2, rfl, h3⟩ := pi1_some h2
  obtain ⟨rfl, h4⟩ := rv0_some h3
  obtain ⟨p, hp, hk⟩ := Option.bind_eq_some_iff.mp h4
  exact ⟨_, _, _, hd, m_M_door N a1 a2 hp, hk, fun qy hq hf => by cases y_M_door.symm.trans hq; exact ⟨_, _, rfl, rfl⟩⟩
/-! METHOD PorterDoorsModel.isCoded(I)Z -/
set_option maxRecDepth 20000 in
noncomputable def q_M_isCoded : mI := (⟨"PorterDoorsModel", "isCoded", "(I)Z"⟩, prog_13_method_40_code, 2, (some .boolean), 10, 1688, 139, 1, 1, 1687, 99)
theorem y_M_isCoded : mT[215]? = some q_M_isCoded := mT_at_5 (k := 15) rfl
noncomputable def bl_M_isCoded : List (Nat × List mO) := [(0, [o0 (.aload_n 0), o2 (.getfield 106) 10 41, o0 (.bipush 12), o0 (.iload_n 1), o0 (.iadd), o0 (.iaload), o0 (.iconst (-1)), o1 (.if_icmp .eq 7) 17, o0 (.iconst 1), o1 (.goto 4) 18]),
  (17, [o0 (.iconst 0)]),
  (18, [o0 (.ireturn)])]
theorem bk_M_isCoded : okBlks q_M_isCoded bl_M_isCoded = true := by decide +kernel
noncomputable def oL_M_isCoded {ρ : Type} (N : Nat) : List (Nat × (List Value → mS → (Option Value → mS → Option ρ) → Option ρ)) := []
theorem oo_M_isCoded {ρ : Type} {t0 : ρ} (N : Nat) : OrcOK Sm R0m oFm nm 1 t0 (mOrc (oL_M_isCoded N)) := mOrc_OK (mz_nil)
noncomputable def f_M_isCoded (N : Nat) (a1 : Int32) (s : mS) : Option (Int32 × mS) :=
  grd (inb (12 + a1) 24) (
  if (gA s 31 (ix (12 + a1))) = (-1) then
    some (0, s)
  else
    some (1, s))
set_option maxRecDepth 100000 in
set_option maxHeartbeats 4000000 in
theorem m_M_isCoded (N : Nat) {x9 : Int32} {s9 : mS} (a1 : Int32) {s : mS} (h : f_M_isCoded N a1 s = some (x9, s9)) : MetM Sm R0m oFm nm 1 215 [.ref 0, .int a1] s (some (.int x9)) s9 := by
  refine met_of_G (q := q_M_isCoded) (t0 := (x9, s9)) y_M_isCoded (Nat.le_of_ble_eq_true rfl) ?_
  rw [← h]
  exact G_eq (mEv_G (orc := mOrc (oL_M_isCoded N)) (ret := rtZ) (blks := bl_M_isCoded) (cuts := []) wOKm (by decide) (oo_M_isCoded N) (RetOK_Z rfl) bk_M_isCoded (mz_nil)) rfl
noncomputable def C_M_isCoded {ρ : Type} (N : Nat) : List Value → mS → (Option Value → mS → Option ρ) → Option ρ := fun vs s kk => sR vs 0 fun r0 => pi1 r0 fun a1 r1 => rv0 r1 ((f_M_isCoded N a1 s).bind fun p => kk (some (.int p.1)) p.2)
theorem cs_M_isCoded {ρ : Type} {t0 : ρ} {d : Nat} (N : Nat) (hd : 1 + 1 ≤ d) : CallOK Sm R0m oFm nm d t0 215 (C_M_isCoded N) := by
  intro vs s kk h0
  obtain ⟨r0, rfl, h1⟩ := sR_some h0
  obtain ⟨a1, r1, rfl, h2⟩ := pi1_some h1
  obtain ⟨rfl, h3⟩ := rv0_some h2
  obtain ⟨p, hp, hk⟩ := Option.bind_eq_some_iff.mp h3
  exact ⟨_, _, _, hd, m_M_isCoded N a1 hp, hk, fun qy hq hf => by cases y_M_isCoded.symm.trans hq; exact ⟨_, _, rfl, rfl⟩⟩
/-! METHOD PorterDoorsModel.doesWalk(I)Z -/
set_option maxRecDepth 20000 in
noncomputable def q_M_doesWalk : mI := (⟨"PorterDoorsModel", "doesWalk", "(I)Z"⟩, prog_13_method_44_code, 2, (some .boolean), 10, 1684, 139, 1, 1, 1683, 98)
theorem y_M_doesWalk : mT[214]? = some q_M_doesWalk := mT_at_5 (k := 14) rfl
noncomputable def bl_M_doesWalk : List (Nat × List mO) := [(0, [o0 (.aload_n 0), o0 (.bipush 10), o2 (.invokevirtual 419) 215 2, o1 (.ifCond .ne 5) 11, o0 (.iconst 1), o0 (.ireturn)]),
  (11, [o0 (.aload_n 0), o0 (.iload_n 1), o2 (.putfield 422) 10 50, o0 (.aload_n 0), o0 (.bipush 10), o2 (.invokevirtual 412) 207 2, o0 (.lconst 1), o0 (.lcmp), o1 (.ifCond .ne 7) 31, o0 (.iconst 1), o1 (.goto 4) 32]),
  (31, [o0 (.iconst 0)]),
  (32, [o0 (.ireturn)])]
theorem bk_M_doesWalk : okBlks q_M_doesWalk bl_M_doesWalk = true := by decide +kernel
noncomputable def oL_M_doesWalk {ρ : Type} (N : Nat) : List (Nat × (List Value → mS → (Option Value → mS → Option ρ) → Option ρ)) := [(215, C_M_isCoded N), (207, C_M_codesTell N)]
theorem oo_M_doesWalk {ρ : Type} {t0 : ρ} (N : Nat) : OrcOK Sm R0m oFm nm 6 t0 (mOrc (oL_M_doesWalk N)) := mOrc_OK (List.forall_mem_cons.mpr ⟨cs_M_isCoded N (by decide), List.forall_mem_cons.mpr ⟨cs_M_codesTell N (by decide), mz_nil⟩⟩)
noncomputable def f_M_doesWalk (N : Nat) (a1 : Int32) (s : mS) : Option (Int32 × mS) :=
  (f_M_isCoded N 10 s).bind fun p1 =>
  if p1.1 = 0 then
    some (1, p1.2)
  else
    let s2 := sI p1.2 1050 0 a1
    (f_M_codesTell N 10 s2).bind fun p3 =>
    if (lg_cmp p3.1 1) = 0 then
      some (1, p3.2)
    else
      some (0, p3.2)
set_option maxRecDepth 100000 in
set_option maxHeartbeats 4000000 in
theorem m_M_doesWalk (N : Nat) {x9 : Int32} {s9 : mS} (a1 : Int32) {s : mS} (h : f_M_doesWalk N a1 s = some (x9, s9)) : MetM Sm R0m oFm nm 6 214 [.ref 0, .int a1] s (some (.int x9)) s9 := by
  refine met_of_G (q := q_M_doesWalk) (t0 := (x9, s9)) y_M_doesWalk (Nat.le_of_ble_eq_true rfl) ?_
  rw [← h]
  exact G_eq (mEv_G (orc := mOrc (oL_M_doesWalk N)) (ret := rtZ) (blks := bl_M_doesWalk) (cuts := []) wOKm (by decide) (oo_M_doesWalk N) (RetOK_Z rfl) bk_M_doesWalk (mz_nil)) rfl
noncomputable def C_M_doesWalk {ρ : Type} (N : Nat) : List Value → mS → (Option Value → mS → Option ρ) → Option ρ := fun vs s kk => sR vs 0 fun r0 => pi1 r0 fun a1 r1 => rv0 r1 ((f_M_doesWalk N a1 s).bind fun p => kk (some (.int p.1)) p.2)
theorem cs_M_doesWalk {ρ : Type} {t0 : ρ} {d : Nat} (N : Nat) (hd : 6 + 1 ≤ d) : CallOK Sm R0m oFm nm d t0 214 (C_M_doesWalk N) := by
  intro vs s kk h0
  obtain ⟨r0, rfl, h1⟩ := sR_some h0
  obtain ⟨a1, r1, rfl, h2⟩ := pi1_some h1
  obtain ⟨rfl, h3⟩ := rv0_some h2
  obtain ⟨p, hp, hk⟩ := Option.bind_eq_some_iff.mp h3
  exact ⟨_, _, _, hd, m_M_doesWalk N a1 hp, hk, fun qy hq hf => by cases y_M_doesWalk.symm.trans hq; exact ⟨_, _, rfl, rfl⟩⟩
/-! METHOD PorterDoorsModel.porter(II)I -/
set_option maxRecDepth 20000 in
noncomputable def q_M_porter : mI := (⟨"PorterDoorsModel", "porter", "(II)I"⟩, prog_13_method_60_code, 3, (some .int), 10, 1680, 139, 1, 2, 1678, 1679)
theorem y_M_porter : mT[213]? = some q_M_porter := mT_at_5 (k := 13) rfl
noncomputable def bl_M_porter : List (Nat × List mO) := [(0, [o0 (.aload_n 0), o0 (.iload_n 1), o0 (.i2l), o2 (.invokevirtual 466) 200 2, o1 (.ifCond .ne 5) 11, o0 (.iconst (-1)), o0 (.ireturn)]),
  (11, [o0 (.iload_n 2), oS (.tableswitch 61 0 2 #[28, 38, 47]) 73 [40, 50, 59]]),
  (40, [o0 (.aload_n 0), o2 (.getfield 115) 10 48, o0 (.bipush 74), o0 (.iload_n 1), o0 (.iadd), o0 (.iaload), o0 (.ireturn)]),
  (50, [o0 (.aload_n 0), o0 (.iload_n 1), o2 (.invokevirtual 416) 206 2, o2 (.invokestatic 392) 195 1, o0 (.ireturn)]),
  (59, [o0 (.aload_n 0), o0 (.iload_n 1), o2 (.invokevirtual 438) 214 2, o1 (.ifCond .eq 7) 71, o0 (.iconst 1), o1 (.goto 4) 72]),
  (71, [o0 (.iconst 0)]),
  (72, [o0 (.ireturn)]),
  (73, [o0 (.iconst (-1)), o0 (.ireturn)])]
theorem bk_M_porter : okBlks q_M_porter bl_M_porter = true := by decide +kernel
noncomputable def oL_M_porter {ρ : Type} (N : Nat) : List (Nat × (List Value → mS → (Option Value → mS → Option ρ) → Option ρ)) := [(200, C_M_isPorter N), (206, C_M_orderOf N), (195, C_M_bits N), (214, C_M_doesWalk N)]
theorem oo_M_porter {ρ : Type} {t0 : ρ} (N : Nat) : OrcOK Sm R0m oFm nm 7 t0 (mOrc (oL_M_porter N)) := mOrc_OK (List.forall_mem_cons.mpr ⟨cs_M_isPorter N (by decide), List.forall_mem_cons.mpr ⟨cs_M_orderOf N (by decide), List.forall_mem_cons.mpr ⟨cs_M_bits N (by decide), List.forall_mem_cons.mpr ⟨cs_M_doesWalk N (by decide), mz_nil⟩⟩⟩⟩)
noncomputable def f_M_porter (N : Nat) (a1 : Int32) (a2 : Int32) (s : mS) : Option (Int32 × mS) :=
  (f_M_isPorter N (a1).toInt64 s).bind fun p1 =>
  if p1.1 = 0 then
    some ((-1), p1.2)
  else
    if a2 = 0 then
      grd (inb (74 + a1) 205) (
      some ((gA p1.2 34 (ix (74 + a1))), p1.2))
    else if a2 = 1 then
      (f_M_orderOf N a1 p1.2).bind fun p2 =>
      (f_M_bits N p2.1 p2.2).bind fun p3 =>
      some (p3.1, p3.2)
    else if a2 = 2 then
      (f_M_doesWalk N a1 p1.2).bind fun p4 =>
      if p4.1 = 0 then
        some (0, p4.2)
      else
        some (1, p4.2)
    else
      some ((-1), p1.2)
set_option maxRecDepth 100000 in
set_option maxHeartbeats 4000000 in
theorem m_M_porter (N : Nat) {x9 : Int32} {s9 : mS} (a1 : Int32) (a2 : Int32) {s : mS} (h : f_M_porter N a1 a2 s = some (x9, s9)) : MetM Sm R0m oFm nm 7 213 [.ref 0, .int a1, .int a2] s (some (.int x9)) s9 := by
  refine met_of_G (q := q_M_porter) (t0 := (x9, s9)) y_M_porter (Nat.le_of_ble_eq_true rfl) ?_
  rw [← h]
  exact G_eq (mEv_G (orc := mOrc (oL_M_porter N)) (ret := rtI) (blks := bl_M_porter) (cuts := []) wOKm (by decide) (oo_M_porter N) (RetOK_I rfl) bk_M_porter (mz_nil)) rfl
noncomputable def C_M_porter {ρ : Type} (N : Nat) : List Value → mS → (Option Value → mS → Option ρ) → Option ρ := fun vs s kk => sR vs 0 fun r0 => pi1 r0 fun a1 r1 => pi1 r1 fun a2 r2 => rv0 r2 ((f_M_porter N a1 a2 s).bind fun p => kk (some (.int p.1)) p.2)
theorem cs_M_porter {ρ : Type} {t0 : ρ} {d : Nat} (N : Nat) (hd : 7 + 1 ≤ d) : CallOK Sm R0m oFm nm d t0 213 (C_M_porter N) := by
  intro vs s kk h0
  obtain ⟨r0, rfl, h1⟩ := sR_some h0
  obtain ⟨a1, r1, rfl, h2⟩ := pi1_some h1
  obtain ⟨a2, r2, rfl, h3⟩ := pi1_some h2
  obtain ⟨rfl, h4⟩ := rv0_some h3
  obtain ⟨p, hp, hk⟩ := Option.bind_eq_some_iff.mp h4
  exact ⟨_, _, _, hd, m_M_porter N a1 a2 hp, hk, fun qy hq hf => by cases y_M_porter.symm.trans hq; exact ⟨_, _, rfl, rfl⟩⟩
/-! METHOD PorterDoorsModel.order(I)I -/
set_option maxRecDepth 20000 in
noncomputable def q_M_order : mI := (⟨"PorterDoorsModel", "order", "(I)I"⟩, prog_13_method_61_code, 2, (some .int), 10, 1692, 139, 1, 1, 1690, 1691)
theorem y_M_order : mT[216]? = some q_M_order := mT_at_5 (k := 16) rfl
noncomputable def bl_M_order : List (Nat × List mO) := [(0, [o0 (.aload_n 0), o0 (.iload_n 1), o0 (.i2l), o2 (.invokevirtual 466) 200 2, o1 (.ifCond .eq 11) 17, o0 (.aload_n 0), o0 (.iload_n 1), o2 (.invokevirtual 416) 206 2, o1 (.goto 4) 18]),
  (17, [o0 (.iconst (-1))]),
  (18, [o0 (.ireturn)])]
theorem bk_M_order : okBlks q_M_order bl_M_order = true := by decide +kernel
noncomputable def oL_M_order {ρ : Type} (N : Nat) : List (Nat × (List Value → mS → (Option Value → mS → Option ρ) → Option ρ)) := [(200, C_M_isPorter N), (206, C_M_orderOf N)]
theorem oo_M_order {ρ : Type} {t0 : ρ} (N : Nat) : OrcOK Sm R0m oFm nm 7 t0 (mOrc (oL_M_order N)) := mOrc_OK (List.forall_mem_cons.mpr ⟨cs_M_isPorter N (by decide), List.forall_mem_cons.mpr ⟨cs_M_orderOf N (by decide), mz_nil⟩⟩)
noncomputable def f_M_order (N : Nat) (a1 : Int32) (s : mS) : Option (Int32 × mS) :=
  (f_M_isPorter N (a1).toInt64 s).bind fun p1 =>
  if p1.1 = 0 then
    some ((-1), p1.2)
  else
    (f_M_orderOf N a1 p1.2).bind fun p2 =>
    some (p2.1, p2.2)
set_option maxRecDepth 100000 in
set_option maxHeartbeats 4000000 in
theorem m_M_order (N : Nat) {x9 : Int32} {s9 : mS} (a1 : Int32) {s : mS} (h : f_M_order N a1 s = some (x9, s9)) : MetM Sm R0m oFm nm 7 216 [.ref 0, .int a1] s (some (.int x9)) s9 := by
  refine met_of_G (q := q_M_order) (t0 := (x9, s9)) y_M_order (Nat.le_of_ble_eq_true rfl) ?_
  rw [← h]
  exact G_eq (mEv_G (orc := mOrc (oL_M_order N)) (ret := rtI) (blks := bl_M_order) (cuts := []) wOKm (by decide) (oo_M_order N) (RetOK_I rfl) bk_M_order (mz_nil)) rfl
noncomputable def C_M_order {ρ : Type} (N : Nat) : List Value → mS → (Option Value → mS → Option ρ) → Option ρ := fun vs s kk => sR vs 0 fun r0 => pi1 r0 fun a1 r1 => rv0 r1 ((f_M_order N a1 s).bind fun p => kk (some (.int p.1)) p.2)
theorem cs_M_order {ρ : Type} {t0 : ρ} {d : Nat} (N : Nat) (hd : 7 + 1 ≤ d) : CallOK Sm R0m oFm nm d t0 216 (C_M_order N) := by
  intro vs s kk h0
  obtain ⟨r0, rfl, h1⟩ := sR_some h0
  obtain ⟨a1, r1, rfl, h2⟩ := pi1_some h1
  obtain ⟨rfl, h3⟩ := rv0_some h2
  obtain ⟨p, hp, hk⟩ := Option.bind_eq_some_iff.mp h3
  exact ⟨_, _, _, hd, m_M_order N a1 hp, hk, fun qy hq hf => by cases y_M_order.symm.trans hq; exact ⟨_, _, rfl, rfl⟩⟩
/-! METHOD PorterDoorsModel.kept(II)I -/
set_option maxRecDepth 20000 in
noncomputable def q_M_kept : mI := (⟨"PorterDoorsModel", "kept", "(II)I"⟩, prog_13_method_62_code, 3, (some .int), 10, 1696, 139, 1, 2, 1694, 1695)
theorem y_M_kept : mT[217]? = some q_M_kept := mT_at_5 (k := 17) rfl
noncomputable def bl_M_kept : List (Nat × List mO) := [(0, [o0 (.iload_n 1), o0 (.i2l), o0 (.lconst 0), o0 (.aload_n 0), o2 (.getfield 115) 10 48, o0 (.bipush 84), o0 (.iaload), o0 (.iconst 1), o0 (.isub), o0 (.i2l), o2 (.invokestatic 270) 155 3, o1 (.ifCond .eq 31) 47, o0 (.iload_n 2), o0 (.i2l), o0 (.lconst 0), oC (.ldc2_w 482) (.long 2), o2 (.invokestatic 270) 155 3, o1 (.ifCond .eq 19) 47, o0 (.aload_n 0), o2 (.getfield 115) 10 48, o0 (.bipush 85), o0 (.iconst 3), o0 (.iload_n 1), o0 (.imul), o0 (.iadd), o0 (.iload_n 2), o0 (.iadd), o0 (.iaload), o1 (.goto 4) 48]),
  (47, [o0 (.iconst (-1))]),
  (48, [o0 (.ireturn)])]
theorem bk_M_kept : okBlks q_M_kept bl_M_kept = true := by decide +kernel
noncomputable def oL_M_kept {ρ : Type} (N : Nat) : List (Nat × (List Value → mS → (Option Value → mS → Option ρ) → Option ρ)) := [(155, C_M_isIn N)]
theorem oo_M_kept {ρ : Type} {t0 : ρ} (N : Nat) : OrcOK Sm R0m oFm nm 2 t0 (mOrc (oL_M_kept N)) := mOrc_OK (List.forall_mem_cons.mpr ⟨cs_M_isIn N (by decide), mz_nil⟩)
noncomputable def f_M_kept (N : Nat) (a1 : Int32) (a2 : Int32) (s : mS) : Option (Int32 × mS) :=
  (f_M_isIn N (a1).toInt64 0 (((gA s 34 84) - 1)).toInt64 s).bind fun p1 =>
  if p1.1 = 0 then
    some ((-1), p1.2)
  else
    (f_M_isIn N (a2).toInt64 0 2 p1.2).bind fun p2 =>
    if p2.1 = 0 then
      some ((-1), p2.2)
    else
      grd (inb ((85 + (3 * a1)) + a2) 205) (
      some ((gA p2.2 34 (ix ((85 + (3 * a1)) + a2))), p2.2))
set_option maxRecDepth 100000 in
set_option maxHeartbeats 4000000 in
theorem m_M_kept (N : Nat) {x9 : Int32} {s9 : mS} (a1 : Int32) (a2 : Int32) {s : mS} (h : f_M_kept N a1 a2 s = some (x9, s9)) : MetM Sm R0m oFm nm 2 217 [.ref 0, .int a1, .int a2] s (some (.int x9)) s9 := by
  refine met_of_G (q := q_M_kept) (t0 := (x9, s9)) y_M_kept (Nat.le_of_ble_eq_true rfl) ?_
  rw [← h]
  exact G_eq (mEv_G (orc := mOrc (oL_M_kept N)) (ret := rtI) (blks := bl_M_kept) (cuts := []) wOKm (by decide) (oo_M_kept N) (RetOK_I rfl) bk_M_kept (mz_nil)) rfl
noncomputable def C_M_kept {ρ : Type} (N : Nat) : List Value → mS → (Option Value → mS → Option ρ) → Option ρ := fun vs s kk => sR vs 0 fun r0 => pi1 r0 fun a1 r1 => pi1 r1 fun a2 r2 => rv0 r2 ((f_M_kept N a1 a2 s).bind fun p => kk (some (.int p.1)) p.2)
theorem cs_M_kept {ρ : Type} {t0 : ρ} {d : Nat} (N : Nat) (hd : 2 + 1 ≤ d) : CallOK Sm R0m oFm nm d t0 217 (C_M_kept N) := by
  intro vs s kk h0
  obtain ⟨r0, rfl, h1⟩ := sR_some h0
  obtain ⟨a1, r1, rfl, h2⟩ := pi1_some h1
  obtain ⟨a2, r2, rfl, h3⟩ := pi1_some h2
  obtain ⟨rfl, h4⟩ := rv0_some h3
  obtain ⟨p, hp, hk⟩ := Option.bind_eq_some_iff.mp h4
  exact ⟨_, _, _, hd, m_M_kept N a1 a2 hp, hk, fun qy hq hf => by cases y_M_kept.symm.trans hq; exact ⟨_, _, rfl, rfl⟩⟩
/-! METHOD PorterDoorsModel.isAhead(III)Z -/
set_option maxRecDepth 20000 in
noncomputable def q_M_isAhead : mI := (⟨"PorterDoorsModel", "isAhead", "(III)Z"⟩, prog_13_method_54_code, 4, (some .boolean), 10, 1705, 139, 1, 3, 1704, 100)
theorem y_M_isAhead : mT[219]? = some q_M_isAhead := mT_at_5 (k := 19) rfl
noncomputable def bl_M_isAhead : List (Nat × List mO) := [(0, [o0 (.aload_n 0), o2 (.getfield 367) 10 46, o1 (.ifCond .eq 33) 37, o0 (.iload_n 1), o0 (.i2l), o0 (.iload_n 2), o0 (.i2l), o0 (.iload_n 3), o0 (.i2l), o2 (.invokestatic 270) 155 3, o1 (.ifCond .eq 21) 37, o0 (.aload_n 0), o2 (.getfield 115) 10 48, o0 (.iconst 0), o0 (.iaload), o0 (.iload_n 1), o0 (.iadd), o0 (.sipush 999), o1 (.if_icmp .gt 7) 37, o0 (.iconst 1), o1 (.goto 4) 38]),
  (37, [o0 (.iconst 0)]),
  (38, [o0 (.ireturn)])]
theorem bk_M_isAhead : okBlks q_M_isAhead bl_M_isAhead = true := by decide +kernel
noncomputable def oL_M_isAhead {ρ : Type} (N : Nat) : List (Nat × (List Value → mS → (Option Value → mS → Option ρ) → Option ρ)) := [(155, C_M_isIn N)]
theorem oo_M_isAhead {ρ : Type} {t0 : ρ} (N : Nat) : OrcOK Sm R0m oFm nm 2 t0 (mOrc (oL_M_isAhead N)) := mOrc_OK (List.forall_mem_cons.mpr ⟨cs_M_isIn N (by decide), mz_nil⟩)
noncomputable def f_M_isAhead (N : Nat) (a1 : Int32) (a2 : Int32) (a3 : Int32) (s : mS) : Option (Int32 × mS) :=
  if (gI s 1046 0) = 0 then
    some (0, s)
  else
    (f_M_isIn N (a1).toInt64 (a2).toInt64 (a3).toInt64 s).bind fun p1 =>
    if p1.1 = 0 then
      some (0, p1.2)
    else
      if 999 < ((gA p1.2 34 0) + a1) then
        some (0, p1.2)
      else
        some (1, p1.2)
set_option maxRecDepth 100000 in
set_option maxHeartbeats 4000000 in
theorem m_M_isAhead (N : Nat) {x9 : Int32} {s9 : mS} (a1 : Int32) (a2 : Int32) (a3 : Int32) {s : mS} (h : f_M_isAhead N a1 a2 a3 s = some (x9, s9)) : MetM Sm R0m oFm nm 2 219 [.ref 0, .int a1, .int a2, .int a3] s (some (.int x9)) s9 := by
  refine met_of_G (q := q_M_isAhead) (t0 := (x9, s9)) y_M_isAhead (Nat.le_of_ble_eq_true rfl) ?_
  rw [← h]
  exact G_eq (mEv_G (orc := mOrc (oL_M_isAhead N)) (ret := rtZ) (blks := bl_M_isAhead) (cuts := []) wOKm (by decide) (oo_M_isAhead N) (RetOK_Z rfl) bk_M_isAhead (mz_nil)) rfl
noncomputable def C_M_isAhead {ρ : Type} (N : Nat) : List Value → mS → (Option Value → mS → Option ρ) → Option ρ := fun vs s kk => sR vs 0 fun r0 => pi1 r0 fun a1 r1 => pi1 r1 fun a2 r2 => pi1 r2 fun a3 r3 => rv0 r3 ((f_M_isAhead N a1 a2 a3 s).bind fun p => kk (some (.int p.1)) p.2)
theorem cs_M_isAhead {ρ : Type} {t0 : ρ} {d : Nat} (N : Nat) (hd : 2 + 1 ≤ d) : CallOK Sm R0m oFm nm d t0 219 (C_M_isAhead N) := by
  intro vs s kk h0
  obtain ⟨r0, rfl, h1⟩ := sR_some h0
  obtain ⟨a1, r1, rfl, h2⟩ := pi1_some h1
  obtain ⟨a2, r2, rfl, h3⟩ := pi1_some h2
  obtain ⟨a3, r3, rfl, h4⟩ := pi1_some h3
  obtain ⟨rfl, h5⟩ := rv0_some h4
  obtain ⟨p, hp, hk⟩ := Option.bind_eq_some_iff.mp h5
  exact ⟨_, _, _, hd, m_M_isAhead N a1 a2 a3 hp, hk, fun qy hq hf => by cases y_M_isAhead.symm.trans hq; exact ⟨_, _, rfl, rfl⟩⟩
/-! METHOD PorterDoorsModel.putsAside()V -/
set_option maxRecDepth 20000 in
noncomputable def q_M_putsAside : mI := (⟨"PorterDoorsModel", "putsAside", "()V"⟩, prog_13_method_51_code, 2, none, 10, 1709, 139, 1, 0, 1708, 101)
theorem y_M_putsAside : mT[220]? = some q_M_putsAside := mT_at_5 (k := 20) rfl
noncomputable def bl_M_putsAside : List (Nat × List mO) := [(0, [o0 (.aload_n 0), o0 (.iconst 1), o2 (.putfield 431) 10 53, o0 (.iconst 0), o0 (.istore_n 1)]),
  (7, [o0 (.iload_n 1), o0 (.bipush 84), o1 (.if_icmp .ge 21) 31, o0 (.aload_n 0), o2 (.getfield 121) 10 54, o0 (.iload_n 1), o0 (.aload_n 0), o2 (.getfield 115) 10 48, o0 (.iload_n 1), o0 (.iaload), o0 (.iastore), o0 (.iinc 1 1), o1 (.goto (-21)) 7]),
  (31, [o0 (.return_)])]
theorem bk_M_putsAside : okBlks q_M_putsAside bl_M_putsAside = true := by decide +kernel
noncomputable def oL_M_putsAside {ρ : Type} (N : Nat) : List (Nat × (List Value → mS → (Option Value → mS → Option ρ) → Option ρ)) := []
theorem oo_M_putsAside {ρ : Type} {t0 : ρ} (N : Nat) : OrcOK Sm R0m oFm nm 1 t0 (mOrc (oL_M_putsAside N)) := mOrc_OK (mz_nil)
noncomputable def H_M_putsAside_7 {ρ : Type} (k : (Int32 × mS) → Option ρ) : mL → List Value → mS → Option ρ := fun loc st s => cR loc 0 0 (li1 loc 1 fun v0 => rv0 st (k (v0, s)))
noncomputable def f_M_putsAside_L7 (N : Nat) (k7 : (Int32 × mS) → Option (mS)) (x : Int32 × mS) : Option (mS) :=
  if x.1 < 84 then
    grd (inb x.1 205) (
    grd (inb x.1 84) (
    let s1 := sA x.2 36 (ix x.1) (gA x.2 34 (ix x.1))
    k7 ((x.1 + 1), s1)))
  else
    some x.2
set_option maxRecDepth 100000 in
set_option maxHeartbeats 4000000 in
theorem t_M_putsAside_7 (N : Nat) {s9 : mS} {k7 : (Int32 × mS) → Option (mS)} (hk7 : SCd Sm R0m oFm nm 1 q_M_putsAside (none, s9) s9 7 (H_M_putsAside_7 k7)) : SCd Sm R0m oFm nm 1 q_M_putsAside (none, s9) s9 7 (H_M_putsAside_7 (f_M_putsAside_L7 N k7)) := by
  intro loc st s
  refine G_cR (fun h0 => ?_)
  refine G_li (fun v0 h1 => ?_)
  refine G_rv0 (fun e9 => ?_)
  subst e9
  refine G_sub (loc0 := [(0, .ref 0), (1, .int v0)]) (List.forall_mem_cons.mpr ⟨h0, List.forall_mem_cons.mpr ⟨h1, mz_nil⟩⟩) ?_
  exact G_eq (mEv_G (orc := mOrc (oL_M_putsAside N)) (ret := rtV) (blks := bl_M_putsAside) (cuts := [(7, H_M_putsAside_7 k7)]) wOKm (by decide) (oo_M_putsAside N) (RetOK_V rfl) bk_M_putsAside (List.forall_mem_cons.mpr ⟨hk7, mz_nil⟩)) rfl
theorem s_M_putsAside_7 (N : Nat) {s9 : mS} : SCd Sm R0m oFm nm 1 q_M_putsAside (none, s9) s9 7 (H_M_putsAside_7 (mfix N (f_M_putsAside_L7 N))) := by
  refine mfix_SC (H := H_M_putsAside_7) (fun loc st s => ?_) (fun k hk => t_M_putsAside_7 N hk) N
  refine G_cR (fun h0 => ?_)
  refine G_li (fun v0 h1 => ?_)
  refine G_rv0 (fun e9 => ?_)
  subst e9
  exact G_none
noncomputable def f_M_putsAside (N : Nat) (s : mS) : Option (mS) :=
  let s1 := sI s 1053 0 1
  mfix N (f_M_putsAside_L7 N) (0, s1)
set_option maxRecDepth 100000 in
set_option maxHeartbeats 4000000 in
theorem m_M_putsAside (N : Nat) {s9 : mS} {s : mS} (h : f_M_putsAside N s = some s9) : MetM Sm R0m oFm nm 1 220 [.ref 0] s (none) s9 := by
  refine met_of_G (q := q_M_putsAside) (t0 := s9) y_M_putsAside (Nat.le_of_ble_eq_true rfl) ?_
  rw [← h]
  exact G_eq (mEv_G (orc := mOrc (oL_M_putsAside N)) (ret := rtV) (blks := bl_M_putsAside) (cuts := [(7, H_M_putsAside_7 (mfix N (f_M_putsAside_L7 N)))]) wOKm (by decide) (oo_M_putsAside N) (RetOK_V rfl) bk_M_putsAside (List.forall_mem_cons.mpr ⟨s_M_putsAside_7 N, mz_nil⟩)) rfl
noncomputable def C_M_putsAside {ρ : Type} (N : Nat) : List Value → mS → (Option Value → mS → Option ρ) → Option ρ := fun vs s kk => sR vs 0 fun r0 => rv0 r0 ((f_M_putsAside N s).bind fun p => kk none p)
theorem cs_M_putsAside {ρ : Type} {t0 : ρ} {d : Nat} (N : Nat) (hd : 1 + 1 ≤ d) : CallOK Sm R0m oFm nm d t0 220 (C_M_putsAside N) := by
  intro vs s kk h0
  obtain ⟨r0, rfl, h1⟩ := sR_some h0
  obtain ⟨rfl, h2⟩ := rv0_some h1
  obtain ⟨p, hp, hk⟩ := Option.bind_eq_some_iff.mp h2
  exact ⟨_, _, _, hd, m_M_putsAside N hp, hk, fun qy hq hf => by cases y_M_putsAside.symm.trans hq; exact ⟨_, _, rfl, rfl⟩⟩
/-! METHOD PorterDoorsModel.isTurned(I)Z -/
set_option maxRecDepth 20000 in
noncomputable def q_M_isTurned : mI := (⟨"PorterDoorsModel", "isTurned", "(I)Z"⟩, prog_13_method_45_code, 2, (some .boolean), 10, 1725, 139, 1, 1, 1724, 105)
theorem y_M_isTurned : mT[224]? = some q_M_isTurned := mT_at_5 (k := 24) rfl
noncomputable def bl_M_isTurned : List (Nat × List mO) := [(0, [o0 (.aload_n 0), o0 (.iload_n 1), o2 (.invokevirtual 425) 197 2, o1 (.ifCond .eq 5) 10, o0 (.iconst 0), o0 (.ireturn)]),
  (10, [o0 (.aload_n 0), o2 (.getfield 115) 10 48, o0 (.iconst 2), o0 (.iconst 3), o0 (.iload_n 1), o0 (.imul), o0 (.iadd), o0 (.iconst 1), o0 (.aload_n 0), o0 (.iload_n 1), o2 (.invokevirtual 386) 194 2, o0 (.isub), o0 (.iastore), o0 (.aload_n 0), o0 (.iload_n 1), o2 (.invokevirtual 383) 198 2, o0 (.bipush 99), o1 (.if_icmp .ge 17) 51, o0 (.aload_n 0), o2 (.getfield 115) 10 48, o0 (.iconst 3), o0 (.iconst 3), o0 (.iload_n 1), o0 (.imul), o0 (.iadd), o0 (.dup2), o0 (.iaload), o0 (.iconst 1), o0 (.iadd), o0 (.iastore)]),
  (51, [o0 (.iconst 1), o0 (.ireturn)])]
theorem bk_M_isTurned : okBlks q_M_isTurned bl_M_isTurned = true := by decide +kernel
noncomputable def oL_M_isTurned {ρ : Type} (N : Nat) : List (Nat × (List Value → mS → (Option Value → mS → Option ρ) → Option ρ)) := [(197, C_M_isJammed N), (194, C_M_openOf N), (198, C_M_turnedOf N)]
theorem oo_M_isTurned {ρ : Type} {t0 : ρ} (N : Nat) : OrcOK Sm R0m oFm nm 3 t0 (mOrc (oL_M_isTurned N)) := mOrc_OK (List.forall_mem_cons.mpr ⟨cs_M_isJammed N (by decide), List.forall_mem_cons.mpr ⟨cs_M_openOf N (by decide), List.forall_mem_cons.mpr ⟨cs_M_turnedOf N (by decide), mz_nil⟩⟩⟩)
noncomputable def f_M_isTurned (N : Nat) (a1 : Int32) (s : mS) : Option (Int32 × mS) :=
  (f_M_isJammed N a1 s).bind fun p1 =>
  if p1.1 = 0 then
    (f_M_openOf N a1 p1.2).bind fun p2 =>
    grd (inb (2 + (3 * a1)) 205) (
    let s3 := sA p2.2 34 (ix (2 + (3 * a1))) (1 - p2.1)
    (f_M_turnedOf N a1 s3).bind fun p4 =>
    if p4.1 < 99 then
      grd (inb (3 + (3 * a1)) 205) (
      grd (inb (3 + (3 * a1)) 205) (
      let s5 := sA p4.2 34 (ix (3 + (3 * a1))) ((gA p4.2 34 (ix (3 + (3 * a1)))) + 1)
      some (1, s5)))
    else
      some (1, p4.2))
  else
    some (0, p1.2)
set_option maxRecDepth 100000 in
set_option maxHeartbeats 4000000 in
theorem m_M_isTurned (N : Nat) {x9 : Int32} {s9 : mS} (a1 : Int32) {s : mS} (h : f_M_isTurned N a1 s = some (x9, s9)) : MetM Sm R0m oFm nm 3 224 [.ref 0, .int a1] s (some (.int x9)) s9 := by
  refine met_of_G (q := q_M_isTurned) (t0 := (x9, s9)) y_M_isTurned (Nat.le_of_ble_eq_true rfl) ?_
  rw [← h]
  exact G_eq (mEv_G (orc := mOrc (oL_M_isTurned N)) (ret := rtZ) (blks := bl_M_isTurned) (cuts := []) wOKm (by decide) (oo_M_isTurned N) (RetOK_Z rfl) bk_M_isTurned (mz_nil)) rfl
noncomputable def C_M_isTurned {ρ : Type} (N : Nat) : List Value → mS → (Option Value → mS → Option ρ) → Option ρ := fun vs s kk => sR vs 0 fun r0 => pi1 r0 fun a1 r1 => rv0 r1 ((f_M_isTurned N a1 s).bind fun p => kk (some (.int p.1)) p.2)
theorem cs_M_isTurned {ρ : Type} {t0 : ρ} {d : Nat} (N : Nat) (hd : 3 + 1 ≤ d) : CallOK Sm R0m oFm nm d t0 224 (C_M_isTurned N) := by
  intro vs s kk h0
  obtain ⟨r0, rfl, h1⟩ := sR_some h0
  obtain ⟨a1, r1, rfl, h2⟩ := pi1_some h1
  obtain ⟨rfl, h3⟩ := rv0_some h2
  obtain ⟨p, hp, hk⟩ := Option.bind_eq_some_iff.mp h3
  exact ⟨_, _, _, hd, m_M_isTurned N a1 hp, hk, fun qy hq hf => by cases y_M_isTurned.symm.trans hq; exact ⟨_, _, rfl, rfl⟩⟩
/-! METHOD PorterDoorsModel.walks(I)I -/
set_option maxRecDepth 20000 in
noncomputable def q_M_walks : mI := (⟨"PorterDoorsModel", "walks", "(I)I"⟩, prog_13_method_46_code, 5, (some .int), 10, 1721, 139, 1, 1, 1720, 104)
theorem y_M_walks : mT[223]? = some q_M_walks := mT_at_5 (k := 23) rfl
noncomputable def bl_M_walks : List (Nat × List mO) := [(0, [o0 (.aload_n 0), o0 (.iload_n 1), o2 (.invokevirtual 416) 206 2, o0 (.istore_n 2), o0 (.iconst 0), o0 (.istore_n 3), o0 (.iconst 0), o0 (.istore 4)]),
  (11, [o0 (.iload 4), o0 (.aload_n 0), o2 (.invokevirtual 377) 190 1, o1 (.if_icmp .ge 31) 48, o0 (.iload_n 2), o0 (.iload 4), o0 (.ishr), o0 (.iconst 1), o0 (.iand), o0 (.iconst 1), o1 (.if_icmp .ne 15) 42, o0 (.aload_n 0), o0 (.iload 4), o2 (.invokevirtual 428) 224 2, o1 (.ifCond .eq 6) 42, o0 (.iinc 3 1)]),
  (42, [o0 (.iinc 4 1), o1 (.goto (-34)) 11]),
  (48, [o0 (.iload_n 3), o0 (.ireturn)])]
theorem bk_M_walks : okBlks q_M_walks bl_M_walks = true := by decide +kernel
noncomputable def oL_M_walks {ρ : Type} (N : Nat) : List (Nat × (List Value → mS → (Option Value → mS → Option ρ) → Option ρ)) := [(206, C_M_orderOf N), (190, C_M_doorMany N), (224, C_M_isTurned N)]
theorem oo_M_walks {ρ : Type} {t0 : ρ} (N : Nat) : OrcOK Sm R0m oFm nm 7 t0 (mOrc (oL_M_walks N)) := mOrc_OK (List.forall_mem_cons.mpr ⟨cs_M_orderOf N (by decide), List.forall_mem_cons.mpr ⟨cs_M_doorMany N (by decide), List.forall_mem_cons.mpr ⟨cs_M_isTurned N (by decide), mz_nil⟩⟩⟩)
noncomputable def H_M_walks_11 {ρ : Type} (k : (Int32 × Int32 × Int32 × mS) → Option ρ) : mL → List Value → mS → Option ρ := fun loc st s => cR loc 0 0 (li1 loc 2 fun v0 => li1 loc 3 fun v1 => li1 loc 4 fun v2 => rv0 st (k (v0, v1, v2, s)))
noncomputable def f_M_walks_L11 (N : Nat) (k11 : (Int32 × Int32 × Int32 × mS) → Option (Int32 × mS)) (x : Int32 × Int32 × Int32 × mS) : Option (Int32 × mS) :=
  (f_M_doorMany N x.2.2.2).bind fun p1 =>
  if x.2.2.1 < p1.1 then
    if ((irs x.1 x.2.2.1) &&& 1) = 1 then
      (f_M_isTurned N x.2.2.1 p1.2).bind fun p2 =>
      if p2.1 = 0 then
        k11 (x.1, x.2.1, (x.2.2.1 + 1), p2.2)
      else
        k11 (x.1, (x.2.1 + 1), (x.2.2.1 + 1), p2.2)
    else
      k11 (x.1, x.2.1, (x.2.2.1 + 1), p1.2)
  else
    some (x.2.1, p1.2)
set_option maxRecDepth 100000 in
set_option maxHeartbeats 4000000 in
theorem t_M_walks_11 (N : Nat) {x9 : Int32} {s9 : mS} {k11 : (Int32 × Int32 × Int32 × mS) → Option (Int32 × mS)} (hk11 : SCd Sm R0m oFm nm 7 q_M_walks (some (.int x9), s9) (x9, s9) 11 (H_M_walks_11 k11)) : SCd Sm R0m oFm nm 7 q_M_walks (some (.int x9), s9) (x9, s9) 11 (H_M_walks_11 (f_M_walks_L11 N k11)) := by
  intro loc st s
  refine G_cR (fun h0 => ?_)
  refine G_li (fun v0 h2 => ?_)
  refine G_li (fun v1 h3 => ?_)
  refine G_li (fun v2 h4 => ?_)
  refine G_rv0 (fun e9 => ?_)
  subst e9
  refine G_sub (loc0 := [(0, .ref 0), (2, .int v0), (3, .int v1), (4, .int v2)]) (List.forall_mem_cons.mpr ⟨h0, List.forall_mem_cons.mpr ⟨h2, List.forall_mem_cons.mpr ⟨h3, List.forall_mem_cons.mpr ⟨h4, mz_nil⟩⟩⟩⟩) ?_
  exact G_eq (mEv_G (orc := mOrc (oL_M_walks N)) (ret := rtI) (blks := bl_M_walks) (cuts := [(11, H_M_walks_11 k11)]) wOKm (by decide) (oo_M_walks N) (RetOK_I rfl) bk_M_walks (List.forall_mem_cons.mpr ⟨hk11, mz_nil⟩)) rfl
theorem s_M_walks_11 (N : Nat) {x9 : Int32} {s9 : mS} : SCd Sm R0m oFm nm 7 q_M_walks (some (.int x9), s9) (x9, s9) 11 (H_M_walks_11 (mfix N (f_M_walks_L11 N))) := by
  refine mfix_SC (H := H_M_walks_11) (fun loc st s => ?_) (fun k hk => t_M_walks_11 N hk) N
  refine G_cR (fun h0 => ?_)
  refine G_li (fun v0 h2 => ?_)
  refine G_li (fun v1 h3 => ?_)
  refine G_li (fun v2 h4 => ?_)
  refine G_rv0 (fun e9 => ?_)
  subst e9
  exact G_none
noncomputable def f_M_walks (N : Nat) (a1 : Int32) (s : mS) : Option (Int32 × mS) :=
  (f_M_orderOf N a1 s).bind fun p1 =>
  mfix N (f_M_walks_L11 N) (p1.1, 0, 0, p1.2)
set_option maxRecDepth 100000 in
set_option maxHeartbeats 4000000 in
theorem m_M_walks (N : Nat) {x9 : Int32} {s9 : mS} (a1 : Int32) {s : mS} (h : f_M_walks N a1 s = some (x9, s9)) : MetM Sm R0m oFm nm 7 223 [.ref 0, .int a1] s (some (.int x9)) s9 := by
  refine met_of_G (q := q_M_walks) (t0 := (x9, s9)) y_M_walks (Nat.le_of_ble_eq_true rfl) ?_
  rw [← h]
  exact G_eq (mEv_G (orc := mOrc (oL_M_walks N)) (ret := rtI) (blks := bl_M_walks) (cuts := [(11, H_M_walks_11 (mfix N (f_M_walks_L11 N)))]) wOKm (by decide) (oo_M_walks N) (RetOK_I rfl) bk_M_walks (List.forall_mem_cons.mpr ⟨s_M_walks_11 N, mz_nil⟩)) rfl
noncomputable def C_M_walks {ρ : Type} (N : Nat) : List Value → mS → (Option Value → mS → Option ρ) → Option ρ := fun vs s kk => sR vs 0 fun r0 => pi1 r0 fun a1 r1 => rv0 r1 ((f_M_walks N a1 s).bind fun p => kk (some (.int p.1)) p.2)
theorem cs_M_walks {ρ : Type} {t0 : ρ} {d : Nat} (N : Nat) (hd : 7 + 1 ≤ d) : CallOK Sm R0m oFm nm d t0 223 (C_M_walks N) := by
  intro vs s kk h0
  obtain ⟨r0, rfl, h1⟩ := sR_some h0
  obtain ⟨a1, r1, rfl, h2⟩ := pi1_some h1
  obtain ⟨rfl, h3⟩ := rv0_some h2
  obtain ⟨p, hp, hk⟩ := Option.bind_eq_some_iff.mp h3
  exact ⟨_, _, _, hd, m_M_walks N a1 hp, hk, fun qy hq hf => by cases y_M_walks.symm.trans hq; exact ⟨_, _, rfl, rfl⟩⟩
/-! METHOD PorterDoorsModel.isKept(II)V -/
set_option maxRecDepth 20000 in
noncomputable def q_M_isKept : mI := (⟨"PorterDoorsModel", "isKept", "(II)V"⟩, prog_13_method_47_code, 4, none, 10, 1729, 139, 1, 2, 1728, 106)
theorem y_M_isKept : mT[225]? = some q_M_isKept := mT_at_5 (k := 25) rfl
noncomputable def bl_M_isKept : List (Nat × List mO) := [(0, [o0 (.aload_n 0), o2 (.getfield 431) 10 53, o1 (.ifCond .eq 4) 8, o0 (.return_)]),
  (8, [o0 (.aload_n 0), o2 (.getfield 115) 10 48, o0 (.bipush 84), o0 (.iaload), o0 (.bipush 40), o1 (.if_icmp .ne 36) 53, o0 (.bipush 85), o0 (.istore_n 3)]),
  (23, [o0 (.iload_n 3), o0 (.sipush 202), o1 (.if_icmp .ge 23) 50, o0 (.aload_n 0), o2 (.getfield 115) 10 48, o0 (.iload_n 3), o0 (.aload_n 0), o2 (.getfield 115) 10 48, o0 (.iload_n 3), o0 (.iconst 3), o0 (.iadd), o0 (.iaload), o0 (.iastore), o0 (.iinc 3 1), o1 (.goto (-24)) 23]),
  (50, [o1 (.goto 14) 64]),
  (53, [o0 (.aload_n 0), o2 (.getfield 115) 10 48, o0 (.bipush 84), o0 (.dup2), o0 (.iaload), o0 (.iconst 1), o0 (.iadd), o0 (.iastore)]),
  (64, [o0 (.bipush 85), o0 (.iconst 3), o0 (.aload_n 0), o2 (.getfield 115) 10 48, o0 (.bipush 84), o0 (.iaload), o0 (.imul), o0 (.iadd), o0 (.iconst 3), o0 (.isub), o0 (.istore_n 3), o0 (.aload_n 0), o2 (.getfield 115) 10 48, o0 (.iload_n 3), o0 (.aload_n 0), o2 (.getfield 115) 10 48, o0 (.iconst 0), o0 (.iaload), o0 (.iastore), o0 (.aload_n 0), o2 (.getfield 115) 10 48, o0 (.iload_n 3), o0 (.iconst 1), o0 (.iadd), o0 (.iload_n 1), o0 (.iastore), o0 (.aload_n 0), o2 (.getfield 115) 10 48, o0 (.iload_n 3), o0 (.iconst 2), o0 (.iadd), o0 (.iload_n 2), o0 (.iastore), o0 (.return_)])]
theorem bk_M_isKept : okBlks q_M_isKept bl_M_isKept = true := by decide +kernel
noncomputable def oL_M_isKept {ρ : Type} (N : Nat) : List (Nat × (List Value → mS → (Option Value → mS → Option ρ) → Option ρ)) := []
theorem oo_M_isKept {ρ : Type} {t0 : ρ} (N : Nat) : OrcOK Sm R0m oFm nm 1 t0 (mOrc (oL_M_isKept N)) := mOrc_OK (mz_nil)
noncomputable def H_M_isKept_23 {ρ : Type} (k : (Int32 × Int32 × Int32 × mS) → Option ρ) : mL → List Value → mS → Option ρ := fun loc st s => cR loc 0 0 (li1 loc 1 fun v0 => li1 loc 2 fun v1 => li1 loc 3 fun v2 => rv0 st (k (v0, v1, v2, s)))
noncomputable def H_M_isKept_64 {ρ : Type} (k : (Int32 × Int32 × mS) → Option ρ) : mL → List Value → mS → Option ρ := fun loc st s => cR loc 0 0 (li1 loc 1 fun v0 => li1 loc 2 fun v1 => rv0 st (k (v0, v1, s)))
noncomputable def f_M_isKept_j64 (N : Nat) (x : Int32 × Int32 × mS) : Option (mS) :=
  grd (inb ((85 + (3 * (gA x.2.2 34 84))) - 3) 205) (
  let s1 := sA x.2.2 34 (ix ((85 + (3 * (gA x.2.2 34 84))) - 3)) (gA x.2.2 34 0)
  grd (inb (((85 + (3 * (gA x.2.2 34 84))) - 3) + 1) 205) (
  let s2 := sA s1 34 (ix (((85 + (3 * (gA x.2.2 34 84))) - 3) + 1)) x.1
  grd (inb (((85 + (3 * (gA x.2.2 34 84))) - 3) + 2) 205) (
  let s3 := sA s2 34 (ix (((85 + (3 * (gA x.2.2 34 84))) - 3) + 2)) x.2.1
  some s3)))
set_option maxRecDepth 100000 in
set_option maxHeartbeats 4000000 in
theorem s_M_isKept_64 (N : Nat) {s9 : mS} : SCd Sm R0m oFm nm 1 q_M_isKept (none, s9) s9 64 (H_M_isKept_64 (f_M_isKept_j64 N)) := by
  intro loc st s
  refine G_cR (fun h0 => ?_)
  refine G_li (fun v0 h1 => ?_)
  refine G_li (fun v1 h2 => ?_)
  refine G_rv0 (fun e9 => ?_)
  subst e9
  refine G_sub (loc0 := [(0, .ref 0), (1, .int v0), (2, .int v1)]) (List.forall_mem_cons.mpr ⟨h0, List.forall_mem_cons.mpr ⟨h1, List.forall_mem_cons.mpr ⟨h2, mz_nil⟩⟩⟩) ?_
  exact G_eq (mEv_G (orc := mOrc (oL_M_isKept N)) (ret := rtV) (blks := bl_M_isKept) (cuts := []) wOKm (by decide) (oo_M_isKept N) (RetOK_V rfl) bk_M_isKept (mz_nil)) rfl
noncomputable def f_M_isKept_L23 (N : Nat) (k23 : (Int32 × Int32 × Int32 × mS) → Option (mS)) (x : Int32 × Int32 × Int32 × mS) : Option (mS) :=
  if x.2.2.1 < 202 then
    grd (inb (x.2.2.1 + 3) 205) (
    grd (inb x.2.2.1 205) (
    let s1 := sA x.2.2.2 34 (ix x.2.2.1) (gA x.2.2.2 34 (ix (x.2.2.1 + 3)))
    k23 (x.1, x.2.1, (x.2.2.1 + 1), s1)))
  else
    f_M_isKept_j64 N (x.1, x.2.1, x.2.2.2)
set_option maxRecDepth 100000 in
set_option maxHeartbeats 4000000 in
theorem t_M_isKept_23 (N : Nat) {s9 : mS} {k23 : (Int32 × Int32 × Int32 × mS) → Option (mS)} (hk23 : SCd Sm R0m oFm nm 1 q_M_isKept (none, s9) s9 23 (H_M_isKept_23 k23)) : SCd Sm R0m oFm nm 1 q_M_isKept (none, s9) s9 23 (H_M_isKept_23 (f_M_isKept_L23 N k23)) := by
  intro loc st s
  refine G_cR (fun h0 => ?_)
  refine G_li (fun v0 h1 => ?_)
  refine G_li (fun v1 h2 => ?_)
  refine G_li (fun v2 h3 => ?_)
  refine G_rv0 (fun e9 => ?_)
  subst e9
  refine G_sub (loc0 := [(0, .ref 0), (1, .int v0), (2, .int v1), (3, .int v2)]) (List.forall_mem_cons.mpr ⟨h0, List.forall_mem_cons.mpr ⟨h1, List.forall_mem_cons.mpr ⟨h2, List.forall_mem_cons.mpr ⟨h3, mz_nil⟩⟩⟩⟩) ?_
  exact G_eq (mEv_G (orc := mOrc (oL_M_isKept N)) (ret := rtV) (blks := bl_M_isKept) (cuts := [(23, H_M_isKept_23 k23), (64, H_M_isKept_64 (f_M_isKept_j64 N))]) wOKm (by decide) (oo_M_isKept N) (RetOK_V rfl) bk_M_isKept (List.forall_mem_cons.mpr ⟨hk23, List.forall_mem_cons.mpr ⟨s_M_isKept_64 N, mz_nil⟩⟩)) rfl
theorem s_M_isKept_23 (N : Nat) {s9 : mS} : SCd Sm R0m oFm nm 1 q_M_isKept (none, s9) s9 23 (H_M_isKept_23 (mfix N (f_M_isKept_L23 N))) := by
  refine mfix_SC (H := H_M_isKept_23) (fun loc st s => ?_) (fun k hk => t_M_isKept_23 N hk) N
  refine G_cR (fun h0 => ?_)
  refine G_li (fun v0 h1 => ?_)
  refine G_li (fun v1 h2 => ?_)
  refine G_li (fun v2 h3 => ?_)
  refine G_rv0 (fun e9 => ?_)
  subst e9
  exact G_none
noncomputable def f_M_isKept (N : Nat) (a1 : Int32) (a2 : Int32) (s : mS) : Option (mS) :=
  if (gI s 1053 0) = 0 then
    if (gA s 34 84) = 40 then
      mfix N (f_M_isKept_L23 N) (a1, a2, 85, s)
    else
      let s1 := sA s 34 84 ((gA s 34 84) + 1)
      f_M_isKept_j64 N (a1, a2, s1)
  else
    some s
set_option maxRecDepth 100000 in
set_option maxHeartbeats 4000000 in
theorem m_M_isKept (N : Nat) {s9 : mS} (a1 : Int32) (a2 : Int32) {s : mS} (h : f_M_isKept N a1 a2 s = some s9) : MetM Sm R0m oFm nm 1 225 [.ref 0, .int a1, .int a2] s (none) s9 := by
  refine met_of_G (q := q_M_isKept) (t0 := s9) y_M_isKept (Nat.le_of_ble_eq_true rfl) ?_
  rw [← h]
  exact G_eq (mEv_G (orc := mOrc (oL_M_isKept N)) (ret := rtV) (blks := bl_M_isKept) (cuts := [(23, H_M_isKept_23 (mfix N (f_M_isKept_L23 N))), (64, H_M_isKept_64 (f_M_isKept_j64 N))]) wOKm (by decide) (oo_M_isKept N) (RetOK_V rfl) bk_M_isKept (List.forall_mem_cons.mpr ⟨s_M_isKept_23 N, List.forall_mem_cons.mpr ⟨s_M_isKept_64 N, mz_nil⟩⟩)) rfl
noncomputable def C_M_isKept {ρ : Type} (N : Nat) : List Value → mS → (Option Value → mS → Option ρ) → Option ρ := fun vs s kk => sR vs 0 fun r0 => pi1 r0 fun a1 r1 => pi1 r1 fun a2 r2 => rv0 r2 ((f_M_isKept N a1 a2 s).bind fun p => kk none p)
theorem cs_M_isKept {ρ : Type} {t0 : ρ} {d : Nat} (N : Nat) (hd : 1 + 1 ≤ d) : CallOK Sm R0m oFm nm d t0 225 (C_M_isKept N) := by
  intro vs s kk h0
  obtain ⟨r0, rfl, h1⟩ := sR_some h0
  obtain ⟨a1, r1, rfl, h2⟩ := pi1_some h1
  obtain ⟨a2, r2, rfl, h3⟩ := pi1_some h2
  obtain ⟨rfl, h4⟩ := rv0_some h3
  obtain ⟨p, hp, hk⟩ := Option.bind_eq_some_iff.mp h4
  exact ⟨_, _, _, hd, m_M_isKept N a1 a2 hp, hk, fun qy hq hf => by cases y_M_isKept.symm.trans hq; exact ⟨_, _, rfl, rfl⟩⟩
/-! METHOD PorterDoorsModel.clamp(J)I -/
set_option maxRecDepth 20000 in
noncomputable def q_M_clamp : mI := (⟨"PorterDoorsModel", "clamp", "(J)I"⟩, prog_13_method_3_code, 2, (some .int), 10, 1736, 139, 0, 1, 1735, 0)
theorem y_M_clamp : mT[227]? = some q_M_clamp := mT_at_5 (k := 27) rfl
noncomputable def bl_M_clamp : List (Nat × List mO) := [(0, [o0 (.lload_n 0), o0 (.lconst 0), o0 (.lcmp), o1 (.ifCond .ge 7) 10, o0 (.iconst 0), o1 (.goto 18) 25]),
  (10, [o0 (.lload_n 0), oC (.ldc2_w 222) (.long 99), o0 (.lcmp), o1 (.ifCond .le 8) 23, o0 (.bipush 99), o1 (.goto 5) 25]),
  (23, [o0 (.lload_n 0), o0 (.l2i)]),
  (25, [o0 (.ireturn)])]
theorem bk_M_clamp : okBlks q_M_clamp bl_M_clamp = true := by decide +kernel
noncomputable def oL_M_clamp {ρ : Type} (N : Nat) : List (Nat × (List Value → mS → (Option Value → mS → Option ρ) → Option ρ)) := []
theorem oo_M_clamp {ρ : Type} {t0 : ρ} (N : Nat) : OrcOK Sm R0m oFm nm 1 t0 (mOrc (oL_M_clamp N)) := mOrc_OK (mz_nil)
noncomputable def f_M_clamp (N : Nat) (a0 : Int64) (s : mS) : Option (Int32 × mS) :=
  if (lg_cmp a0 0) < 0 then
    some (0, s)
  else
    if 0 < (lg_cmp a0 99) then
      some (99, s)
    else
      some ((a0).toInt32, s)
set_option maxRecDepth 100000 in
set_option maxHeartbeats 4000000 in
theorem m_M_clamp (N : Nat) {x9 : Int32} {s9 : mS} (a0 : Int64) {s : mS} (h : f_M_clamp N a0 s = some (x9, s9)) : MetM Sm R0m oFm nm 1 227 [.long a0] s (some (.int x9)) s9 := by
  refine met_of_G (q := q_M_clamp) (t0 := (x9, s9)) y_M_clamp (Nat.le_of_ble_eq_true rfl) ?_
  rw [← h]
  exact G_eq (mEv_G (orc := mOrc (oL_M_clamp N)) (ret := rtI) (blks := bl_M_clamp) (cuts := []) wOKm (by decide) (oo_M_clamp N) (RetOK_I rfl) bk_M_clamp (mz_nil)) rfl
noncomputable def C_M_clamp {ρ : Type} (N : Nat) : List Value → mS → (Option Value → mS → Option ρ) → Option ρ := fun vs s kk => pl1 vs fun a0 r0 => rv0 r0 ((f_M_clamp N a0 s).bind fun p => kk (some (.int p.1)) p.2)
theorem cs_M_clamp {ρ : Type} {t0 : ρ} {d : Nat} (N : Nat) (hd : 1 + 1 ≤ d) : CallOK Sm R0m oFm nm d t0 227 (C_M_clamp N) := by
  intro vs s kk h0
  obtain ⟨a0, r0, rfl, h1⟩ := pl1_some h0
  obtain ⟨rfl, h2⟩ := rv0_some h1
  obtain ⟨p, hp, hk⟩ := Option.bind_eq_some_iff.mp h2
  exact ⟨_, _, _, hd, m_M_clamp N a0 hp, hk, fun qy hq hf => by cases y_M_clamp.symm.trans hq; exact absurd hf (by decide)⟩
/-! METHOD PorterDoorsModel.coldBy(I)I -/
set_option maxRecDepth 20000 in
noncomputable def q_M_coldBy : mI := (⟨"PorterDoorsModel", "coldBy", "(I)I"⟩, prog_13_method_48_code, 2, (some .int), 10, 1733, 139, 1, 1, 1732, 107)
theorem y_M_coldBy : mT[226]? = some q_M_coldBy := mT_at_5 (k := 26) rfl
noncomputable def bl_M_coldBy : List (Nat × List mO) := [(0, [o0 (.aload_n 0), o0 (.iload_n 1), o2 (.putfield 409) 10 49, o0 (.aload_n 0), o0 (.bipush 11), o2 (.invokevirtual 419) 215 2, o1 (.ifCond .eq 15) 26, o0 (.aload_n 0), o0 (.bipush 11), o2 (.invokevirtual 412) 207 2, o2 (.invokestatic 434) 227 1, o1 (.goto 8) 31]),
  (26, [o0 (.aload_n 0), o0 (.iload_n 1), o2 (.invokevirtual 386) 194 2]),
  (31, [o0 (.ireturn)])]
theorem bk_M_coldBy : okBlks q_M_coldBy bl_M_coldBy = true := by decide +kernel
noncomputable def oL_M_coldBy {ρ : Type} (N : Nat) : List (Nat × (List Value → mS → (Option Value → mS → Option ρ) → Option ρ)) := [(215, C_M_isCoded N), (207, C_M_codesTell N), (227, C_M_clamp N), (194, C_M_openOf N)]
theorem oo_M_coldBy {ρ : Type} {t0 : ρ} (N : Nat) : OrcOK Sm R0m oFm nm 6 t0 (mOrc (oL_M_coldBy N)) := mOrc_OK (List.forall_mem_cons.mpr ⟨cs_M_isCoded N (by decide), List.forall_mem_cons.mpr ⟨cs_M_codesTell N (by decide), List.forall_mem_cons.mpr ⟨cs_M_clamp N (by decide), List.forall_mem_cons.mpr ⟨cs_M_openOf N (by decide), mz_nil⟩⟩⟩⟩)
noncomputable def f_M_coldBy (N : Nat) (a1 : Int32) (s : mS) : Option (Int32 × mS) :=
  let s1 := sI s 1049 0 a1
  (f_M_isCoded N 11 s1).bind fun p2 =>
  if p2.1 = 0 then
    (f_M_openOf N a1 p2.2).bind fun p3 =>
    some (p3.1, p3.2)
  else
    (f_M_codesTell N 11 p2.2).bind fun p4 =>
    (f_M_clamp N p4.1 p4.2).bind fun p5 =>
    some (p5.1, p5.2)
set_option maxRecDepth 100000 in
set_option maxHeartbeats 4000000 in
theorem m_M_coldBy (N : Nat) {x9 : Int32} {s9 : mS} (a1 : Int32) {s : mS} (h : f_M_coldBy N a1 s = some (x9, s9)) : MetM Sm R0m oFm nm 6 226 [.ref 0, .int a1] s (some (.int x9)) s9 := by
  refine met_of_G (q := q_M_coldBy) (t0 := (x9, s9)) y_M_coldBy (Nat.le_of_ble_eq_true rfl) ?_
  rw [← h]
  exact G_eq (mEv_G (orc := mOrc (oL_M_coldBy N)) (ret := rtI) (blks := bl_M_coldBy) (cuts := []) wOKm (by decide) (oo_M_coldBy N) (RetOK_I rfl) bk_M_coldBy (mz_nil)) rfl
noncomputable def C_M_coldBy {ρ : Type} (N : Nat) : List Value → mS → (Option Value → mS → Option ρ) → Option ρ := fun vs s kk => sR vs 0 fun r0 => pi1 r0 fun a1 r1 => rv0 r1 ((f_M_coldBy N a1 s).bind fun p => kk (some (.int p.1)) p.2)
theorem cs_M_coldBy {ρ : Type} {t0 : ρ} {d : Nat} (N : Nat) (hd : 6 + 1 ≤ d) : CallOK Sm R0m oFm nm d t0 226 (C_M_coldBy N) := by
  intro vs s kk h0
  obtain ⟨r0, rfl, h1⟩ := sR_some h0
  obtain ⟨a1, r1, rfl, h2⟩ := pi1_some h1
  obtain ⟨rfl, h3⟩ := rv0_some h2
  obtain ⟨p, hp, hk⟩ := Option.bind_eq_some_iff.mp h3
  exact ⟨_, _, _, hd, m_M_coldBy N a1 hp, hk, fun qy hq hf => by cases y_M_coldBy.symm.trans hq; exact ⟨_, _, rfl, rfl⟩⟩
/-! METHOD PorterDoorsModel.nightGoes(I)V -/
set_option maxRecDepth 20000 in
noncomputable def q_M_nightGoes : mI := (⟨"PorterDoorsModel", "nightGoes", "(I)V"⟩, prog_13_method_49_code, 3, none, 10, 1717, 139, 1, 1, 1716, 103)
theorem y_M_nightGoes : mT[222]? = some q_M_nightGoes := mT_at_5 (k := 22) rfl
noncomputable def bl_M_nightGoes : List (Nat × List mO) := [(0, [o0 (.iconst 0), o0 (.istore_n 2)]),
  (2, [o0 (.iload_n 2), o0 (.aload_n 0), o2 (.invokevirtual 380) 191 1, o1 (.if_icmp .ge 82) 89, o0 (.iload_n 2), o0 (.iload_n 1), o1 (.if_icmp .eq 11) 23, o0 (.aload_n 0), o0 (.iload_n 2), o2 (.invokevirtual 438) 214 2, o1 (.ifCond .ne 16) 36]),
  (23, [o0 (.aload_n 0), o2 (.getfield 115) 10 48, o0 (.bipush 74), o0 (.iload_n 2), o0 (.iadd), o0 (.iconst 0), o0 (.iastore), o1 (.goto 50) 83]),
  (36, [o0 (.aload_n 0), o0 (.iload_n 2), o0 (.aload_n 0), o0 (.iload_n 2), o2 (.invokevirtual 441) 223 2, o2 (.invokevirtual 444) 225 3, o0 (.aload_n 0), o2 (.getfield 115) 10 48, o0 (.bipush 74), o0 (.iload_n 2), o0 (.iadd), o0 (.iaload), o0 (.bipush 99), o1 (.if_icmp .ge 16) 73, o0 (.aload_n 0), o2 (.getfield 115) 10 48, o0 (.bipush 74), o0 (.iload_n 2), o0 (.iadd), o0 (.dup2), o0 (.iaload), o0 (.iconst 1), o0 (.iadd), o0 (.iastore)]),
  (73, [o0 (.aload_n 0), o0 (.dup), o2 (.getfield 447) 10 52, o0 (.iconst 1), o0 (.iadd), o2 (.putfield 447) 10 52]),
  (83, [o0 (.iinc 2 1), o1 (.goto (-84)) 2]),
  (89, [o0 (.iconst 0), o0 (.istore_n 2)]),
  (91, [o0 (.iload_n 2), o0 (.aload_n 0), o2 (.invokevirtual 377) 190 1, o1 (.if_icmp .ge 44) 140, o0 (.aload_n 0), o2 (.getfield 115) 10 48, o0 (.iconst 1), o0 (.dup2), o0 (.iaload), o0 (.aload_n 0), o0 (.iload_n 2), o2 (.invokevirtual 450) 226 2, o0 (.iadd), o0 (.iastore), o0 (.aload_n 0), o2 (.getfield 115) 10 48, o0 (.iconst 1), o0 (.iaload), oC (.ldc_w 453) (.int 999999), o1 (.if_icmp .le 12) 134, o0 (.aload_n 0), o2 (.getfield 115) 10 48, o0 (.iconst 1), oC (.ldc_w 453) (.int 999999), o0 (.iastore)]),
  (134, [o0 (.iinc 2 1), o1 (.goto (-46)) 91]),
  (140, [o0 (.aload_n 0), o2 (.getfield 115) 10 48, o0 (.iconst 0), o0 (.dup2), o0 (.iaload), o0 (.iconst 1), o0 (.iadd), o0 (.iastore), o0 (.return_)])]
theorem bk_M_nightGoes : okBlks q_M_nightGoes bl_M_nightGoes = true := by decide +kernel
noncomputable def oL_M_nightGoes {ρ : Type} (N : Nat) : List (Nat × (List Value → mS → (Option Value → mS → Option ρ) → Option ρ)) := [(191, C_M_porterMany N), (214, C_M_doesWalk N), (223, C_M_walks N), (225, C_M_isKept N), (190, C_M_doorMany N), (226, C_M_coldBy N)]
theorem oo_M_nightGoes {ρ : Type} {t0 : ρ} (N : Nat) : OrcOK Sm R0m oFm nm 8 t0 (mOrc (oL_M_nightGoes N)) := mOrc_OK (List.forall_mem_cons.mpr ⟨cs_M_porterMany N (by decide), List.forall_mem_cons.mpr ⟨cs_M_doesWalk N (by decide), List.forall_mem_cons.mpr ⟨cs_M_walks N (by decide), List.forall_mem_cons.mpr ⟨cs_M_isKept N (by decide), List.forall_mem_cons.mpr ⟨cs_M_doorMany N (by decide), List.forall_mem_cons.mpr ⟨cs_M_coldBy N (by decide), mz_nil⟩⟩⟩⟩⟩⟩)
noncomputable def H_M_nightGoes_2 {ρ : Type} (k : (Int32 × Int32 × mS) → Option ρ) : mL → List Value → mS → Option ρ := fun loc st s => cR loc 0 0 (li1 loc 1 fun v0 => li1 loc 2 fun v1 => rv0 st (k (v0, v1, s)))
noncomputable def H_M_nightGoes_23 {ρ : Type} (k : (Int32 × Int32 × mS) → Option ρ) : mL → List Value → mS → Option ρ := fun loc st s => cR loc 0 0 (li1 loc 1 fun v0 => li1 loc 2 fun v1 => rv0 st (k (v0, v1, s)))
noncomputable def H_M_nightGoes_73 {ρ : Type} (k : (Int32 × Int32 × mS) → Option ρ) : mL → List Value → mS → Option ρ := fun loc st s => cR loc 0 0 (li1 loc 1 fun v0 => li1 loc 2 fun v1 => rv0 st (k (v0, v1, s)))
noncomputable def H_M_nightGoes_91 {ρ : Type} (k : (Int32 × mS) → Option ρ) : mL → List Value → mS → Option ρ := fun loc st s => cR loc 0 0 (li1 loc 2 fun v0 => rv0 st (k (v0, s)))
noncomputable def f_M_nightGoes_j23 (N : Nat) (k2 : (Int32 × Int32 × mS) → Option (mS)) (x : Int32 × Int32 × mS) : Option (mS) :=
  grd (inb (74 + x.2.1) 205) (
  let s1 := sA x.2.2 34 (ix (74 + x.2.1)) 0
  k2 (x.1, (x.2.1 + 1), s1))
set_option maxRecDepth 100000 in
set_option maxHeartbeats 4000000 in
theorem s_M_nightGoes_23 (N : Nat) {s9 : mS} {k2 : (Int32 × Int32 × mS) → Option (mS)} (hk2 : SCd Sm R0m oFm nm 8 q_M_nightGoes (none, s9) s9 2 (H_M_nightGoes_2 k2)) : SCd Sm R0m oFm nm 8 q_M_nightGoes (none, s9) s9 23 (H_M_nightGoes_23 (f_M_nightGoes_j23 N k2)) := by
  intro loc st s
  refine G_cR (fun h0 => ?_)
  refine G_li (fun v0 h1 => ?_)
  refine G_li (fun v1 h2 => ?_)
  refine G_rv0 (fun e9 => ?_)
  subst e9
  refine G_sub (loc0 := [(0, .ref 0), (1, .int v0), (2, .int v1)]) (List.forall_mem_cons.mpr ⟨h0, List.forall_mem_cons.mpr ⟨h1, List.forall_mem_cons.mpr ⟨h2, mz_nil⟩⟩⟩) ?_
  exact G_eq (mEv_G (orc := mOrc (oL_M_nightGoes N)) (ret := rtV) (blks := bl_M_nightGoes) (cuts := [(2, H_M_nightGoes_2 k2)]) wOKm (by decide) (oo_M_nightGoes N) (RetOK_V rfl) bk_M_nightGoes (List.forall_mem_cons.mpr ⟨hk2, mz_nil⟩)) rfl
noncomputable def f_M_nightGoes_j73 (N : Nat) (k2 : (Int32 × Int32 × mS) → Option (mS)) (x : Int32 × Int32 × mS) : Option (mS) :=
  let s1 := sI x.2.2 1052 0 ((gI x.2.2 1052 0) + 1)
  k2 (x.1, (x.2.1 + 1), s1)
set_option maxRecDepth 100000 in
set_option maxHeartbeats 4000000 in
theorem s_M_nightGoes_73 (N : Nat) {s9 : mS} {k2 : (Int32 × Int32 × mS) → Option (mS)} (hk2 : SCd Sm R0m oFm nm 8 q_M_nightGoes (none, s9) s9 2 (H_M_nightGoes_2 k2)) : SCd Sm R0m oFm nm 8 q_M_nightGoes (none, s9) s9 73 (H_M_nightGoes_73 (f_M_nightGoes_j73 N k2)) := by
  intro loc st s
  refine G_cR (fun h0 => ?_)
  refine G_li (fun v0 h1 => ?_)
  refine G_li (fun v1 h2 => ?_)
  refine G_rv0 (fun e9 => ?_)
  subst e9
  refine G_sub (loc0 := [(0, .ref 0), (1, .int v0), (2, .int v1)]) (List.forall_mem_cons.mpr ⟨h0, List.forall_mem_cons.mpr ⟨h1, List.forall_mem_cons.mpr ⟨h2, mz_nil⟩⟩⟩) ?_
  exact G_eq (mEv_G (orc := mOrc (oL_M_nightGoes N)) (ret := rtV) (blks := bl_M_nightGoes) (cuts := [(2, H_M_nightGoes_2 k2)]) wOKm (by decide) (oo_M_nightGoes N) (RetOK_V rfl) bk_M_nightGoes (List.forall_mem_cons.mpr ⟨hk2, mz_nil⟩)) rfl
noncomputable def f_M_nightGoes_L91 (N : Nat) (k91 : (Int32 × mS) → Option (mS)) (x : Int32 × mS) : Option (mS) :=
  (f_M_doorMany N x.2).bind fun p1 =>
  if x.1 < p1.1 then
    (f_M_coldBy N x.1 p1.2).bind fun p3 =>
    let s4 := sA p3.2 34 1 ((gA p1.2 34 1) + p3.1)
    if 999999 < (gA s4 34 1) then
      let s5 := sA s4 34 1 999999
      k91 ((x.1 + 1), s5)
    else
      k91 ((x.1 + 1), s4)
  else
    let s2 := sA p1.2 34 0 ((gA p1.2 34 0) + 1)
    some s2
set_option maxRecDepth 100000 in
set_option maxHeartbeats 4000000 in
theorem t_M_nightGoes_91 (N : Nat) {s9 : mS} {k91 : (Int32 × mS) → Option (mS)} (hk91 : SCd Sm R0m oFm nm 8 q_M_nightGoes (none, s9) s9 91 (H_M_nightGoes_91 k91)) : SCd Sm R0m oFm nm 8 q_M_nightGoes (none, s9) s9 91 (H_M_nightGoes_91 (f_M_nightGoes_L91 N k91)) := by
  intro loc st s
  refine G_cR (fun h0 => ?_)
  refine G_li (fun v0 h2 => ?_)
  refine G_rv0 (fun e9 => ?_)
  subst e9
  refine G_sub (loc0 := [(0, .ref 0), (2, .int v0)]) (List.forall_mem_cons.mpr ⟨h0, List.forall_mem_cons.mpr ⟨h2, mz_nil⟩⟩) ?_
  exact G_eq (mEv_G (orc := mOrc (oL_M_nightGoes N)) (ret := rtV) (blks := bl_M_nightGoes) (cuts := [(91, H_M_nightGoes_91 k91)]) wOKm (by decide) (oo_M_nightGoes N) (RetOK_V rfl) bk_M_nightGoes (List.forall_mem_cons.mpr ⟨hk91, mz_nil⟩)) rfl
theorem s_M_nightGoes_91 (N : Nat) {s9 : mS} : SCd Sm R0m oFm nm 8 q_M_nightGoes (none, s9) s9 91 (H_M_nightGoes_91 (mfix N (f_M_nightGoes_L91 N))) := by
  refine mfix_SC (H := H_M_nightGoes_91) (fun loc st s => ?_) (fun k hk => t_M_nightGoes_91 N hk) N
  refine G_cR (fun h0 => ?_)
  refine G_li (fun v0 h2 => ?_)
  refine G_rv0 (fun e9 => ?_)
  subst e9
  exact G_none
noncomputable def f_M_nightGoes_L2 (N : Nat) (k2 : (Int32 × Int32 × mS) → Option (mS)) (x : Int32 × Int32 × mS) : Option (mS) :=
  (f_M_porterMany N x.2.2).bind fun p1 =>
  if x.2.1 < p1.1 then
    if x.2.1 = x.1 then
      f_M_nightGoes_j23 N k2 (x.1, x.2.1, p1.2)
    else
      (f_M_doesWalk N x.2.1 p1.2).bind fun p2 =>
      if p2.1 = 0 then
        f_M_nightGoes_j23 N k2 (x.1, x.2.1, p2.2)
      else
        (f_M_walks N x.2.1 p2.2).bind fun p3 =>
        (f_M_isKept N x.2.1 p3.1 p3.2).bind fun p4 =>
        grd (inb (74 + x.2.1) 205) (
        if (gA p4 34 (ix (74 + x.2.1))) < 99 then
          grd (inb (74 + x.2.1) 205) (
          grd (inb (74 + x.2.1) 205) (
          let s5 := sA p4 34 (ix (74 + x.2.1)) ((gA p4 34 (ix (74 + x.2.1))) + 1)
          f_M_nightGoes_j73 N k2 (x.1, x.2.1, s5)))
        else
          f_M_nightGoes_j73 N k2 (x.1, x.2.1, p4))
  else
    mfix N (f_M_nightGoes_L91 N) (0, p1.2)
set_option maxRecDepth 100000 in
set_option maxHeartbeats 4000000 in
theorem t_M_nightGoes_2 (N : Nat) {s9 : mS} {k2 : (Int32 × Int32 × mS) → Option (mS)} (hk2 : SCd Sm R0m oFm nm 8 q_M_nightGoes (none, s9) s9 2 (H_M_nightGoes_2 k2)) : SCd Sm R0m oFm nm 8 q_M_nightGoes (none, s9) s9 2 (H_M_nightGoes_2 (f_M_nightGoes_L2 N k2)) := by
  intro loc st s
  refine G_cR (fun h0 => ?_)
  refine G_li (fun v0 h1 => ?_)
  refine G_li (fun v1 h2 => ?_)
  refine G_rv0 (fun e9 => ?_)
  subst e9
  refine G_sub (loc0 := [(0, .ref 0), (1, .int v0), (2, .int v1)]) (List.forall_mem_cons.mpr ⟨h0, List.forall_mem_cons.mpr ⟨h1, List.forall_mem_cons.mpr ⟨h2, mz_nil⟩⟩⟩) ?_
  exact G_eq (mEv_G (orc := mOrc (oL_M_nightGoes N)) (ret := rtV) (blks := bl_M_nightGoes) (cuts := [(23, H_M_nightGoes_23 (f_M_nightGoes_j23 N k2)), (73, H_M_nightGoes_73 (f_M_nightGoes_j73 N k2)), (91, H_M_nightGoes_91 (mfix N (f_M_nightGoes_L91 N)))]) wOKm (by decide) (oo_M_nightGoes N) (RetOK_V rfl) bk_M_nightGoes (List.forall_mem_cons.mpr ⟨s_M_nightGoes_23 N hk2, List.forall_mem_cons.mpr ⟨s_M_nightGoes_73 N hk2, List.forall_mem_cons.mpr ⟨s_M_nightGoes_91 N, mz_nil⟩⟩⟩)) rfl
theorem s_M_nightGoes_2 (N : Nat) {s9 : mS} : SCd Sm R0m oFm nm 8 q_M_nightGoes (none, s9) s9 2 (H_M_nightGoes_2 (mfix N (f_M_nightGoes_L2 N))) := by
  refine mfix_SC (H := H_M_nightGoes_2) (fun loc st s => ?_) (fun k hk => t_M_nightGoes_2 N hk) N
  refine G_cR (fun h0 => ?_)
  refine G_li (fun v0 h1 => ?_)
  refine G_li (fun v1 h2 => ?_)
  refine G_rv0 (fun e9 => ?_)
  subst e9
  exact G_none
noncomputable def f_M_nightGoes (N : Nat) (a1 : Int32) (s : mS) : Option (mS) :=
  mfix N (f_M_nightGoes_L2 N) (a1, 0, s)
set_option maxRecDepth 100000 in
set_option maxHeartbeats 4000000 in
theorem m_M_nightGoes (N : Nat) {s9 : mS} (a1 : Int32) {s : mS} (h : f_M_nightGoes N a1 s = some s9) : MetM Sm R0m oFm nm 8 222 [.ref 0, .int a1] s (none) s9 := by
  refine met_of_G (q := q_M_nightGoes) (t0 := s9) y_M_nightGoes (Nat.le_of_ble_eq_true rfl) ?_
  rw [← h]
  exact G_eq (mEv_G (orc := mOrc (oL_M_nightGoes N)) (ret := rtV) (blks := bl_M_nightGoes) (cuts := [(2, H_M_nightGoes_2 (mfix N (f_M_nightGoes_L2 N)))]) wOKm (by decide) (oo_M_nightGoes N) (RetOK_V rfl) bk_M_nightGoes (List.forall_mem_cons.mpr ⟨s_M_nightGoes_2 N, mz_nil⟩)) rfl
noncomputable def C_M_nightGoes {ρ : Type} (N : Nat) : List Value → mS → (Option Value → mS → Option ρ) → Option ρ := fun vs s kk => sR vs 0 fun r0 => pi1 r0 fun a1 r1 => rv0 r1 ((f_M_nightGoes N a1 s).bind fun p => kk none p)
theorem cs_M_nightGoes {ρ : Type} {t0 : ρ} {d : Nat} (N : Nat) (hd : 8 + 1 ≤ d) : CallOK Sm R0m oFm nm d t0 222 (C_M_nightGoes N) := by
  intro vs s kk h0
  obtain ⟨r0, rfl, h1⟩ := sR_some h0
  obtain ⟨a1, r1, rfl, h2⟩ := pi1_some h1
  obtain ⟨rfl, h3⟩ := rv0_some h2
  obtain ⟨p, hp, hk⟩ := Option.bind_eq_some_iff.mp h3
  exact ⟨_, _, _, hd, m_M_nightGoes N a1 hp, hk, fun qy hq hf => by cases y_M_nightGoes.symm.trans hq; exact ⟨_, _, rfl, rfl⟩⟩
/-! METHOD PorterDoorsModel.nightsGo(II)V -/
set_option maxRecDepth 20000 in
noncomputable def q_M_nightsGo : mI := (⟨"PorterDoorsModel", "nightsGo", "(II)V"⟩, prog_13_method_50_code, 4, none, 10, 1713, 139, 1, 2, 1712, 102)
theorem y_M_nightsGo : mT[221]? = some q_M_nightsGo := mT_at_5 (k := 21) rfl
noncomputable def bl_M_nightsGo : List (Nat × List mO) := [(0, [o0 (.aload_n 0), o0 (.iconst 0), o2 (.putfield 447) 10 52, o0 (.iconst 0), o0 (.istore_n 3)]),
  (7, [o0 (.iload_n 3), o0 (.iload_n 1), o1 (.if_icmp .ge 14) 23, o0 (.aload_n 0), o0 (.iload_n 2), o2 (.invokevirtual 454) 222 2, o0 (.iinc 3 1), o1 (.goto (-13)) 7]),
  (23, [o0 (.return_)])]
theorem bk_M_nightsGo : okBlks q_M_nightsGo bl_M_nightsGo = true := by decide +kernel
noncomputable def oL_M_nightsGo {ρ : Type} (N : Nat) : List (Nat × (List Value → mS → (Option Value → mS → Option ρ) → Option ρ)) := [(222, C_M_nightGoes N)]
theorem oo_M_nightsGo {ρ : Type} {t0 : ρ} (N : Nat) : OrcOK Sm R0m oFm nm 9 t0 (mOrc (oL_M_nightsGo N)) := mOrc_OK (List.forall_mem_cons.mpr ⟨cs_M_nightGoes N (by decide), mz_nil⟩)
noncomputable def H_M_nightsGo_7 {ρ : Type} (k : (Int32 × Int32 × Int32 × mS) → Option ρ) : mL → List Value → mS → Option ρ := fun loc st s => cR loc 0 0 (li1 loc 1 fun v0 => li1 loc 2 fun v1 => li1 loc 3 fun v2 => rv0 st (k (v0, v1, v2, s)))
noncomputable def f_M_nightsGo_L7 (N : Nat) (k7 : (Int32 × Int32 × Int32 × mS) → Option (mS)) (x : Int32 × Int32 × Int32 × mS) : Option (mS) :=
  if x.2.2.1 < x.1 then
    (f_M_nightGoes N x.2.1 x.2.2.2).bind fun p1 =>
    k7 (x.1, x.2.1, (x.2.2.1 + 1), p1)
  else
    some x.2.2.2
set_option maxRecDepth 100000 in
set_option maxHeartbeats 4000000 in
theorem t_M_nightsGo_7 (N : Nat) {s9 : mS} {k7 : (Int32 × Int32 × Int32 × mS) → Option (mS)} (hk7 : SCd Sm R0m oFm nm 9 q_M_nightsGo (none, s9) s9 7 (H_M_nightsGo_7 k7)) : SCd Sm R0m oFm nm 9 q_M_nightsGo (none, s9) s9 7 (H_M_nightsGo_7 (f_M_nightsGo_L7 N k7)) := by
  intro loc st s
  refine G_cR (fun h0 => ?_)
  refine G_li (fun v0 h1 => ?_)
  refine G_li (fun v1 h2 => ?_)
  refine G_li (fun v2 h3 => ?_)
  refine G_rv0 (fun e9 => ?_)
  subst e9
  refine G_sub (loc0 := [(0, .ref 0), (1, .int v0), (2, .int v1), (3, .int v2)]) (List.forall_mem_cons.mpr ⟨h0, List.forall_mem_cons.mpr ⟨h1, List.forall_mem_cons.mpr ⟨h2, List.forall_mem_cons.mpr ⟨h3, mz_nil⟩⟩⟩⟩) ?_
  exact G_eq (mEv_G (orc := mOrc (oL_M_nightsGo N)) (ret := rtV) (blks := bl_M_nightsGo) (cuts := [(7, H_M_nightsGo_7 k7)]) wOKm (by decide) (oo_M_nightsGo N) (RetOK_V rfl) bk_M_nightsGo (List.forall_mem_cons.mpr ⟨hk7, mz_nil⟩)) rfl
theorem s_M_nightsGo_7 (N : Nat) {s9 : mS} : SCd Sm R0m oFm nm 9 q_M_nightsGo (none, s9) s9 7 (H_M_nightsGo_7 (mfix N (f_M_nightsGo_L7 N))) := by
  refine mfix_SC (H := H_M_nightsGo_7) (fun loc st s => ?_) (fun k hk => t_M_nightsGo_7 N hk) N
  refine G_cR (fun h0 => ?_)
  refine G_li (fun v0 h1 => ?_)
  refine G_li (fun v1 h2 => ?_)
  refine G_li (fun v2 h3 => ?_)
  refine G_rv0 (fun e9 => ?_)
  subst e9
  exact G_none
noncomputable def f_M_nightsGo (N : Nat) (a1 : Int32) (a2 : Int32) (s : mS) : Option (mS) :=
  let s1 := sI s 1052 0 0
  mfix N (f_M_nightsGo_L7 N) (a1, a2, 0, s1)
set_option maxRecDepth 100000 in
set_option maxHeartbeats 4000000 in
theorem m_M_nightsGo (N : Nat) {s9 : mS} (a1 : Int32) (a2 : Int32) {s : mS} (h : f_M_nightsGo N a1 a2 s = some s9) : MetM Sm R0m oFm nm 9 221 [.ref 0, .int a1, .int a2] s (none) s9 := by
  refine met_of_G (q := q_M_nightsGo) (t0 := s9) y_M_nightsGo (Nat.le_of_ble_eq_true rfl) ?_
  rw [← h]
  exact G_eq (mEv_G (orc := mOrc (oL_M_nightsGo N)) (ret := rtV) (blks := bl_M_nightsGo) (cuts := [(7, H_M_nightsGo_7 (mfix N (f_M_nightsGo_L7 N)))]) wOKm (by decide) (oo_M_nightsGo N) (RetOK_V rfl) bk_M_nightsGo (List.forall_mem_cons.mpr ⟨s_M_nightsGo_7 N, mz_nil⟩)) rfl
noncomputable def C_M_nightsGo {ρ : Type} (N : Nat) : List Value → mS → (Option Value → mS → Option ρ) → Option ρ := fun vs s kk => sR vs 0 fun r0 => pi1 r0 fun a1 r1 => pi1 r1 fun a2 r2 => rv0 r2 ((f_M_nightsGo N a1 a2 s).bind fun p => kk none p)
theorem cs_M_nightsGo {ρ : Type} {t0 : ρ} {d : Nat} (N : Nat) (hd : 9 + 1 ≤ d) : CallOK Sm R0m oFm nm d t0 221 (C_M_nightsGo N) := by
  intro vs s kk h0
  obtain ⟨r0, rfl, h1⟩ := sR_some h0
  obtain ⟨a1, r1, rfl, h2⟩ := pi1_some h1
  obtain ⟨a2, r2, rfl, h3⟩ := pi1_some h2
  obtain ⟨rfl, h4⟩ := rv0_some h3
  obtain ⟨p, hp, hk⟩ := Option.bind_eq_some_iff.mp h4
  exact ⟨_, _, _, hd, m_M_nightsGo N a1 a2 hp, hk, fun qy hq hf => by cases y_M_nightsGo.symm.trans hq; exact ⟨_, _, rfl, rfl⟩⟩
/-! METHOD PorterDoorsModel.triesAnew()V -/
set_option maxRecDepth 20000 in
noncomputable def q_M_triesAnew : mI := (⟨"PorterDoorsModel", "triesAnew", "()V"⟩, prog_13_method_52_code, 2, none, 10, 1746, 139, 1, 0, 1745, 109)
theorem y_M_triesAnew : mT[229]? = some q_M_triesAnew := mT_at_5 (k := 29) rfl
noncomputable def bl_M_triesAnew : List (Nat × List mO) := [(0, [o0 (.iconst 0), o0 (.istore_n 1)]),
  (2, [o0 (.iload_n 1), o0 (.bipush 84), o1 (.if_icmp .ge 21) 26, o0 (.aload_n 0), o2 (.getfield 115) 10 48, o0 (.iload_n 1), o0 (.aload_n 0), o2 (.getfield 121) 10 54, o0 (.iload_n 1), o0 (.iaload), o0 (.iastore), o0 (.iinc 1 1), o1 (.goto (-21)) 2]),
  (26, [o0 (.return_)])]
theorem bk_M_triesAnew : okBlks q_M_triesAnew bl_M_triesAnew = true := by decide +kernel
noncomputable def oL_M_triesAnew {ρ : Type} (N : Nat) : List (Nat × (List Value → mS → (Option Value → mS → Option ρ) → Option ρ)) := []
theorem oo_M_triesAnew {ρ : Type} {t0 : ρ} (N : Nat) : OrcOK Sm R0m oFm nm 1 t0 (mOrc (oL_M_triesAnew N)) := mOrc_OK (mz_nil)
noncomputable def H_M_triesAnew_2 {ρ : Type} (k : (Int32 × mS) → Option ρ) : mL → List Value → mS → Option ρ := fun loc st s => cR loc 0 0 (li1 loc 1 fun v0 => rv0 st (k (v0, s)))
noncomputable def f_M_triesAnew_L2 (N : Nat) (k2 : (Int32 × mS) → Option (mS)) (x : Int32 × mS) : Option (mS) :=
  if x.1 < 84 then
    grd (inb x.1 84) (
    grd (inb x.1 205) (
    let s1 := sA x.2 34 (ix x.1) (gA x.2 36 (ix x.1))
    k2 ((x.1 + 1), s1)))
  else
    some x.2
set_option maxRecDepth 100000 in
set_option maxHeartbeats 4000000 in
theorem t_M_triesAnew_2 (N : Nat) {s9 : mS} {k2 : (Int32 × mS) → Option (mS)} (hk2 : SCd Sm R0m oFm nm 1 q_M_triesAnew (none, s9) s9 2 (H_M_triesAnew_2 k2)) : SCd Sm R0m oFm nm 1 q_M_triesAnew (none, s9) s9 2 (H_M_triesAnew_2 (f_M_triesAnew_L2 N k2)) := by
  intro loc st s
  refine G_cR (fun h0 => ?_)
  refine G_li (fun v0 h1 => ?_)
  refine G_rv0 (fun e9 => ?_)
  subst e9
  refine G_sub (loc0 := [(0, .ref 0), (1, .int v0)]) (List.forall_mem_cons.mpr ⟨h0, List.forall_mem_cons.mpr ⟨h1, mz_nil⟩⟩) ?_
  exact G_eq (mEv_G (orc := mOrc (oL_M_triesAnew N)) (ret := rtV) (blks := bl_M_triesAnew) (cuts := [(2, H_M_triesAnew_2 k2)]) wOKm (by decide) (oo_M_triesAnew N) (RetOK_V rfl) bk_M_triesAnew (List.forall_mem_cons.mpr ⟨hk2, mz_nil⟩)) rfl
theorem s_M_triesAnew_2 (N : Nat) {s9 : mS} : SCd Sm R0m oFm nm 1 q_M_triesAnew (none, s9) s9 2 (H_M_triesAnew_2 (mfix N (f_M_triesAnew_L2 N))) := by
  refine mfix_SC (H := H_M_triesAnew_2) (fun loc st s => ?_) (fun k hk => t_M_triesAnew_2 N hk) N
  refine G_cR (fun h0 => ?_)
  refine G_li (fun v0 h1 => ?_)
  refine G_rv0 (fun e9 => ?_)
  subst e9
  exact G_none
noncomputable def f_M_triesAnew (N : Nat) (s : mS) : Option (mS) :=
  mfix N (f_M_triesAnew_L2 N) (0, s)
set_option maxRecDepth 100000 in
set_option maxHeartbeats 4000000 in
theorem m_M_triesAnew (N : Nat) {s9 : mS} {s : mS} (h : f_M_triesAnew N s = some s9) : MetM Sm R0m oFm nm 1 229 [.ref 0] s (none) s9 := by
  refine met_of_G (q := q_M_triesAnew) (t0 := s9) y_M_triesAnew (Nat.le_of_ble_eq_true rfl) ?_
  rw [← h]
  exact G_eq (mEv_G (orc := mOrc (oL_M_triesAnew N)) (ret := rtV) (blks := bl_M_triesAnew) (cuts := [(2, H_M_triesAnew_2 (mfix N (f_M_triesAnew_L2 N)))]) wOKm (by decide) (oo_M_triesAnew N) (RetOK_V rfl) bk_M_triesAnew (List.forall_mem_cons.mpr ⟨s_M_triesAnew_2 N, mz_nil⟩)) rfl
noncomputable def C_M_triesAnew {ρ : Type} (N : Nat) : List Value → mS → (Option Value → mS → Option ρ) → Option ρ := fun vs s kk => sR vs 0 fun r0 => rv0 r0 ((f_M_triesAnew N s).bind fun p => kk none p)
theorem cs_M_triesAnew {ρ : Type} {t0 : ρ} {d : Nat} (N : Nat) (hd : 1 + 1 ≤ d) : CallOK Sm R0m oFm nm d t0 229 (C_M_triesAnew N) := by
  intro vs s kk h0
  obtain ⟨r0, rfl, h1⟩ := sR_some h0
  obtain ⟨rfl, h2⟩ := rv0_some h1
  obtain ⟨p, hp, hk⟩ := Option.bind_eq_some_iff.mp h2
  exact ⟨_, _, _, hd, m_M_triesAnew N hp, hk, fun qy hq hf => by cases y_M_triesAnew.symm.trans hq; exact ⟨_, _, rfl, rfl⟩⟩
/-! METHOD PorterDoorsModel.takesBack()V -/
set_option maxRecDepth 20000 in
noncomputable def q_M_takesBack : mI := (⟨"PorterDoorsModel", "takesBack", "()V"⟩, prog_13_method_53_code, 1, none, 10, 1742, 139, 1, 0, 1741, 108)
theorem y_M_takesBack : mT[228]? = some q_M_takesBack := mT_at_5 (k := 28) rfl
noncomputable def bl_M_takesBack : List (Nat × List mO) := [(0, [o0 (.aload_n 0), o2 (.invokevirtual 457) 229 1, o0 (.aload_n 0), o0 (.iconst 0), o2 (.putfield 431) 10 53, o0 (.return_)])]
theorem bk_M_takesBack : okBlks q_M_takesBack bl_M_takesBack = true := by decide +kernel
noncomputable def oL_M_takesBack {ρ : Type} (N : Nat) : List (Nat × (List Value → mS → (Option Value → mS → Option ρ) → Option ρ)) := [(229, C_M_triesAnew N)]
theorem oo_M_takesBack {ρ : Type} {t0 : ρ} (N : Nat) : OrcOK Sm R0m oFm nm 2 t0 (mOrc (oL_M_takesBack N)) := mOrc_OK (List.forall_mem_cons.mpr ⟨cs_M_triesAnew N (by decide), mz_nil⟩)
noncomputable def f_M_takesBack (N : Nat) (s : mS) : Option (mS) :=
  (f_M_triesAnew N s).bind fun p1 =>
  let s2 := sI p1 1053 0 0
  some s2
set_option maxRecDepth 100000 in
set_option maxHeartbeats 4000000 in
theorem m_M_takesBack (N : Nat) {s9 : mS} {s : mS} (h : f_M_takesBack N s = some s9) : MetM Sm R0m oFm nm 2 228 [.ref 0] s (none) s9 := by
  refine met_of_G (q := q_M_takesBack) (t0 := s9) y_M_takesBack (Nat.le_of_ble_eq_true rfl) ?_
  rw [← h]
  exact G_eq (mEv_G (orc := mOrc (oL_M_takesBack N)) (ret := rtV) (blks := bl_M_takesBack) (cuts := []) wOKm (by decide) (oo_M_takesBack N) (RetOK_V rfl) bk_M_takesBack (mz_nil)) rfl
noncomputable def C_M_takesBack {ρ : Type} (N : Nat) : List Value → mS → (Option Value → mS → Option ρ) → Option ρ := fun vs s kk => sR vs 0 fun r0 => rv0 r0 ((f_M_takesBack N s).bind fun p => kk none p)
theorem cs_M_takesBack {ρ : Type} {t0 : ρ} {d : Nat} (N : Nat) (hd : 2 + 1 ≤ d) : CallOK Sm R0m oFm nm d t0 228 (C_M_takesBack N) := by
  intro vs s kk h0
  obtain ⟨r0, rfl, h1⟩ := sR_some h0
  obtain ⟨rfl, h2⟩ := rv0_some h1
  obtain ⟨p, hp, hk⟩ := Option.bind_eq_some_iff.mp h2
  exact ⟨_, _, _, hd, m_M_takesBack N hp, hk, fun qy hq hf => by cases y_M_takesBack.symm.trans hq; exact ⟨_, _, rfl, rfl⟩⟩
/-! METHOD PorterDoorsModel.later(I)I -/
set_option maxRecDepth 20000 in
noncomputable def q_M_later : mI := (⟨"PorterDoorsModel", "later", "(I)I"⟩, prog_13_method_63_code, 3, (some .int), 10, 1701, 139, 1, 1, 1699, 1700)
theorem y_M_later : mT[218]? = some q_M_later := mT_at_5 (k := 18) rfl
noncomputable def bl_M_later : List (Nat × List mO) := [(0, [o0 (.aload_n 0), o0 (.iload_n 1), o0 (.iconst 0), o0 (.bipush 60), o2 (.invokevirtual 484) 219 4, o1 (.ifCond .ne 5) 13, o0 (.iconst (-1)), o0 (.ireturn)]),
  (13, [o0 (.aload_n 0), o2 (.invokevirtual 488) 220 1, o0 (.aload_n 0), o0 (.iload_n 1), o0 (.iconst (-1)), o2 (.invokevirtual 491) 221 3, o0 (.aload_n 0), o2 (.invokevirtual 389) 193 1, o0 (.istore_n 2), o0 (.aload_n 0), o2 (.invokevirtual 494) 228 1, o0 (.iload_n 2), o0 (.ireturn)])]
theorem bk_M_later : okBlks q_M_later bl_M_later = true := by decide +kernel
noncomputable def oL_M_later {ρ : Type} (N : Nat) : List (Nat × (List Value → mS → (Option Value → mS → Option ρ) → Option ρ)) := [(219, C_M_isAhead N), (220, C_M_putsAside N), (221, C_M_nightsGo N), (193, C_M_openSet N), (228, C_M_takesBack N)]
theorem oo_M_later {ρ : Type} {t0 : ρ} (N : Nat) : OrcOK Sm R0m oFm nm 10 t0 (mOrc (oL_M_later N)) := mOrc_OK (List.forall_mem_cons.mpr ⟨cs_M_isAhead N (by decide), List.forall_mem_cons.mpr ⟨cs_M_putsAside N (by decide), List.forall_mem_cons.mpr ⟨cs_M_nightsGo N (by decide), List.forall_mem_cons.mpr ⟨cs_M_openSet N (by decide), List.forall_mem_cons.mpr ⟨cs_M_takesBack N (by decide), mz_nil⟩⟩⟩⟩⟩)
noncomputable def f_M_later (N : Nat) (a1 : Int32) (s : mS) : Option (Int32 × mS) :=
  (f_M_isAhead N a1 0 60 s).bind fun p1 =>
  if p1.1 = 0 then
    some ((-1), p1.2)
  else
    (f_M_putsAside N p1.2).bind fun p2 =>
    (f_M_nightsGo N a1 (-1) p2).bind fun p3 =>
    (f_M_openSet N p3).bind fun p4 =>
    (f_M_takesBack N p4.2).bind fun p5 =>
    some (p4.1, p5)
set_option maxRecDepth 100000 in
set_option maxHeartbeats 4000000 in
theorem m_M_later (N : Nat) {x9 : Int32} {s9 : mS} (a1 : Int32) {s : mS} (h : f_M_later N a1 s = some (x9, s9)) : MetM Sm R0m oFm nm 10 218 [.ref 0, .int a1] s (some (.int x9)) s9 := by
  refine met_of_G (q := q_M_later) (t0 := (x9, s9)) y_M_later (Nat.le_of_ble_eq_true rfl) ?_
  rw [← h]
  exact G_eq (mEv_G (orc := mOrc (oL_M_later N)) (ret := rtI) (blks := bl_M_later) (cuts := []) wOKm (by decide) (oo_M_later N) (RetOK_I rfl) bk_M_later (mz_nil)) rfl
noncomputable def C_M_later {ρ : Type} (N : Nat) : List Value → mS → (Option Value → mS → Option ρ) → Option ρ := fun vs s kk => sR vs 0 fun r0 => pi1 r0 fun a1 r1 => rv0 r1 ((f_M_later N a1 s).bind fun p => kk (some (.int p.1)) p.2)
theorem cs_M_later {ρ : Type} {t0 : ρ} {d : Nat} (N : Nat) (hd : 10 + 1 ≤ d) : CallOK Sm R0m oFm nm d t0 218 (C_M_later N) := by
  intro vs s kk h0
  obtain ⟨r0, rfl, h1⟩ := sR_some h0
  obtain ⟨a1, r1, rfl, h2⟩ := pi1_some h1
  obtain ⟨rfl, h3⟩ := rv0_some h2
  obtain ⟨p, hp, hk⟩ := Option.bind_eq_some_iff.mp h3
  exact ⟨_, _, _, hd, m_M_later N a1 hp, hk, fun qy hq hf => by cases y_M_later.symm.trans hq; exact ⟨_, _, rfl, rfl⟩⟩
/-! METHOD PorterDoorsModel.cold(I)I -/
set_option maxRecDepth 20000 in
noncomputable def q_M_cold : mI := (⟨"PorterDoorsModel", "cold", "(I)I"⟩, prog_13_method_64_code, 3, (some .int), 10, 1750, 139, 1, 1, 1748, 1749)
theorem y_M_cold : mT[230]? = some q_M_cold := mT_at_5 (k := 30) rfl
noncomputable def bl_M_cold : List (Nat × List mO) := [(0, [o0 (.aload_n 0), o0 (.iload_n 1), o0 (.iconst 0), o0 (.bipush 60), o2 (.invokevirtual 484) 219 4, o1 (.ifCond .ne 5) 13, o0 (.iconst (-1)), o0 (.ireturn)]),
  (13, [o0 (.aload_n 0), o2 (.invokevirtual 488) 220 1, o0 (.aload_n 0), o0 (.iload_n 1), o0 (.iconst (-1)), o2 (.invokevirtual 491) 221 3, o0 (.aload_n 0), o2 (.getfield 115) 10 48, o0 (.iconst 1), o0 (.iaload), o0 (.istore_n 2), o0 (.aload_n 0), o2 (.invokevirtual 494) 228 1, o0 (.iload_n 2), o0 (.ireturn)])]
theorem bk_M_cold : okBlks q_M_cold bl_M_cold = true := by decide +kernel
noncomputable def oL_M_cold {ρ : Type} (N : Nat) : List (Nat × (List Value → mS → (Option Value → mS → Option ρ) → Option ρ)) := [(219, C_M_isAhead N), (220, C_M_putsAside N), (221, C_M_nightsGo N), (228, C_M_takesBack N)]
theorem oo_M_cold {ρ : Type} {t0 : ρ} (N : Nat) : OrcOK Sm R0m oFm nm 10 t0 (mOrc (oL_M_cold N)) := mOrc_OK (List.forall_mem_cons.mpr ⟨cs_M_isAhead N (by decide), List.forall_mem_cons.mpr ⟨cs_M_putsAside N (by decide), List.forall_mem_cons.mpr ⟨cs_M_nightsGo N (by decide), List.forall_mem_cons.mpr ⟨cs_M_takesBack N (by decide), mz_nil⟩⟩⟩⟩)
noncomputable def f_M_cold (N : Nat) (a1 : Int32) (s : mS) : Option (Int32 × mS) :=
  (f_M_isAhead N a1 0 60 s).bind fun p1 =>
  if p1.1 = 0 then
    some ((-1), p1.2)
  else
    (f_M_putsAside N p1.2).bind fun p2 =>
    (f_M_nightsGo N a1 (-1) p2).bind fun p3 =>
    (f_M_takesBack N p3).bind fun p4 =>
    some ((gA p3 34 1), p4)
set_option maxRecDepth 100000 in
set_option maxHeartbeats 4000000 in
theorem m_M_cold (N : Nat) {x9 : Int32} {s9 : mS} (a1 : Int32) {s : mS} (h : f_M_cold N a1 s = some (x9, s9)) : MetM Sm R0m oFm nm 10 230 [.ref 0, .int a1] s (some (.int x9)) s9 := by
  refine met_of_G (q := q_M_cold) (t0 := (x9, s9)) y_M_cold (Nat.le_of_ble_eq_true rfl) ?_
  rw [← h]
  exact G_eq (mEv_G (orc := mOrc (oL_M_cold N)) (ret := rtI) (blks := bl_M_cold) (cuts := []) wOKm (by decide) (oo_M_cold N) (RetOK_I rfl) bk_M_cold (mz_nil)) rfl
noncomputable def C_M_cold {ρ : Type} (N : Nat) : List Value → mS → (Option Value → mS → Option ρ) → Option ρ := fun vs s kk => sR vs 0 fun r0 => pi1 r0 fun a1 r1 => rv0 r1 ((f_M_cold N a1 s).bind fun p => kk (some (.int p.1)) p.2)
theorem cs_M_cold {ρ : Type} {t0 : ρ} {d : Nat} (N : Nat) (hd : 10 + 1 ≤ d) : CallOK Sm R0m oFm nm d t0 230 (C_M_cold N) := by
  intro vs s kk h0
  obtain ⟨r0, rfl, h1⟩ := sR_some h0
  obtain ⟨a1, r1, rfl, h2⟩ := pi1_some h1
  obtain ⟨rfl, h3⟩ := rv0_some h2
  obtain ⟨p, hp, hk⟩ := Option.bind_eq_some_iff.mp h3
  exact ⟨_, _, _, hd, m_M_cold N a1 hp, hk, fun qy hq hf => by cases y_M_cold.symm.trans hq; exact ⟨_, _, rfl, rfl⟩⟩
/-! METHOD PorterDoorsModel.back()I -/
set_option maxRecDepth 20000 in
noncomputable def q_M_back : mI := (⟨"PorterDoorsModel", "back", "()I"⟩, prog_13_method_65_code, 4, (some .int), 10, 1754, 139, 1, 0, 1752, 1753)
theorem y_M_back : mT[231]? = some q_M_back := mT_at_5 (k := 31) rfl
noncomputable def bl_M_back : List (Nat × List mO) := [(0, [o0 (.aload_n 0), o2 (.getfield 367) 10 46, o1 (.ifCond .ne 5) 9, o0 (.iconst (-1)), o0 (.ireturn)]),
  (9, [o0 (.aload_n 0), o2 (.invokevirtual 389) 193 1, o0 (.istore_n 1), o0 (.iconst (-1)), o0 (.istore_n 2), o0 (.aload_n 0), o2 (.invokevirtual 488) 220 1, o0 (.iconst 1), o0 (.istore_n 3)]),
  (22, [o0 (.iload_n 3), o0 (.bipush 60), o1 (.if_icmp .gt 41) 66, o0 (.aload_n 0), o2 (.getfield 115) 10 48, o0 (.iconst 0), o0 (.iaload), o0 (.sipush 999), o1 (.if_icmp .ge 29) 66, o0 (.iload_n 2), o0 (.iconst (-1)), o1 (.if_icmp .ne 24) 66, o0 (.aload_n 0), o0 (.iconst (-1)), o2 (.invokevirtual 454) 222 2, o0 (.aload_n 0), o2 (.invokevirtual 389) 193 1, o0 (.iload_n 1), o1 (.if_icmp .ne 5) 60, o0 (.iload_n 3), o0 (.istore_n 2)]),
  (60, [o0 (.iinc 3 1), o1 (.goto (-41)) 22]),
  (66, [o0 (.aload_n 0), o2 (.invokevirtual 494) 228 1, o0 (.iload_n 2), o0 (.ireturn)])]
theorem bk_M_back : okBlks q_M_back bl_M_back = true := by decide +kernel
noncomputable def oL_M_back {ρ : Type} (N : Nat) : List (Nat × (List Value → mS → (Option Value → mS → Option ρ) → Option ρ)) := [(193, C_M_openSet N), (220, C_M_putsAside N), (222, C_M_nightGoes N), (228, C_M_takesBack N)]
theorem oo_M_back {ρ : Type} {t0 : ρ} (N : Nat) : OrcOK Sm R0m oFm nm 9 t0 (mOrc (oL_M_back N)) := mOrc_OK (List.forall_mem_cons.mpr ⟨cs_M_openSet N (by decide), List.forall_mem_cons.mpr ⟨cs_M_putsAside N (by decide), List.forall_mem_cons.mpr ⟨cs_M_nightGoes N (by decide), List.forall_mem_cons.mpr ⟨cs_M_takesBack N (by decide), mz_nil⟩⟩⟩⟩)
noncomputable def H_M_back_22 {ρ : Type} (k : (Int32 × Int32 × Int32 × mS) → Option ρ) : mL → List Value → mS → Option ρ := fun loc st s => cR loc 0 0 (li1 loc 1 fun v0 => li1 loc 2 fun v1 => li1 loc 3 fun v2 => rv0 st (k (v0, v1, v2, s)))
noncomputable def H_M_back_66 {ρ : Type} (k : (Int32 × mS) → Option ρ) : mL → List Value → mS → Option ρ := fun loc st s => cR loc 0 0 (li1 loc 2 fun v0 => rv0 st (k (v0, s)))
noncomputable def f_M_back_j66 (N : Nat) (x : Int32 × mS) : Option (Int32 × mS) :=
  (f_M_takesBack N x.2).bind fun p1 =>
  some (x.1, p1)
set_option maxRecDepth 100000 in
set_option maxHeartbeats 4000000 in
theorem s_M_back_66 (N : Nat) {x9 : Int32} {s9 : mS} : SCd Sm R0m oFm nm 9 q_M_back (some (.int x9), s9) (x9, s9) 66 (H_M_back_66 (f_M_back_j66 N)) := by
  intro loc st s
  refine G_cR (fun h0 => ?_)
  refine G_li (fun v0 h2 => ?_)
  refine G_rv0 (fun e9 => ?_)
  subst e9
  refine G_sub (loc0 := [(0, .ref 0), (2, .int v0)]) (List.forall_mem_cons.mpr ⟨h0, List.forall_mem_cons.mpr ⟨h2, mz_nil⟩⟩) ?_
  exact G_eq (mEv_G (orc := mOrc (oL_M_back N)) (ret := rtI) (blks := bl_M_back) (cuts := []) wOKm (by decide) (oo_M_back N) (RetOK_I rfl) bk_M_back (mz_nil)) rfl
noncomputable def f_M_back_L22 (N : Nat) (k22 : (Int32 × Int32 × Int32 × mS) → Option (Int32 × mS)) (x : Int32 × Int32 × Int32 × mS) : Option (Int32 × mS) :=
  if 60 < x.2.2.1 then
    f_M_back_j66 N (x.2.1, x.2.2.2)
  else
    if (gA x.2.2.2 34 0) < 999 then
      if x.2.1 = (-1) then
        (f_M_nightGoes N (-1) x.2.2.2).bind fun p1 =>
        (f_M_openSet N p1).bind fun p2 =>
        if p2.1 = x.1 then
          k22 (x.1, x.2.2.1, (x.2.2.1 + 1), p2.2)
        else
          k22 (x.1, x.2.1, (x.2.2.1 + 1), p2.2)
      else
        f_M_back_j66 N (x.2.1, x.2.2.2)
    else
      f_M_back_j66 N (x.2.1, x.2.2.2)
set_option maxRecDepth 100000 in
set_option maxHeartbeats 4000000 in
theorem t_M_back_22 (N : Nat) {x9 : Int32} {s9 : mS} {k22 : (Int32 × Int32 × Int32 × mS) → Option (Int32 × mS)} (hk22 : SCd Sm R0m oFm nm 9 q_M_back (some (.int x9), s9) (x9, s9) 22 (H_M_back_22 k22)) : SCd Sm R0m oFm nm 9 q_M_back (some (.int x9), s9) (x9, s9) 22 (H_M_back_22 (f_M_back_L22 N k22)) := by
  intro loc st s
  refine G_cR (fun h0 => ?_)
  refine G_li (fun v0 h1 => ?_)
  refine G_li (fun v1 h2 => ?_)
  refine G_li (fun v2 h3 => ?_)
  refine G_rv0 (fun e9 => ?_)
  subst e9
  refine G_sub (loc0 := [(0, .ref 0), (1, .int v0), (2, .int v1), (3, .int v2)]) (List.forall_mem_cons.mpr ⟨h0, List.forall_mem_cons.mpr ⟨h1, List.forall_mem_cons.mpr ⟨h2, List.forall_mem_cons.mpr ⟨h3, mz_nil⟩⟩⟩⟩) ?_
  exact G_eq (mEv_G (orc := mOrc (oL_M_back N)) (ret := rtI) (blks := bl_M_back) (cuts := [(22, H_M_back_22 k22), (66, H_M_back_66 (f_M_back_j66 N))]) wOKm (by decide) (oo_M_back N) (RetOK_I rfl) bk_M_back (List.forall_mem_cons.mpr ⟨hk22, List.forall_mem_cons.mpr ⟨s_M_back_66 N, mz_nil⟩⟩)) rfl
theorem s_M_back_22 (N : Nat) {x9 : Int32} {s9 : mS} : SCd Sm R0m oFm nm 9 q_M_back (some (.int x9), s9) (x9, s9) 22 (H_M_back_22 (mfix N (f_M_back_L22 N))) := by
  refine mfix_SC (H := H_M_back_22) (fun loc st s => ?_) (fun k hk => t_M_back_22 N hk) N
  refine G_cR (fun h0 => ?_)
  refine G_li (fun v0 h1 => ?_)
  refine G_li (fun v1 h2 => ?_)
  refine G_li (fun v2 h3 => ?_)
  refine G_rv0 (fun e9 => ?_)
  subst e9
  exact G_none
noncomputable def f_M_back (N : Nat) (s : mS) : Option (Int32 × mS) :=
  if (gI s 1046 0) = 0 then
    some ((-1), s)
  else
    (f_M_openSet N s).bind fun p1 =>
    (f_M_putsAside N p1.2).bind fun p2 =>
    mfix N (f_M_back_L22 N) (p1.1, (-1), 1, p2)
set_option maxRecDepth 100000 in
set_option maxHeartbeats 4000000 in
theorem m_M_back (N : Nat) {x9 : Int32} {s9 : mS} {s : mS} (h : f_M_back N s = some (x9, s9)) : MetM Sm R0m oFm nm 9 231 [.ref 0] s (some (.int x9)) s9 := by
  refine met_of_G (q := q_M_back) (t0 := (x9, s9)) y_M_back (Nat.le_of_ble_eq_true rfl) ?_
  rw [← h]
  exact G_eq (mEv_G (orc := mOrc (oL_M_back N)) (ret := rtI) (blks := bl_M_back) (cuts := [(22, H_M_back_22 (mfix N (f_M_back_L22 N)))]) wOKm (by decide) (oo_M_back N) (RetOK_I rfl) bk_M_back (List.forall_mem_cons.mpr ⟨s_M_back_22 N, mz_nil⟩)) rfl
noncomputable def C_M_back {ρ : Type} (N : Nat) : List Value → mS → (Option Value → mS → Option ρ) → Option ρ := fun vs s kk => sR vs 0 fun r0 => rv0 r0 ((f_M_back N s).bind fun p => kk (some (.int p.1)) p.2)
theorem cs_M_back {ρ : Type} {t0 : ρ} {d : Nat} (N : Nat) (hd : 9 + 1 ≤ d) : CallOK Sm R0m oFm nm d t0 231 (C_M_back N) := by
  intro vs s kk h0
  obtain ⟨r0, rfl, h1⟩ := sR_some h0
  obtain ⟨rfl, h2⟩ := rv0_some h1
  obtain ⟨p, hp, hk⟩ := Option.bind_eq_some_iff.mp h2
  exact ⟨_, _, _, hd, m_M_back N hp, hk, fun qy hq hf => by cases y_M_back.symm.trans hq; exact ⟨_, _, rfl, rfl⟩⟩
/-! METHOD PorterDoorsModel.row()I -/
set_option maxRecDepth 20000 in
noncomputable def q_M_row : mI := (⟨"PorterDoorsModel", "row", "()I"⟩, prog_13_method_66_code, 4, (some .int), 10, 1758, 139, 1, 0, 1756, 1757)
theorem y_M_row : mT[232]? = some q_M_row := mT_at_5 (k := 32) rfl
noncomputable def bl_M_row : List (Nat × List mO) := [(0, [o0 (.aload_n 0), o2 (.getfield 367) 10 46, o1 (.ifCond .ne 5) 9, o0 (.iconst (-1)), o0 (.ireturn)]),
  (9, [o0 (.iconst 0), o0 (.istore_n 1), o0 (.iconst 0), o0 (.istore_n 2), o0 (.iconst 0), o0 (.istore_n 3)]),
  (15, [o0 (.iload_n 3), o0 (.aload_n 0), o2 (.invokevirtual 377) 190 1, o1 (.if_icmp .ge 33) 53, o0 (.aload_n 0), o0 (.iload_n 3), o2 (.invokevirtual 386) 194 2, o0 (.iconst 1), o1 (.if_icmp .ne 9) 38, o0 (.iload_n 2), o0 (.iconst 1), o0 (.iadd), o1 (.goto 4) 39]),
  (38, [o0 (.iconst 0)]),
  (39, [o0 (.istore_n 2), o0 (.iload_n 2), o0 (.iload_n 1), o1 (.if_icmp .le 5) 47, o0 (.iload_n 2), o0 (.istore_n 1)]),
  (47, [o0 (.iinc 3 1), o1 (.goto (-35)) 15]),
  (53, [o0 (.iload_n 1), o0 (.ireturn)])]
theorem bk_M_row : okBlks q_M_row bl_M_row = true := by decide +kernel
noncomputable def oL_M_row {ρ : Type} (N : Nat) : List (Nat × (List Value → mS → (Option Value → mS → Option ρ) → Option ρ)) := [(190, C_M_doorMany N), (194, C_M_openOf N)]
theorem oo_M_row {ρ : Type} {t0 : ρ} (N : Nat) : OrcOK Sm R0m oFm nm 2 t0 (mOrc (oL_M_row N)) := mOrc_OK (List.forall_mem_cons.mpr ⟨cs_M_doorMany N (by decide), List.forall_mem_cons.mpr ⟨cs_M_openOf N (by decide), mz_nil⟩⟩)
noncomputable def H_M_row_15 {ρ : Type} (k : (Int32 × Int32 × Int32 × mS) → Option ρ) : mL → List Value → mS → Option ρ := fun loc st s => cR loc 0 0 (li1 loc 1 fun v0 => li1 loc 2 fun v1 => li1 loc 3 fun v2 => rv0 st (k (v0, v1, v2, s)))
noncomputable def H_M_row_39 {ρ : Type} (k : (Int32 × Int32 × Int32 × mS) → Option ρ) : mL → List Value → mS → Option ρ := fun loc st s => cR loc 0 0 (li1 loc 1 fun v0 => li1 loc 3 fun v1 => pi1 st fun w0 r0 => rv0 r0 (k (v0, v1, w0, s)))
noncomputable def f_M_row_j39 (N : Nat) (k15 : (Int32 × Int32 × Int32 × mS) → Option (Int32 × mS)) (x : Int32 × Int32 × Int32 × mS) : Option (Int32 × mS) :=
  if x.1 < x.2.2.1 then
    k15 (x.2.2.1, x.2.2.1, (x.2.1 + 1), x.2.2.2)
  else
    k15 (x.1, x.2.2.1, (x.2.1 + 1), x.2.2.2)
set_option maxRecDepth 100000 in
set_option maxHeartbeats 4000000 in
theorem s_M_row_39 (N : Nat) {x9 : Int32} {s9 : mS} {k15 : (Int32 × Int32 × Int32 × mS) → Option (Int32 × mS)} (hk15 : SCd Sm R0m oFm nm 2 q_M_row (some (.int x9), s9) (x9, s9) 15 (H_M_row_15 k15)) : SCd Sm R0m oFm nm 2 q_M_row (some (.int x9), s9) (x9, s9) 39 (H_M_row_39 (f_M_row_j39 N k15)) := by
  intro loc st s
  refine G_cR (fun h0 => ?_)
  refine G_li (fun v0 h1 => ?_)
  refine G_li (fun v1 h3 => ?_)
  refine G_pi (fun w0 r0 e0 => ?_)
  refine G_rv0 (fun e9 => ?_)
  subst e9
  subst e0
  refine G_sub (loc0 := [(0, .ref 0), (1, .int v0), (3, .int v1)]) (List.forall_mem_cons.mpr ⟨h0, List.forall_mem_cons.mpr ⟨h1, List.forall_mem_cons.mpr ⟨h3, mz_nil⟩⟩⟩) ?_
  exact G_eq (mEv_G (orc := mOrc (oL_M_row N)) (ret := rtI) (blks := bl_M_row) (cuts := [(15, H_M_row_15 k15)]) wOKm (by decide) (oo_M_row N) (RetOK_I rfl) bk_M_row (List.forall_mem_cons.mpr ⟨hk15, mz_nil⟩)) rfl
noncomputable def f_M_row_L15 (N : Nat) (k15 : (Int32 × Int32 × Int32 × mS) → Option (Int32 × mS)) (x : Int32 × Int32 × Int32 × mS) : Option (Int32 × mS) :=
  (f_M_doorMany N x.2.2.2).bind fun p1 =>
  if x.2.2.1 < p1.1 then
    (f_M_openOf N x.2.2.1 p1.2).bind fun p2 =>
    if p2.1 = 1 then
      f_M_row_j39 N k15 (x.1, x.2.2.1, (x.2.1 + 1), p2.2)
    else
      f_M_row_j39 N k15 (x.1, x.2.2.1, 0, p2.2)
  else
    some (x.1, p1.2)
set_option maxRecDepth 100000 in
set_option maxHeartbeats 4000000 in
theorem t_M_row_15 (N : Nat) {x9 : Int32} {s9 : mS} {k15 : (Int32 × Int32 × Int32 × mS) → Option (Int32 × mS)} (hk15 : SCd Sm R0m oFm nm 2 q_M_row (some (.int x9), s9) (x9, s9) 15 (H_M_row_15 k15)) : SCd Sm R0m oFm nm 2 q_M_row (some (.int x9), s9) (x9, s9) 15 (H_M_row_15 (f_M_row_L15 N k15)) := by
  intro loc st s
  refine G_cR (fun h0 => ?_)
  refine G_li (fun v0 h1 => ?_)
  refine G_li (fun v1 h2 => ?_)
  refine G_li (fun v2 h3 => ?_)
  refine G_rv0 (fun e9 => ?_)
  subst e9
  refine G_sub (loc0 := [(0, .ref 0), (1, .int v0), (2, .int v1), (3, .int v2)]) (List.forall_mem_cons.mpr ⟨h0, List.forall_mem_cons.mpr ⟨h1, List.forall_mem_cons.mpr ⟨h2, List.forall_mem_cons.mpr ⟨h3, mz_nil⟩⟩⟩⟩) ?_
  exact G_eq (mEv_G (orc := mOrc (oL_M_row N)) (ret := rtI) (blks := bl_M_row) (cuts := [(39, H_M_row_39 (f_M_row_j39 N k15))]) wOKm (by decide) (oo_M_row N) (RetOK_I rfl) bk_M_row (List.forall_mem_cons.mpr ⟨s_M_row_39 N hk15, mz_nil⟩)) rfl
theorem s_M_row_15 (N : Nat) {x9 : Int32} {s9 : mS} : SCd Sm R0m oFm nm 2 q_M_row (some (.int x9), s9) (x9, s9) 15 (H_M_row_15 (mfix N (f_M_row_L15 N))) := by
  refine mfix_SC (H := H_M_row_15) (fun loc st s => ?_) (fun k hk => t_M_row_15 N hk) N
  refine G_cR (fun h0 => ?_)
  refine G_li (fun v0 h1 => ?_)
  refine G_li (fun v1 h2 => ?_)
  refine G_li (fun v2 h3 => ?_)
  refine G_rv0 (fun e9 => ?_)
  subst e9
  exact G_none
noncomputable def f_M_row (N : Nat) (s : mS) : Option (Int32 × mS) :=
  if (gI s 1046 0) = 0 then
    some ((-1), s)
  else
    mfix N (f_M_row_L15 N) (0, 0, 0, s)
set_option maxRecDepth 100000 in
set_option maxHeartbeats 4000000 in
theorem m_M_row (N : Nat) {x9 : Int32} {s9 : mS} {s : mS} (h : f_M_row N s = some (x9, s9)) : MetM Sm R0m oFm nm 2 232 [.ref 0] s (some (.int x9)) s9 := by
  refine met_of_G (q := q_M_row) (t0 := (x9, s9)) y_M_row (Nat.le_of_ble_eq_true rfl) ?_
  rw [← h]
  exact G_eq (mEv_G (orc := mOrc (oL_M_row N)) (ret := rtI) (blks := bl_M_row) (cuts := [(15, H_M_row_15 (mfix N (f_M_row_L15 N)))]) wOKm (by decide) (oo_M_row N) (RetOK_I rfl) bk_M_row (List.forall_mem_cons.mpr ⟨s_M_row_15 N, mz_nil⟩)) rfl
noncomputable def C_M_row {ρ : Type} (N : Nat) : List Value → mS → (Option Value → mS → Option ρ) → Option ρ := fun vs s kk => sR vs 0 fun r0 => rv0 r0 ((f_M_row N s).bind fun p => kk (some (.int p.1)) p.2)
theorem cs_M_row {ρ : Type} {t0 : ρ} {d : Nat} (N : Nat) (hd : 2 + 1 ≤ d) : CallOK Sm R0m oFm nm d t0 232 (C_M_row N) := by
  intro vs s kk h0
  obtain ⟨r0, rfl, h1⟩ := sR_some h0
  obtain ⟨rfl, h2⟩ := rv0_some h1
  obtain ⟨p, hp, hk⟩ := Option.bind_eq_some_iff.mp h2
  exact ⟨_, _, _, hd, m_M_row N hp, hk, fun qy hq hf => by cases y_M_row.symm.trans hq; exact ⟨_, _, rfl, rfl⟩⟩
/-! METHOD PorterDoorsModel.isSet(I)Z -/
set_option maxRecDepth 20000 in
noncomputable def q_M_isSet : mI := (⟨"PorterDoorsModel", "isSet", "(I)Z"⟩, prog_13_method_67_code, 2, (some .boolean), 10, 1766, 139, 1, 1, 1765, 110)
theorem y_M_isSet : mT[234]? = some q_M_isSet := mT_at_5 (k := 34) rfl
noncomputable def bl_M_isSet : List (Nat × List mO) := [(0, [o0 (.aload_n 0), o2 (.getfield 367) 10 46, o1 (.ifCond .eq 21) 25, o0 (.iload_n 1), o1 (.ifCond .lt 17) 25, o0 (.iload_n 1), o0 (.iconst 1), o0 (.aload_n 0), o2 (.invokevirtual 380) 191 1, o0 (.ishl), o1 (.if_icmp .ge 7) 25, o0 (.iconst 1), o1 (.goto 4) 26]),
  (25, [o0 (.iconst 0)]),
  (26, [o0 (.ireturn)])]
theorem bk_M_isSet : okBlks q_M_isSet bl_M_isSet = true := by decide +kernel
noncomputable def oL_M_isSet {ρ : Type} (N : Nat) : List (Nat × (List Value → mS → (Option Value → mS → Option ρ) → Option ρ)) := [(191, C_M_porterMany N)]
theorem oo_M_isSet {ρ : Type} {t0 : ρ} (N : Nat) : OrcOK Sm R0m oFm nm 2 t0 (mOrc (oL_M_isSet N)) := mOrc_OK (List.forall_mem_cons.mpr ⟨cs_M_porterMany N (by decide), mz_nil⟩)
noncomputable def f_M_isSet (N : Nat) (a1 : Int32) (s : mS) : Option (Int32 × mS) :=
  if (gI s 1046 0) = 0 then
    some (0, s)
  else
    if a1 < 0 then
      some (0, s)
    else
      (f_M_porterMany N s).bind fun p1 =>
      if a1 < (ils 1 p1.1) then
        some (1, p1.2)
      else
        some (0, p1.2)
set_option maxRecDepth 100000 in
set_option maxHeartbeats 4000000 in
theorem m_M_isSet (N : Nat) {x9 : Int32} {s9 : mS} (a1 : Int32) {s : mS} (h : f_M_isSet N a1 s = some (x9, s9)) : MetM Sm R0m oFm nm 2 234 [.ref 0, .int a1] s (some (.int x9)) s9 := by
  refine met_of_G (q := q_M_isSet) (t0 := (x9, s9)) y_M_isSet (Nat.le_of_ble_eq_true rfl) ?_
  rw [← h]
  exact G_eq (mEv_G (orc := mOrc (oL_M_isSet N)) (ret := rtZ) (blks := bl_M_isSet) (cuts := []) wOKm (by decide) (oo_M_isSet N) (RetOK_Z rfl) bk_M_isSet (mz_nil)) rfl
noncomputable def C_M_isSet {ρ : Type} (N : Nat) : List Value → mS → (Option Value → mS → Option ρ) → Option ρ := fun vs s kk => sR vs 0 fun r0 => pi1 r0 fun a1 r1 => rv0 r1 ((f_M_isSet N a1 s).bind fun p => kk (some (.int p.1)) p.2)
theorem cs_M_isSet {ρ : Type} {t0 : ρ} {d : Nat} (N : Nat) (hd : 2 + 1 ≤ d) : CallOK Sm R0m oFm nm d t0 234 (C_M_isSet N) := by
  intro vs s kk h0
  obtain ⟨r0, rfl, h1⟩ := sR_some h0
  obtain ⟨a1, r1, rfl, h2⟩ := pi1_some h1
  obtain ⟨rfl, h3⟩ := rv0_some h2
  obtain ⟨p, hp, hk⟩ := Option.bind_eq_some_iff.mp h3
  exact ⟨_, _, _, hd, m_M_isSet N a1 hp, hk, fun qy hq hf => by cases y_M_isSet.symm.trans hq; exact ⟨_, _, rfl, rfl⟩⟩
/-! METHOD PorterDoorsModel.changedBy(I)I -/
set_option maxRecDepth 20000 in
noncomputable def q_M_changedBy : mI := (⟨"PorterDoorsModel", "changedBy", "(I)I"⟩, prog_13_method_68_code, 4, (some .int), 10, 1770, 139, 1, 1, 1769, 111)
theorem y_M_changedBy : mT[235]? = some q_M_changedBy := mT_at_5 (k := 35) rfl
noncomputable def bl_M_changedBy : List (Nat × List mO) := [(0, [o0 (.iconst 0), o0 (.istore_n 2), o0 (.iconst 0), o0 (.istore_n 3)]),
  (4, [o0 (.iload_n 3), o0 (.aload_n 0), o2 (.invokevirtual 380) 191 1, o1 (.if_icmp .ge 27) 36, o0 (.iload_n 1), o0 (.iload_n 3), o0 (.ishr), o0 (.iconst 1), o0 (.iand), o0 (.iconst 1), o1 (.if_icmp .ne 12) 30, o0 (.iload_n 2), o0 (.aload_n 0), o2 (.getfield 118) 10 51, o0 (.iload_n 3), o0 (.iaload), o0 (.ixor), o0 (.istore_n 2)]),
  (30, [o0 (.iinc 3 1), o1 (.goto (-29)) 4]),
  (36, [o0 (.iload_n 2), o0 (.ireturn)])]
theorem bk_M_changedBy : okBlks q_M_changedBy bl_M_changedBy = true := by decide +kernel
noncomputable def oL_M_changedBy {ρ : Type} (N : Nat) : List (Nat × (List Value → mS → (Option Value → mS → Option ρ) → Option ρ)) := [(191, C_M_porterMany N)]
theorem oo_M_changedBy {ρ : Type} {t0 : ρ} (N : Nat) : OrcOK Sm R0m oFm nm 2 t0 (mOrc (oL_M_changedBy N)) := mOrc_OK (List.forall_mem_cons.mpr ⟨cs_M_porterMany N (by decide), mz_nil⟩)
noncomputable def H_M_changedBy_4 {ρ : Type} (k : (Int32 × Int32 × Int32 × mS) → Option ρ) : mL → List Value → mS → Option ρ := fun loc st s => cR loc 0 0 (li1 loc 1 fun v0 => li1 loc 2 fun v1 => li1 loc 3 fun v2 => rv0 st (k (v0, v1, v2, s)))
noncomputable def f_M_changedBy_L4 (N : Nat) (k4 : (Int32 × Int32 × Int32 × mS) → Option (Int32 × mS)) (x : Int32 × Int32 × Int32 × mS) : Option (Int32 × mS) :=
  (f_M_porterMany N x.2.2.2).bind fun p1 =>
  if x.2.2.1 < p1.1 then
    if ((irs x.1 x.2.2.1) &&& 1) = 1 then
      grd (inb x.2.2.1 10) (
      k4 (x.1, (x.2.1 ^^^ (gA p1.2 35 (ix x.2.2.1))), (x.2.2.1 + 1), p1.2))
    else
      k4 (x.1, x.2.1, (x.2.2.1 + 1), p1.2)
  else
    some (x.2.1, p1.2)
set_option maxRecDepth 100000 in
set_option maxHeartbeats 4000000 in
theorem t_M_changedBy_4 (N : Nat) {x9 : Int32} {s9 : mS} {k4 : (Int32 × Int32 × Int32 × mS) → Option (Int32 × mS)} (hk4 : SCd Sm R0m oFm nm 2 q_M_changedBy (some (.int x9), s9) (x9, s9) 4 (H_M_changedBy_4 k4)) : SCd Sm R0m oFm nm 2 q_M_changedBy (some (.int x9), s9) (x9, s9) 4 (H_M_changedBy_4 (f_M_changedBy_L4 N k4)) := by
  intro loc st s
  refine G_cR (fun h0 => ?_)
  refine G_li (fun v0 h1 => ?_)
  refine G_li (fun v1 h2 => ?_)
  refine G_li (fun v2 h3 => ?_)
  refine G_rv0 (fun e9 => ?_)
  subst e9
  refine G_sub (loc0 := [(0, .ref 0), (1, .int v0), (2, .int v1), (3, .int v2)]) (List.forall_mem_cons.mpr ⟨h0, List.forall_mem_cons.mpr ⟨h1, List.forall_mem_cons.mpr ⟨h2, List.forall_mem_cons.mpr ⟨h3, mz_nil⟩⟩⟩⟩) ?_
  exact G_eq (mEv_G (orc := mOrc (oL_M_changedBy N)) (ret := rtI) (blks := bl_M_changedBy) (cuts := [(4, H_M_changedBy_4 k4)]) wOKm (by decide) (oo_M_changedBy N) (RetOK_I rfl) bk_M_changedBy (List.forall_mem_cons.mpr ⟨hk4, mz_nil⟩)) rfl
theorem s_M_changedBy_4 (N : Nat) {x9 : Int32} {s9 : mS} : SCd Sm R0m oFm nm 2 q_M_changedBy (some (.int x9), s9) (x9, s9) 4 (H_M_changedBy_4 (mfix N (f_M_changedBy_L4 N))) := by
  refine mfix_SC (H := H_M_changedBy_4) (fun loc st s => ?_) (fun k hk => t_M_changedBy_4 N hk) N
  refine G_cR (fun h0 => ?_)
  refine G_li (fun v0 h1 => ?_)
  refine G_li (fun v1 h2 => ?_)
  refine G_li (fun v2 h3 => ?_)
  refine G_rv0 (fun e9 => ?_)
  subst e9
  exact G_none
noncomputable def f_M_changedBy (N : Nat) (a1 : Int32) (s : mS) : Option (Int32 × mS) :=
  mfix N (f_M_changedBy_L4 N) (a1, 0, 0, s)
set_option maxRecDepth 100000 in
set_option maxHeartbeats 4000000 in
theorem m_M_changedBy (N : Nat) {x9 : Int32} {s9 : mS} (a1 : Int32) {s : mS} (h : f_M_changedBy N a1 s = some (x9, s9)) : MetM Sm R0m oFm nm 2 235 [.ref 0, .int a1] s (some (.int x9)) s9 := by
  refine met_of_G (q := q_M_changedBy) (t0 := (x9, s9)) y_M_changedBy (Nat.le_of_ble_eq_true rfl) ?_
  rw [← h]
  exact G_eq (mEv_G (orc := mOrc (oL_M_changedBy N)) (ret := rtI) (blks := bl_M_changedBy) (cuts := [(4, H_M_changedBy_4 (mfix N (f_M_changedBy_L4 N)))]) wOKm (by decide) (oo_M_changedBy N) (RetOK_I rfl) bk_M_changedBy (List.forall_mem_cons.mpr ⟨s_M_changedBy_4 N, mz_nil⟩)) rfl
noncomputable def C_M_changedBy {ρ : Type} (N : Nat) : List Value → mS → (Option Value → mS → Option ρ) → Option ρ := fun vs s kk => sR vs 0 fun r0 => pi1 r0 fun a1 r1 => rv0 r1 ((f_M_changedBy N a1 s).bind fun p => kk (some (.int p.1)) p.2)
theorem cs_M_changedBy {ρ : Type} {t0 : ρ} {d : Nat} (N : Nat) (hd : 2 + 1 ≤ d) : CallOK Sm R0m oFm nm d t0 235 (C_M_changedBy N) := by
  intro vs s kk h0
  obtain ⟨r0, rfl, h1⟩ := sR_some h0
  obtain ⟨a1, r1, rfl, h2⟩ := pi1_some h1
  obtain ⟨rfl, h3⟩ := rv0_some h2
  obtain ⟨p, hp, hk⟩ := Option.bind_eq_some_iff.mp h3
  exact ⟨_, _, _, hd, m_M_changedBy N a1 hp, hk, fun qy hq hf => by cases y_M_changedBy.symm.trans hq; exact ⟨_, _, rfl, rfl⟩⟩
/-! METHOD PorterDoorsModel.changes(I)I -/
set_option maxRecDepth 20000 in
noncomputable def q_M_changes : mI := (⟨"PorterDoorsModel", "changes", "(I)I"⟩, prog_13_method_69_code, 2, (some .int), 10, 1762, 139, 1, 1, 1760, 1761)
theorem y_M_changes : mT[233]? = some q_M_changes := mT_at_5 (k := 33) rfl
noncomputable def bl_M_changes : List (Nat × List mO) := [(0, [o0 (.aload_n 0), o0 (.iload_n 1), o2 (.invokevirtual 497) 234 2, o1 (.ifCond .ne 5) 10, o0 (.iconst (-1)), o0 (.ireturn)]),
  (10, [o0 (.aload_n 0), o2 (.invokevirtual 470) 205 1, o0 (.aload_n 0), o0 (.iload_n 1), o2 (.invokevirtual 500) 235 2, o0 (.ireturn)])]
theorem bk_M_changes : okBlks q_M_changes bl_M_changes = true := by decide +kernel
noncomputable def oL_M_changes {ρ : Type} (N : Nat) : List (Nat × (List Value → mS → (Option Value → mS → Option ρ) → Option ρ)) := [(234, C_M_isSet N), (205, C_M_laysOrders N), (235, C_M_changedBy N)]
theorem oo_M_changes {ρ : Type} {t0 : ρ} (N : Nat) : OrcOK Sm R0m oFm nm 8 t0 (mOrc (oL_M_changes N)) := mOrc_OK (List.forall_mem_cons.mpr ⟨cs_M_isSet N (by decide), List.forall_mem_cons.mpr ⟨cs_M_laysOrders N (by decide), List.forall_mem_cons.mpr ⟨cs_M_changedBy N (by decide), mz_nil⟩⟩⟩)
noncomputable def f_M_changes (N : Nat) (a1 : Int32) (s : mS) : Option (Int32 × mS) :=
  (f_M_isSet N a1 s).bind fun p1 =>
  if p1.1 = 0 then
    some ((-1), p1.2)
  else
    (f_M_laysOrders N p1.2).bind fun p2 =>
    (f_M_changedBy N a1 p2).bind fun p3 =>
    some (p3.1, p3.2)
set_option maxRecDepth 100000 in
set_option maxHeartbeats 4000000 in
theorem m_M_changes (N : Nat) {x9 : Int32} {s9 : mS} (a1 : Int32) {s : mS} (h : f_M_changes N a1 s = some (x9, s9)) : MetM Sm R0m oFm nm 8 233 [.ref 0, .int a1] s (some (.int x9)) s9 := by
  refine met_of_G (q := q_M_changes) (t0 := (x9, s9)) y_M_changes (Nat.le_of_ble_eq_true rfl) ?_
  rw [← h]
  exact G_eq (mEv_G (orc := mOrc (oL_M_changes N)) (ret := rtI) (blks := bl_M_changes) (cuts := []) wOKm (by decide) (oo_M_changes N) (RetOK_I rfl) bk_M_changes (mz_nil)) rfl
noncomputable def C_M_changes {ρ : Type} (N : Nat) : List Value → mS → (Option Value → mS → Option ρ) → Option ρ := fun vs s kk => sR vs 0 fun r0 => pi1 r0 fun a1 r1 => rv0 r1 ((f_M_changes N a1 s).bind fun p => kk (some (.int p.1)) p.2)
theorem cs_M_changes {ρ : Type} {t0 : ρ} {d : Nat} (N : Nat) (hd : 8 + 1 ≤ d) : CallOK Sm R0m oFm nm d t0 233 (C_M_changes N) := by
  intro vs s kk h0
  obtain ⟨r0, rfl, h1⟩ := sR_some h0
  obtain ⟨a1, r1, rfl, h2⟩ := pi1_some h1
  obtain ⟨rfl, h3⟩ := rv0_some h2
  obtain ⟨p, hp, hk⟩ := Option.bind_eq_some_iff.mp h3
  exact ⟨_, _, _, hd, m_M_changes N a1 hp, hk, fun qy hq hf => by cases y_M_changes.symm.trans hq; exact ⟨_, _, rfl, rfl⟩⟩
/-! METHOD PorterDoorsModel.areDoors(I)Z -/
set_option maxRecDepth 20000 in
noncomputable def q_M_areDoors : mI := (⟨"PorterDoorsModel", "areDoors", "(I)Z"⟩, prog_13_method_71_code, 2, (some .boolean), 10, 1778, 139, 1, 1, 1777, 112)
theorem y_M_areDoors : mT[237]? = some q_M_areDoors := mT_at_5 (k := 37) rfl
noncomputable def bl_M_areDoors : List (Nat × List mO) := [(0, [o0 (.aload_n 0), o2 (.getfield 367) 10 46, o1 (.ifCond .eq 21) 25, o0 (.iload_n 1), o1 (.ifCond .lt 17) 25, o0 (.iload_n 1), o0 (.iconst 1), o0 (.aload_n 0), o2 (.invokevirtual 377) 190 1, o0 (.ishl), o1 (.if_icmp .ge 7) 25, o0 (.iconst 1), o1 (.goto 4) 26]),
  (25, [o0 (.iconst 0)]),
  (26, [o0 (.ireturn)])]
theorem bk_M_areDoors : okBlks q_M_areDoors bl_M_areDoors = true := by decide +kernel
noncomputable def oL_M_areDoors {ρ : Type} (N : Nat) : List (Nat × (List Value → mS → (Option Value → mS → Option ρ) → Option ρ)) := [(190, C_M_doorMany N)]
theorem oo_M_areDoors {ρ : Type} {t0 : ρ} (N : Nat) : OrcOK Sm R0m oFm nm 2 t0 (mOrc (oL_M_areDoors N)) := mOrc_OK (List.forall_mem_cons.mpr ⟨cs_M_doorMany N (by decide), mz_nil⟩)
noncomputable def f_M_areDoors (N : Nat) (a1 : Int32) (s : mS) : Option (Int32 × mS) :=
  if (gI s 1046 0) = 0 then
    some (0, s)
  else
    if a1 < 0 then
      some (0, s)
    else
      (f_M_doorMany N s).bind fun p1 =>
      if a1 < (ils 1 p1.1) then
        some (1, p1.2)
      else
        some (0, p1.2)
set_option maxRecDepth 100000 in
set_option maxHeartbeats 4000000 in
theorem m_M_areDoors (N : Nat) {x9 : Int32} {s9 : mS} (a1 : Int32) {s : mS} (h : f_M_areDoors N a1 s = some (x9, s9)) : MetM Sm R0m oFm nm 2 237 [.ref 0, .int a1] s (some (.int x9)) s9 := by
  refine met_of_G (q := q_M_areDoors) (t0 := (x9, s9)) y_M_areDoors (Nat.le_of_ble_eq_true rfl) ?_
  rw [← h]
  exact G_eq (mEv_G (orc := mOrc (oL_M_areDoors N)) (ret := rtZ) (blks := bl_M_areDoors) (cuts := []) wOKm (by decide) (oo_M_areDoors N) (RetOK_Z rfl) bk_M_areDoors (mz_nil)) rfl
noncomputable def C_M_areDoors {ρ : Type} (N : Nat) : List Value → mS → (Option Value → mS → Option ρ) → Option ρ := fun vs s kk => sR vs 0 fun r0 => pi1 r0 fun a1 r1 => rv0 r1 ((f_M_areDoors N a1 s).bind fun p => kk (some (.int p.1)) p.2)
theorem cs_M_areDoors {ρ : Type} {t0 : ρ} {d : Nat} (N : Nat) (hd : 2 + 1 ≤ d) : CallOK Sm R0m oFm nm d t0 237 (C_M_areDoors N) := by
  intro vs s kk h0
  obtain ⟨r0, rfl, h1⟩ := sR_some h0
  obtain ⟨a1, r1, rfl, h2⟩ := pi1_some h1
  obtain ⟨rfl, h3⟩ := rv0_some h2
  obtain ⟨p, hp, hk⟩ := Option.bind_eq_some_iff.mp h3
  exact ⟨_, _, _, hd, m_M_areDoors N a1 hp, hk, fun qy hq hf => by cases y_M_areDoors.symm.trans hq; exact ⟨_, _, rfl, rfl⟩⟩
/-! METHOD PorterDoorsModel.fewest(II)I -/
set_option maxRecDepth 20000 in
noncomputable def q_M_fewest : mI := (⟨"PorterDoorsModel", "fewest", "(II)I"⟩, prog_13_method_70_code, 5, (some .int), 10, 1782, 139, 1, 2, 1781, 113)
theorem y_M_fewest : mT[238]? = some q_M_fewest := mT_at_5 (k := 38) rfl
noncomputable def bl_M_fewest : List (Nat × List mO) := [(0, [o0 (.iconst (-1)), o0 (.istore_n 3), o0 (.aload_n 0), o2 (.invokevirtual 470) 205 1, o0 (.iconst 0), o0 (.istore 4)]),
  (9, [o0 (.iload 4), o0 (.iconst 1), o0 (.aload_n 0), o2 (.invokevirtual 380) 191 1, o0 (.ishl), o1 (.if_icmp .ge 44) 61, o0 (.iload_n 3), o0 (.iconst (-1)), o1 (.if_icmp .eq 18) 40, o0 (.iload 4), o2 (.invokestatic 392) 195 1, o0 (.iload_n 3), o2 (.invokestatic 392) 195 1, o1 (.if_icmp .lt 6) 40, o1 (.goto 18) 55]),
  (40, [o0 (.aload_n 0), o0 (.iload 4), o2 (.invokevirtual 500) 235 2, o0 (.iload_n 1), o0 (.iand), o0 (.iload_n 2), o1 (.if_icmp .ne 6) 55, o0 (.iload 4), o0 (.istore_n 3)]),
  (55, [o0 (.iinc 4 1), o1 (.goto (-49)) 9]),
  (61, [o0 (.iload_n 3), o0 (.ireturn)])]
theorem bk_M_fewest : okBlks q_M_fewest bl_M_fewest = true := by decide +kernel
noncomputable def oL_M_fewest {ρ : Type} (N : Nat) : List (Nat × (List Value → mS → (Option Value → mS → Option ρ) → Option ρ)) := [(205, C_M_laysOrders N), (191, C_M_porterMany N), (195, C_M_bits N), (235, C_M_changedBy N)]
theorem oo_M_fewest {ρ : Type} {t0 : ρ} (N : Nat) : OrcOK Sm R0m oFm nm 8 t0 (mOrc (oL_M_fewest N)) := mOrc_OK (List.forall_mem_cons.mpr ⟨cs_M_laysOrders N (by decide), List.forall_mem_cons.mpr ⟨cs_M_porterMany N (by decide), List.forall_mem_cons.mpr ⟨cs_M_bits N (by decide), List.forall_mem_cons.mpr ⟨cs_M_changedBy N (by decide), mz_nil⟩⟩⟩⟩)
noncomputable def H_M_fewest_9 {ρ : Type} (k : (Int32 × Int32 × Int32 × Int32 × mS) → Option ρ) : mL → List Value → mS → Option ρ := fun loc st s => cR loc 0 0 (li1 loc 1 fun v0 => li1 loc 2 fun v1 => li1 loc 3 fun v2 => li1 loc 4 fun v3 => rv0 st (k (v0, v1, v2, v3, s)))
noncomputable def H_M_fewest_40 {ρ : Type} (k : (Int32 × Int32 × Int32 × Int32 × mS) → Option ρ) : mL → List Value → mS → Option ρ := fun loc st s => cR loc 0 0 (li1 loc 1 fun v0 => li1 loc 2 fun v1 => li1 loc 3 fun v2 => li1 loc 4 fun v3 => rv0 st (k (v0, v1, v2, v3, s)))
noncomputable def f_M_fewest_j40 (N : Nat) (k9 : (Int32 × Int32 × Int32 × Int32 × mS) → Option (Int32 × mS)) (x : Int32 × Int32 × Int32 × Int32 × mS) : Option (Int32 × mS) :=
  (f_M_changedBy N x.2.2.2.1 x.2.2.2.2).bind fun p1 =>
  if (p1.1 &&& x.1) = x.2.1 then
    k9 (x.1, x.2.1, x.2.2.2.1, (x.2.2.2.1 + 1), p1.2)
  else
    k9 (x.1, x.2.1, x.2.2.1, (x.2.2.2.1 + 1), p1.2)
set_option maxRecDepth 100000 in
set_option maxHeartbeats 4000000 in
theorem s_M_fewest_40 (N : Nat) {x9 : Int32} {s9 : mS} {k9 : (Int32 × Int32 × Int32 × Int32 × mS) → Option (Int32 × mS)} (hk9 : SCd Sm R0m oFm nm 8 q_M_fewest (some (.int x9), s9) (x9, s9) 9 (H_M_fewest_9 k9)) : SCd Sm R0m oFm nm 8 q_M_fewest (some (.int x9), s9) (x9, s9) 40 (H_M_fewest_40 (f_M_fewest_j40 N k9)) := by
  intro loc st s
  refine G_cR (fun h0 => ?_)
  refine G_li (fun v0 h1 => ?_)
  refine G_li (fun v1 h2 => ?_)
  refine G_li (fun v2 h3 => ?_)
  refine G_li (fun v3 h4 => ?_)
  refine G_rv0 (fun e9 => ?_)
  subst e9
  refine G_sub (loc0 := [(0, .ref 0), (1, .int v0), (2, .int v1), (3, .int v2), (4, .int v3)]) (List.forall_mem_cons.mpr ⟨h0, List.forall_mem_cons.mpr ⟨h1, List.forall_mem_cons.mpr ⟨h2, List.forall_mem_cons.mpr ⟨h3, List.forall_mem_cons.mpr ⟨h4, mz_nil⟩⟩⟩⟩⟩) ?_
  exact G_eq (mEv_G (orc := mOrc (oL_M_fewest N)) (ret := rtI) (blks := bl_M_fewest) (cuts := [(9, H_M_fewest_9 k9)]) wOKm (by decide) (oo_M_fewest N) (RetOK_I rfl) bk_M_fewest (List.forall_mem_cons.mpr ⟨hk9, mz_nil⟩)) rfl
noncomputable def f_M_fewest_L9 (N : Nat) (k9 : (Int32 × Int32 × Int32 × Int32 × mS) → Option (Int32 × mS)) (x : Int32 × Int32 × Int32 × Int32 × mS) : Option (Int32 × mS) :=
  (f_M_porterMany N x.2.2.2.2).bind fun p1 =>
  if x.2.2.2.1 < (ils 1 p1.1) then
    if x.2.2.1 = (-1) then
      f_M_fewest_j40 N k9 (x.1, x.2.1, x.2.2.1, x.2.2.2.1, p1.2)
    else
      (f_M_bits N x.2.2.2.1 p1.2).bind fun p2 =>
      (f_M_bits N x.2.2.1 p2.2).bind fun p3 =>
      if p2.1 < p3.1 then
        f_M_fewest_j40 N k9 (x.1, x.2.1, x.2.2.1, x.2.2.2.1, p3.2)
      else
        k9 (x.1, x.2.1, x.2.2.1, (x.2.2.2.1 + 1), p3.2)
  else
    some (x.2.2.1, p1.2)
set_option maxRecDepth 100000 in
set_option maxHeartbeats 4000000 in
theorem t_M_fewest_9 (N : Nat) {x9 : Int32} {s9 : mS} {k9 : (Int32 × Int32 × Int32 × Int32 × mS) → Option (Int32 × mS)} (hk9 : SCd Sm R0m oFm nm 8 q_M_fewest (some (.int x9), s9) (x9, s9) 9 (H_M_fewest_9 k9)) : SCd Sm R0m oFm nm 8 q_M_fewest (some (.int x9), s9) (x9, s9) 9 (H_M_fewest_9 (f_M_fewest_L9 N k9)) := by
  intro loc st s
  refine G_cR (fun h0 => ?_)
  refine G_li (fun v0 h1 => ?_)
  refine G_li (fun v1 h2 => ?_)
  refine G_li (fun v2 h3 => ?_)
  refine G_li (fun v3 h4 => ?_)
  refine G_rv0 (fun e9 => ?_)
  subst e9
  refine G_sub (loc0 := [(0, .ref 0), (1, .int v0), (2, .int v1), (3, .int v2), (4, .int v3)]) (List.forall_mem_cons.mpr ⟨h0, List.forall_mem_cons.mpr ⟨h1, List.forall_mem_cons.mpr ⟨h2, List.forall_mem_cons.mpr ⟨h3, List.forall_mem_cons.mpr ⟨h4, mz_nil⟩⟩⟩⟩⟩) ?_
  exact G_eq (mEv_G (orc := mOrc (oL_M_fewest N)) (ret := rtI) (blks := bl_M_fewest) (cuts := [(9, H_M_fewest_9 k9), (40, H_M_fewest_40 (f_M_fewest_j40 N k9))]) wOKm (by decide) (oo_M_fewest N) (RetOK_I rfl) bk_M_fewest (List.forall_mem_cons.mpr ⟨hk9, List.forall_mem_cons.mpr ⟨s_M_fewest_40 N hk9, mz_nil⟩⟩)) rfl
theorem s_M_fewest_9 (N : Nat) {x9 : Int32} {s9 : mS} : SCd Sm R0m oFm nm 8 q_M_fewest (some (.int x9), s9) (x9, s9) 9 (H_M_fewest_9 (mfix N (f_M_fewest_L9 N))) := by
  refine mfix_SC (H := H_M_fewest_9) (fun loc st s => ?_) (fun k hk => t_M_fewest_9 N hk) N
  refine G_cR (fun h0 => ?_)
  refine G_li (fun v0 h1 => ?_)
  refine G_li (fun v1 h2 => ?_)
  refine G_li (fun v2 h3 => ?_)
  refine G_li (fun v3 h4 => ?_)
  refine G_rv0 (fun e9 => ?_)
  subst e9
  exact G_none
noncomputable def f_M_fewest (N : Nat) (a1 : Int32) (a2 : Int32) (s : mS) : Option (Int32 × mS) :=
  (f_M_laysOrders N s).bind fun p1 =>
  mfix N (f_M_fewest_L9 N) (a1, a2, (-1), 0, p1)
set_option maxRecDepth 100000 in
set_option maxHeartbeats 4000000 in
theorem m_M_fewest (N : Nat) {x9 : Int32} {s9 : mS} (a1 : Int32) (a2 : Int32) {s : mS} (h : f_M_fewest N a1 a2 s = some (x9, s9)) : MetM Sm R0m oFm nm 8 238 [.ref 0, .int a1, .int a2] s (some (.int x9)) s9 := by
  refine met_of_G (q := q_M_fewest) (t0 := (x9, s9)) y_M_fewest (Nat.le_of_ble_eq_true rfl) ?_
  rw [← h]
  exact G_eq (mEv_G (orc := mOrc (oL_M_fewest N)) (ret := rtI) (blks := bl_M_fewest) (cuts := [(9, H_M_fewest_9 (mfix N (f_M_fewest_L9 N)))]) wOKm (by decide) (oo_M_fewest N) (RetOK_I rfl) bk_M_fewest (List.forall_mem_cons.mpr ⟨s_M_fewest_9 N, mz_nil⟩)) rfl
noncomputable def C_M_fewest {ρ : Type} (N : Nat) : List Value → mS → (Option Value → mS → Option ρ) → Option ρ := fun vs s kk => sR vs 0 fun r0 => pi1 r0 fun a1 r1 => pi1 r1 fun a2 r2 => rv0 r2 ((f_M_fewest N a1 a2 s).bind fun p => kk (some (.int p.1)) p.2)
theorem cs_M_fewest {ρ : Type} {t0 : ρ} {d : Nat} (N : Nat) (hd : 8 + 1 ≤ d) : CallOK Sm R0m oFm nm d t0 238 (C_M_fewest N) := by
  intro vs s kk h0
  obtain ⟨r0, rfl, h1⟩ := sR_some h0
  obtain ⟨a1, r1, rfl, h2⟩ := pi1_some h1
  obtain ⟨a2, r2, rfl, h3⟩ := pi1_some h2
  obtain ⟨rfl, h4⟩ := rv0_some h3
  obtain ⟨p, hp, hk⟩ := Option.bind_eq_some_iff.mp h4
  exact ⟨_, _, _, hd, m_M_fewest N a1 a2 hp, hk, fun qy hq hf => by cases y_M_fewest.symm.trans hq; exact ⟨_, _, rfl, rfl⟩⟩
/-! METHOD PorterDoorsModel.sends(II)I -/
set_option maxRecDepth 20000 in
noncomputable def q_M_sends : mI := (⟨"PorterDoorsModel", "sends", "(II)I"⟩, prog_13_method_72_code, 3, (some .int), 10, 1774, 139, 1, 2, 1772, 1773)
theorem y_M_sends : mT[236]? = some q_M_sends := mT_at_5 (k := 36) rfl
noncomputable def bl_M_sends : List (Nat × List mO) := [(0, [o0 (.aload_n 0), o0 (.iload_n 1), o2 (.invokevirtual 503) 237 2, o1 (.ifCond .eq 19) 24, o0 (.aload_n 0), o0 (.iload_n 2), o2 (.invokevirtual 503) 237 2, o1 (.ifCond .eq 11) 24, o0 (.iload_n 2), o0 (.iload_n 1), o0 (.iconst (-1)), o0 (.ixor), o0 (.iand), o1 (.ifCond .eq 5) 26]),
  (24, [o0 (.iconst (-1)), o0 (.ireturn)]),
  (26, [o0 (.aload_n 0), o0 (.iload_n 1), o0 (.aload_n 0), o2 (.invokevirtual 389) 193 1, o0 (.iload_n 2), o0 (.ixor), o0 (.iload_n 1), o0 (.iand), o2 (.invokevirtual 506) 238 3, o0 (.ireturn)])]
theorem bk_M_sends : okBlks q_M_sends bl_M_sends = true := by decide +kernel
noncomputable def oL_M_sends {ρ : Type} (N : Nat) : List (Nat × (List Value → mS → (Option Value → mS → Option ρ) → Option ρ)) := [(237, C_M_areDoors N), (193, C_M_openSet N), (238, C_M_fewest N)]
theorem oo_M_sends {ρ : Type} {t0 : ρ} (N : Nat) : OrcOK Sm R0m oFm nm 9 t0 (mOrc (oL_M_sends N)) := mOrc_OK (List.forall_mem_cons.mpr ⟨cs_M_areDoors N (by decide), List.forall_mem_cons.mpr ⟨cs_M_openSet N (by decide), List.forall_mem_cons.mpr ⟨cs_M_fewest N (by decide), mz_nil⟩⟩⟩)
noncomputable def f_M_sends (N : Nat) (a1 : Int32) (a2 : Int32) (s : mS) : Option (Int32 × mS) :=
  (f_M_areDoors N a1 s).bind fun p1 =>
  if p1.1 = 0 then
    some ((-1), p1.2)
  else
    (f_M_areDoors N a2 p1.2).bind fun p2 =>
    if p2.1 = 0 then
      some ((-1), p2.2)
    else
      if (a2 &&& (a1 ^^^ (-1))) = 0 then
        (f_M_openSet N p2.2).bind fun p3 =>
        (f_M_fewest N a1 ((p3.1 ^^^ a2) &&& a1) p3.2).bind fun p4 =>
        some (p4.1, p4.2)
      else
        some ((-1), p2.2)
set_option maxRecDepth 100000 in
set_option maxHeartbeats 4000000 in
theorem m_M_sends (N : Nat) {x9 : Int32} {s9 : mS} (a1 : Int32) (a2 : Int32) {s : mS} (h : f_M_sends N a1 a2 s = some (x9, s9)) : MetM Sm R0m oFm nm 9 236 [.ref 0, .int a1, .int a2] s (some (.int x9)) s9 := by
  refine met_of_G (q := q_M_sends) (t0 := (x9, s9)) y_M_sends (Nat.le_of_ble_eq_true rfl) ?_
  rw [← h]
  exact G_eq (mEv_G (orc := mOrc (oL_M_sends N)) (ret := rtI) (blks := bl_M_sends) (cuts := []) wOKm (by decide) (oo_M_sends N) (RetOK_I rfl) bk_M_sends (mz_nil)) rfl
noncomputable def C_M_sends {ρ : Type} (N : Nat) : List Value → mS → (Option Value → mS → Option ρ) → Option ρ := fun vs s kk => sR vs 0 fun r0 => pi1 r0 fun a1 r1 => pi1 r1 fun a2 r2 => rv0 r2 ((f_M_sends N a1 a2 s).bind fun p => kk (some (.int p.1)) p.2)
theorem cs_M_sends {ρ : Type} {t0 : ρ} {d : Nat} (N : Nat) (hd : 9 + 1 ≤ d) : CallOK Sm R0m oFm nm d t0 236 (C_M_sends N) := by
  intro vs s kk h0
  obtain ⟨r0, rfl, h1⟩ := sR_some h0
  obtain ⟨a1, r1, rfl, h2⟩ := pi1_some h1
  obtain ⟨a2, r2, rfl, h3⟩ := pi1_some h2
  obtain ⟨rfl, h4⟩ := rv0_some h3
  obtain ⟨p, hp, hk⟩ := Option.bind_eq_some_iff.mp h4
  exact ⟨_, _, _, hd, m_M_sends N a1 a2 hp, hk, fun qy hq hf => by cases y_M_sends.symm.trans hq; exact ⟨_, _, rfl, rfl⟩⟩
/-! METHOD PorterDoorsModel.alike()I -/
set_option maxRecDepth 20000 in
noncomputable def q_M_alike : mI := (⟨"PorterDoorsModel", "alike", "()I"⟩, prog_13_method_73_code, 3, (some .int), 10, 1786, 139, 1, 0, 1784, 1785)
theorem y_M_alike : mT[239]? = some q_M_alike := mT_at_5 (k := 39) rfl
noncomputable def bl_M_alike : List (Nat × List mO) := [(0, [o0 (.aload_n 0), o2 (.getfield 367) 10 46, o1 (.ifCond .ne 5) 9, o0 (.iconst (-1)), o0 (.ireturn)]),
  (9, [o0 (.iconst 0), o0 (.istore_n 1), o0 (.aload_n 0), o2 (.invokevirtual 470) 205 1, o0 (.iconst 0), o0 (.istore_n 2)]),
  (17, [o0 (.iload_n 2), o0 (.iconst 1), o0 (.aload_n 0), o2 (.invokevirtual 380) 191 1, o0 (.ishl), o1 (.if_icmp .ge 20) 44, o0 (.aload_n 0), o0 (.iload_n 2), o2 (.invokevirtual 500) 235 2, o1 (.ifCond .ne 6) 38, o0 (.iinc 1 1)]),
  (38, [o0 (.iinc 2 1), o1 (.goto (-24)) 17]),
  (44, [o0 (.iload_n 1), o0 (.ireturn)])]
theorem bk_M_alike : okBlks q_M_alike bl_M_alike = true := by decide +kernel
noncomputable def oL_M_alike {ρ : Type} (N : Nat) : List (Nat × (List Value → mS → (Option Value → mS → Option ρ) → Option ρ)) := [(205, C_M_laysOrders N), (191, C_M_porterMany N), (235, C_M_changedBy N)]
theorem oo_M_alike {ρ : Type} {t0 : ρ} (N : Nat) : OrcOK Sm R0m oFm nm 8 t0 (mOrc (oL_M_alike N)) := mOrc_OK (List.forall_mem_cons.mpr ⟨cs_M_laysOrders N (by decide), List.forall_mem_cons.mpr ⟨cs_M_porterMany N (by decide), List.forall_mem_cons.mpr ⟨cs_M_changedBy N (by decide), mz_nil⟩⟩⟩)
noncomputable def H_M_alike_17 {ρ : Type} (k : (Int32 × Int32 × mS) → Option ρ) : mL → List Value → mS → Option ρ := fun loc st s => cR loc 0 0 (li1 loc 1 fun v0 => li1 loc 2 fun v1 => rv0 st (k (v0, v1, s)))
noncomputable def f_M_alike_L17 (N : Nat) (k17 : (Int32 × Int32 × mS) → Option (Int32 × mS)) (x : Int32 × Int32 × mS) : Option (Int32 × mS) :=
  (f_M_porterMany N x.2.2).bind fun p1 =>
  if x.2.1 < (ils 1 p1.1) then
    (f_M_changedBy N x.2.1 p1.2).bind fun p2 =>
    if p2.1 = 0 then
      k17 ((x.1 + 1), (x.2.1 + 1), p2.2)
    else
      k17 (x.1, (x.2.1 + 1), p2.2)
  else
    some (x.1, p1.2)
set_option maxRecDepth 100000 in
set_option maxHeartbeats 4000000 in
theorem t_M_alike_17 (N : Nat) {x9 : Int32} {s9 : mS} {k17 : (Int32 × Int32 × mS) → Option (Int32 × mS)} (hk17 : SCd Sm R0m oFm nm 8 q_M_alike (some (.int x9), s9) (x9, s9) 17 (H_M_alike_17 k17)) : SCd Sm R0m oFm nm 8 q_M_alike (some (.int x9), s9) (x9, s9) 17 (H_M_alike_17 (f_M_alike_L17 N k17)) := by
  intro loc st s
  refine G_cR (fun h0 => ?_)
  refine G_li (fun v0 h1 => ?_)
  refine G_li (fun v1 h2 => ?_)
  refine G_rv0 (fun e9 => ?_)
  subst e9
  refine G_sub (loc0 := [(0, .ref 0), (1, .int v0), (2, .int v1)]) (List.forall_mem_cons.mpr ⟨h0, List.forall_mem_cons.mpr ⟨h1, List.forall_mem_cons.mpr ⟨h2, mz_nil⟩⟩⟩) ?_
  exact G_eq (mEv_G (orc := mOrc (oL_M_alike N)) (ret := rtI) (blks := bl_M_alike) (cuts := [(17, H_M_alike_17 k17)]) wOKm (by decide) (oo_M_alike N) (RetOK_I rfl) bk_M_alike (List.forall_mem_cons.mpr ⟨hk17, mz_nil⟩)) rfl
theorem s_M_alike_17 (N : Nat) {x9 : Int32} {s9 : mS} : SCd Sm R0m oFm nm 8 q_M_alike (some (.int x9), s9) (x9, s9) 17 (H_M_alike_17 (mfix N (f_M_alike_L17 N))) := by
  refine mfix_SC (H := H_M_alike_17) (fun loc st s => ?_) (fun k hk => t_M_alike_17 N hk) N
  refine G_cR (fun h0 => ?_)
  refine G_li (fun v0 h1 => ?_)
  refine G_li (fun v1 h2 => ?_)
  refine G_rv0 (fun e9 => ?_)
  subst e9
  exact G_none
noncomputable def f_M_alike (N : Nat) (s : mS) : Option (Int32 × mS) :=
  if (gI s 1046 0) = 0 then
    some ((-1), s)
  else
    (f_M_laysOrders N s).bind fun p1 =>
    mfix N (f_M_alike_L17 N) (0, 0, p1)
set_option maxRecDepth 100000 in
set_option maxHeartbeats 4000000 in
theorem m_M_alike (N : Nat) {x9 : Int32} {s9 : mS} {s : mS} (h : f_M_alike N s = some (x9, s9)) : MetM Sm R0m oFm nm 8 239 [.ref 0] s (some (.int x9)) s9 := by
  refine met_of_G (q := q_M_alike) (t0 := (x9, s9)) y_M_alike (Nat.le_of_ble_eq_true rfl) ?_
  rw [← h]
  exact G_eq (mEv_G (orc := mOrc (oL_M_alike N)) (ret := rtI) (blks := bl_M_alike) (cuts := [(17, H_M_alike_17 (mfix N (f_M_alike_L17 N)))]) wOKm (by decide) (oo_M_alike N) (RetOK_I rfl) bk_M_alike (List.forall_mem_cons.mpr ⟨s_M_alike_17 N, mz_nil⟩)) rfl
noncomputable def C_M_alike {ρ : Type} (N : Nat) : List Value → mS → (Option Value → mS → Option ρ) → Option ρ := fun vs s kk => sR vs 0 fun r0 => rv0 r0 ((f_M_alike N s).bind fun p => kk (some (.int p.1)) p.2)
theorem cs_M_alike {ρ : Type} {t0 : ρ} {d : Nat} (N : Nat) (hd : 8 + 1 ≤ d) : CallOK Sm R0m oFm nm d t0 239 (C_M_alike N) := by
  intro vs s kk h0
  obtain ⟨r0, rfl, h1⟩ := sR_some h0
  obtain ⟨rfl, h2⟩ := rv0_some h1
  obtain ⟨p, hp, hk⟩ := Option.bind_eq_some_iff.mp h2
  exact ⟨_, _, _, hd, m_M_alike N hp, hk, fun qy hq hf => by cases y_M_alike.symm.trans hq; exact ⟨_, _, rfl, rfl⟩⟩
/-! METHOD PorterDoorsModel.alone(I)I -/
set_option maxRecDepth 20000 in
noncomputable def q_M_alone : mI := (⟨"PorterDoorsModel", "alone", "(I)I"⟩, prog_13_method_74_code, 2, (some .int), 10, 1790, 139, 1, 1, 1788, 1789)
theorem y_M_alone : mT[240]? = some q_M_alone := mT_at_6 (k := 0) rfl
noncomputable def bl_M_alone : List (Nat × List mO) := [(0, [o0 (.aload_n 0), o0 (.iload_n 1), o0 (.i2l), o2 (.invokevirtual 473) 202 2, o1 (.ifCond .eq 21) 27, o0 (.aload_n 0), o0 (.iconst 1), o0 (.aload_n 0), o2 (.invokevirtual 377) 190 1, o0 (.ishl), o0 (.iconst 1), o0 (.isub), o0 (.iconst 1), o0 (.iload_n 1), o0 (.ishl), o2 (.invokevirtual 506) 238 3, o1 (.goto 4) 28]),
  (27, [o0 (.iconst (-1))]),
  (28, [o0 (.ireturn)])]
theorem bk_M_alone : okBlks q_M_alone bl_M_alone = true := by decide +kernel
noncomputable def oL_M_alone {ρ : Type} (N : Nat) : List (Nat × (List Value → mS → (Option Value → mS → Option ρ) → Option ρ)) := [(202, C_M_isDoor N), (190, C_M_doorMany N), (238, C_M_fewest N)]
theorem oo_M_alone {ρ : Type} {t0 : ρ} (N : Nat) : OrcOK Sm R0m oFm nm 9 t0 (mOrc (oL_M_alone N)) := mOrc_OK (List.forall_mem_cons.mpr ⟨cs_M_isDoor N (by decide), List.forall_mem_cons.mpr ⟨cs_M_doorMany N (by decide), List.forall_mem_cons.mpr ⟨cs_M_fewest N (by decide), mz_nil⟩⟩⟩)
noncomputable def f_M_alone (N : Nat) (a1 : Int32) (s : mS) : Option (Int32 × mS) :=
  (f_M_isDoor N (a1).toInt64 s).bind fun p1 =>
  if p1.1 = 0 then
    some ((-1), p1.2)
  else
    (f_M_doorMany N p1.2).bind fun p2 =>
    (f_M_fewest N ((ils 1 p2.1) - 1) (ils 1 a1) p2.2).bind fun p3 =>
    some (p3.1, p3.2)
set_option maxRecDepth 100000 in
set_option maxHeartbeats 4000000 in
theorem m_M_alone (N : Nat) {x9 : Int32} {s9 : mS} (a1 : Int32) {s : mS} (h : f_M_alone N a1 s = some (x9, s9)) : MetM Sm R0m oFm nm 9 240 [.ref 0, .int a1] s (some (.int x9)) s9 := by
  refine met_of_G (q := q_M_alone) (t0 := (x9, s9)) y_M_alone (Nat.le_of_ble_eq_true rfl) ?_
  rw [← h]
  exact G_eq (mEv_G (orc := mOrc (oL_M_alone N)) (ret := rtI) (blks := bl_M_alone) (cuts := []) wOKm (by decide) (oo_M_alone N) (RetOK_I rfl) bk_M_alone (mz_nil)) rfl
noncomputable def C_M_alone {ρ : Type} (N : Nat) : List Value → mS → (Option Value → mS → Option ρ) → Option ρ := fun vs s kk => sR vs 0 fun r0 => pi1 r0 fun a1 r1 => rv0 r1 ((f_M_alone N a1 s).bind fun p => kk (some (.int p.1)) p.2)
theorem cs_M_alone {ρ : Type} {t0 : ρ} {d : Nat} (N : Nat) (hd : 9 + 1 ≤ d) : CallOK Sm R0m oFm nm d t0 240 (C_M_alone N) := by
  intro vs s kk h0
  obtain ⟨r0, rfl, h1⟩ := sR_some h0
  obtain ⟨a1, r1, rfl, h2⟩ := pi1_some h1
  obtain ⟨rfl, h3⟩ := rv0_some h2
  obtain ⟨p, hp, hk⟩ := Option.bind_eq_some_iff.mp h3
  exact ⟨_, _, _, hd, m_M_alone N a1 hp, hk, fun qy hq hf => by cases y_M_alone.symm.trans hq; exact ⟨_, _, rfl, rfl⟩⟩
/-! METHOD PorterDoorsModel.widest(I)I -/
set_option maxRecDepth 20000 in
noncomputable def q_M_widest : mI := (⟨"PorterDoorsModel", "widest", "(I)I"⟩, prog_13_method_75_code, 6, (some .int), 10, 1794, 139, 1, 1, 1792, 1793)
theorem y_M_widest : mT[241]? = some q_M_widest := mT_at_6 (k := 1) rfl
noncomputable def bl_M_widest : List (Nat × List mO) := [(0, [o0 (.aload_n 0), o2 (.getfield 367) 10 46, o1 (.ifCond .eq 13) 17, o0 (.iload_n 1), o0 (.i2l), o0 (.lconst 0), o0 (.lconst 1), o2 (.invokestatic 270) 155 3, o1 (.ifCond .ne 5) 19]),
  (17, [o0 (.iconst (-1)), o0 (.ireturn)]),
  (19, [o0 (.iconst 0), o0 (.istore_n 2), o0 (.iconst (-1)), o0 (.istore_n 3), o0 (.aload_n 0), o2 (.invokevirtual 470) 205 1, o0 (.iconst 0), o0 (.istore 4)]),
  (30, [o0 (.iload 4), o0 (.iconst 1), o0 (.aload_n 0), o2 (.invokevirtual 380) 191 1, o0 (.ishl), o1 (.if_icmp .ge 58) 96, o0 (.aload_n 0), o2 (.invokevirtual 389) 193 1, o0 (.aload_n 0), o0 (.iload 4), o2 (.invokevirtual 500) 235 2, o0 (.ixor), o2 (.invokestatic 392) 195 1, o0 (.istore 5), o0 (.iload 5), o0 (.iload_n 3), o1 (.if_icmp .lt 30) 90, o0 (.iload 5), o0 (.iload_n 3), o1 (.if_icmp .ne 18) 84, o0 (.iload 4), o2 (.invokestatic 392) 195 1, o0 (.iload_n 2), o2 (.invokestatic 392) 195 1, o1 (.if_icmp .lt 6) 84, o1 (.goto 9) 90]),
  (84, [o0 (.iload 4), o0 (.istore_n 2), o0 (.iload 5), o0 (.istore_n 3)]),
  (90, [o0 (.iinc 4 1), o1 (.goto (-63)) 30]),
  (96, [o0 (.iload_n 1), o1 (.ifCond .ne 7) 104, o0 (.iload_n 2), o1 (.goto 4) 105]),
  (104, [o0 (.iload_n 3)]),
  (105, [o0 (.ireturn)])]
theorem bk_M_widest : okBlks q_M_widest bl_M_widest = true := by decide +kernel
noncomputable def oL_M_widest {ρ : Type} (N : Nat) : List (Nat × (List Value → mS → (Option Value → mS → Option ρ) → Option ρ)) := [(155, C_M_isIn N), (205, C_M_laysOrders N), (191, C_M_porterMany N), (193, C_M_openSet N), (235, C_M_changedBy N), (195, C_M_bits N)]
theorem oo_M_widest {ρ : Type} {t0 : ρ} (N : Nat) : OrcOK Sm R0m oFm nm 8 t0 (mOrc (oL_M_widest N)) := mOrc_OK (List.forall_mem_cons.mpr ⟨cs_M_isIn N (by decide), List.forall_mem_cons.mpr ⟨cs_M_laysOrders N (by decide), List.forall_mem_cons.mpr ⟨cs_M_porterMany N (by decide), List.forall_mem_cons.mpr ⟨cs_M_openSet N (by decide), List.forall_mem_cons.mpr ⟨cs_M_changedBy N (by decide), List.forall_mem_cons.mpr ⟨cs_M_bits N (by decide), mz_nil⟩⟩⟩⟩⟩⟩)
noncomputable def H_M_widest_30 {ρ : Type} (k : (Int32 × Int32 × Int32 × Int32 × mS) → Option ρ) : mL → List Value → mS → Option ρ := fun loc st s => cR loc 0 0 (li1 loc 1 fun v0 => li1 loc 2 fun v1 => li1 loc 3 fun v2 => li1 loc 4 fun v3 => rv0 st (k (v0, v1, v2, v3, s)))
noncomputable def f_M_widest_L30 (N : Nat) (k30 : (Int32 × Int32 × Int32 × Int32 × mS) → Option (Int32 × mS)) (x : Int32 × Int32 × Int32 × Int32 × mS) : Option (Int32 × mS) :=
  (f_M_porterMany N x.2.2.2.2).bind fun p1 =>
  if x.2.2.2.1 < (ils 1 p1.1) then
    (f_M_openSet N p1.2).bind fun p2 =>
    (f_M_changedBy N x.2.2.2.1 p2.2).bind fun p3 =>
    (f_M_bits N (p2.1 ^^^ p3.1) p3.2).bind fun p4 =>
    if p4.1 < x.2.2.1 then
      k30 (x.1, x.2.1, x.2.2.1, (x.2.2.2.1 + 1), p4.2)
    else
      if p4.1 = x.2.2.1 then
        (f_M_bits N x.2.2.2.1 p4.2).bind fun p5 =>
        (f_M_bits N x.2.1 p5.2).bind fun p6 =>
        if p5.1 < p6.1 then
          k30 (x.1, x.2.2.2.1, p4.1, (x.2.2.2.1 + 1), p6.2)
        else
          k30 (x.1, x.2.1, x.2.2.1, (x.2.2.2.1 + 1), p6.2)
      else
        k30 (x.1, x.2.2.2.1, p4.1, (x.2.2.2.1 + 1), p4.2)
  else
    if x.1 = 0 then
      some (x.2.1, p1.2)
    else
      some (x.2.2.1, p1.2)
set_option maxRecDepth 100000 in
set_option maxHeartbeats 4000000 in
theorem t_M_widest_30 (N : Nat) {x9 : Int32} {s9 : mS} {k30 : (Int32 × Int32 × Int32 × Int32 × mS) → Option (Int32 × mS)} (hk30 : SCd Sm R0m oFm nm 8 q_M_widest (some (.int x9), s9) (x9, s9) 30 (H_M_widest_30 k30)) : SCd Sm R0m oFm nm 8 q_M_widest (some (.int x9), s9) (x9, s9) 30 (H_M_widest_30 (f_M_widest_L30 N k30)) := by
  intro loc st s
  refine G_cR (fun h0 => ?_)
  refine G_li (fun v0 h1 => ?_)
  refine G_li (fun v1 h2 => ?_)
  refine G_li (fun v2 h3 => ?_)
  refine G_li (fun v3 h4 => ?_)
  refine G_rv0 (fun e9 => ?_)
  subst e9
  refine G_sub (loc0 := [(0, .ref 0), (1, .int v0), (2, .int v1), (3, .int v2), (4, .int v3)]) (List.forall_mem_cons.mpr ⟨h0, List.forall_mem_cons.mpr ⟨h1, List.forall_mem_cons.mpr ⟨h2, List.forall_mem_cons.mpr ⟨h3, List.forall_mem_cons.mpr ⟨h4, mz_nil⟩⟩⟩⟩⟩) ?_
  exact G_eq (mEv_G (orc := mOrc (oL_M_widest N)) (ret := rtI) (blks := bl_M_widest) (cuts := [(30, H_M_widest_30 k30)]) wOKm (by decide) (oo_M_widest N) (RetOK_I rfl) bk_M_widest (List.forall_mem_cons.mpr ⟨hk30, mz_nil⟩)) rfl
theorem s_M_widest_30 (N : Nat) {x9 : Int32} {s9 : mS} : SCd Sm R0m oFm nm 8 q_M_widest (some (.int x9), s9) (x9, s9) 30 (H_M_widest_30 (mfix N (f_M_widest_L30 N))) := by
  refine mfix_SC (H := H_M_widest_30) (fun loc st s => ?_) (fun k hk => t_M_widest_30 N hk) N
  refine G_cR (fun h0 => ?_)
  refine G_li (fun v0 h1 => ?_)
  refine G_li (fun v1 h2 => ?_)
  refine G_li (fun v2 h3 => ?_)
  refine G_li (fun v3 h4 => ?_)
  refine G_rv0 (fun e9 => ?_)
  subst e9
  exact G_none
noncomputable def f_M_widest (N : Nat) (a1 : Int32) (s : mS) : Option (Int32 × mS) :=
  if (gI s 1046 0) = 0 then
    some ((-1), s)
  else
    (f_M_isIn N (a1).toInt64 0 1 s).bind fun p1 =>
    if p1.1 = 0 then
      some ((-1), p1.2)
    else
      (f_M_laysOrders N p1.2).bind fun p2 =>
      mfix N (f_M_widest_L30 N) (a1, 0, (-1), 0, p2)
set_option maxRecDepth 100000 in
set_option maxHeartbeats 4000000 in
theorem m_M_widest (N : Nat) {x9 : Int32} {s9 : mS} (a1 : Int32) {s : mS} (h : f_M_widest N a1 s = some (x9, s9)) : MetM Sm R0m oFm nm 8 241 [.ref 0, .int a1] s (some (.int x9)) s9 := by
  refine met_of_G (q := q_M_widest) (t0 := (x9, s9)) y_M_widest (Nat.le_of_ble_eq_true rfl) ?_
  rw [← h]
  exact G_eq (mEv_G (orc := mOrc (oL_M_widest N)) (ret := rtI) (blks := bl_M_widest) (cuts := [(30, H_M_widest_30 (mfix N (f_M_widest_L30 N)))]) wOKm (by decide) (oo_M_widest N) (RetOK_I rfl) bk_M_widest (List.forall_mem_cons.mpr ⟨s_M_widest_30 N, mz_nil⟩)) rfl
noncomputable def C_M_widest {ρ : Type} (N : Nat) : List Value → mS → (Option Value → mS → Option ρ) → Option ρ := fun vs s kk => sR vs 0 fun r0 => pi1 r0 fun a1 r1 => rv0 r1 ((f_M_widest N a1 s).bind fun p => kk (some (.int p.1)) p.2)
theorem cs_M_widest {ρ : Type} {t0 : ρ} {d : Nat} (N : Nat) (hd : 8 + 1 ≤ d) : CallOK Sm R0m oFm nm d t0 241 (C_M_widest N) := by
  intro vs s kk h0
  obtain ⟨r0, rfl, h1⟩ := sR_some h0
  obtain ⟨a1, r1, rfl, h2⟩ := pi1_some h1
  obtain ⟨rfl, h3⟩ := rv0_some h2
  obtain ⟨p, hp, hk⟩ := Option.bind_eq_some_iff.mp h3
  exact ⟨_, _, _, hd, m_M_widest N a1 hp, hk, fun qy hq hf => by cases y_M_widest.symm.trans hq; exact ⟨_, _, rfl, rfl⟩⟩
/-! METHOD PorterDoorsModel.rest(II)I -/
set_option maxRecDepth 20000 in
noncomputable def q_M_rest : mI := (⟨"PorterDoorsModel", "rest", "(II)I"⟩, prog_13_method_76_code, 7, (some .int), 10, 1798, 139, 1, 2, 1796, 1797)
theorem y_M_rest : mT[242]? = some q_M_rest := mT_at_6 (k := 2) rfl
noncomputable def bl_M_rest : List (Nat × List mO) := [(0, [o0 (.aload_n 0), o0 (.iload_n 1), o0 (.iconst 1), o0 (.bipush 40), o2 (.invokevirtual 484) 219 4, o1 (.ifCond .eq 13) 21, o0 (.iload_n 2), o0 (.i2l), o0 (.lconst 0), o0 (.lconst 1), o2 (.invokestatic 270) 155 3, o1 (.ifCond .ne 5) 23]),
  (21, [o0 (.iconst (-1)), o0 (.ireturn)]),
  (23, [o0 (.iconst (-1)), o0 (.istore_n 3), o0 (.iconst (-1)), o0 (.istore 4), o0 (.aload_n 0), o2 (.invokevirtual 488) 220 1, o0 (.iconst 0), o0 (.istore 5)]),
  (35, [o0 (.iload 5), o0 (.aload_n 0), o2 (.invokevirtual 380) 191 1, o1 (.if_icmp .ge 50) 91, o0 (.aload_n 0), o0 (.iload_n 1), o0 (.iload 5), o2 (.invokevirtual 491) 221 3, o0 (.aload_n 0), o2 (.getfield 115) 10 48, o0 (.iconst 1), o0 (.iaload), o0 (.istore 6), o0 (.aload_n 0), o2 (.invokevirtual 457) 229 1, o0 (.iload_n 3), o0 (.iconst (-1)), o1 (.if_icmp .eq 13) 78, o0 (.iload 6), o0 (.iload 4), o1 (.if_icmp .lt 6) 78, o1 (.goto 10) 85]),
  (78, [o0 (.iload 5), o0 (.istore_n 3), o0 (.iload 6), o0 (.istore 4)]),
  (85, [o0 (.iinc 5 1), o1 (.goto (-53)) 35]),
  (91, [o0 (.aload_n 0), o2 (.invokevirtual 494) 228 1, o0 (.iload_n 2), o1 (.ifCond .ne 7) 103, o0 (.iload_n 3), o1 (.goto 5) 105]),
  (103, [o0 (.iload 4)]),
  (105, [o0 (.ireturn)])]
theorem bk_M_rest : okBlks q_M_rest bl_M_rest = true := by decide +kernel
noncomputable def oL_M_rest {ρ : Type} (N : Nat) : List (Nat × (List Value → mS → (Option Value → mS → Option ρ) → Option ρ)) := [(219, C_M_isAhead N), (155, C_M_isIn N), (220, C_M_putsAside N), (191, C_M_porterMany N), (221, C_M_nightsGo N), (229, C_M_triesAnew N), (228, C_M_takesBack N)]
theorem oo_M_rest {ρ : Type} {t0 : ρ} (N : Nat) : OrcOK Sm R0m oFm nm 10 t0 (mOrc (oL_M_rest N)) := mOrc_OK (List.forall_mem_cons.mpr ⟨cs_M_isAhead N (by decide), List.forall_mem_cons.mpr ⟨cs_M_isIn N (by decide), List.forall_mem_cons.mpr ⟨cs_M_putsAside N (by decide), List.forall_mem_cons.mpr ⟨cs_M_porterMany N (by decide), List.forall_mem_cons.mpr ⟨cs_M_nightsGo N (by decide), List.forall_mem_cons.mpr ⟨cs_M_triesAnew N (by decide), List.forall_mem_cons.mpr ⟨cs_M_takesBack N (by decide), mz_nil⟩⟩⟩⟩⟩⟩⟩)
noncomputable def H_M_rest_35 {ρ : Type} (k : (Int32 × Int32 × Int32 × Int32 × Int32 × mS) → Option ρ) : mL → List Value → mS → Option ρ := fun loc st s => cR loc 0 0 (li1 loc 1 fun v0 => li1 loc 2 fun v1 => li1 loc 3 fun v2 => li1 loc 4 fun v3 => li1 loc 5 fun v4 => rv0 st (k (v0, v1, v2, v3, v4, s)))
noncomputable def f_M_rest_L35 (N : Nat) (k35 : (Int32 × Int32 × Int32 × Int32 × Int32 × mS) → Option (Int32 × mS)) (x : Int32 × Int32 × Int32 × Int32 × Int32 × mS) : Option (Int32 × mS) :=
  (f_M_porterMany N x.2.2.2.2.2).bind fun p1 =>
  if x.2.2.2.2.1 < p1.1 then
    (f_M_nightsGo N x.1 x.2.2.2.2.1 p1.2).bind fun p3 =>
    (f_M_triesAnew N p3).bind fun p4 =>
    if x.2.2.1 = (-1) then
      k35 (x.1, x.2.1, x.2.2.2.2.1, (gA p3 34 1), (x.2.2.2.2.1 + 1), p4)
    else
      if (gA p3 34 1) < x.2.2.2.1 then
        k35 (x.1, x.2.1, x.2.2.2.2.1, (gA p3 34 1), (x.2.2.2.2.1 + 1), p4)
      else
        k35 (x.1, x.2.1, x.2.2.1, x.2.2.2.1, (x.2.2.2.2.1 + 1), p4)
  else
    (f_M_takesBack N p1.2).bind fun p2 =>
    if x.2.1 = 0 then
      some (x.2.2.1, p2)
    else
      some (x.2.2.2.1, p2)
set_option maxRecDepth 100000 in
set_option maxHeartbeats 4000000 in
theorem t_M_rest_35 (N : Nat) {x9 : Int32} {s9 : mS} {k35 : (Int32 × Int32 × Int32 × Int32 × Int32 × mS) → Option (Int32 × mS)} (hk35 : SCd Sm R0m oFm nm 10 q_M_rest (some (.int x9), s9) (x9, s9) 35 (H_M_rest_35 k35)) : SCd Sm R0m oFm nm 10 q_M_rest (some (.int x9), s9) (x9, s9) 35 (H_M_rest_35 (f_M_rest_L35 N k35)) := by
  intro loc st s
  refine G_cR (fun h0 => ?_)
  refine G_li (fun v0 h1 => ?_)
  refine G_li (fun v1 h2 => ?_)
  refine G_li (fun v2 h3 => ?_)
  refine G_li (fun v3 h4 => ?_)
  refine G_li (fun v4 h5 => ?_)
  refine G_rv0 (fun e9 => ?_)
  subst e9
  refine G_sub (loc0 := [(0, .ref 0), (1, .int v0), (2, .int v1), (3, .int v2), (4, .int v3), (5, .int v4)]) (List.forall_mem_cons.mpr ⟨h0, List.forall_mem_cons.mpr ⟨h1, List.forall_mem_cons.mpr ⟨h2, List.forall_mem_cons.mpr ⟨h3, List.forall_mem_cons.mpr ⟨h4, List.forall_mem_cons.mpr ⟨h5, mz_nil⟩⟩⟩⟩⟩⟩) ?_
  exact G_eq (mEv_G (orc := mOrc (oL_M_rest N)) (ret := rtI) (blks := bl_M_rest) (cuts := [(35, H_M_rest_35 k35)]) wOKm (by decide) (oo_M_rest N) (RetOK_I rfl) bk_M_rest (List.forall_mem_cons.mpr ⟨hk35, mz_nil⟩)) rfl
theorem s_M_rest_35 (N : Nat) {x9 : Int32} {s9 : mS} : SCd Sm R0m oFm nm 10 q_M_rest (some (.int x9), s9) (x9, s9) 35 (H_M_rest_35 (mfix N (f_M_rest_L35 N))) := by
  refine mfix_SC (H := H_M_rest_35) (fun loc st s => ?_) (fun k hk => t_M_rest_35 N hk) N
  refine G_cR (fun h0 => ?_)
  refine G_li (fun v0 h1 => ?_)
  refine G_li (fun v1 h2 => ?_)
  refine G_li (fun v2 h3 => ?_)
  refine G_li (fun v3 h4 => ?_)
  refine G_li (fun v4 h5 => ?_)
  refine G_rv0 (fun e9 => ?_)
  subst e9
  exact G_none
noncomputable def f_M_rest (N : Nat) (a1 : Int32) (a2 : Int32) (s : mS) : Option (Int32 × mS) :=
  (f_M_isAhead N a1 1 40 s).bind fun p1 =>
  if p1.1 = 0 then
    some ((-1), p1.2)
  else
    (f_M_isIn N (a2).toInt64 0 1 p1.2).bind fun p2 =>
    if p2.1 = 0 then
      some ((-1), p2.2)
    else
      (f_M_putsAside N p2.2).bind fun p3 =>
      mfix N (f_M_rest_L35 N) (a1, a2, (-1), (-1), 0, p3)
set_option maxRecDepth 100000 in
set_option maxHeartbeats 4000000 in
theorem m_M_rest (N : Nat) {x9 : Int32} {s9 : mS} (a1 : Int32) (a2 : Int32) {s : mS} (h : f_M_rest N a1 a2 s = some (x9, s9)) : MetM Sm R0m oFm nm 10 242 [.ref 0, .int a1, .int a2] s (some (.int x9)) s9 := by
  refine met_of_G (q := q_M_rest) (t0 := (x9, s9)) y_M_rest (Nat.le_of_ble_eq_true rfl) ?_
  rw [← h]
  exact G_eq (mEv_G (orc := mOrc (oL_M_rest N)) (ret := rtI) (blks := bl_M_rest) (cuts := [(35, H_M_rest_35 (mfix N (f_M_rest_L35 N)))]) wOKm (by decide) (oo_M_rest N) (RetOK_I rfl) bk_M_rest (List.forall_mem_cons.mpr ⟨s_M_rest_35 N, mz_nil⟩)) rfl
noncomputable def C_M_rest {ρ : Type} (N : Nat) : List Value → mS → (Option Value → mS → Option ρ) → Option ρ := fun vs s kk => sR vs 0 fun r0 => pi1 r0 fun a1 r1 => pi1 r1 fun a2 r2 => rv0 r2 ((f_M_rest N a1 a2 s).bind fun p => kk (some (.int p.1)) p.2)
theorem cs_M_rest {ρ : Type} {t0 : ρ} {d : Nat} (N : Nat) (hd : 10 + 1 ≤ d) : CallOK Sm R0m oFm nm d t0 242 (C_M_rest N) := by
  intro vs s kk h0
  obtain ⟨r0, rfl, h1⟩ := sR_some h0
  obtain ⟨a1, r1, rfl, h2⟩ := pi1_some h1
  obtain ⟨a2, r2, rfl, h3⟩ := pi1_some h2
  obtain ⟨rfl, h4⟩ := rv0_some h3
  obtain ⟨p, hp, hk⟩ := Option.bind_eq_some_iff.mp h4
  exact ⟨_, _, _, hd, m_M_rest N a1 a2 hp, hk, fun qy hq hf => by cases y_M_rest.symm.trans hq; exact ⟨_, _, rfl, rfl⟩⟩
/-! METHOD PorterDoorsModel.odds(I)I -/
set_option maxRecDepth 20000 in
noncomputable def q_M_odds : mI := (⟨"PorterDoorsModel", "odds", "(I)I"⟩, prog_13_method_77_code, 4, (some .int), 10, 1802, 139, 1, 1, 1800, 1801)
theorem y_M_odds : mT[243]? = some q_M_odds := mT_at_6 (k := 3) rfl
noncomputable def bl_M_odds : List (Nat × List mO) := [(0, [o0 (.iload_n 1), o0 (.iconst (-1)), o1 (.if_icmp .eq 12) 14, o0 (.aload_n 0), o0 (.iload_n 1), o0 (.i2l), o2 (.invokevirtual 473) 202 2, o1 (.ifCond .eq 20) 31]),
  (14, [o0 (.aload_n 0), o2 (.invokevirtual 380) 191 1, o1 (.ifCond .eq 13) 31, o0 (.aload_n 0), o0 (.iconst 1), o0 (.iconst 1), o0 (.iconst 1), o2 (.invokevirtual 484) 219 4, o1 (.ifCond .ne 5) 33]),
  (31, [o0 (.iconst (-1)), o0 (.ireturn)]),
  (33, [o0 (.iload_n 1), o0 (.iconst (-1)), o1 (.if_icmp .ne 11) 46, o0 (.bipush 100), o0 (.aload_n 0), o2 (.invokevirtual 380) 191 1, o0 (.imul), o0 (.ireturn)]),
  (46, [o0 (.iconst 0), o0 (.istore_n 2), o0 (.aload_n 0), o2 (.invokevirtual 488) 220 1, o0 (.iconst (-1)), o0 (.istore_n 3)]),
  (54, [o0 (.iload_n 3), o0 (.aload_n 0), o2 (.invokevirtual 380) 191 1, o1 (.if_icmp .ge 60) 119, o0 (.aload_n 0), o0 (.iload_n 3), o2 (.invokevirtual 454) 222 2, o0 (.aload_n 0), o0 (.iload_n 1), o2 (.invokevirtual 386) 194 2, o0 (.iconst 1), o1 (.if_icmp .ne 36) 109, o0 (.iload_n 2), o0 (.iload_n 3), o0 (.iconst (-1)), o1 (.if_icmp .ne 21) 100, o0 (.bipush 100), o0 (.aload_n 0), o2 (.getfield 96) 10 37, o0 (.bipush 7), o0 (.iaload), o0 (.isub), o0 (.aload_n 0), o2 (.invokevirtual 380) 191 1, o0 (.imul), o1 (.goto 10) 107]),
  (100, [o0 (.aload_n 0), o2 (.getfield 96) 10 37, o0 (.bipush 7), o0 (.iaload)]),
  (107, [o0 (.iadd), o0 (.istore_n 2)]),
  (109, [o0 (.aload_n 0), o2 (.invokevirtual 457) 229 1, o0 (.iinc 3 1), o1 (.goto (-62)) 54]),
  (119, [o0 (.aload_n 0), o2 (.invokevirtual 494) 228 1, o0 (.iload_n 2), o0 (.ireturn)])]
theorem bk_M_odds : okBlks q_M_odds bl_M_odds = true := by decide +kernel
noncomputable def oL_M_odds {ρ : Type} (N : Nat) : List (Nat × (List Value → mS → (Option Value → mS → Option ρ) → Option ρ)) := [(202, C_M_isDoor N), (191, C_M_porterMany N), (219, C_M_isAhead N), (220, C_M_putsAside N), (222, C_M_nightGoes N), (194, C_M_openOf N), (229, C_M_triesAnew N), (228, C_M_takesBack N)]
theorem oo_M_odds {ρ : Type} {t0 : ρ} (N : Nat) : OrcOK Sm R0m oFm nm 9 t0 (mOrc (oL_M_odds N)) := mOrc_OK (List.forall_mem_cons.mpr ⟨cs_M_isDoor N (by decide), List.forall_mem_cons.mpr ⟨cs_M_porterMany N (by decide), List.forall_mem_cons.mpr ⟨cs_M_isAhead N (by decide), List.forall_mem_cons.mpr ⟨cs_M_putsAside N (by decide), List.forall_mem_cons.mpr ⟨cs_M_nightGoes N (by decide), List.forall_mem_cons.mpr ⟨cs_M_openOf N (by decide), List.forall_mem_cons.mpr ⟨cs_M_triesAnew N (by decide), List.forall_mem_cons.mpr ⟨cs_M_takesBack N (by decide), mz_nil⟩⟩⟩⟩⟩⟩⟩⟩)
noncomputable def H_M_odds_14 {ρ : Type} (k : (Int32 × mS) → Option ρ) : mL → List Value → mS → Option ρ := fun loc st s => cR loc 0 0 (li1 loc 1 fun v0 => rv0 st (k (v0, s)))
noncomputable def H_M_odds_54 {ρ : Type} (k : (Int32 × Int32 × Int32 × mS) → Option ρ) : mL → List Value → mS → Option ρ := fun loc st s => cR loc 0 0 (li1 loc 1 fun v0 => li1 loc 2 fun v1 => li1 loc 3 fun v2 => rv0 st (k (v0, v1, v2, s)))
noncomputable def H_M_odds_109 {ρ : Type} (k : (Int32 × Int32 × Int32 × mS) → Option ρ) : mL → List Value → mS → Option ρ := fun loc st s => cR loc 0 0 (li1 loc 1 fun v0 => li1 loc 2 fun v1 => li1 loc 3 fun v2 => rv0 st (k (v0, v1, v2, s)))
noncomputable def f_M_odds_j109 (N : Nat) (k54 : (Int32 × Int32 × Int32 × mS) → Option (Int32 × mS)) (x : Int32 × Int32 × Int32 × mS) : Option (Int32 × mS) :=
  (f_M_triesAnew N x.2.2.2).bind fun p1 =>
  k54 (x.1, x.2.1, (x.2.2.1 + 1), p1)
set_option maxRecDepth 100000 in
set_option maxHeartbeats 4000000 in
theorem s_M_odds_109 (N : Nat) {x9 : Int32} {s9 : mS} {k54 : (Int32 × Int32 × Int32 × mS) → Option (Int32 × mS)} (hk54 : SCd Sm R0m oFm nm 9 q_M_odds (some (.int x9), s9) (x9, s9) 54 (H_M_odds_54 k54)) : SCd Sm R0m oFm nm 9 q_M_odds (some (.int x9), s9) (x9, s9) 109 (H_M_odds_109 (f_M_odds_j109 N k54)) := by
  intro loc st s
  refine G_cR (fun h0 => ?_)
  refine G_li (fun v0 h1 => ?_)
  refine G_li (fun v1 h2 => ?_)
  refine G_li (fun v2 h3 => ?_)
  refine G_rv0 (fun e9 => ?_)
  subst e9
  refine G_sub (loc0 := [(0, .ref 0), (1, .int v0), (2, .int v1), (3, .int v2)]) (List.forall_mem_cons.mpr ⟨h0, List.forall_mem_cons.mpr ⟨h1, List.forall_mem_cons.mpr ⟨h2, List.forall_mem_cons.mpr ⟨h3, mz_nil⟩⟩⟩⟩) ?_
  exact G_eq (mEv_G (orc := mOrc (oL_M_odds N)) (ret := rtI) (blks := bl_M_odds) (cuts := [(54, H_M_odds_54 k54)]) wOKm (by decide) (oo_M_odds N) (RetOK_I rfl) bk_M_odds (List.forall_mem_cons.mpr ⟨hk54, mz_nil⟩)) rfl
noncomputable def f_M_odds_L54 (N : Nat) (k54 : (Int32 × Int32 × Int32 × mS) → Option (Int32 × mS)) (x : Int32 × Int32 × Int32 × mS) : Option (Int32 × mS) :=
  (f_M_porterMany N x.2.2.2).bind fun p1 =>
  if x.2.2.1 < p1.1 then
    (f_M_nightGoes N x.2.2.1 p1.2).bind fun p3 =>
    (f_M_openOf N x.1 p3).bind fun p4 =>
    if p4.1 = 1 then
      if x.2.2.1 = (-1) then
        (f_M_porterMany N p4.2).bind fun p5 =>
        f_M_odds_j109 N k54 (x.1, (x.2.1 + ((100 - (gA p4.2 28 7)) * p5.1)), x.2.2.1, p5.2)
      else
        f_M_odds_j109 N k54 (x.1, (x.2.1 + (gA p4.2 28 7)), x.2.2.1, p4.2)
    else
      f_M_odds_j109 N k54 (x.1, x.2.1, x.2.2.1, p4.2)
  else
    (f_M_takesBack N p1.2).bind fun p2 =>
    some (x.2.1, p2)
set_option maxRecDepth 100000 in
set_option maxHeartbeats 4000000 in
theorem t_M_odds_54 (N : Nat) {x9 : Int32} {s9 : mS} {k54 : (Int32 × Int32 × Int32 × mS) → Option (Int32 × mS)} (hk54 : SCd Sm R0m oFm nm 9 q_M_odds (some (.int x9), s9) (x9, s9) 54 (H_M_odds_54 k54)) : SCd Sm R0m oFm nm 9 q_M_odds (some (.int x9), s9) (x9, s9) 54 (H_M_odds_54 (f_M_odds_L54 N k54)) := by
  intro loc st s
  refine G_cR (fun h0 => ?_)
  refine G_li (fun v0 h1 => ?_)
  refine G_li (fun v1 h2 => ?_)
  refine G_li (fun v2 h3 => ?_)
  refine G_rv0 (fun e9 => ?_)
  subst e9
  refine G_sub (loc0 := [(0, .ref 0), (1, .int v0), (2, .int v1), (3, .int v2)]) (List.forall_mem_cons.mpr ⟨h0, List.forall_mem_cons.mpr ⟨h1, List.forall_mem_cons.mpr ⟨h2, List.forall_mem_cons.mpr ⟨h3, mz_nil⟩⟩⟩⟩) ?_
  exact G_eq (mEv_G (orc := mOrc (oL_M_odds N)) (ret := rtI) (blks := bl_M_odds) (cuts := [(109, H_M_odds_109 (f_M_odds_j109 N k54))]) wOKm (by decide) (oo_M_odds N) (RetOK_I rfl) bk_M_odds (List.forall_mem_cons.mpr ⟨s_M_odds_109 N hk54, mz_nil⟩)) rfl
theorem s_M_odds_54 (N : Nat) {x9 : Int32} {s9 : mS} : SCd Sm R0m oFm nm 9 q_M_odds (some (.int x9), s9) (x9, s9) 54 (H_M_odds_54 (mfix N (f_M_odds_L54 N))) := by
  refine mfix_SC (H := H_M_odds_54) (fun loc st s => ?_) (fun k hk => t_M_odds_54 N hk) N
  refine G_cR (fun h0 => ?_)
  refine G_li (fun v0 h1 => ?_)
  refine G_li (fun v1 h2 => ?_)
  refine G_li (fun v2 h3 => ?_)
  refine G_rv0 (fun e9 => ?_)
  subst e9
  exact G_none
noncomputable def f_M_odds_j14 (N : Nat) (x : Int32 × mS) : Option (Int32 × mS) :=
  (f_M_porterMany N x.2).bind fun p1 =>
  if p1.1 = 0 then
    some ((-1), p1.2)
  else
    (f_M_isAhead N 1 1 1 p1.2).bind fun p2 =>
    if p2.1 = 0 then
      some ((-1), p2.2)
    else
      if x.1 = (-1) then
        (f_M_porterMany N p2.2).bind fun p4 =>
        some ((100 * p4.1), p4.2)
      else
        (f_M_putsAside N p2.2).bind fun p3 =>
        mfix N (f_M_odds_L54 N) (x.1, 0, (-1), p3)
set_option maxRecDepth 100000 in
set_option maxHeartbeats 4000000 in
theorem s_M_odds_14 (N : Nat) {x9 : Int32} {s9 : mS} : SCd Sm R0m oFm nm 9 q_M_odds (some (.int x9), s9) (x9, s9) 14 (H_M_odds_14 (f_M_odds_j14 N)) := by
  intro loc st s
  refine G_cR (fun h0 => ?_)
  refine G_li (fun v0 h1 => ?_)
  refine G_rv0 (fun e9 => ?_)
  subst e9
  refine G_sub (loc0 := [(0, .ref 0), (1, .int v0)]) (List.forall_mem_cons.mpr ⟨h0, List.forall_mem_cons.mpr ⟨h1, mz_nil⟩⟩) ?_
  exact G_eq (mEv_G (orc := mOrc (oL_M_odds N)) (ret := rtI) (blks := bl_M_odds) (cuts := [(54, H_M_odds_54 (mfix N (f_M_odds_L54 N)))]) wOKm (by decide) (oo_M_odds N) (RetOK_I rfl) bk_M_odds (List.forall_mem_cons.mpr ⟨s_M_odds_54 N, mz_nil⟩)) rfl
noncomputable def f_M_odds (N : Nat) (a1 : Int32) (s : mS) : Option (Int32 × mS) :=
  if a1 = (-1) then
    f_M_odds_j14 N (a1, s)
  else
    (f_M_isDoor N (a1).toInt64 s).bind fun p1 =>
    if p1.1 = 0 then
      some ((-1), p1.2)
    else
      f_M_odds_j14 N (a1, p1.2)
set_option maxRecDepth 100000 in
set_option maxHeartbeats 4000000 in
theorem m_M_odds (N : Nat) {x9 : Int32} {s9 : mS} (a1 : Int32) {s : mS} (h : f_M_odds N a1 s = some (x9, s9)) : MetM Sm R0m oFm nm 9 243 [.ref 0, .int a1] s (some (.int x9)) s9 := by
  refine met_of_G (q := q_M_odds) (t0 := (x9, s9)) y_M_odds (Nat.le_of_ble_eq_true rfl) ?_
  rw [← h]
  exact G_eq (mEv_G (orc := mOrc (oL_M_odds N)) (ret := rtI) (blks := bl_M_odds) (cuts := [(14, H_M_odds_14 (f_M_odds_j14 N))]) wOKm (by decide) (oo_M_odds N) (RetOK_I rfl) bk_M_odds (List.forall_mem_cons.mpr ⟨s_M_odds_14 N, mz_nil⟩)) rfl
noncomputable def C_M_odds {ρ : Type} (N : Nat) : List Value → mS → (Option Value → mS → Option ρ) → Option ρ := fun vs s kk => sR vs 0 fun r0 => pi1 r0 fun a1 r1 => rv0 r1 ((f_M_odds N a1 s).bind fun p => kk (some (.int p.1)) p.2)
theorem cs_M_odds {ρ : Type} {t0 : ρ} {d : Nat} (N : Nat) (hd : 9 + 1 ≤ d) : CallOK Sm R0m oFm nm d t0 243 (C_M_odds N) := by
  intro vs s kk h0
  obtain ⟨r0, rfl, h1⟩ := sR_some h0
  obtain ⟨a1, r1, rfl, h2⟩ := pi1_some h1
  obtain ⟨rfl, h3⟩ := rv0_some h2
  obtain ⟨p, hp, hk⟩ := Option.bind_eq_some_iff.mp h3
  exact ⟨_, _, _, hd, m_M_odds N a1 hp, hk, fun qy hq hf => by cases y_M_odds.symm.trans hq; exact ⟨_, _, rfl, rfl⟩⟩
/-! METHOD PorterDoorsModel.see()I -/
set_option maxRecDepth 20000 in
noncomputable def q_M_see : mI := (⟨"PorterDoorsModel", "see", "()I"⟩, prog_13_method_78_code, 4, (some .int), 10, 1806, 139, 1, 0, 1804, 1805)
theorem y_M_see : mT[244]? = some q_M_see := mT_at_6 (k := 4) rfl
noncomputable def bl_M_see : List (Nat × List mO) := [(0, [o0 (.aload_n 0), o2 (.getfield 224) 10 1, o0 (.istore_n 1), o0 (.aload_n 0), o0 (.iconst 0), o2 (.putfield 224) 10 1, o0 (.iload_n 1), o1 (.ifCond .le 21) 32, o0 (.iload_n 1), o0 (.iconst 2), o0 (.irem), o1 (.ifCond .ne 15) 32, o0 (.iload_n 1), o0 (.iconst 2), o0 (.idiv), o0 (.bipush 24), o1 (.if_icmp .gt 7) 32, o0 (.iconst 1), o1 (.goto 4) 33]),
  (32, [o0 (.iconst 0)]),
  (33, [o0 (.istore_n 2), o0 (.iconst 0), o0 (.istore_n 3)]),
  (36, [o0 (.iload_n 3), o0 (.iload_n 1), o1 (.if_icmp .ge 45) 83, o0 (.iload_n 2), o1 (.ifCond .eq 41) 83, o0 (.aload_n 0), o0 (.aload_n 0), o2 (.getfield 7) 10 0, o0 (.iload_n 3), o0 (.iaload), o0 (.i2l), o2 (.invokevirtual 473) 202 2, o1 (.ifCond .eq 19) 75, o0 (.aload_n 0), o2 (.getfield 7) 10 0, o0 (.iload_n 3), o0 (.iconst 1), o0 (.iadd), o0 (.iaload), o0 (.iconst 1), o1 (.if_icmp .gt 7) 75, o0 (.iconst 1), o1 (.goto 4) 76]),
  (75, [o0 (.iconst 0)]),
  (76, [o0 (.istore_n 2), o0 (.iinc 3 2), o1 (.goto (-44)) 36]),
  (83, [o0 (.iload_n 2), o1 (.ifCond .ne 9) 93, o0 (.aload_n 0), o0 (.iconst 1), o2 (.invokevirtual 360) 186 2, o0 (.ireturn)]),
  (93, [o0 (.iconst 0), o0 (.istore_n 3)]),
  (95, [o0 (.iload_n 3), o0 (.iload_n 1), o1 (.if_icmp .ge 21) 118, o0 (.aload_n 0), o2 (.getfield 124) 10 56, o0 (.iload_n 3), o0 (.aload_n 0), o2 (.getfield 7) 10 0, o0 (.iload_n 3), o0 (.iaload), o0 (.iastore), o0 (.iinc 3 1), o1 (.goto (-20)) 95]),
  (118, [o0 (.aload_n 0), o0 (.iload_n 1), o0 (.iconst 2), o0 (.idiv), o2 (.putfield 374) 10 55, o0 (.aload_n 0), o2 (.getfield 374) 10 55, o0 (.ireturn)])]
theorem bk_M_see : okBlks q_M_see bl_M_see = true := by decide +kernel
noncomputable def oL_M_see {ρ : Type} (N : Nat) : List (Nat × (List Value → mS → (Option Value → mS → Option ρ) → Option ρ)) := [(202, C_M_isDoor N), (186, C_M_refuses N)]
theorem oo_M_see {ρ : Type} {t0 : ρ} (N : Nat) : OrcOK Sm R0m oFm nm 3 t0 (mOrc (oL_M_see N)) := mOrc_OK (List.forall_mem_cons.mpr ⟨cs_M_isDoor N (by decide), List.forall_mem_cons.mpr ⟨cs_M_refuses N (by decide), mz_nil⟩⟩)
noncomputable def H_M_see_36 {ρ : Type} (k : (Int32 × Int32 × Int32 × mS) → Option ρ) : mL → List Value → mS → Option ρ := fun loc st s => cR loc 0 0 (li1 loc 1 fun v0 => li1 loc 2 fun v1 => li1 loc 3 fun v2 => rv0 st (k (v0, v1, v2, s)))
noncomputable def H_M_see_83 {ρ : Type} (k : (Int32 × Int32 × mS) → Option ρ) : mL → List Value → mS → Option ρ := fun loc st s => cR loc 0 0 (li1 loc 1 fun v0 => li1 loc 2 fun v1 => rv0 st (k (v0, v1, s)))
noncomputable def H_M_see_95 {ρ : Type} (k : (Int32 × Int32 × mS) → Option ρ) : mL → List Value → mS → Option ρ := fun loc st s => cR loc 0 0 (li1 loc 1 fun v0 => li1 loc 3 fun v1 => rv0 st (k (v0, v1, s)))
noncomputable def f_M_see_L95 (N : Nat) (k95 : (Int32 × Int32 × mS) → Option (Int32 × mS)) (x : Int32 × Int32 × mS) : Option (Int32 × mS) :=
  if x.2.1 < x.1 then
    grd (inb x.2.1 1600) (
    grd (inb x.2.1 48) (
    let s2 := sA x.2.2 37 (ix x.2.1) (gA x.2.2 1 (ix x.2.1))
    k95 (x.1, (x.2.1 + 1), s2)))
  else
    let s1 := sI x.2.2 1055 0 (x.1 / 2)
    some ((gI s1 1055 0), s1)
set_option maxRecDepth 100000 in
set_option maxHeartbeats 4000000 in
theorem t_M_see_95 (N : Nat) {x9 : Int32} {s9 : mS} {k95 : (Int32 × Int32 × mS) → Option (Int32 × mS)} (hk95 : SCd Sm R0m oFm nm 3 q_M_see (some (.int x9), s9) (x9, s9) 95 (H_M_see_95 k95)) : SCd Sm R0m oFm nm 3 q_M_see (some (.int x9), s9) (x9, s9) 95 (H_M_see_95 (f_M_see_L95 N k95)) := by
  intro loc st s
  refine G_cR (fun h0 => ?_)
  refine G_li (fun v0 h1 => ?_)
  refine G_li (fun v1 h3 => ?_)
  refine G_rv0 (fun e9 => ?_)
  subst e9
  refine G_sub (loc0 := [(0, .ref 0), (1, .int v0), (3, .int v1)]) (List.forall_mem_cons.mpr ⟨h0, List.forall_mem_cons.mpr ⟨h1, List.forall_mem_cons.mpr ⟨h3, mz_nil⟩⟩⟩) ?_
  exact G_eq (mEv_G (orc := mOrc (oL_M_see N)) (ret := rtI) (blks := bl_M_see) (cuts := [(95, H_M_see_95 k95)]) wOKm (by decide) (oo_M_see N) (RetOK_I rfl) bk_M_see (List.forall_mem_cons.mpr ⟨hk95, mz_nil⟩)) rfl
theorem s_M_see_95 (N : Nat) {x9 : Int32} {s9 : mS} : SCd Sm R0m oFm nm 3 q_M_see (some (.int x9), s9) (x9, s9) 95 (H_M_see_95 (mfix N (f_M_see_L95 N))) := by
  refine mfix_SC (H := H_M_see_95) (fun loc st s => ?_) (fun k hk => t_M_see_95 N hk) N
  refine G_cR (fun h0 => ?_)
  refine G_li (fun v0 h1 => ?_)
  refine G_li (fun v1 h3 => ?_)
  refine G_rv0 (fun e9 => ?_)
  subst e9
  exact G_none
noncomputable def f_M_see_j83 (N : Nat) (x : Int32 × Int32 × mS) : Option (Int32 × mS) :=
  if x.2.1 = 0 then
    (f_M_refuses N 1 x.2.2).bind fun p1 =>
    some (p1.1, p1.2)
  else
    mfix N (f_M_see_L95 N) (x.1, 0, x.2.2)
set_option maxRecDepth 100000 in
set_option maxHeartbeats 4000000 in
theorem s_M_see_83 (N : Nat) {x9 : Int32} {s9 : mS} : SCd Sm R0m oFm nm 3 q_M_see (some (.int x9), s9) (x9, s9) 83 (H_M_see_83 (f_M_see_j83 N)) := by
  intro loc st s
  refine G_cR (fun h0 => ?_)
  refine G_li (fun v0 h1 => ?_)
  refine G_li (fun v1 h2 => ?_)
  refine G_rv0 (fun e9 => ?_)
  subst e9
  refine G_sub (loc0 := [(0, .ref 0), (1, .int v0), (2, .int v1)]) (List.forall_mem_cons.mpr ⟨h0, List.forall_mem_cons.mpr ⟨h1, List.forall_mem_cons.mpr ⟨h2, mz_nil⟩⟩⟩) ?_
  exact G_eq (mEv_G (orc := mOrc (oL_M_see N)) (ret := rtI) (blks := bl_M_see) (cuts := [(95, H_M_see_95 (mfix N (f_M_see_L95 N)))]) wOKm (by decide) (oo_M_see N) (RetOK_I rfl) bk_M_see (List.forall_mem_cons.mpr ⟨s_M_see_95 N, mz_nil⟩)) rfl
noncomputable def f_M_see_L36 (N : Nat) (k36 : (Int32 × Int32 × Int32 × mS) → Option (Int32 × mS)) (x : Int32 × Int32 × Int32 × mS) : Option (Int32 × mS) :=
  if x.2.2.1 < x.1 then
    if x.2.1 = 0 then
      f_M_see_j83 N (x.1, x.2.1, x.2.2.2)
    else
      grd (inb x.2.2.1 1600) (
      (f_M_isDoor N ((gA x.2.2.2 1 (ix x.2.2.1))).toInt64 x.2.2.2).bind fun p1 =>
      if p1.1 = 0 then
        k36 (x.1, 0, (x.2.2.1 + 2), p1.2)
      else
        grd (inb (x.2.2.1 + 1) 1600) (
        if 1 < (gA p1.2 1 (ix (x.2.2.1 + 1))) then
          k36 (x.1, 0, (x.2.2.1 + 2), p1.2)
        else
          k36 (x.1, 1, (x.2.2.1 + 2), p1.2)))
  else
    f_M_see_j83 N (x.1, x.2.1, x.2.2.2)
set_option maxRecDepth 100000 in
set_option maxHeartbeats 4000000 in
theorem t_M_see_36 (N : Nat) {x9 : Int32} {s9 : mS} {k36 : (Int32 × Int32 × Int32 × mS) → Option (Int32 × mS)} (hk36 : SCd Sm R0m oFm nm 3 q_M_see (some (.int x9), s9) (x9, s9) 36 (H_M_see_36 k36)) : SCd Sm R0m oFm nm 3 q_M_see (some (.int x9), s9) (x9, s9) 36 (H_M_see_36 (f_M_see_L36 N k36)) := by
  intro loc st s
  refine G_cR (fun h0 => ?_)
  refine G_li (fun v0 h1 => ?_)
  refine G_li (fun v1 h2 => ?_)
  refine G_li (fun v2 h3 => ?_)
  refine G_rv0 (fun e9 => ?_)
  subst e9
  refine G_sub (loc0 := [(0, .ref 0), (1, .int v0), (2, .int v1), (3, .int v2)]) (List.forall_mem_cons.mpr ⟨h0, List.forall_mem_cons.mpr ⟨h1, List.forall_mem_cons.mpr ⟨h2, List.forall_mem_cons.mpr ⟨h3, mz_nil⟩⟩⟩⟩) ?_
  exact G_eq (mEv_G (orc := mOrc (oL_M_see N)) (ret := rtI) (blks := bl_M_see) (cuts := [(36, H_M_see_36 k36), (83, H_M_see_83 (f_M_see_j83 N))]) wOKm (by decide) (oo_M_see N) (RetOK_I rfl) bk_M_see (List.forall_mem_cons.mpr ⟨hk36, List.forall_mem_cons.mpr ⟨s_M_see_83 N, mz_nil⟩⟩)) rfl
theorem s_M_see_36 (N : Nat) {x9 : Int32} {s9 : mS} : SCd Sm R0m oFm nm 3 q_M_see (some (.int x9), s9) (x9, s9) 36 (H_M_see_36 (mfix N (f_M_see_L36 N))) := by
  refine mfix_SC (H := H_M_see_36) (fun loc st s => ?_) (fun k hk => t_M_see_36 N hk) N
  refine G_cR (fun h0 => ?_)
  refine G_li (fun v0 h1 => ?_)
  refine G_li (fun v1 h2 => ?_)
  refine G_li (fun v2 h3 => ?_)
  refine G_rv0 (fun e9 => ?_)
  subst e9
  exact G_none
noncomputable def f_M_see (N : Nat) (s : mS) : Option (Int32 × mS) :=
  let s1 := sI s 1001 0 0
  if 0 < (gI s 1001 0) then
    if (irm (gI s 1001 0) 2) = 0 then
      if 24 < ((gI s 1001 0) / 2) then
        mfix N (f_M_see_L36 N) ((gI s 1001 0), 0, 0, s1)
      else
        mfix N (f_M_see_L36 N) ((gI s 1001 0), 1, 0, s1)
    else
      mfix N (f_M_see_L36 N) ((gI s 1001 0), 0, 0, s1)
  else
    mfix N (f_M_see_L36 N) ((gI s 1001 0), 0, 0, s1)
set_option maxRecDepth 100000 in
set_option maxHeartbeats 4000000 in
theorem m_M_see (N : Nat) {x9 : Int32} {s9 : mS} {s : mS} (h : f_M_see N s = some (x9, s9)) : MetM Sm R0m oFm nm 3 244 [.ref 0] s (some (.int x9)) s9 := by
  refine met_of_G (q := q_M_see) (t0 := (x9, s9)) y_M_see (Nat.le_of_ble_eq_true rfl) ?_
  rw [← h]
  exact G_eq (mEv_G (orc := mOrc (oL_M_see N)) (ret := rtI) (blks := bl_M_see) (cuts := [(36, H_M_see_36 (mfix N (f_M_see_L36 N)))]) wOKm (by decide) (oo_M_see N) (RetOK_I rfl) bk_M_see (List.forall_mem_cons.mpr ⟨s_M_see_36 N, mz_nil⟩)) rfl
noncomputable def C_M_see {ρ : Type} (N : Nat) : List Value → mS → (Option Value → mS → Option ρ) → Option ρ := fun vs s kk => sR vs 0 fun r0 => rv0 r0 ((f_M_see N s).bind fun p => kk (some (.int p.1)) p.2)
theorem cs_M_see {ρ : Type} {t0 : ρ} {d : Nat} (N : Nat) (hd : 3 + 1 ≤ d) : CallOK Sm R0m oFm nm d t0 244 (C_M_see N) := by
  intro vs s kk h0
  obtain ⟨r0, rfl, h1⟩ := sR_some h0
  obtain ⟨rfl, h2⟩ := rv0_some h1
  obtain ⟨p, hp, hk⟩ := Option.bind_eq_some_iff.mp h2
  exact ⟨_, _, _, hd, m_M_see N hp, hk, fun qy hq hf => by cases y_M_see.symm.trans hq; exact ⟨_, _, rfl, rfl⟩⟩
/-! METHOD PorterDoorsModel.isAsSeen(I)Z -/
set_option maxRecDepth 20000 in
noncomputable def q_M_isAsSeen : mI := (⟨"PorterDoorsModel", "isAsSeen", "(I)Z"⟩, prog_13_method_79_code, 3, (some .boolean), 10, 1818, 139, 1, 1, 1817, 115)
theorem y_M_isAsSeen : mT[247]? = some q_M_isAsSeen := mT_at_6 (k := 7) rfl
noncomputable def bl_M_isAsSeen : List (Nat × List mO) := [(0, [o0 (.iconst 0), o0 (.istore_n 2)]),
  (2, [o0 (.iload_n 2), o0 (.aload_n 0), o2 (.getfield 374) 10 55, o1 (.if_icmp .ge 36) 43, o0 (.iload_n 1), o0 (.aload_n 0), o2 (.getfield 124) 10 56, o0 (.iconst 2), o0 (.iload_n 2), o0 (.imul), o0 (.iaload), o0 (.ishr), o0 (.iconst 1), o0 (.iand), o0 (.aload_n 0), o2 (.getfield 124) 10 56, o0 (.iconst 2), o0 (.iload_n 2), o0 (.imul), o0 (.iconst 1), o0 (.iadd), o0 (.iaload), o1 (.if_icmp .eq 5) 37, o0 (.iconst 0), o0 (.ireturn)]),
  (37, [o0 (.iinc 2 1), o1 (.goto (-38)) 2]),
  (43, [o0 (.iconst 1), o0 (.ireturn)])]
theorem bk_M_isAsSeen : okBlks q_M_isAsSeen bl_M_isAsSeen = true := by decide +kernel
noncomputable def oL_M_isAsSeen {ρ : Type} (N : Nat) : List (Nat × (List Value → mS → (Option Value → mS → Option ρ) → Option ρ)) := []
theorem oo_M_isAsSeen {ρ : Type} {t0 : ρ} (N : Nat) : OrcOK Sm R0m oFm nm 1 t0 (mOrc (oL_M_isAsSeen N)) := mOrc_OK (mz_nil)
noncomputable def H_M_isAsSeen_2 {ρ : Type} (k : (Int32 × Int32 × mS) → Option ρ) : mL → List Value → mS → Option ρ := fun loc st s => cR loc 0 0 (li1 loc 1 fun v0 => li1 loc 2 fun v1 => rv0 st (k (v0, v1, s)))
noncomputable def f_M_isAsSeen_L2 (N : Nat) (k2 : (Int32 × Int32 × mS) → Option (Int32 × mS)) (x : Int32 × Int32 × mS) : Option (Int32 × mS) :=
  if x.2.1 < (gI x.2.2 1055 0) then
    grd (inb (2 * x.2.1) 48) (
    grd (inb ((2 * x.2.1) + 1) 48) (
    if ((irs x.1 (gA x.2.2 37 (ix (2 * x.2.1)))) &&& 1) = (gA x.2.2 37 (ix ((2 * x.2.1) + 1))) then
      k2 (x.1, (x.2.1 + 1), x.2.2)
    else
      some (0, x.2.2)))
  else
    some (1, x.2.2)
set_option maxRecDepth 100000 in
set_option maxHeartbeats 4000000 in
theorem t_M_isAsSeen_2 (N : Nat) {x9 : Int32} {s9 : mS} {k2 : (Int32 × Int32 × mS) → Option (Int32 × mS)} (hk2 : SCd Sm R0m oFm nm 1 q_M_isAsSeen (some (.int x9), s9) (x9, s9) 2 (H_M_isAsSeen_2 k2)) : SCd Sm R0m oFm nm 1 q_M_isAsSeen (some (.int x9), s9) (x9, s9) 2 (H_M_isAsSeen_2 (f_M_isAsSeen_L2 N k2)) := by
  intro loc st s
  refine G_cR (fun h0 => ?_)
  refine G_li (fun v0 h1 => ?_)
  refine G_li (fun v1 h2 => ?_)
  refine G_rv0 (fun e9 => ?_)
  subst e9
  refine G_sub (loc0 := [(0, .ref 0), (1, .int v0), (2, .int v1)]) (List.forall_mem_cons.mpr ⟨h0, List.forall_mem_cons.mpr ⟨h1, List.forall_mem_cons.mpr ⟨h2, mz_nil⟩⟩⟩) ?_
  exact G_eq (mEv_G (orc := mOrc (oL_M_isAsSeen N)) (ret := rtZ) (blks := bl_M_isAsSeen) (cuts := [(2, H_M_isAsSeen_2 k2)]) wOKm (by decide) (oo_M_isAsSeen N) (RetOK_Z rfl) bk_M_isAsSeen (List.forall_mem_cons.mpr ⟨hk2, mz_nil⟩)) rfl
theorem s_M_isAsSeen_2 (N : Nat) {x9 : Int32} {s9 : mS} : SCd Sm R0m oFm nm 1 q_M_isAsSeen (some (.int x9), s9) (x9, s9) 2 (H_M_isAsSeen_2 (mfix N (f_M_isAsSeen_L2 N))) := by
  refine mfix_SC (H := H_M_isAsSeen_2) (fun loc st s => ?_) (fun k hk => t_M_isAsSeen_2 N hk) N
  refine G_cR (fun h0 => ?_)
  refine G_li (fun v0 h1 => ?_)
  refine G_li (fun v1 h2 => ?_)
  refine G_rv0 (fun e9 => ?_)
  subst e9
  exact G_none
noncomputable def f_M_isAsSeen (N : Nat) (a1 : Int32) (s : mS) : Option (Int32 × mS) :=
  mfix N (f_M_isAsSeen_L2 N) (a1, 0, s)
set_option maxRecDepth 100000 in
set_option maxHeartbeats 4000000 in
theorem m_M_isAsSeen (N : Nat) {x9 : Int32} {s9 : mS} (a1 : Int32) {s : mS} (h : f_M_isAsSeen N a1 s = some (x9, s9)) : MetM Sm R0m oFm nm 1 247 [.ref 0, .int a1] s (some (.int x9)) s9 := by
  refine met_of_G (q := q_M_isAsSeen) (t0 := (x9, s9)) y_M_isAsSeen (Nat.le_of_ble_eq_true rfl) ?_
  rw [← h]
  exact G_eq (mEv_G (orc := mOrc (oL_M_isAsSeen N)) (ret := rtZ) (blks := bl_M_isAsSeen) (cuts := [(2, H_M_isAsSeen_2 (mfix N (f_M_isAsSeen_L2 N)))]) wOKm (by decide) (oo_M_isAsSeen N) (RetOK_Z rfl) bk_M_isAsSeen (List.forall_mem_cons.mpr ⟨s_M_isAsSeen_2 N, mz_nil⟩)) rfl
noncomputable def C_M_isAsSeen {ρ : Type} (N : Nat) : List Value → mS → (Option Value → mS → Option ρ) → Option ρ := fun vs s kk => sR vs 0 fun r0 => pi1 r0 fun a1 r1 => rv0 r1 ((f_M_isAsSeen N a1 s).bind fun p => kk (some (.int p.1)) p.2)
theorem cs_M_isAsSeen {ρ : Type} {t0 : ρ} {d : Nat} (N : Nat) (hd : 1 + 1 ≤ d) : CallOK Sm R0m oFm nm d t0 247 (C_M_isAsSeen N) := by
  intro vs s kk h0
  obtain ⟨r0, rfl, h1⟩ := sR_some h0
  obtain ⟨a1, r1, rfl, h2⟩ := pi1_some h1
  obtain ⟨rfl, h3⟩ := rv0_some h2
  obtain ⟨p, hp, hk⟩ := Option.bind_eq_some_iff.mp h3
  exact ⟨_, _, _, hd, m_M_isAsSeen N a1 hp, hk, fun qy hq hf => by cases y_M_isAsSeen.symm.trans hq; exact ⟨_, _, rfl, rfl⟩⟩
/-! METHOD PorterDoorsModel.laysFits()V -/
set_option maxRecDepth 20000 in
noncomputable def q_M_laysFits : mI := (⟨"PorterDoorsModel", "laysFits", "()V"⟩, prog_13_method_80_code, 2, none, 10, 1814, 139, 1, 0, 1813, 114)
theorem y_M_laysFits : mT[246]? = some q_M_laysFits := mT_at_6 (k := 6) rfl
noncomputable def bl_M_laysFits : List (Nat × List mO) := [(0, [o0 (.aload_n 0), o0 (.iconst 0), o2 (.putfield 509) 10 59, o0 (.aload_n 0), o2 (.invokevirtual 470) 205 1, o0 (.iconst 0), o0 (.istore_n 1)]),
  (11, [o0 (.iload_n 1), o0 (.iconst 1), o0 (.aload_n 0), o2 (.invokevirtual 380) 191 1, o0 (.ishl), o1 (.if_icmp .ge 60) 78, o0 (.aload_n 0), o2 (.getfield 131) 10 58, o0 (.iload_n 1), o0 (.aload_n 0), o2 (.invokevirtual 389) 193 1, o0 (.aload_n 0), o0 (.iload_n 1), o2 (.invokevirtual 500) 235 2, o0 (.ixor), o0 (.iastore), o0 (.aload_n 0), o2 (.getfield 127) 10 57, o0 (.iload_n 1), o0 (.aload_n 0), o0 (.aload_n 0), o2 (.getfield 131) 10 58, o0 (.iload_n 1), o0 (.iaload), o2 (.invokevirtual 512) 247 2, o0 (.bastore), o0 (.aload_n 0), o2 (.getfield 127) 10 57, o0 (.iload_n 1), o0 (.baload), o1 (.ifCond .eq 13) 72, o0 (.aload_n 0), o0 (.dup), o2 (.getfield 509) 10 59, o0 (.iconst 1), o0 (.iadd), o2 (.putfield 509) 10 59]),
  (72, [o0 (.iinc 1 1), o1 (.goto (-64)) 11]),
  (78, [o0 (.return_)])]
theorem bk_M_laysFits : okBlks q_M_laysFits bl_M_laysFits = true := by decide +kernel
noncomputable def oL_M_laysFits {ρ : Type} (N : Nat) : List (Nat × (List Value → mS → (Option Value → mS → Option ρ) → Option ρ)) := [(205, C_M_laysOrders N), (191, C_M_porterMany N), (193, C_M_openSet N), (235, C_M_changedBy N), (247, C_M_isAsSeen N)]
theorem oo_M_laysFits {ρ : Type} {t0 : ρ} (N : Nat) : OrcOK Sm R0m oFm nm 8 t0 (mOrc (oL_M_laysFits N)) := mOrc_OK (List.forall_mem_cons.mpr ⟨cs_M_laysOrders N (by decide), List.forall_mem_cons.mpr ⟨cs_M_porterMany N (by decide), List.forall_mem_cons.mpr ⟨cs_M_openSet N (by decide), List.forall_mem_cons.mpr ⟨cs_M_changedBy N (by decide), List.forall_mem_cons.mpr ⟨cs_M_isAsSeen N (by decide), mz_nil⟩⟩⟩⟩⟩)
noncomputable def H_M_laysFits_11 {ρ : Type} (k : (Int32 × mS) → Option ρ) : mL → List Value → mS → Option ρ := fun loc st s => cR loc 0 0 (li1 loc 1 fun v0 => rv0 st (k (v0, s)))
noncomputable def f_M_laysFits_L11 (N : Nat) (k11 : (Int32 × mS) → Option (mS)) (x : Int32 × mS) : Option (mS) :=
  (f_M_porterMany N x.2).bind fun p1 =>
  if x.1 < (ils 1 p1.1) then
    (f_M_openSet N p1.2).bind fun p2 =>
    (f_M_changedBy N x.1 p2.2).bind fun p3 =>
    grd (inb x.1 1024) (
    let s4 := sA p3.2 39 (ix x.1) (p2.1 ^^^ p3.1)
    grd (inb x.1 1024) (
    (f_M_isAsSeen N (gA s4 39 (ix x.1)) s4).bind fun p5 =>
    grd (inb x.1 1024) (
    grd (isb p5.1) (
    let s6 := sA p5.2 38 (ix x.1) p5.1
    grd (inb x.1 1024) (
    if (gA s6 38 (ix x.1)) = 0 then
      k11 ((x.1 + 1), s6)
    else
      let s7 := sI s6 1059 0 ((gI s6 1059 0) + 1)
      k11 ((x.1 + 1), s7))))))
  else
    some p1.2
set_option maxRecDepth 100000 in
set_option maxHeartbeats 4000000 in
theorem t_M_laysFits_11 (N : Nat) {s9 : mS} {k11 : (Int32 × mS) → Option (mS)} (hk11 : SCd Sm R0m oFm nm 8 q_M_laysFits (none, s9) s9 11 (H_M_laysFits_11 k11)) : SCd Sm R0m oFm nm 8 q_M_laysFits (none, s9) s9 11 (H_M_laysFits_11 (f_M_laysFits_L11 N k11)) := by
  intro loc st s
  refine G_cR (fun h0 => ?_)
  refine G_li (fun v0 h1 => ?_)
  refine G_rv0 (fun e9 => ?_)
  subst e9
  refine G_sub (loc0 := [(0, .ref 0), (1, .int v0)]) (List.forall_mem_cons.mpr ⟨h0, List.forall_mem_cons.mpr ⟨h1, mz_nil⟩⟩) ?_
  exact G_eq (mEv_G (orc := mOrc (oL_M_laysFits N)) (ret := rtV) (blks := bl_M_laysFits) (cuts := [(11, H_M_laysFits_11 k11)]) wOKm (by decide) (oo_M_laysFits N) (RetOK_V rfl) bk_M_laysFits (List.forall_mem_cons.mpr ⟨hk11, mz_nil⟩)) rfl
theorem s_M_laysFits_11 (N : Nat) {s9 : mS} : SCd Sm R0m oFm nm 8 q_M_laysFits (none, s9) s9 11 (H_M_laysFits_11 (mfix N (f_M_laysFits_L11 N))) := by
  refine mfix_SC (H := H_M_laysFits_11) (fun loc st s => ?_) (fun k hk => t_M_laysFits_11 N hk) N
  refine G_cR (fun h0 => ?_)
  refine G_li (fun v0 h1 => ?_)
  refine G_rv0 (fun e9 => ?_)
  subst e9
  exact G_none
noncomputable def f_M_laysFits (N : Nat) (s : mS) : Option (mS) :=
  let s1 := sI s 1059 0 0
  (f_M_laysOrders N s1).bind fun p2 =>
  mfix N (f_M_laysFits_L11 N) (0, p2)
set_option maxRecDepth 100000 in
set_option maxHeartbeats 4000000 in
theorem m_M_laysFits (N : Nat) {s9 : mS} {s : mS} (h : f_M_laysFits N s = some s9) : MetM Sm R0m oFm nm 8 246 [.ref 0] s (none) s9 := by
  refine met_of_G (q := q_M_laysFits) (t0 := s9) y_M_laysFits (Nat.le_of_ble_eq_true rfl) ?_
  rw [← h]
  exact G_eq (mEv_G (orc := mOrc (oL_M_laysFits N)) (ret := rtV) (blks := bl_M_laysFits) (cuts := [(11, H_M_laysFits_11 (mfix N (f_M_laysFits_L11 N)))]) wOKm (by decide) (oo_M_laysFits N) (RetOK_V rfl) bk_M_laysFits (List.forall_mem_cons.mpr ⟨s_M_laysFits_11 N, mz_nil⟩)) rfl
noncomputable def C_M_laysFits {ρ : Type} (N : Nat) : List Value → mS → (Option Value → mS → Option ρ) → Option ρ := fun vs s kk => sR vs 0 fun r0 => rv0 r0 ((f_M_laysFits N s).bind fun p => kk none p)
theorem cs_M_laysFits {ρ : Type} {t0 : ρ} {d : Nat} (N : Nat) (hd : 8 + 1 ≤ d) : CallOK Sm R0m oFm nm d t0 246 (C_M_laysFits N) := by
  intro vs s kk h0
  obtain ⟨r0, rfl, h1⟩ := sR_some h0
  obtain ⟨rfl, h2⟩ := rv0_some h1
  obtain ⟨p, hp, hk⟩ := Option.bind_eq_some_iff.mp h2
  exact ⟨_, _, _, hd, m_M_laysFits N hp, hk, fun qy hq hf => by cases y_M_laysFits.symm.trans hq; exact ⟨_, _, rfl, rfl⟩⟩
/-! METHOD PorterDoorsModel.fits(I)I -/
set_option maxRecDepth 20000 in
noncomputable def q_M_fits : mI := (⟨"PorterDoorsModel", "fits", "(I)I"⟩, prog_13_method_81_code, 4, (some .int), 10, 1810, 139, 1, 1, 1808, 1809)
theorem y_M_fits : mT[245]? = some q_M_fits := mT_at_6 (k := 5) rfl
noncomputable def bl_M_fits : List (Nat × List mO) := [(0, [o0 (.aload_n 0), o2 (.getfield 367) 10 46, o1 (.ifCond .eq 8) 12, o0 (.iload_n 1), o0 (.iconst (-1)), o1 (.if_icmp .ge 5) 14]),
  (12, [o0 (.iconst (-1)), o0 (.ireturn)]),
  (14, [o0 (.aload_n 0), o2 (.invokevirtual 515) 246 1, o0 (.iload_n 1), o0 (.iconst (-1)), o1 (.if_icmp .ne 8) 28, o0 (.aload_n 0), o2 (.getfield 509) 10 59, o0 (.ireturn)]),
  (28, [o0 (.iconst 0), o0 (.istore_n 2), o0 (.iconst 0), o0 (.istore_n 3)]),
  (32, [o0 (.iload_n 3), o0 (.iconst 1), o0 (.aload_n 0), o2 (.invokevirtual 380) 191 1, o0 (.ishl), o1 (.if_icmp .ge 31) 70, o0 (.aload_n 0), o2 (.getfield 127) 10 57, o0 (.iload_n 3), o0 (.baload), o1 (.ifCond .ne 6) 54, o1 (.goto 13) 64]),
  (54, [o0 (.iload_n 2), o0 (.iload_n 1), o1 (.if_icmp .ne 5) 61, o0 (.iload_n 3), o0 (.ireturn)]),
  (61, [o0 (.iinc 2 1)]),
  (64, [o0 (.iinc 3 1), o1 (.goto (-35)) 32]),
  (70, [o0 (.iconst (-1)), o0 (.ireturn)])]
theorem bk_M_fits : okBlks q_M_fits bl_M_fits = true := by decide +kernel
noncomputable def oL_M_fits {ρ : Type} (N : Nat) : List (Nat × (List Value → mS → (Option Value → mS → Option ρ) → Option ρ)) := [(246, C_M_laysFits N), (191, C_M_porterMany N)]
theorem oo_M_fits {ρ : Type} {t0 : ρ} (N : Nat) : OrcOK Sm R0m oFm nm 9 t0 (mOrc (oL_M_fits N)) := mOrc_OK (List.forall_mem_cons.mpr ⟨cs_M_laysFits N (by decide), List.forall_mem_cons.mpr ⟨cs_M_porterMany N (by decide), mz_nil⟩⟩)
noncomputable def H_M_fits_32 {ρ : Type} (k : (Int32 × Int32 × Int32 × mS) → Option ρ) : mL → List Value → mS → Option ρ := fun loc st s => cR loc 0 0 (li1 loc 1 fun v0 => li1 loc 2 fun v1 => li1 loc 3 fun v2 => rv0 st (k (v0, v1, v2, s)))
noncomputable def f_M_fits_L32 (N : Nat) (k32 : (Int32 × Int32 × Int32 × mS) → Option (Int32 × mS)) (x : Int32 × Int32 × Int32 × mS) : Option (Int32 × mS) :=
  (f_M_porterMany N x.2.2.2).bind fun p1 =>
  if x.2.2.1 < (ils 1 p1.1) then
    grd (inb x.2.2.1 1024) (
    if (gA p1.2 38 (ix x.2.2.1)) = 0 then
      k32 (x.1, x.2.1, (x.2.2.1 + 1), p1.2)
    else
      if x.2.1 = x.1 then
        some (x.2.2.1, p1.2)
      else
        k32 (x.1, (x.2.1 + 1), (x.2.2.1 + 1), p1.2))
  else
    some ((-1), p1.2)
set_option maxRecDepth 100000 in
set_option maxHeartbeats 4000000 in
theorem t_M_fits_32 (N : Nat) {x9 : Int32} {s9 : mS} {k32 : (Int32 × Int32 × Int32 × mS) → Option (Int32 × mS)} (hk32 : SCd Sm R0m oFm nm 9 q_M_fits (some (.int x9), s9) (x9, s9) 32 (H_M_fits_32 k32)) : SCd Sm R0m oFm nm 9 q_M_fits (some (.int x9), s9) (x9, s9) 32 (H_M_fits_32 (f_M_fits_L32 N k32)) := by
  intro loc st s
  refine G_cR (fun h0 => ?_)
  refine G_li (fun v0 h1 => ?_)
  refine G_li (fun v1 h2 => ?_)
  refine G_li (fun v2 h3 => ?_)
  refine G_rv0 (fun e9 => ?_)
  subst e9
  refine G_sub (loc0 := [(0, .ref 0), (1, .int v0), (2, .int v1), (3, .int v2)]) (List.forall_mem_cons.mpr ⟨h0, List.forall_mem_cons.mpr ⟨h1, List.forall_mem_cons.mpr ⟨h2, List.forall_mem_cons.mpr ⟨h3, mz_nil⟩⟩⟩⟩) ?_
  exact G_eq (mEv_G (orc := mOrc (oL_M_fits N)) (ret := rtI) (blks := bl_M_fits) (cuts := [(32, H_M_fits_32 k32)]) wOKm (by decide) (oo_M_fits N) (RetOK_I rfl) bk_M_fits (List.forall_mem_cons.mpr ⟨hk32, mz_nil⟩)) rfl
theorem s_M_fits_32 (N : Nat) {x9 : Int32} {s9 : mS} : SCd Sm R0m oFm nm 9 q_M_fits (some (.int x9), s9) (x9, s9) 32 (H_M_fits_32 (mfix N (f_M_fits_L32 N))) := by
  refine mfix_SC (H := H_M_fits_32) (fun loc st s => ?_) (fun k hk => t_M_fits_32 N hk) N
  refine G_cR (fun h0 => ?_)
  refine G_li (fun v0 h1 => ?_)
  refine G_li (fun v1 h2 => ?_)
  refine G_li (fun v2 h3 => ?_)
  refine G_rv0 (fun e9 => ?_)
  subst e9
  exact G_none
noncomputable def f_M_fits (N : Nat) (a1 : Int32) (s : mS) : Option (Int32 × mS) :=
  if (gI s 1046 0) = 0 then
    some ((-1), s)
  else
    if a1 < (-1) then
      some ((-1), s)
    else
      (f_M_laysFits N s).bind fun p1 =>
      if a1 = (-1) then
        some ((gI p1 1059 0), p1)
      else
        mfix N (f_M_fits_L32 N) (a1, 0, 0, p1)
set_option maxRecDepth 100000 in
set_option maxHeartbeats 4000000 in
theorem m_M_fits (N : Nat) {x9 : Int32} {s9 : mS} (a1 : Int32) {s : mS} (h : f_M_fits N a1 s = some (x9, s9)) : MetM Sm R0m oFm nm 9 245 [.ref 0, .int a1] s (some (.int x9)) s9 := by
  refine met_of_G (q := q_M_fits) (t0 := (x9, s9)) y_M_fits (Nat.le_of_ble_eq_true rfl) ?_
  rw [← h]
  exact G_eq (mEv_G (orc := mOrc (oL_M_fits N)) (ret := rtI) (blks := bl_M_fits) (cuts := [(32, H_M_fits_32 (mfix N (f_M_fits_L32 N)))]) wOKm (by decide) (oo_M_fits N) (RetOK_I rfl) bk_M_fits (List.forall_mem_cons.mpr ⟨s_M_fits_32 N, mz_nil⟩)) rfl
noncomputable def C_M_fits {ρ : Type} (N : Nat) : List Value → mS → (Option Value → mS → Option ρ) → Option ρ := fun vs s kk => sR vs 0 fun r0 => pi1 r0 fun a1 r1 => rv0 r1 ((f_M_fits N a1 s).bind fun p => kk (some (.int p.1)) p.2)
theorem cs_M_fits {ρ : Type} {t0 : ρ} {d : Nat} (N : Nat) (hd : 9 + 1 ≤ d) : CallOK Sm R0m oFm nm d t0 245 (C_M_fits N) := by
  intro vs s kk h0
  obtain ⟨r0, rfl, h1⟩ := sR_some h0
  obtain ⟨a1, r1, rfl, h2⟩ := pi1_some h1
  obtain ⟨rfl, h3⟩ := rv0_some h2
  obtain ⟨p, hp, hk⟩ := Option.bind_eq_some_iff.mp h3
  exact ⟨_, _, _, hd, m_M_fits N a1 hp, hk, fun qy hq hf => by cases y_M_fits.symm.trans hq; exact ⟨_, _, rfl, rfl⟩⟩
/-! METHOD PorterDoorsModel.walked(I)I -/
set_option maxRecDepth 20000 in
noncomputable def q_M_walked : mI := (⟨"PorterDoorsModel", "walked", "(I)I"⟩, prog_13_method_82_code, 4, (some .int), 10, 1822, 139, 1, 1, 1820, 1821)
theorem y_M_walked : mT[248]? = some q_M_walked := mT_at_6 (k := 8) rfl
noncomputable def bl_M_walked : List (Nat × List mO) := [(0, [o0 (.aload_n 0), o0 (.iload_n 1), o0 (.i2l), o2 (.invokevirtual 466) 200 2, o1 (.ifCond .ne 5) 11, o0 (.iconst (-1)), o0 (.ireturn)]),
  (11, [o0 (.aload_n 0), o2 (.invokevirtual 515) 246 1, o0 (.iconst 0), o0 (.istore_n 2), o0 (.iconst 0), o0 (.istore_n 3)]),
  (19, [o0 (.iload_n 3), o0 (.iconst 1), o0 (.aload_n 0), o2 (.invokevirtual 380) 191 1, o0 (.ishl), o1 (.if_icmp .ge 30) 56, o0 (.aload_n 0), o2 (.getfield 127) 10 57, o0 (.iload_n 3), o0 (.baload), o1 (.ifCond .eq 15) 50, o0 (.iload_n 3), o0 (.iload_n 1), o0 (.ishr), o0 (.iconst 1), o0 (.iand), o0 (.iconst 1), o1 (.if_icmp .ne 6) 50, o0 (.iinc 2 1)]),
  (50, [o0 (.iinc 3 1), o1 (.goto (-34)) 19]),
  (56, [o0 (.aload_n 0), o2 (.getfield 509) 10 59, o1 (.ifCond .ne 7) 67, o0 (.iconst (-1)), o1 (.goto 24) 88]),
  (67, [o0 (.iload_n 2), o0 (.aload_n 0), o2 (.getfield 509) 10 59, o1 (.if_icmp .ne 7) 79, o0 (.iconst 1), o1 (.goto 12) 88]),
  (79, [o0 (.iload_n 2), o1 (.ifCond .ne 7) 87, o0 (.iconst 2), o1 (.goto 4) 88]),
  (87, [o0 (.iconst 0)]),
  (88, [o0 (.ireturn)])]
theorem bk_M_walked : okBlks q_M_walked bl_M_walked = true := by decide +kernel
noncomputable def oL_M_walked {ρ : Type} (N : Nat) : List (Nat × (List Value → mS → (Option Value → mS → Option ρ) → Option ρ)) := [(200, C_M_isPorter N), (246, C_M_laysFits N), (191, C_M_porterMany N)]
theorem oo_M_walked {ρ : Type} {t0 : ρ} (N : Nat) : OrcOK Sm R0m oFm nm 9 t0 (mOrc (oL_M_walked N)) := mOrc_OK (List.forall_mem_cons.mpr ⟨cs_M_isPorter N (by decide), List.forall_mem_cons.mpr ⟨cs_M_laysFits N (by decide), List.forall_mem_cons.mpr ⟨cs_M_porterMany N (by decide), mz_nil⟩⟩⟩)
noncomputable def H_M_walked_19 {ρ : Type} (k : (Int32 × Int32 × Int32 × mS) → Option ρ) : mL → List Value → mS → Option ρ := fun loc st s => cR loc 0 0 (li1 loc 1 fun v0 => li1 loc 2 fun v1 => li1 loc 3 fun v2 => rv0 st (k (v0, v1, v2, s)))
noncomputable def f_M_walked_L19 (N : Nat) (k19 : (Int32 × Int32 × Int32 × mS) → Option (Int32 × mS)) (x : Int32 × Int32 × Int32 × mS) : Option (Int32 × mS) :=
  (f_M_porterMany N x.2.2.2).bind fun p1 =>
  if x.2.2.1 < (ils 1 p1.1) then
    grd (inb x.2.2.1 1024) (
    if (gA p1.2 38 (ix x.2.2.1)) = 0 then
      k19 (x.1, x.2.1, (x.2.2.1 + 1), p1.2)
    else
      if ((irs x.2.2.1 x.1) &&& 1) = 1 then
        k19 (x.1, (x.2.1 + 1), (x.2.2.1 + 1), p1.2)
      else
        k19 (x.1, x.2.1, (x.2.2.1 + 1), p1.2))
  else
    if (gI p1.2 1059 0) = 0 then
      some ((-1), p1.2)
    else
      if x.2.1 = (gI p1.2 1059 0) then
        some (1, p1.2)
      else
        if x.2.1 = 0 then
          some (2, p1.2)
        else
          some (0, p1.2)
set_option maxRecDepth 100000 in
set_option maxHeartbeats 4000000 in
theorem t_M_walked_19 (N : Nat) {x9 : Int32} {s9 : mS} {k19 : (Int32 × Int32 × Int32 × mS) → Option (Int32 × mS)} (hk19 : SCd Sm R0m oFm nm 9 q_M_walked (some (.int x9), s9) (x9, s9) 19 (H_M_walked_19 k19)) : SCd Sm R0m oFm nm 9 q_M_walked (some (.int x9), s9) (x9, s9) 19 (H_M_walked_19 (f_M_walked_L19 N k19)) := by
  intro loc st s
  refine G_cR (fun h0 => ?_)
  refine G_li (fun v0 h1 => ?_)
  refine G_li (fun v1 h2 => ?_)
  refine G_li (fun v2 h3 => ?_)
  refine G_rv0 (fun e9 => ?_)
  subst e9
  refine G_sub (loc0 := [(0, .ref 0), (1, .int v0), (2, .int v1), (3, .int v2)]) (List.forall_mem_cons.mpr ⟨h0, List.forall_mem_cons.mpr ⟨h1, List.forall_mem_cons.mpr ⟨h2, List.forall_mem_cons.mpr ⟨h3, mz_nil⟩⟩⟩⟩) ?_
  exact G_eq (mEv_G (orc := mOrc (oL_M_walked N)) (ret := rtI) (blks := bl_M_walked) (cuts := [(19, H_M_walked_19 k19)]) wOKm (by decide) (oo_M_walked N) (RetOK_I rfl) bk_M_walked (List.forall_mem_cons.mpr ⟨hk19, mz_nil⟩)) rfl
theorem s_M_walked_19 (N : Nat) {x9 : Int32} {s9 : mS} : SCd Sm R0m oFm nm 9 q_M_walked (some (.int x9), s9) (x9, s9) 19 (H_M_walked_19 (mfix N (f_M_walked_L19 N))) := by
  refine mfix_SC (H := H_M_walked_19) (fun loc st s => ?_) (fun k hk => t_M_walked_19 N hk) N
  refine G_cR (fun h0 => ?_)
  refine G_li (fun v0 h1 => ?_)
  refine G_li (fun v1 h2 => ?_)
  refine G_li (fun v2 h3 => ?_)
  refine G_rv0 (fun e9 => ?_)
  subst e9
  exact G_none
noncomputable def f_M_walked (N : Nat) (a1 : Int32) (s : mS) : Option (Int32 × mS) :=
  (f_M_isPorter N (a1).toInt64 s).bind fun p1 =>
  if p1.1 = 0 then
    some ((-1), p1.2)
  else
    (f_M_laysFits N p1.2).bind fun p2 =>
    mfix N (f_M_walked_L19 N) (a1, 0, 0, p2)
set_option maxRecDepth 100000 in
set_option maxHeartbeats 4000000 in
theorem m_M_walked (N : Nat) {x9 : Int32} {s9 : mS} (a1 : Int32) {s : mS} (h : f_M_walked N a1 s = some (x9, s9)) : MetM Sm R0m oFm nm 9 248 [.ref 0, .int a1] s (some (.int x9)) s9 := by
  refine met_of_G (q := q_M_walked) (t0 := (x9, s9)) y_M_walked (Nat.le_of_ble_eq_true rfl) ?_
  rw [← h]
  exact G_eq (mEv_G (orc := mOrc (oL_M_walked N)) (ret := rtI) (blks := bl_M_walked) (cuts := [(19, H_M_walked_19 (mfix N (f_M_walked_L19 N)))]) wOKm (by decide) (oo_M_walked N) (RetOK_I rfl) bk_M_walked (List.forall_mem_cons.mpr ⟨s_M_walked_19 N, mz_nil⟩)) rfl
noncomputable def C_M_walked {ρ : Type} (N : Nat) : List Value → mS → (Option Value → mS → Option ρ) → Option ρ := fun vs s kk => sR vs 0 fun r0 => pi1 r0 fun a1 r1 => rv0 r1 ((f_M_walked N a1 s).bind fun p => kk (some (.int p.1)) p.2)
theorem cs_M_walked {ρ : Type} {t0 : ρ} {d : Nat} (N : Nat) (hd : 9 + 1 ≤ d) : CallOK Sm R0m oFm nm d t0 248 (C_M_walked N) := by
  intro vs s kk h0
  obtain ⟨r0, rfl, h1⟩ := sR_some h0
  obtain ⟨a1, r1, rfl, h2⟩ := pi1_some h1
  obtain ⟨rfl, h3⟩ := rv0_some h2
  obtain ⟨p, hp, hk⟩ := Option.bind_eq_some_iff.mp h3
  exact ⟨_, _, _, hd, m_M_walked N a1 hp, hk, fun qy hq hf => by cases y_M_walked.symm.trans hq; exact ⟨_, _, rfl, rfl⟩⟩
/-! METHOD PorterDoorsModel.mostAlike(I)I -/
set_option maxRecDepth 20000 in
noncomputable def q_M_mostAlike : mI := (⟨"PorterDoorsModel", "mostAlike", "(I)I"⟩, prog_13_method_83_code, 4, (some .int), 10, 1830, 139, 1, 1, 1829, 116)
theorem y_M_mostAlike : mT[250]? = some q_M_mostAlike := mT_at_6 (k := 10) rfl
noncomputable def bl_M_mostAlike : List (Nat × List mO) := [(0, [o0 (.iconst 0), o0 (.istore_n 2), o0 (.iconst 0), o0 (.istore_n 3)]),
  (4, [o0 (.iload_n 3), o0 (.iconst 1), o0 (.aload_n 0), o2 (.invokevirtual 380) 191 1, o0 (.ishl), o1 (.if_icmp .ge 35) 46, o0 (.aload_n 0), o2 (.getfield 127) 10 57, o0 (.iload_n 3), o0 (.baload), o1 (.ifCond .eq 20) 40, o0 (.aload_n 0), o2 (.getfield 131) 10 58, o0 (.iload_n 3), o0 (.iaload), o0 (.iload_n 1), o0 (.ishr), o0 (.iconst 1), o0 (.iand), o0 (.iconst 1), o1 (.if_icmp .ne 6) 40, o0 (.iinc 2 1)]),
  (40, [o0 (.iinc 3 1), o1 (.goto (-39)) 4]),
  (46, [o0 (.iload_n 2), o0 (.aload_n 0), o2 (.getfield 509) 10 59, o0 (.iload_n 2), o0 (.isub), o1 (.if_icmp .ge 12) 65, o0 (.aload_n 0), o2 (.getfield 509) 10 59, o0 (.iload_n 2), o0 (.isub), o1 (.goto 4) 66]),
  (65, [o0 (.iload_n 2)]),
  (66, [o0 (.ireturn)])]
theorem bk_M_mostAlike : okBlks q_M_mostAlike bl_M_mostAlike = true := by decide +kernel
noncomputable def oL_M_mostAlike {ρ : Type} (N : Nat) : List (Nat × (List Value → mS → (Option Value → mS → Option ρ) → Option ρ)) := [(191, C_M_porterMany N)]
theorem oo_M_mostAlike {ρ : Type} {t0 : ρ} (N : Nat) : OrcOK Sm R0m oFm nm 2 t0 (mOrc (oL_M_mostAlike N)) := mOrc_OK (List.forall_mem_cons.mpr ⟨cs_M_porterMany N (by decide), mz_nil⟩)
noncomputable def H_M_mostAlike_4 {ρ : Type} (k : (Int32 × Int32 × Int32 × mS) → Option ρ) : mL → List Value → mS → Option ρ := fun loc st s => cR loc 0 0 (li1 loc 1 fun v0 => li1 loc 2 fun v1 => li1 loc 3 fun v2 => rv0 st (k (v0, v1, v2, s)))
noncomputable def f_M_mostAlike_L4 (N : Nat) (k4 : (Int32 × Int32 × Int32 × mS) → Option (Int32 × mS)) (x : Int32 × Int32 × Int32 × mS) : Option (Int32 × mS) :=
  (f_M_porterMany N x.2.2.2).bind fun p1 =>
  if x.2.2.1 < (ils 1 p1.1) then
    grd (inb x.2.2.1 1024) (
    if (gA p1.2 38 (ix x.2.2.1)) = 0 then
      k4 (x.1, x.2.1, (x.2.2.1 + 1), p1.2)
    else
      grd (inb x.2.2.1 1024) (
      if ((irs (gA p1.2 39 (ix x.2.2.1)) x.1) &&& 1) = 1 then
        k4 (x.1, (x.2.1 + 1), (x.2.2.1 + 1), p1.2)
      else
        k4 (x.1, x.2.1, (x.2.2.1 + 1), p1.2)))
  else
    if x.2.1 < ((gI p1.2 1059 0) - x.2.1) then
      some (((gI p1.2 1059 0) - x.2.1), p1.2)
    else
      some (x.2.1, p1.2)
set_option maxRecDepth 100000 in
set_option maxHeartbeats 4000000 in
theorem t_M_mostAlike_4 (N : Nat) {x9 : Int32} {s9 : mS} {k4 : (Int32 × Int32 × Int32 × mS) → Option (Int32 × mS)} (hk4 : SCd Sm R0m oFm nm 2 q_M_mostAlike (some (.int x9), s9) (x9, s9) 4 (H_M_mostAlike_4 k4)) : SCd Sm R0m oFm nm 2 q_M_mostAlike (some (.int x9), s9) (x9, s9) 4 (H_M_mostAlike_4 (f_M_mostAlike_L4 N k4)) := by
  intro loc st s
  refine G_cR (fun h0 => ?_)
  refine G_li (fun v0 h1 => ?_)
  refine G_li (fun v1 h2 => ?_)
  refine G_li (fun v2 h3 => ?_)
  refine G_rv0 (fun e9 => ?_)
  subst e9
  refine G_sub (loc0 := [(0, .ref 0), (1, .int v0), (2, .int v1), (3, .int v2)]) (List.forall_mem_cons.mpr ⟨h0, List.forall_mem_cons.mpr ⟨h1, List.forall_mem_cons.mpr ⟨h2, List.forall_mem_cons.mpr ⟨h3, mz_nil⟩⟩⟩⟩) ?_
  exact G_eq (mEv_G (orc := mOrc (oL_M_mostAlike N)) (ret := rtI) (blks := bl_M_mostAlike) (cuts := [(4, H_M_mostAlike_4 k4)]) wOKm (by decide) (oo_M_mostAlike N) (RetOK_I rfl) bk_M_mostAlike (List.forall_mem_cons.mpr ⟨hk4, mz_nil⟩)) rfl
theorem s_M_mostAlike_4 (N : Nat) {x9 : Int32} {s9 : mS} : SCd Sm R0m oFm nm 2 q_M_mostAlike (some (.int x9), s9) (x9, s9) 4 (H_M_mostAlike_4 (mfix N (f_M_mostAlike_L4 N))) := by
  refine mfix_SC (H := H_M_mostAlike_4) (fun loc st s => ?_) (fun k hk => t_M_mostAlike_4 N hk) N
  refine G_cR (fun h0 => ?_)
  refine G_li (fun v0 h1 => ?_)
  refine G_li (fun v1 h2 => ?_)
  refine G_li (fun v2 h3 => ?_)
  refine G_rv0 (fun e9 => ?_)
  subst e9
  exact G_none
noncomputable def f_M_mostAlike (N : Nat) (a1 : Int32) (s : mS) : Option (Int32 × mS) :=
  mfix N (f_M_mostAlike_L4 N) (a1, 0, 0, s)
set_option maxRecDepth 100000 in
set_option maxHeartbeats 4000000 in
theorem m_M_mostAlike (N : Nat) {x9 : Int32} {s9 : mS} (a1 : Int32) {s : mS} (h : f_M_mostAlike N a1 s = some (x9, s9)) : MetM Sm R0m oFm nm 2 250 [.ref 0, .int a1] s (some (.int x9)) s9 := by
  refine met_of_G (q := q_M_mostAlike) (t0 := (x9, s9)) y_M_mostAlike (Nat.le_of_ble_eq_true rfl) ?_
  rw [← h]
  exact G_eq (mEv_G (orc := mOrc (oL_M_mostAlike N)) (ret := rtI) (blks := bl_M_mostAlike) (cuts := [(4, H_M_mostAlike_4 (mfix N (f_M_mostAlike_L4 N)))]) wOKm (by decide) (oo_M_mostAlike N) (RetOK_I rfl) bk_M_mostAlike (List.forall_mem_cons.mpr ⟨s_M_mostAlike_4 N, mz_nil⟩)) rfl
noncomputable def C_M_mostAlike {ρ : Type} (N : Nat) : List Value → mS → (Option Value → mS → Option ρ) → Option ρ := fun vs s kk => sR vs 0 fun r0 => pi1 r0 fun a1 r1 => rv0 r1 ((f_M_mostAlike N a1 s).bind fun p => kk (some (.int p.1)) p.2)
theorem cs_M_mostAlike {ρ : Type} {t0 : ρ} {d : Nat} (N : Nat) (hd : 2 + 1 ≤ d) : CallOK Sm R0m oFm nm d t0 250 (C_M_mostAlike N) := by
  intro vs s kk h0
  obtain ⟨r0, rfl, h1⟩ := sR_some h0
  obtain ⟨a1, r1, rfl, h2⟩ := pi1_some h1
  obtain ⟨rfl, h3⟩ := rv0_some h2
  obtain ⟨p, hp, hk⟩ := Option.bind_eq_some_iff.mp h3
  exact ⟨_, _, _, hd, m_M_mostAlike N a1 hp, hk, fun qy hq hf => by cases y_M_mostAlike.symm.trans hq; exact ⟨_, _, rfl, rfl⟩⟩
/-! METHOD PorterDoorsModel.tells(I)I -/
set_option maxRecDepth 20000 in
noncomputable def q_M_tells : mI := (⟨"PorterDoorsModel", "tells", "(I)I"⟩, prog_13_method_84_code, 6, (some .int), 10, 1826, 139, 1, 1, 1824, 1825)
theorem y_M_tells : mT[249]? = some q_M_tells := mT_at_6 (k := 9) rfl
noncomputable def bl_M_tells : List (Nat × List mO) := [(0, [o0 (.aload_n 0), o2 (.getfield 367) 10 46, o1 (.ifCond .eq 13) 17, o0 (.iload_n 1), o0 (.i2l), o0 (.lconst 0), o0 (.lconst 1), o2 (.invokestatic 270) 155 3, o1 (.ifCond .ne 5) 19]),
  (17, [o0 (.iconst (-1)), o0 (.ireturn)]),
  (19, [o0 (.aload_n 0), o2 (.invokevirtual 515) 246 1, o0 (.iconst (-1)), o0 (.istore_n 2), o0 (.iconst (-1)), o0 (.istore_n 3), o0 (.iconst 0), o0 (.istore 4)]),
  (30, [o0 (.iload 4), o0 (.aload_n 0), o2 (.invokevirtual 377) 190 1, o1 (.if_icmp .ge 44) 80, o0 (.aload_n 0), o2 (.getfield 509) 10 59, o1 (.ifCond .le 37) 80, o0 (.aload_n 0), o0 (.iload 4), o2 (.invokevirtual 518) 250 2, o0 (.istore 5), o0 (.iload_n 2), o0 (.iconst (-1)), o1 (.if_icmp .eq 12) 68, o0 (.iload 5), o0 (.iload_n 3), o1 (.if_icmp .lt 6) 68, o1 (.goto 9) 74]),
  (68, [o0 (.iload 4), o0 (.istore_n 2), o0 (.iload 5), o0 (.istore_n 3)]),
  (74, [o0 (.iinc 4 1), o1 (.goto (-47)) 30]),
  (80, [o0 (.iload_n 1), o1 (.ifCond .ne 7) 88, o0 (.iload_n 2), o1 (.goto 4) 89]),
  (88, [o0 (.iload_n 3)]),
  (89, [o0 (.ireturn)])]
theorem bk_M_tells : okBlks q_M_tells bl_M_tells = true := by decide +kernel
noncomputable def oL_M_tells {ρ : Type} (N : Nat) : List (Nat × (List Value → mS → (Option Value → mS → Option ρ) → Option ρ)) := [(155, C_M_isIn N), (246, C_M_laysFits N), (190, C_M_doorMany N), (250, C_M_mostAlike N)]
theorem oo_M_tells {ρ : Type} {t0 : ρ} (N : Nat) : OrcOK Sm R0m oFm nm 9 t0 (mOrc (oL_M_tells N)) := mOrc_OK (List.forall_mem_cons.mpr ⟨cs_M_isIn N (by decide), List.forall_mem_cons.mpr ⟨cs_M_laysFits N (by decide), List.forall_mem_cons.mpr ⟨cs_M_doorMany N (by decide), List.forall_mem_cons.mpr ⟨cs_M_mostAlike N (by decide), mz_nil⟩⟩⟩⟩)
noncomputable def H_M_tells_30 {ρ : Type} (k : (Int32 × Int32 × Int32 × Int32 × mS) → Option ρ) : mL → List Value → mS → Option ρ := fun loc st s => cR loc 0 0 (li1 loc 1 fun v0 => li1 loc 2 fun v1 => li1 loc 3 fun v2 => li1 loc 4 fun v3 => rv0 st (k (v0, v1, v2, v3, s)))
noncomputable def f_M_tells_L30 (N : Nat) (k30 : (Int32 × Int32 × Int32 × Int32 × mS) → Option (Int32 × mS)) (x : Int32 × Int32 × Int32 × Int32 × mS) : Option (Int32 × mS) :=
  (f_M_doorMany N x.2.2.2.2).bind fun p1 =>
  if x.2.2.2.1 < p1.1 then
    if 0 < (gI p1.2 1059 0) then
      (f_M_mostAlike N x.2.2.2.1 p1.2).bind fun p2 =>
      if x.2.1 = (-1) then
        k30 (x.1, x.2.2.2.1, p2.1, (x.2.2.2.1 + 1), p2.2)
      else
        if p2.1 < x.2.2.1 then
          k30 (x.1, x.2.2.2.1, p2.1, (x.2.2.2.1 + 1), p2.2)
        else
          k30 (x.1, x.2.1, x.2.2.1, (x.2.2.2.1 + 1), p2.2)
    else
      if x.1 = 0 then
        some (x.2.1, p1.2)
      else
        some (x.2.2.1, p1.2)
  else
    if x.1 = 0 then
      some (x.2.1, p1.2)
    else
      some (x.2.2.1, p1.2)
set_option maxRecDepth 100000 in
set_option maxHeartbeats 4000000 in
theorem t_M_tells_30 (N : Nat) {x9 : Int32} {s9 : mS} {k30 : (Int32 × Int32 × Int32 × Int32 × mS) → Option (Int32 × mS)} (hk30 : SCd Sm R0m oFm nm 9 q_M_tells (some (.int x9), s9) (x9, s9) 30 (H_M_tells_30 k30)) : SCd Sm R0m oFm nm 9 q_M_tells (some (.int x9), s9) (x9, s9) 30 (H_M_tells_30 (f_M_tells_L30 N k30)) := by
  intro loc st s
  refine G_cR (fun h0 => ?_)
  refine G_li (fun v0 h1 => ?_)
  refine G_li (fun v1 h2 => ?_)
  refine G_li (fun v2 h3 => ?_)
  refine G_li (fun v3 h4 => ?_)
  refine G_rv0 (fun e9 => ?_)
  subst e9
  refine G_sub (loc0 := [(0, .ref 0), (1, .int v0), (2, .int v1), (3, .int v2), (4, .int v3)]) (List.forall_mem_cons.mpr ⟨h0, List.forall_mem_cons.mpr ⟨h1, List.forall_mem_cons.mpr ⟨h2, List.forall_mem_cons.mpr ⟨h3, List.forall_mem_cons.mpr ⟨h4, mz_nil⟩⟩⟩⟩⟩) ?_
  exact G_eq (mEv_G (orc := mOrc (oL_M_tells N)) (ret := rtI) (blks := bl_M_tells) (cuts := [(30, H_M_tells_30 k30)]) wOKm (by decide) (oo_M_tells N) (RetOK_I rfl) bk_M_tells (List.forall_mem_cons.mpr ⟨hk30, mz_nil⟩)) rfl
theorem s_M_tells_30 (N : Nat) {x9 : Int32} {s9 : mS} : SCd Sm R0m oFm nm 9 q_M_tells (some (.int x9), s9) (x9, s9) 30 (H_M_tells_30 (mfix N (f_M_tells_L30 N))) := by
  refine mfix_SC (H := H_M_tells_30) (fun loc st s => ?_) (fun k hk => t_M_tells_30 N hk) N
  refine G_cR (fun h0 => ?_)
  refine G_li (fun v0 h1 => ?_)
  refine G_li (fun v1 h2 => ?_)
  refine G_li (fun v2 h3 => ?_)
  refine G_li (fun v3 h4 => ?_)
  refine G_rv0 (fun e9 => ?_)
  subst e9
  exact G_none
noncomputable def f_M_tells (N : Nat) (a1 : Int32) (s : mS) : Option (Int32 × mS) :=
  if (gI s 1046 0) = 0 then
    some ((-1), s)
  else
    (f_M_isIn N (a1).toInt64 0 1 s).bind fun p1 =>
    if p1.1 = 0 then
      some ((-1), p1.2)
    else
      (f_M_laysFits N p1.2).bind fun p2 =>
      mfix N (f_M_tells_L30 N) (a1, (-1), (-1), 0, p2)
set_option maxRecDepth 100000 in
set_option maxHeartbeats 4000000 in
theorem m_M_tells (N : Nat) {x9 : Int32} {s9 : mS} (a1 : Int32) {s : mS} (h : f_M_tells N a1 s = some (x9, s9)) : MetM Sm R0m oFm nm 9 249 [.ref 0, .int a1] s (some (.int x9)) s9 := by
  refine met_of_G (q := q_M_tells) (t0 := (x9, s9)) y_M_tells (Nat.le_of_ble_eq_true rfl) ?_
  rw [← h]
  exact G_eq (mEv_G (orc := mOrc (oL_M_tells N)) (ret := rtI) (blks := bl_M_tells) (cuts := [(30, H_M_tells_30 (mfix N (f_M_tells_L30 N)))]) wOKm (by decide) (oo_M_tells N) (RetOK_I rfl) bk_M_tells (List.forall_mem_cons.mpr ⟨s_M_tells_30 N, mz_nil⟩)) rfl
noncomputable def C_M_tells {ρ : Type} (N : Nat) : List Value → mS → (Option Value → mS → Option ρ) → Option ρ := fun vs s kk => sR vs 0 fun r0 => pi1 r0 fun a1 r1 => rv0 r1 ((f_M_tells N a1 s).bind fun p => kk (some (.int p.1)) p.2)
theorem cs_M_tells {ρ : Type} {t0 : ρ} {d : Nat} (N : Nat) (hd : 9 + 1 ≤ d) : CallOK Sm R0m oFm nm d t0 249 (C_M_tells N) := by
  intro vs s kk h0
  obtain ⟨r0, rfl, h1⟩ := sR_some h0
  obtain ⟨a1, r1, rfl, h2⟩ := pi1_some h1
  obtain ⟨rfl, h3⟩ := rv0_some h2
  obtain ⟨p, hp, hk⟩ := Option.bind_eq_some_iff.mp h3
  exact ⟨_, _, _, hd, m_M_tells N a1 hp, hk, fun qy hq hf => by cases y_M_tells.symm.trans hq; exact ⟨_, _, rfl, rfl⟩⟩
/-! METHOD PorterDoorsModel.undo()Z -/
set_option maxRecDepth 20000 in
noncomputable def q_M_undo : mI := (⟨"PorterDoorsModel", "undo", "()Z"⟩, prog_13_method_86_code, 2, (some .boolean), 10, 1834, 139, 1, 0, 1832, 1833)
theorem y_M_undo : mT[251]? = some q_M_undo := mT_at_6 (k := 11) rfl
noncomputable def bl_M_undo : List (Nat × List mO) := [(0, [o0 (.aload_n 0), o2 (.getfield 371) 10 61, o1 (.ifCond .ne 15) 19, o0 (.aload_n 0), o2 (.getfield 17) 10 9, o0 (.iconst 4), o0 (.dup2), o0 (.iaload), o0 (.iconst 1), o0 (.iadd), o0 (.iastore), o0 (.iconst 0), o0 (.ireturn)]),
  (19, [o0 (.iconst 0), o0 (.istore_n 1)]),
  (21, [o0 (.iload_n 1), o0 (.sipush 205), o1 (.if_icmp .ge 30) 55, o0 (.aload_n 0), o2 (.getfield 115) 10 48, o0 (.iload_n 1), o0 (.aload_n 0), o2 (.getfield 134) 10 60, o0 (.sipush 205), o0 (.aload_n 0), o2 (.getfield 521) 10 62, o0 (.imul), o0 (.iload_n 1), o0 (.iadd), o0 (.iaload), o0 (.iastore), o0 (.iinc 1 1), o1 (.goto (-31)) 21]),
  (55, [o0 (.aload_n 0), o0 (.aload_n 0), o2 (.getfield 521) 10 62, o0 (.bipush 20), o0 (.iadd), o0 (.iconst 1), o0 (.isub), o0 (.bipush 20), o0 (.irem), o2 (.putfield 521) 10 62, o0 (.aload_n 0), o0 (.dup), o2 (.getfield 371) 10 61, o0 (.iconst 1), o0 (.isub), o2 (.putfield 371) 10 61, o0 (.iconst 1), o0 (.ireturn)])]
theorem bk_M_undo : okBlks q_M_undo bl_M_undo = true := by decide +kernel
noncomputable def oL_M_undo {ρ : Type} (N : Nat) : List (Nat × (List Value → mS → (Option Value → mS → Option ρ) → Option ρ)) := []
theorem oo_M_undo {ρ : Type} {t0 : ρ} (N : Nat) : OrcOK Sm R0m oFm nm 1 t0 (mOrc (oL_M_undo N)) := mOrc_OK (mz_nil)
noncomputable def H_M_undo_21 {ρ : Type} (k : (Int32 × mS) → Option ρ) : mL → List Value → mS → Option ρ := fun loc st s => cR loc 0 0 (li1 loc 1 fun v0 => rv0 st (k (v0, s)))
noncomputable def f_M_undo_L21 (N : Nat) (k21 : (Int32 × mS) → Option (Int32 × mS)) (x : Int32 × mS) : Option (Int32 × mS) :=
  if x.1 < 205 then
    grd (inb ((205 * (gI x.2 1062 0)) + x.1) 4100) (
    grd (inb x.1 205) (
    let s3 := sA x.2 34 (ix x.1) (gA x.2 40 (ix ((205 * (gI x.2 1062 0)) + x.1)))
    k21 ((x.1 + 1), s3)))
  else
    let s1 := sI x.2 1062 0 (irm (((gI x.2 1062 0) + 20) - 1) 20)
    let s2 := sI s1 1061 0 ((gI s1 1061 0) - 1)
    some (1, s2)
set_option maxRecDepth 100000 in
set_option maxHeartbeats 4000000 in
theorem t_M_undo_21 (N : Nat) {x9 : Int32} {s9 : mS} {k21 : (Int32 × mS) → Option (Int32 × mS)} (hk21 : SCd Sm R0m oFm nm 1 q_M_undo (some (.int x9), s9) (x9, s9) 21 (H_M_undo_21 k21)) : SCd Sm R0m oFm nm 1 q_M_undo (some (.int x9), s9) (x9, s9) 21 (H_M_undo_21 (f_M_undo_L21 N k21)) := by
  intro loc st s
  refine G_cR (fun h0 => ?_)
  refine G_li (fun v0 h1 => ?_)
  refine G_rv0 (fun e9 => ?_)
  subst e9
  refine G_sub (loc0 := [(0, .ref 0), (1, .int v0)]) (List.forall_mem_cons.mpr ⟨h0, List.forall_mem_cons.mpr ⟨h1, mz_nil⟩⟩) ?_
  exact G_eq (mEv_G (orc := mOrc (oL_M_undo N)) (ret := rtZ) (blks := bl_M_undo) (cuts := [(21, H_M_undo_21 k21)]) wOKm (by decide) (oo_M_undo N) (RetOK_Z rfl) bk_M_undo (List.forall_mem_cons.mpr ⟨hk21, mz_nil⟩)) rfl
theorem s_M_undo_21 (N : Nat) {x9 : Int32} {s9 : mS} : SCd Sm R0m oFm nm 1 q_M_undo (some (.int x9), s9) (x9, s9) 21 (H_M_undo_21 (mfix N (f_M_undo_L21 N))) := by
  refine mfix_SC (H := H_M_undo_21) (fun loc st s => ?_) (fun k hk => t_M_undo_21 N hk) N
  refine G_cR (fun h0 => ?_)
  refine G_li (fun v0 h1 => ?_)
  refine G_rv0 (fun e9 => ?_)
  subst e9
  exact G_none
noncomputable def f_M_undo (N : Nat) (s : mS) : Option (Int32 × mS) :=
  if (gI s 1061 0) = 0 then
    let s1 := sA s 2 4 ((gA s 2 4) + 1)
    some (0, s1)
  else
    mfix N (f_M_undo_L21 N) (0, s)
set_option maxRecDepth 100000 in
set_option maxHeartbeats 4000000 in
theorem m_M_undo (N : Nat) {x9 : Int32} {s9 : mS} {s : mS} (h : f_M_undo N s = some (x9, s9)) : MetM Sm R0m oFm nm 1 251 [.ref 0] s (some (.int x9)) s9 := by
  refine met_of_G (q := q_M_undo) (t0 := (x9, s9)) y_M_undo (Nat.le_of_ble_eq_true rfl) ?_
  rw [← h]
  exact G_eq (mEv_G (orc := mOrc (oL_M_undo N)) (ret := rtZ) (blks := bl_M_undo) (cuts := [(21, H_M_undo_21 (mfix N (f_M_undo_L21 N)))]) wOKm (by decide) (oo_M_undo N) (RetOK_Z rfl) bk_M_undo (List.forall_mem_cons.mpr ⟨s_M_undo_21 N, mz_nil⟩)) rfl
noncomputable def C_M_undo {ρ : Type} (N : Nat) : List Value → mS → (Option Value → mS → Option ρ) → Option ρ := fun vs s kk => sR vs 0 fun r0 => rv0 r0 ((f_M_undo N s).bind fun p => kk (some (.int p.1)) p.2)
theorem cs_M_undo {ρ : Type} {t0 : ρ} {d : Nat} (N : Nat) (hd : 1 + 1 ≤ d) : CallOK Sm R0m oFm nm d t0 251 (C_M_undo N) := by
  intro vs s kk h0
  obtain ⟨r0, rfl, h1⟩ := sR_some h0
  obtain ⟨rfl, h2⟩ := rv0_some h1
  obtain ⟨p, hp, hk⟩ := Option.bind_eq_some_iff.mp h2
  exact ⟨_, _, _, hd, m_M_undo N hp, hk, fun qy hq hf => by cases y_M_undo.symm.trans hq; exact ⟨_, _, rfl, rfl⟩⟩
/-! METHOD PorterDoorsModel.keeps()V -/
set_option maxRecDepth 20000 in
noncomputable def q_M_keeps : mI := (⟨"PorterDoorsModel", "keeps", "()V"⟩, prog_13_method_85_code, 2, none, 10, 1842, 139, 1, 0, 1841, 117)
theorem y_M_keeps : mT[253]? = some q_M_keeps := mT_at_6 (k := 13) rfl
noncomputable def bl_M_keeps : List (Nat × List mO) := [(0, [o0 (.aload_n 0), o0 (.aload_n 0), o2 (.getfield 521) 10 62, o0 (.iconst 1), o0 (.iadd), o0 (.bipush 20), o0 (.irem), o2 (.putfield 521) 10 62, o0 (.iconst 0), o0 (.istore_n 1)]),
  (15, [o0 (.iload_n 1), o0 (.sipush 205), o1 (.if_icmp .ge 30) 49, o0 (.aload_n 0), o2 (.getfield 134) 10 60, o0 (.sipush 205), o0 (.aload_n 0), o2 (.getfield 521) 10 62, o0 (.imul), o0 (.iload_n 1), o0 (.iadd), o0 (.aload_n 0), o2 (.getfield 115) 10 48, o0 (.iload_n 1), o0 (.iaload), o0 (.iastore), o0 (.iinc 1 1), o1 (.goto (-31)) 15]),
  (49, [o0 (.aload_n 0), o2 (.getfield 371) 10 61, o0 (.bipush 20), o1 (.if_icmp .ge 13) 68, o0 (.aload_n 0), o0 (.dup), o2 (.getfield 371) 10 61, o0 (.iconst 1), o0 (.iadd), o2 (.putfield 371) 10 61]),
  (68, [o0 (.return_)])]
theorem bk_M_keeps : okBlks q_M_keeps bl_M_keeps = true := by decide +kernel
noncomputable def oL_M_keeps {ρ : Type} (N : Nat) : List (Nat × (List Value → mS → (Option Value → mS → Option ρ) → Option ρ)) := []
theorem oo_M_keeps {ρ : Type} {t0 : ρ} (N : Nat) : OrcOK Sm R0m oFm nm 1 t0 (mOrc (oL_M_keeps N)) := mOrc_OK (mz_nil)
noncomputable def H_M_keeps_15 {ρ : Type} (k : (Int32 × mS) → Option ρ) : mL → List Value → mS → Option ρ := fun loc st s => cR loc 0 0 (li1 loc 1 fun v0 => rv0 st (k (v0, s)))
noncomputable def f_M_keeps_L15 (N : Nat) (k15 : (Int32 × mS) → Option (mS)) (x : Int32 × mS) : Option (mS) :=
  if x.1 < 205 then
    grd (inb x.1 205) (
    grd (inb ((205 * (gI x.2 1062 0)) + x.1) 4100) (
    let s2 := sA x.2 40 (ix ((205 * (gI x.2 1062 0)) + x.1)) (gA x.2 34 (ix x.1))
    k15 ((x.1 + 1), s2)))
  else
    if (gI x.2 1061 0) < 20 then
      let s1 := sI x.2 1061 0 ((gI x.2 1061 0) + 1)
      some s1
    else
      some x.2
set_option maxRecDepth 100000 in
set_option maxHeartbeats 4000000 in
theorem t_M_keeps_15 (N : Nat) {s9 : mS} {k15 : (Int32 × mS) → Option (mS)} (hk15 : SCd Sm R0m oFm nm 1 q_M_keeps (none, s9) s9 15 (H_M_keeps_15 k15)) : SCd Sm R0m oFm nm 1 q_M_keeps (none, s9) s9 15 (H_M_keeps_15 (f_M_keeps_L15 N k15)) := by
  intro loc st s
  refine G_cR (fun h0 => ?_)
  refine G_li (fun v0 h1 => ?_)
  refine G_rv0 (fun e9 => ?_)
  subst e9
  refine G_sub (loc0 := [(0, .ref 0), (1, .int v0)]) (List.forall_mem_cons.mpr ⟨h0, List.forall_mem_cons.mpr ⟨h1, mz_nil⟩⟩) ?_
  exact G_eq (mEv_G (orc := mOrc (oL_M_keeps N)) (ret := rtV) (blks := bl_M_keeps) (cuts := [(15, H_M_keeps_15 k15)]) wOKm (by decide) (oo_M_keeps N) (RetOK_V rfl) bk_M_keeps (List.forall_mem_cons.mpr ⟨hk15, mz_nil⟩)) rfl
theorem s_M_keeps_15 (N : Nat) {s9 : mS} : SCd Sm R0m oFm nm 1 q_M_keeps (none, s9) s9 15 (H_M_keeps_15 (mfix N (f_M_keeps_L15 N))) := by
  refine mfix_SC (H := H_M_keeps_15) (fun loc st s => ?_) (fun k hk => t_M_keeps_15 N hk) N
  refine G_cR (fun h0 => ?_)
  refine G_li (fun v0 h1 => ?_)
  refine G_rv0 (fun e9 => ?_)
  subst e9
  exact G_none
noncomputable def f_M_keeps (N : Nat) (s : mS) : Option (mS) :=
  let s1 := sI s 1062 0 (irm ((gI s 1062 0) + 1) 20)
  mfix N (f_M_keeps_L15 N) (0, s1)
set_option maxRecDepth 100000 in
set_option maxHeartbeats 4000000 in
theorem m_M_keeps (N : Nat) {s9 : mS} {s : mS} (h : f_M_keeps N s = some s9) : MetM Sm R0m oFm nm 1 253 [.ref 0] s (none) s9 := by
  refine met_of_G (q := q_M_keeps) (t0 := s9) y_M_keeps (Nat.le_of_ble_eq_true rfl) ?_
  rw [← h]
  exact G_eq (mEv_G (orc := mOrc (oL_M_keeps N)) (ret := rtV) (blks := bl_M_keeps) (cuts := [(15, H_M_keeps_15 (mfix N (f_M_keeps_L15 N)))]) wOKm (by decide) (oo_M_keeps N) (RetOK_V rfl) bk_M_keeps (List.forall_mem_cons.mpr ⟨s_M_keeps_15 N, mz_nil⟩)) rfl
noncomputable def C_M_keeps {ρ : Type} (N : Nat) : List Value → mS → (Option Value → mS → Option ρ) → Option ρ := fun vs s kk => sR vs 0 fun r0 => rv0 r0 ((f_M_keeps N s).bind fun p => kk none p)
theorem cs_M_keeps {ρ : Type} {t0 : ρ} {d : Nat} (N : Nat) (hd : 1 + 1 ≤ d) : CallOK Sm R0m oFm nm d t0 253 (C_M_keeps N) := by
  intro vs s kk h0
  obtain ⟨r0, rfl, h1⟩ := sR_some h0
  obtain ⟨rfl, h2⟩ := rv0_some h1
  obtain ⟨p, hp, hk⟩ := Option.bind_eq_some_iff.mp h2
  exact ⟨_, _, _, hd, m_M_keeps N hp, hk, fun qy hq hf => by cases y_M_keeps.symm.trans hq; exact ⟨_, _, rfl, rfl⟩⟩
/-! METHOD PorterDoorsModel.send(I)I -/
set_option maxRecDepth 20000 in
noncomputable def q_M_send : mI := (⟨"PorterDoorsModel", "send", "(I)I"⟩, prog_13_method_89_code, 2, (some .int), 10, 1838, 139, 1, 1, 1836, 1837)
theorem y_M_send : mT[252]? = some q_M_send := mT_at_6 (k := 12) rfl
noncomputable def bl_M_send : List (Nat × List mO) := [(0, [o0 (.aload_n 0), o0 (.iload_n 1), o0 (.i2l), o2 (.invokevirtual 466) 200 2, o1 (.ifCond .ne 9) 15, o0 (.aload_n 0), o0 (.iconst 2), o2 (.invokevirtual 360) 186 2, o0 (.ireturn)]),
  (15, [o0 (.aload_n 0), o2 (.invokevirtual 524) 253 1, o0 (.aload_n 0), o0 (.iload_n 1), o2 (.invokevirtual 441) 223 2, o0 (.ireturn)])]
theorem bk_M_send : okBlks q_M_send bl_M_send = true := by decide +kernel
noncomputable def oL_M_send {ρ : Type} (N : Nat) : List (Nat × (List Value → mS → (Option Value → mS → Option ρ) → Option ρ)) := [(200, C_M_isPorter N), (186, C_M_refuses N), (253, C_M_keeps N), (223, C_M_walks N)]
theorem oo_M_send {ρ : Type} {t0 : ρ} (N : Nat) : OrcOK Sm R0m oFm nm 8 t0 (mOrc (oL_M_send N)) := mOrc_OK (List.forall_mem_cons.mpr ⟨cs_M_isPorter N (by decide), List.forall_mem_cons.mpr ⟨cs_M_refuses N (by decide), List.forall_mem_cons.mpr ⟨cs_M_keeps N (by decide), List.forall_mem_cons.mpr ⟨cs_M_walks N (by decide), mz_nil⟩⟩⟩⟩)
noncomputable def f_M_send (N : Nat) (a1 : Int32) (s : mS) : Option (Int32 × mS) :=
  (f_M_isPorter N (a1).toInt64 s).bind fun p1 =>
  if p1.1 = 0 then
    (f_M_refuses N 2 p1.2).bind fun p4 =>
    some (p4.1, p4.2)
  else
    (f_M_keeps N p1.2).bind fun p2 =>
    (f_M_walks N a1 p2).bind fun p3 =>
    some (p3.1, p3.2)
set_option maxRecDepth 100000 in
set_option maxHeartbeats 4000000 in
theorem m_M_send (N : Nat) {x9 : Int32} {s9 : mS} (a1 : Int32) {s : mS} (h : f_M_send N a1 s = some (x9, s9)) : MetM Sm R0m oFm nm 8 252 [.ref 0, .int a1] s (some (.int x9)) s9 := by
  refine met_of_G (q := q_M_send) (t0 := (x9, s9)) y_M_send (Nat.le_of_ble_eq_true rfl) ?_
  rw [← h]
  exact G_eq (mEv_G (orc := mOrc (oL_M_send N)) (ret := rtI) (blks := bl_M_send) (cuts := []) wOKm (by decide) (oo_M_send N) (RetOK_I rfl) bk_M_send (mz_nil)) rfl
noncomputable def C_M_send {ρ : Type} (N : Nat) : List Value → mS → (Option Value → mS → Option ρ) → Option ρ := fun vs s kk => sR vs 0 fun r0 => pi1 r0 fun a1 r1 => rv0 r1 ((f_M_send N a1 s).bind fun p => kk (some (.int p.1)) p.2)
theorem cs_M_send {ρ : Type} {t0 : ρ} {d : Nat} (N : Nat) (hd : 8 + 1 ≤ d) : CallOK Sm R0m oFm nm d t0 252 (C_M_send N) := by
  intro vs s kk h0
  obtain ⟨r0, rfl, h1⟩ := sR_some h0
  obtain ⟨a1, r1, rfl, h2⟩ := pi1_some h1
  obtain ⟨rfl, h3⟩ := rv0_some h2
  obtain ⟨p, hp, hk⟩ := Option.bind_eq_some_iff.mp h3
  exact ⟨_, _, _, hd, m_M_send N a1 hp, hk, fun qy hq hf => by cases y_M_send.symm.trans hq; exact ⟨_, _, rfl, rfl⟩⟩
/-! METHOD PorterDoorsModel.isRefused(I)Z -/
set_option maxRecDepth 20000 in
noncomputable def q_M_isRefused : mI := (⟨"PorterDoorsModel", "isRefused", "(I)Z"⟩, prog_13_method_88_code, 2, (some .boolean), 10, 1850, 139, 1, 1, 1849, 118)
theorem y_M_isRefused : mT[255]? = some q_M_isRefused := mT_at_6 (k := 15) rfl
noncomputable def bl_M_isRefused : List (Nat × List mO) := [(0, [o0 (.aload_n 0), o2 (.getfield 17) 10 9, o0 (.iload_n 1), o0 (.dup2), o0 (.iaload), o0 (.iconst 1), o0 (.iadd), o0 (.iastore), o0 (.iconst 0), o0 (.ireturn)])]
theorem bk_M_isRefused : okBlks q_M_isRefused bl_M_isRefused = true := by decide +kernel
noncomputable def oL_M_isRefused {ρ : Type} (N : Nat) : List (Nat × (List Value → mS → (Option Value → mS → Option ρ) → Option ρ)) := []
theorem oo_M_isRefused {ρ : Type} {t0 : ρ} (N : Nat) : OrcOK Sm R0m oFm nm 1 t0 (mOrc (oL_M_isRefused N)) := mOrc_OK (mz_nil)
noncomputable def f_M_isRefused (N : Nat) (a1 : Int32) (s : mS) : Option (Int32 × mS) :=
  grd (inb a1 6) (
  grd (inb a1 6) (
  let s1 := sA s 2 (ix a1) ((gA s 2 (ix a1)) + 1)
  some (0, s1)))
set_option maxRecDepth 100000 in
set_option maxHeartbeats 4000000 in
theorem m_M_isRefused (N : Nat) {x9 : Int32} {s9 : mS} (a1 : Int32) {s : mS} (h : f_M_isRefused N a1 s = some (x9, s9)) : MetM Sm R0m oFm nm 1 255 [.ref 0, .int a1] s (some (.int x9)) s9 := by
  refine met_of_G (q := q_M_isRefused) (t0 := (x9, s9)) y_M_isRefused (Nat.le_of_ble_eq_true rfl) ?_
  rw [← h]
  exact G_eq (mEv_G (orc := mOrc (oL_M_isRefused N)) (ret := rtZ) (blks := bl_M_isRefused) (cuts := []) wOKm (by decide) (oo_M_isRefused N) (RetOK_Z rfl) bk_M_isRefused (mz_nil)) rfl
noncomputable def C_M_isRefused {ρ : Type} (N : Nat) : List Value → mS → (Option Value → mS → Option ρ) → Option ρ := fun vs s kk => sR vs 0 fun r0 => pi1 r0 fun a1 r1 => rv0 r1 ((f_M_isRefused N a1 s).bind fun p => kk (some (.int p.1)) p.2)
theorem cs_M_isRefused {ρ : Type} {t0 : ρ} {d : Nat} (N : Nat) (hd : 1 + 1 ≤ d) : CallOK Sm R0m oFm nm d t0 255 (C_M_isRefused N) := by
  intro vs s kk h0
  obtain ⟨r0, rfl, h1⟩ := sR_some h0
  obtain ⟨a1, r1, rfl, h2⟩ := pi1_some h1
  obtain ⟨rfl, h3⟩ := rv0_some h2
  obtain ⟨p, hp, hk⟩ := Option.bind_eq_some_iff.mp h3
  exact ⟨_, _, _, hd, m_M_isRefused N a1 hp, hk, fun qy hq hf => by cases y_M_isRefused.symm.trans hq; exact ⟨_, _, rfl, rfl⟩⟩
/-! METHOD PorterDoorsModel.turn(I)Z -/
set_option maxRecDepth 20000 in
noncomputable def q_M_turn : mI := (⟨"PorterDoorsModel", "turn", "(I)Z"⟩, prog_13_method_90_code, 2, (some .boolean), 10, 1846, 139, 1, 1, 1844, 1845)
theorem y_M_turn : mT[254]? = some q_M_turn := mT_at_6 (k := 14) rfl
noncomputable def bl_M_turn : List (Nat × List mO) := [(0, [o0 (.aload_n 0), o0 (.iload_n 1), o0 (.i2l), o2 (.invokevirtual 473) 202 2, o1 (.ifCond .eq 11) 17, o0 (.aload_n 0), o0 (.iload_n 1), o2 (.invokevirtual 425) 197 2, o1 (.ifCond .eq 9) 23]),
  (17, [o0 (.aload_n 0), o0 (.iconst 2), o2 (.invokevirtual 527) 255 2, o0 (.ireturn)]),
  (23, [o0 (.aload_n 0), o2 (.invokevirtual 524) 253 1, o0 (.aload_n 0), o0 (.iload_n 1), o2 (.invokevirtual 428) 224 2, o0 (.ireturn)])]
theorem bk_M_turn : okBlks q_M_turn bl_M_turn = true := by decide +kernel
noncomputable def oL_M_turn {ρ : Type} (N : Nat) : List (Nat × (List Value → mS → (Option Value → mS → Option ρ) → Option ρ)) := [(202, C_M_isDoor N), (197, C_M_isJammed N), (255, C_M_isRefused N), (253, C_M_keeps N), (224, C_M_isTurned N)]
theorem oo_M_turn {ρ : Type} {t0 : ρ} (N : Nat) : OrcOK Sm R0m oFm nm 4 t0 (mOrc (oL_M_turn N)) := mOrc_OK (List.forall_mem_cons.mpr ⟨cs_M_isDoor N (by decide), List.forall_mem_cons.mpr ⟨cs_M_isJammed N (by decide), List.forall_mem_cons.mpr ⟨cs_M_isRefused N (by decide), List.forall_mem_cons.mpr ⟨cs_M_keeps N (by decide), List.forall_mem_cons.mpr ⟨cs_M_isTurned N (by decide), mz_nil⟩⟩⟩⟩⟩)
noncomputable def H_M_turn_17 {ρ : Type} (k : mS → Option ρ) : mL → List Value → mS → Option ρ := fun loc st s => cR loc 0 0 (rv0 st (k s))
noncomputable def f_M_turn_j17 (N : Nat) (x : mS) : Option (Int32 × mS) :=
  (f_M_isRefused N 2 x).bind fun p1 =>
  grd (isb p1.1) (some (p1.1, p1.2))
set_option maxRecDepth 100000 in
set_option maxHeartbeats 4000000 in
theorem s_M_turn_17 (N : Nat) {x9 : Int32} {s9 : mS} : SCd Sm R0m oFm nm 4 q_M_turn (some (.int x9), s9) (x9, s9) 17 (H_M_turn_17 (f_M_turn_j17 N)) := by
  intro loc st s
  refine G_cR (fun h0 => ?_)
  refine G_rv0 (fun e9 => ?_)
  subst e9
  refine G_sub (loc0 := [(0, .ref 0)]) (List.forall_mem_cons.mpr ⟨h0, mz_nil⟩) ?_
  exact G_eq (mEv_G (orc := mOrc (oL_M_turn N)) (ret := rtZ) (blks := bl_M_turn) (cuts := []) wOKm (by decide) (oo_M_turn N) (RetOK_Z rfl) bk_M_turn (mz_nil)) rfl
noncomputable def f_M_turn (N : Nat) (a1 : Int32) (s : mS) : Option (Int32 × mS) :=
  (f_M_isDoor N (a1).toInt64 s).bind fun p1 =>
  if p1.1 = 0 then
    f_M_turn_j17 N p1.2
  else
    (f_M_isJammed N a1 p1.2).bind fun p2 =>
    if p2.1 = 0 then
      (f_M_keeps N p2.2).bind fun p3 =>
      (f_M_isTurned N a1 p3).bind fun p4 =>
      grd (isb p4.1) (some (p4.1, p4.2))
    else
      f_M_turn_j17 N p2.2
set_option maxRecDepth 100000 in
set_option maxHeartbeats 4000000 in
theorem m_M_turn (N : Nat) {x9 : Int32} {s9 : mS} (a1 : Int32) {s : mS} (h : f_M_turn N a1 s = some (x9, s9)) : MetM Sm R0m oFm nm 4 254 [.ref 0, .int a1] s (some (.int x9)) s9 := by
  refine met_of_G (q := q_M_turn) (t0 := (x9, s9)) y_M_turn (Nat.le_of_ble_eq_true rfl) ?_
  rw [← h]
  exact G_eq (mEv_G (orc := mOrc (oL_M_turn N)) (ret := rtZ) (blks := bl_M_turn) (cuts := [(17, H_M_turn_17 (f_M_turn_j17 N))]) wOKm (by decide) (oo_M_turn N) (RetOK_Z rfl) bk_M_turn (List.forall_mem_cons.mpr ⟨s_M_turn_17 N, mz_nil⟩)) rfl
noncomputable def C_M_turn {ρ : Type} (N : Nat) : List Value → mS → (Option Value → mS → Option ρ) → Option ρ := fun vs s kk => sR vs 0 fun r0 => pi1 r0 fun a1 r1 => rv0 r1 ((f_M_turn N a1 s).bind fun p => kk (some (.int p.1)) p.2)
theorem cs_M_turn {ρ : Type} {t0 : ρ} {d : Nat} (N : Nat) (hd : 4 + 1 ≤ d) : CallOK Sm R0m oFm nm d t0 254 (C_M_turn N) := by
  intro vs s kk h0
  obtain ⟨r0, rfl, h1⟩ := sR_some h0
  obtain ⟨a1, r1, rfl, h2⟩ := pi1_some h1
  obtain ⟨rfl, h3⟩ := rv0_some h2
  obtain ⟨p, hp, hk⟩ := Option.bind_eq_some_iff.mp h3
  exact ⟨_, _, _, hd, m_M_turn N a1 hp, hk, fun qy hq hf => by cases y_M_turn.symm.trans hq; exact ⟨_, _, rfl, rfl⟩⟩
/-! METHOD PorterDoorsModel.oil(I)Z -/
set_option maxRecDepth 20000 in
noncomputable def q_M_oil : mI := (⟨"PorterDoorsModel", "oil", "(I)Z"⟩, prog_13_method_91_code, 2, (some .boolean), 10, 1854, 139, 1, 1, 1852, 1853)
theorem y_M_oil : mT[256]? = some q_M_oil := mT_at_6 (k := 16) rfl
noncomputable def bl_M_oil : List (Nat × List mO) := [(0, [o0 (.aload_n 0), o0 (.iload_n 1), o0 (.i2l), o2 (.invokevirtual 473) 202 2, o1 (.ifCond .eq 11) 17, o0 (.aload_n 0), o0 (.iload_n 1), o2 (.invokevirtual 383) 198 2, o1 (.ifCond .ne 9) 23]),
  (17, [o0 (.aload_n 0), o0 (.iconst 2), o2 (.invokevirtual 527) 255 2, o0 (.ireturn)]),
  (23, [o0 (.aload_n 0), o2 (.invokevirtual 524) 253 1, o0 (.aload_n 0), o2 (.getfield 115) 10 48, o0 (.iconst 3), o0 (.iconst 3), o0 (.iload_n 1), o0 (.imul), o0 (.iadd), o0 (.iconst 0), o0 (.iastore), o0 (.iconst 1), o0 (.ireturn)])]
theorem bk_M_oil : okBlks q_M_oil bl_M_oil = true := by decide +kernel
noncomputable def oL_M_oil {ρ : Type} (N : Nat) : List (Nat × (List Value → mS → (Option Value → mS → Option ρ) → Option ρ)) := [(202, C_M_isDoor N), (198, C_M_turnedOf N), (255, C_M_isRefused N), (253, C_M_keeps N)]
theorem oo_M_oil {ρ : Type} {t0 : ρ} (N : Nat) : OrcOK Sm R0m oFm nm 3 t0 (mOrc (oL_M_oil N)) := mOrc_OK (List.forall_mem_cons.mpr ⟨cs_M_isDoor N (by decide), List.forall_mem_cons.mpr ⟨cs_M_turnedOf N (by decide), List.forall_mem_cons.mpr ⟨cs_M_isRefused N (by decide), List.forall_mem_cons.mpr ⟨cs_M_keeps N (by decide), mz_nil⟩⟩⟩⟩)
noncomputable def H_M_oil_17 {ρ : Type} (k : mS → Option ρ) : mL → List Value → mS → Option ρ := fun loc st s => cR loc 0 0 (rv0 st (k s))
noncomputable def f_M_oil_j17 (N : Nat) (x : mS) : Option (Int32 × mS) :=
  (f_M_isRefused N 2 x).bind fun p1 =>
  grd (isb p1.1) (some (p1.1, p1.2))
set_option maxRecDepth 100000 in
set_option maxHeartbeats 4000000 in
theorem s_M_oil_17 (N : Nat) {x9 : Int32} {s9 : mS} : SCd Sm R0m oFm nm 3 q_M_oil (some (.int x9), s9) (x9, s9) 17 (H_M_oil_17 (f_M_oil_j17 N)) := by
  intro loc st s
  refine G_cR (fun h0 => ?_)
  refine G_rv0 (fun e9 => ?_)
  subst e9
  refine G_sub (loc0 := [(0, .ref 0)]) (List.forall_mem_cons.mpr ⟨h0, mz_nil⟩) ?_
  exact G_eq (mEv_G (orc := mOrc (oL_M_oil N)) (ret := rtZ) (blks := bl_M_oil) (cuts := []) wOKm (by decide) (oo_M_oil N) (RetOK_Z rfl) bk_M_oil (mz_nil)) rfl
noncomputable def f_M_oil (N : Nat) (a1 : Int32) (s : mS) : Option (Int32 × mS) :=
  (f_M_isDoor N (a1).toInt64 s).bind fun p1 =>
  if p1.1 = 0 then
    f_M_oil_j17 N p1.2
  else
    (f_M_turnedOf N a1 p1.2).bind fun p2 =>
    if p2.1 = 0 then
      f_M_oil_j17 N p2.2
    else
      (f_M_keeps N p2.2).bind fun p3 =>
      grd (inb (3 + (3 * a1)) 205) (
      let s4 := sA p3 34 (ix (3 + (3 * a1))) 0
      some (1, s4))
set_option maxRecDepth 100000 in
set_option maxHeartbeats 4000000 in
theorem m_M_oil (N : Nat) {x9 : Int32} {s9 : mS} (a1 : Int32) {s : mS} (h : f_M_oil N a1 s = some (x9, s9)) : MetM Sm R0m oFm nm 3 256 [.ref 0, .int a1] s (some (.int x9)) s9 := by
  refine met_of_G (q := q_M_oil) (t0 := (x9, s9)) y_M_oil (Nat.le_of_ble_eq_true rfl) ?_
  rw [← h]
  exact G_eq (mEv_G (orc := mOrc (oL_M_oil N)) (ret := rtZ) (blks := bl_M_oil) (cuts := [(17, H_M_oil_17 (f_M_oil_j17 N))]) wOKm (by decide) (oo_M_oil N) (RetOK_Z rfl) bk_M_oil (List.forall_mem_cons.mpr ⟨s_M_oil_17 N, mz_nil⟩)) rfl
noncomputable def C_M_oil {ρ : Type} (N : Nat) : List Value → mS → (Option Value → mS → Option ρ) → Option ρ := fun vs s kk => sR vs 0 fun r0 => pi1 r0 fun a1 r1 => rv0 r1 ((f_M_oil N a1 s).bind fun p => kk (some (.int p.1)) p.2)
theorem cs_M_oil {ρ : Type} {t0 : ρ} {d : Nat} (N : Nat) (hd : 3 + 1 ≤ d) : CallOK Sm R0m oFm nm d t0 256 (C_M_oil N) := by
  intro vs s kk h0
  obtain ⟨r0, rfl, h1⟩ := sR_some h0
  obtain ⟨a1, r1, rfl, h2⟩ := pi1_some h1
  obtain ⟨rfl, h3⟩ := rv0_some h2
  obtain ⟨p, hp, hk⟩ := Option.bind_eq_some_iff.mp h3
  exact ⟨_, _, _, hd, m_M_oil N a1 hp, hk, fun qy hq hf => by cases y_M_oil.symm.trans hq; exact ⟨_, _, rfl, rfl⟩⟩
/-! METHOD PorterDoorsModel.paint(II)Z -/
set_option maxRecDepth 20000 in
noncomputable def q_M_paint : mI := (⟨"PorterDoorsModel", "paint", "(II)Z"⟩, prog_13_method_92_code, 3, (some .boolean), 10, 1858, 139, 1, 2, 1856, 1857)
theorem y_M_paint : mT[257]? = some q_M_paint := mT_at_6 (k := 17) rfl
noncomputable def bl_M_paint : List (Nat × List mO) := [(0, [o0 (.aload_n 0), o0 (.iload_n 1), o0 (.i2l), o2 (.invokevirtual 473) 202 2, o1 (.ifCond .eq 24) 30, o0 (.iload_n 2), o0 (.i2l), o0 (.lconst 0), oC (.ldc2_w 530) (.long 9), o2 (.invokestatic 270) 155 3, o1 (.ifCond .eq 12) 30, o0 (.aload_n 0), o0 (.iload_n 1), o2 (.invokevirtual 476) 203 2, o0 (.iload_n 2), o1 (.if_icmp .ne 9) 36]),
  (30, [o0 (.aload_n 0), o0 (.iconst 2), o2 (.invokevirtual 527) 255 2, o0 (.ireturn)]),
  (36, [o0 (.aload_n 0), o2 (.invokevirtual 524) 253 1, o0 (.aload_n 0), o2 (.getfield 115) 10 48, o0 (.iconst 4), o0 (.iconst 3), o0 (.iload_n 1), o0 (.imul), o0 (.iadd), o0 (.iload_n 2), o0 (.iastore), o0 (.iconst 1), o0 (.ireturn)])]
theorem bk_M_paint : okBlks q_M_paint bl_M_paint = true := by decide +kernel
noncomputable def oL_M_paint {ρ : Type} (N : Nat) : List (Nat × (List Value → mS → (Option Value → mS → Option ρ) → Option ρ)) := [(202, C_M_isDoor N), (155, C_M_isIn N), (203, C_M_paintOf N), (255, C_M_isRefused N), (253, C_M_keeps N)]
theorem oo_M_paint {ρ : Type} {t0 : ρ} (N : Nat) : OrcOK Sm R0m oFm nm 3 t0 (mOrc (oL_M_paint N)) := mOrc_OK (List.forall_mem_cons.mpr ⟨cs_M_isDoor N (by decide), List.forall_mem_cons.mpr ⟨cs_M_isIn N (by decide), List.forall_mem_cons.mpr ⟨cs_M_paintOf N (by decide), List.forall_mem_cons.mpr ⟨cs_M_isRefused N (by decide), List.forall_mem_cons.mpr ⟨cs_M_keeps N (by decide), mz_nil⟩⟩⟩⟩⟩)
noncomputable def H_M_paint_30 {ρ : Type} (k : mS → Option ρ) : mL → List Value → mS → Option ρ := fun loc st s => cR loc 0 0 (rv0 st (k s))
noncomputable def f_M_paint_j30 (N : Nat) (x : mS) : Option (Int32 × mS) :=
  (f_M_isRefused N 2 x).bind fun p1 =>
  grd (isb p1.1) (some (p1.1, p1.2))
set_option maxRecDepth 100000 in
set_option maxHeartbeats 4000000 in
theorem s_M_paint_30 (N : Nat) {x9 : Int32} {s9 : mS} : SCd Sm R0m oFm nm 3 q_M_paint (some (.int x9), s9) (x9, s9) 30 (H_M_paint_30 (f_M_paint_j30 N)) := by
  intro loc st s
  refine G_cR (fun h0 => ?_)
  refine G_rv0 (fun e9 => ?_)
  subst e9
  refine G_sub (loc0 := [(0, .ref 0)]) (List.forall_mem_cons.mpr ⟨h0, mz_nil⟩) ?_
  exact G_eq (mEv_G (orc := mOrc (oL_M_paint N)) (ret := rtZ) (blks := bl_M_paint) (cuts := []) wOKm (by decide) (oo_M_paint N) (RetOK_Z rfl) bk_M_paint (mz_nil)) rfl
noncomputable def f_M_paint (N : Nat) (a1 : Int32) (a2 : Int32) (s : mS) : Option (Int32 × mS) :=
  (f_M_isDoor N (a1).toInt64 s).bind fun p1 =>
  if p1.1 = 0 then
    f_M_paint_j30 N p1.2
  else
    (f_M_isIn N (a2).toInt64 0 9 p1.2).bind fun p2 =>
    if p2.1 = 0 then
      f_M_paint_j30 N p2.2
    else
      (f_M_paintOf N a1 p2.2).bind fun p3 =>
      if p3.1 = a2 then
        f_M_paint_j30 N p3.2
      else
        (f_M_keeps N p3.2).bind fun p4 =>
        grd (inb (4 + (3 * a1)) 205) (
        let s5 := sA p4 34 (ix (4 + (3 * a1))) a2
        some (1, s5))
set_option maxRecDepth 100000 in
set_option maxHeartbeats 4000000 in
theorem m_M_paint (N : Nat) {x9 : Int32} {s9 : mS} (a1 : Int32) (a2 : Int32) {s : mS} (h : f_M_paint N a1 a2 s = some (x9, s9)) : MetM Sm R0m oFm nm 3 257 [.ref 0, .int a1, .int a2] s (some (.int x9)) s9 := by
  refine met_of_G (q := q_M_paint) (t0 := (x9, s9)) y_M_paint (Nat.le_of_ble_eq_true rfl) ?_
  rw [← h]
  exact G_eq (mEv_G (orc := mOrc (oL_M_paint N)) (ret := rtZ) (blks := bl_M_paint) (cuts := [(30, H_M_paint_30 (f_M_paint_j30 N))]) wOKm (by decide) (oo_M_paint N) (RetOK_Z rfl) bk_M_paint (List.forall_mem_cons.mpr ⟨s_M_paint_30 N, mz_nil⟩)) rfl
noncomputable def C_M_paint {ρ : Type} (N : Nat) : List Value → mS → (Option Value → mS → Option ρ) → Option ρ := fun vs s kk => sR vs 0 fun r0 => pi1 r0 fun a1 r1 => pi1 r1 fun a2 r2 => rv0 r2 ((f_M_paint N a1 a2 s).bind fun p => kk (some (.int p.1)) p.2)
theorem cs_M_paint {ρ : Type} {t0 : ρ} {d : Nat} (N : Nat) (hd : 3 + 1 ≤ d) : CallOK Sm R0m oFm nm d t0 257 (C_M_paint N) := by
  intro vs s kk h0
  obtain ⟨r0, rfl, h1⟩ := sR_some h0
  obtain ⟨a1, r1, rfl, h2⟩ := pi1_some h1
  obtain ⟨a2, r2, rfl, h3⟩ := pi1_some h2
  obtain ⟨rfl, h4⟩ := rv0_some h3
  obtain ⟨p, hp, hk⟩ := Option.bind_eq_some_iff.mp h4
  exact ⟨_, _, _, hd, m_M_paint N a1 a2 hp, hk, fun qy hq hf => by cases y_M_paint.symm.trans hq; exact ⟨_, _, rfl, rfl⟩⟩
/-! METHOD PorterDoorsModel.nights(I)I -/
set_option maxRecDepth 20000 in
noncomputable def q_M_nights : mI := (⟨"PorterDoorsModel", "nights", "(I)I"⟩, prog_13_method_93_code, 2, (some .int), 10, 1863, 139, 1, 1, 1861, 1862)
theorem y_M_nights : mT[258]? = some q_M_nights := mT_at_6 (k := 18) rfl
noncomputable def bl_M_nights : List (Nat × List mO) := [(0, [o0 (.aload_n 0), o0 (.iload_n 1), o0 (.iconst 1), o0 (.bipush 100), o2 (.invokevirtual 484) 219 4, o1 (.ifCond .ne 9) 17, o0 (.aload_n 0), o0 (.iconst 3), o2 (.invokevirtual 360) 186 2, o0 (.ireturn)]),
  (17, [o0 (.aload_n 0), o2 (.invokevirtual 524) 253 1, o0 (.aload_n 0), o0 (.iload_n 1), o0 (.iconst (-1)), o2 (.invokevirtual 491) 221 3, o0 (.aload_n 0), o2 (.getfield 447) 10 52, o0 (.ireturn)])]
theorem bk_M_nights : okBlks q_M_nights bl_M_nights = true := by decide +kernel
noncomputable def oL_M_nights {ρ : Type} (N : Nat) : List (Nat × (List Value → mS → (Option Value → mS → Option ρ) → Option ρ)) := [(219, C_M_isAhead N), (186, C_M_refuses N), (253, C_M_keeps N), (221, C_M_nightsGo N)]
theorem oo_M_nights {ρ : Type} {t0 : ρ} (N : Nat) : OrcOK Sm R0m oFm nm 10 t0 (mOrc (oL_M_nights N)) := mOrc_OK (List.forall_mem_cons.mpr ⟨cs_M_isAhead N (by decide), List.forall_mem_cons.mpr ⟨cs_M_refuses N (by decide), List.forall_mem_cons.mpr ⟨cs_M_keeps N (by decide), List.forall_mem_cons.mpr ⟨cs_M_nightsGo N (by decide), mz_nil⟩⟩⟩⟩)
noncomputable def f_M_nights (N : Nat) (a1 : Int32) (s : mS) : Option (Int32 × mS) :=
  (f_M_isAhead N a1 1 100 s).bind fun p1 =>
  if p1.1 = 0 then
    (f_M_refuses N 3 p1.2).bind fun p4 =>
    some (p4.1, p4.2)
  else
    (f_M_keeps N p1.2).bind fun p2 =>
    (f_M_nightsGo N a1 (-1) p2).bind fun p3 =>
    some ((gI p3 1052 0), p3)
set_option maxRecDepth 100000 in
set_option maxHeartbeats 4000000 in
theorem m_M_nights (N : Nat) {x9 : Int32} {s9 : mS} (a1 : Int32) {s : mS} (h : f_M_nights N a1 s = some (x9, s9)) : MetM Sm R0m oFm nm 10 258 [.ref 0, .int a1] s (some (.int x9)) s9 := by
  refine met_of_G (q := q_M_nights) (t0 := (x9, s9)) y_M_nights (Nat.le_of_ble_eq_true rfl) ?_
  rw [← h]
  exact G_eq (mEv_G (orc := mOrc (oL_M_nights N)) (ret := rtI) (blks := bl_M_nights) (cuts := []) wOKm (by decide) (oo_M_nights N) (RetOK_I rfl) bk_M_nights (mz_nil)) rfl
noncomputable def C_M_nights {ρ : Type} (N : Nat) : List Value → mS → (Option Value → mS → Option ρ) → Option ρ := fun vs s kk => sR vs 0 fun r0 => pi1 r0 fun a1 r1 => rv0 r1 ((f_M_nights N a1 s).bind fun p => kk (some (.int p.1)) p.2)
theorem cs_M_nights {ρ : Type} {t0 : ρ} {d : Nat} (N : Nat) (hd : 10 + 1 ≤ d) : CallOK Sm R0m oFm nm d t0 258 (C_M_nights N) := by
  intro vs s kk h0
  obtain ⟨r0, rfl, h1⟩ := sR_some h0
  obtain ⟨a1, r1, rfl, h2⟩ := pi1_some h1
  obtain ⟨rfl, h3⟩ := rv0_some h2
  obtain ⟨p, hp, hk⟩ := Option.bind_eq_some_iff.mp h3
  exact ⟨_, _, _, hd, m_M_nights N a1 hp, hk, fun qy hq hf => by cases y_M_nights.symm.trans hq; exact ⟨_, _, rfl, rfl⟩⟩
/-! METHOD PorterDoorsModel.seed(I)Z -/
set_option maxRecDepth 20000 in
noncomputable def q_M_seed : mI := (⟨"PorterDoorsModel", "seed", "(I)Z"⟩, prog_13_method_94_code, 2, (some .boolean), 10, 1867, 139, 1, 1, 1865, 1866)
theorem y_M_seed : mT[259]? = some q_M_seed := mT_at_6 (k := 19) rfl
noncomputable def bl_M_seed : List (Nat × List mO) := [(0, [o0 (.iload_n 1), o1 (.ifCond .ge 9) 10, o0 (.aload_n 0), o0 (.iconst 5), o2 (.invokevirtual 527) 255 2, o0 (.ireturn)]),
  (10, [o0 (.aload_n 0), o0 (.iload_n 1), o0 (.i2l), o2 (.putfield 137) 10 63, o0 (.iconst 1), o0 (.ireturn)])]
theorem bk_M_seed : okBlks q_M_seed bl_M_seed = true := by decide +kernel
noncomputable def oL_M_seed {ρ : Type} (N : Nat) : List (Nat × (List Value → mS → (Option Value → mS → Option ρ) → Option ρ)) := [(255, C_M_isRefused N)]
theorem oo_M_seed {ρ : Type} {t0 : ρ} (N : Nat) : OrcOK Sm R0m oFm nm 2 t0 (mOrc (oL_M_seed N)) := mOrc_OK (List.forall_mem_cons.mpr ⟨cs_M_isRefused N (by decide), mz_nil⟩)
noncomputable def f_M_seed (N : Nat) (a1 : Int32) (s : mS) : Option (Int32 × mS) :=
  if a1 < 0 then
    (f_M_isRefused N 5 s).bind fun p2 =>
    grd (isb p2.1) (some (p2.1, p2.2))
  else
    let s1 := sL s 1063 0 (a1).toInt64
    some (1, s1)
set_option maxRecDepth 100000 in
set_option maxHeartbeats 4000000 in
theorem m_M_seed (N : Nat) {x9 : Int32} {s9 : mS} (a1 : Int32) {s : mS} (h : f_M_seed N a1 s = some (x9, s9)) : MetM Sm R0m oFm nm 2 259 [.ref 0, .int a1] s (some (.int x9)) s9 := by
  refine met_of_G (q := q_M_seed) (t0 := (x9, s9)) y_M_seed (Nat.le_of_ble_eq_true rfl) ?_
  rw [← h]
  exact G_eq (mEv_G (orc := mOrc (oL_M_seed N)) (ret := rtZ) (blks := bl_M_seed) (cuts := []) wOKm (by decide) (oo_M_seed N) (RetOK_Z rfl) bk_M_seed (mz_nil)) rfl
noncomputable def C_M_seed {ρ : Type} (N : Nat) : List Value → mS → (Option Value → mS → Option ρ) → Option ρ := fun vs s kk => sR vs 0 fun r0 => pi1 r0 fun a1 r1 => rv0 r1 ((f_M_seed N a1 s).bind fun p => kk (some (.int p.1)) p.2)
theorem cs_M_seed {ρ : Type} {t0 : ρ} {d : Nat} (N : Nat) (hd : 2 + 1 ≤ d) : CallOK Sm R0m oFm nm d t0 259 (C_M_seed N) := by
  intro vs s kk h0
  obtain ⟨r0, rfl, h1⟩ := sR_some h0
  obtain ⟨a1, r1, rfl, h2⟩ := pi1_some h1
  obtain ⟨rfl, h3⟩ := rv0_some h2
  obtain ⟨p, hp, hk⟩ := Option.bind_eq_some_iff.mp h3
  exact ⟨_, _, _, hd, m_M_seed N a1 hp, hk, fun qy hq hf => by cases y_M_seed.symm.trans hq; exact ⟨_, _, rfl, rfl⟩⟩
/-! METHOD PorterDoorsModel.drawOf(I)I -/
set_option maxRecDepth 20000 in
noncomputable def q_M_drawOf : mI := (⟨"PorterDoorsModel", "drawOf", "(I)I"⟩, prog_13_method_95_code, 2, (some .int), 10, 1875, 139, 1, 1, 1874, 119)
theorem y_M_drawOf : mT[261]? = some q_M_drawOf := mT_at_6 (k := 21) rfl
noncomputable def bl_M_drawOf : List (Nat × List mO) := [(0, [o0 (.aload_n 0), oC (.ldc2_w 532) (.long 1103515245), o0 (.aload_n 0), o2 (.getfield 137) 10 63, o0 (.lmul), oC (.ldc2_w 534) (.long 12345), o0 (.ladd), oC (.ldc2_w 536) (.long 2147483648), o0 (.lrem), o2 (.putfield 137) 10 63, o0 (.aload_n 0), o2 (.getfield 137) 10 63, oC (.ldc2_w 538) (.long 64), o0 (.ldiv), o0 (.iload_n 1), o0 (.i2l), o0 (.lrem), o0 (.l2i), o0 (.ireturn)])]
theorem bk_M_drawOf : okBlks q_M_drawOf bl_M_drawOf = true := by decide +kernel
noncomputable def oL_M_drawOf {ρ : Type} (N : Nat) : List (Nat × (List Value → mS → (Option Value → mS → Option ρ) → Option ρ)) := []
theorem oo_M_drawOf {ρ : Type} {t0 : ρ} (N : Nat) : OrcOK Sm R0m oFm nm 1 t0 (mOrc (oL_M_drawOf N)) := mOrc_OK (mz_nil)
noncomputable def f_M_drawOf (N : Nat) (a1 : Int32) (s : mS) : Option (Int32 × mS) :=
  let s1 := sL s 1063 0 (lrm ((1103515245 * (gL s 1063 0)) + 12345) 2147483648)
  grd (!decide ((a1).toInt64 = 0)) (
  some (((lrm ((gL s1 1063 0) / 64) (a1).toInt64)).toInt32, s1))
set_option maxRecDepth 100000 in
set_option maxHeartbeats 4000000 in
theorem m_M_drawOf (N : Nat) {x9 : Int32} {s9 : mS} (a1 : Int32) {s : mS} (h : f_M_drawOf N a1 s = some (x9, s9)) : MetM Sm R0m oFm nm 1 261 [.ref 0, .int a1] s (some (.int x9)) s9 := by
  refine met_of_G (q := q_M_drawOf) (t0 := (x9, s9)) y_M_drawOf (Nat.le_of_ble_eq_true rfl) ?_
  rw [← h]
  exact G_eq (mEv_G (orc := mOrc (oL_M_drawOf N)) (ret := rtI) (blks := bl_M_drawOf) (cuts := []) wOKm (by decide) (oo_M_drawOf N) (RetOK_I rfl) bk_M_drawOf (mz_nil)) rfl
noncomputable def C_M_drawOf {ρ : Type} (N : Nat) : List Value → mS → (Option Value → mS → Option ρ) → Option ρ := fun vs s kk => sR vs 0 fun r0 => pi1 r0 fun a1 r1 => rv0 r1 ((f_M_drawOf N a1 s).bind fun p => kk (some (.int p.1)) p.2)
theorem cs_M_drawOf {ρ : Type} {t0 : ρ} {d : Nat} (N : Nat) (hd : 1 + 1 ≤ d) : CallOK Sm R0m oFm nm d t0 261 (C_M_drawOf N) := by
  intro vs s kk h0
  obtain ⟨r0, rfl, h1⟩ := sR_some h0
  obtain ⟨a1, r1, rfl, h2⟩ := pi1_some h1
  obtain ⟨rfl, h3⟩ := rv0_some h2
  obtain ⟨p, hp, hk⟩ := Option.bind_eq_some_iff.mp h3
  exact ⟨_, _, _, hd, m_M_drawOf N a1 hp, hk, fun qy hq hf => by cases y_M_drawOf.symm.trans hq; exact ⟨_, _, rfl, rfl⟩⟩
/-! METHOD PorterDoorsModel.chance(I)I -/
set_option maxRecDepth 20000 in
noncomputable def q_M_chance : mI := (⟨"PorterDoorsModel", "chance", "(I)I"⟩, prog_13_method_96_code, 5, (some .int), 10, 1871, 139, 1, 1, 1869, 1870)
theorem y_M_chance : mT[260]? = some q_M_chance := mT_at_6 (k := 20) rfl
noncomputable def bl_M_chance : List (Nat × List mO) := [(0, [o0 (.aload_n 0), o0 (.iload_n 1), o0 (.iconst 1), o0 (.bipush 100), o2 (.invokevirtual 484) 219 4, o1 (.ifCond .ne 9) 17, o0 (.aload_n 0), o0 (.iconst 3), o2 (.invokevirtual 360) 186 2, o0 (.ireturn)]),
  (17, [o0 (.aload_n 0), o2 (.invokevirtual 524) 253 1, o0 (.iconst 0), o0 (.istore_n 2), o0 (.iconst 0), o0 (.istore_n 3)]),
  (25, [o0 (.iload_n 3), o0 (.iload_n 1), o1 (.if_icmp .ge 54) 81, o0 (.iconst (-1)), o0 (.istore 4), o0 (.aload_n 0), o0 (.bipush 100), o2 (.invokevirtual 540) 261 2, o0 (.aload_n 0), o2 (.getfield 96) 10 37, o0 (.bipush 7), o0 (.iaload), o1 (.if_icmp .ge 23) 69, o0 (.aload_n 0), o2 (.invokevirtual 380) 191 1, o1 (.ifCond .le 16) 69, o0 (.aload_n 0), o0 (.aload_n 0), o2 (.invokevirtual 380) 191 1, o2 (.invokevirtual 540) 261 2, o0 (.istore 4), o0 (.iinc 2 1)]),
  (69, [o0 (.aload_n 0), o0 (.iload 4), o2 (.invokevirtual 454) 222 2, o0 (.iinc 3 1), o1 (.goto (-53)) 25]),
  (81, [o0 (.iload_n 2), o0 (.ireturn)])]
theorem bk_M_chance : okBlks q_M_chance bl_M_chance = true := by decide +kernel
noncomputable def oL_M_chance {ρ : Type} (N : Nat) : List (Nat × (List Value → mS → (Option Value → mS → Option ρ) → Option ρ)) := [(219, C_M_isAhead N), (186, C_M_refuses N), (253, C_M_keeps N), (261, C_M_drawOf N), (191, C_M_porterMany N), (222, C_M_nightGoes N)]
theorem oo_M_chance {ρ : Type} {t0 : ρ} (N : Nat) : OrcOK Sm R0m oFm nm 9 t0 (mOrc (oL_M_chance N)) := mOrc_OK (List.forall_mem_cons.mpr ⟨cs_M_isAhead N (by decide), List.forall_mem_cons.mpr ⟨cs_M_refuses N (by decide), List.forall_mem_cons.mpr ⟨cs_M_keeps N (by decide), List.forall_mem_cons.mpr ⟨cs_M_drawOf N (by decide), List.forall_mem_cons.mpr ⟨cs_M_porterMany N (by decide), List.forall_mem_cons.mpr ⟨cs_M_nightGoes N (by decide), mz_nil⟩⟩⟩⟩⟩⟩)
noncomputable def H_M_chance_25 {ρ : Type} (k : (Int32 × Int32 × Int32 × mS) → Option ρ) : mL → List Value → mS → Option ρ := fun loc st s => cR loc 0 0 (li1 loc 1 fun v0 => li1 loc 2 fun v1 => li1 loc 3 fun v2 => rv0 st (k (v0, v1, v2, s)))
noncomputable def H_M_chance_69 {ρ : Type} (k : (Int32 × Int32 × Int32 × Int32 × mS) → Option ρ) : mL → List Value → mS → Option ρ := fun loc st s => cR loc 0 0 (li1 loc 1 fun v0 => li1 loc 2 fun v1 => li1 loc 3 fun v2 => li1 loc 4 fun v3 => rv0 st (k (v0, v1, v2, v3, s)))
noncomputable def f_M_chance_j69 (N : Nat) (k25 : (Int32 × Int32 × Int32 × mS) → Option (Int32 × mS)) (x : Int32 × Int32 × Int32 × Int32 × mS) : Option (Int32 × mS) :=
  (f_M_nightGoes N x.2.2.2.1 x.2.2.2.2).bind fun p1 =>
  k25 (x.1, x.2.1, (x.2.2.1 + 1), p1)
set_option maxRecDepth 100000 in
set_option maxHeartbeats 4000000 in
theorem s_M_chance_69 (N : Nat) {x9 : Int32} {s9 : mS} {k25 : (Int32 × Int32 × Int32 × mS) → Option (Int32 × mS)} (hk25 : SCd Sm R0m oFm nm 9 q_M_chance (some (.int x9), s9) (x9, s9) 25 (H_M_chance_25 k25)) : SCd Sm R0m oFm nm 9 q_M_chance (some (.int x9), s9) (x9, s9) 69 (H_M_chance_69 (f_M_chance_j69 N k25)) := by
  intro loc st s
  refine G_cR (fun h0 => ?_)
  refine G_li (fun v0 h1 => ?_)
  refine G_li (fun v1 h2 => ?_)
  refine G_li (fun v2 h3 => ?_)
  refine G_li (fun v3 h4 => ?_)
  refine G_rv0 (fun e9 => ?_)
  subst e9
  refine G_sub (loc0 := [(0, .ref 0), (1, .int v0), (2, .int v1), (3, .int v2), (4, .int v3)]) (List.forall_mem_cons.mpr ⟨h0, List.forall_mem_cons.mpr ⟨h1, List.forall_mem_cons.mpr ⟨h2, List.forall_mem_cons.mpr ⟨h3, List.forall_mem_cons.mpr ⟨h4, mz_nil⟩⟩⟩⟩⟩) ?_
  exact G_eq (mEv_G (orc := mOrc (oL_M_chance N)) (ret := rtI) (blks := bl_M_chance) (cuts := [(25, H_M_chance_25 k25)]) wOKm (by decide) (oo_M_chance N) (RetOK_I rfl) bk_M_chance (List.forall_mem_cons.mpr ⟨hk25, mz_nil⟩)) rfl
noncomputable def f_M_chance_L25 (N : Nat) (k25 : (Int32 × Int32 × Int32 × mS) → Option (Int32 × mS)) (x : Int32 × Int32 × Int32 × mS) : Option (Int32 × mS) :=
  if x.2.2.1 < x.1 then
    (f_M_drawOf N 100 x.2.2.2).bind fun p1 =>
    if p1.1 < (gA p1.2 28 7) then
      (f_M_porterMany N p1.2).bind fun p2 =>
      if 0 < p2.1 then
        (f_M_porterMany N p2.2).bind fun p3 =>
        (f_M_drawOf N p3.1 p3.2).bind fun p4 =>
        f_M_chance_j69 N k25 (x.1, (x.2.1 + 1), x.2.2.1, p4.1, p4.2)
      else
        f_M_chance_j69 N k25 (x.1, x.2.1, x.2.2.1, (-1), p2.2)
    else
      f_M_chance_j69 N k25 (x.1, x.2.1, x.2.2.1, (-1), p1.2)
  else
    some (x.2.1, x.2.2.2)
set_option maxRecDepth 100000 in
set_option maxHeartbeats 4000000 in
theorem t_M_chance_25 (N : Nat) {x9 : Int32} {s9 : mS} {k25 : (Int32 × Int32 × Int32 × mS) → Option (Int32 × mS)} (hk25 : SCd Sm R0m oFm nm 9 q_M_chance (some (.int x9), s9) (x9, s9) 25 (H_M_chance_25 k25)) : SCd Sm R0m oFm nm 9 q_M_chance (some (.int x9), s9) (x9, s9) 25 (H_M_chance_25 (f_M_chance_L25 N k25)) := by
  intro loc st s
  refine G_cR (fun h0 => ?_)
  refine G_li (fun v0 h1 => ?_)
  refine G_li (fun v1 h2 => ?_)
  refine G_li (fun v2 h3 => ?_)
  refine G_rv0 (fun e9 => ?_)
  subst e9
  refine G_sub (loc0 := [(0, .ref 0), (1, .int v0), (2, .int v1), (3, .int v2)]) (List.forall_mem_cons.mpr ⟨h0, List.forall_mem_cons.mpr ⟨h1, List.forall_mem_cons.mpr ⟨h2, List.forall_mem_cons.mpr ⟨h3, mz_nil⟩⟩⟩⟩) ?_
  exact G_eq (mEv_G (orc := mOrc (oL_M_chance N)) (ret := rtI) (blks := bl_M_chance) (cuts := [(69, H_M_chance_69 (f_M_chance_j69 N k25))]) wOKm (by decide) (oo_M_chance N) (RetOK_I rfl) bk_M_chance (List.forall_mem_cons.mpr ⟨s_M_chance_69 N hk25, mz_nil⟩)) rfl
theorem s_M_chance_25 (N : Nat) {x9 : Int32} {s9 : mS} : SCd Sm R0m oFm nm 9 q_M_chance (some (.int x9), s9) (x9, s9) 25 (H_M_chance_25 (mfix N (f_M_chance_L25 N))) := by
  refine mfix_SC (H := H_M_chance_25) (fun loc st s => ?_) (fun k hk => t_M_chance_25 N hk) N
  refine G_cR (fun h0 => ?_)
  refine G_li (fun v0 h1 => ?_)
  refine G_li (fun v1 h2 => ?_)
  refine G_li (fun v2 h3 => ?_)
  refine G_rv0 (fun e9 => ?_)
  subst e9
  exact G_none
noncomputable def f_M_chance (N : Nat) (a1 : Int32) (s : mS) : Option (Int32 × mS) :=
  (f_M_isAhead N a1 1 100 s).bind fun p1 =>
  if p1.1 = 0 then
    (f_M_refuses N 3 p1.2).bind fun p3 =>
    some (p3.1, p3.2)
  else
    (f_M_keeps N p1.2).bind fun p2 =>
    mfix N (f_M_chance_L25 N) (a1, 0, 0, p2)
set_option maxRecDepth 100000 in
set_option maxHeartbeats 4000000 in
theorem m_M_chance (N : Nat) {x9 : Int32} {s9 : mS} (a1 : Int32) {s : mS} (h : f_M_chance N a1 s = some (x9, s9)) : MetM Sm R0m oFm nm 9 260 [.ref 0, .int a1] s (some (.int x9)) s9 := by
  refine met_of_G (q := q_M_chance) (t0 := (x9, s9)) y_M_chance (Nat.le_of_ble_eq_true rfl) ?_
  rw [← h]
  exact G_eq (mEv_G (orc := mOrc (oL_M_chance N)) (ret := rtI) (blks := bl_M_chance) (cuts := [(25, H_M_chance_25 (mfix N (f_M_chance_L25 N)))]) wOKm (by decide) (oo_M_chance N) (RetOK_I rfl) bk_M_chance (List.forall_mem_cons.mpr ⟨s_M_chance_25 N, mz_nil⟩)) rfl
noncomputable def C_M_chance {ρ : Type} (N : Nat) : List Value → mS → (Option Value → mS → Option ρ) → Option ρ := fun vs s kk => sR vs 0 fun r0 => pi1 r0 fun a1 r1 => rv0 r1 ((f_M_chance N a1 s).bind fun p => kk (some (.int p.1)) p.2)
theorem cs_M_chance {ρ : Type} {t0 : ρ} {d : Nat} (N : Nat) (hd : 9 + 1 ≤ d) : CallOK Sm R0m oFm nm d t0 260 (C_M_chance N) := by
  intro vs s kk h0
  obtain ⟨r0, rfl, h1⟩ := sR_some h0
  obtain ⟨a1, r1, rfl, h2⟩ := pi1_some h1
  obtain ⟨rfl, h3⟩ := rv0_some h2
  obtain ⟨p, hp, hk⟩ := Option.bind_eq_some_iff.mp h3
  exact ⟨_, _, _, hd, m_M_chance N a1 hp, hk, fun qy hq hf => by cases y_M_chance.symm.trans hq; exact ⟨_, _, rfl, rfl⟩⟩
/-! METHOD PorterDoorsModel.qKind()I -/
set_option maxRecDepth 20000 in
noncomputable def q_M_qKind : mI := (⟨"PorterDoorsModel", "qKind", "()I"⟩, prog_13_method_123_code, 2, (some .int), 10, 1888, 139, 1, 0, 1887, 120)
theorem y_M_qKind : mT[263]? = some q_M_qKind := mT_at_6 (k := 23) rfl
noncomputable def bl_M_qKind : List (Nat × List mO) := [(0, [o0 (.aload_n 0), o0 (.aload_n 0), o2 (.getfield 141) 10 64, o2 (.invokevirtual 254) 148 2, o1 (.ifCond .eq 7) 15, o0 (.iconst 0), o1 (.goto 64) 76]),
  (15, [o0 (.aload_n 0), o0 (.aload_n 0), o2 (.getfield 144) 10 65, o2 (.invokevirtual 254) 148 2, o1 (.ifCond .eq 7) 30, o0 (.iconst 1), o1 (.goto 49) 76]),
  (30, [o0 (.aload_n 0), o0 (.aload_n 0), o2 (.getfield 147) 10 66, o2 (.invokevirtual 254) 148 2, o1 (.ifCond .eq 7) 45, o0 (.iconst 2), o1 (.goto 34) 76]),
  (45, [o0 (.aload_n 0), o0 (.aload_n 0), o2 (.getfield 150) 10 67, o2 (.invokevirtual 254) 148 2, o1 (.ifCond .eq 7) 60, o0 (.iconst 3), o1 (.goto 19) 76]),
  (60, [o0 (.aload_n 0), o0 (.aload_n 0), o2 (.getfield 153) 10 68, o2 (.invokevirtual 254) 148 2, o1 (.ifCond .eq 7) 75, o0 (.iconst 4), o1 (.goto 4) 76]),
  (75, [o0 (.iconst 5)]),
  (76, [o0 (.istore_n 1), o0 (.iload_n 1), o0 (.iconst 5), o1 (.if_icmp .ne 11) 90, o0 (.aload_n 0), o0 (.aload_n 0), o2 (.getfield 156) 10 69, o2 (.invokevirtual 292) 147 2]),
  (90, [o0 (.iload_n 1), o0 (.ireturn)])]
theorem bk_M_qKind : okBlks q_M_qKind bl_M_qKind = true := by decide +kernel
noncomputable def oL_M_qKind {ρ : Type} (N : Nat) : List (Nat × (List Value → mS → (Option Value → mS → Option ρ) → Option ρ)) := [(148, C_M_takes N), (147, C_M_asks N)]
theorem oo_M_qKind {ρ : Type} {t0 : ρ} (N : Nat) : OrcOK Sm R0m oFm nm 5 t0 (mOrc (oL_M_qKind N)) := mOrc_OK (List.forall_mem_cons.mpr ⟨cs_M_takes N (by decide), List.forall_mem_cons.mpr ⟨cs_M_asks N (by decide), mz_nil⟩⟩)
noncomputable def H_M_qKind_76 {ρ : Type} (k : (Int32 × mS) → Option ρ) : mL → List Value → mS → Option ρ := fun loc st s => cR loc 0 0 (pi1 st fun w0 r0 => rv0 r0 (k (w0, s)))
noncomputable def f_M_qKind_j76 (N : Nat) (x : Int32 × mS) : Option (Int32 × mS) :=
  if x.1 = 5 then
    (f_M_asks N 46 x.2).bind fun p1 =>
    some (x.1, p1)
  else
    some (x.1, x.2)
set_option maxRecDepth 100000 in
set_option maxHeartbeats 4000000 in
theorem s_M_qKind_76 (N : Nat) {x9 : Int32} {s9 : mS} : SCd Sm R0m oFm nm 5 q_M_qKind (some (.int x9), s9) (x9, s9) 76 (H_M_qKind_76 (f_M_qKind_j76 N)) := by
  intro loc st s
  refine G_cR (fun h0 => ?_)
  refine G_pi (fun w0 r0 e0 => ?_)
  refine G_rv0 (fun e9 => ?_)
  subst e9
  subst e0
  refine G_sub (loc0 := [(0, .ref 0)]) (List.forall_mem_cons.mpr ⟨h0, mz_nil⟩) ?_
  exact G_eq (mEv_G (orc := mOrc (oL_M_qKind N)) (ret := rtI) (blks := bl_M_qKind) (cuts := []) wOKm (by decide) (oo_M_qKind N) (RetOK_I rfl) bk_M_qKind (mz_nil)) rfl
noncomputable def f_M_qKind (N : Nat) (s : mS) : Option (Int32 × mS) :=
  (f_M_takes N 41 s).bind fun p1 =>
  if p1.1 = 0 then
    (f_M_takes N 42 p1.2).bind fun p2 =>
    if p2.1 = 0 then
      (f_M_takes N 43 p2.2).bind fun p3 =>
      if p3.1 = 0 then
        (f_M_takes N 44 p3.2).bind fun p4 =>
        if p4.1 = 0 then
          (f_M_takes N 45 p4.2).bind fun p5 =>
          if p5.1 = 0 then
            f_M_qKind_j76 N (5, p5.2)
          else
            f_M_qKind_j76 N (4, p5.2)
        else
          f_M_qKind_j76 N (3, p4.2)
      else
        f_M_qKind_j76 N (2, p3.2)
    else
      f_M_qKind_j76 N (1, p2.2)
  else
    f_M_qKind_j76 N (0, p1.2)
set_option maxRecDepth 100000 in
set_option maxHeartbeats 4000000 in
theorem m_M_qKind (N : Nat) {x9 : Int32} {s9 : mS} {s : mS} (h : f_M_qKind N s = some (x9, s9)) : MetM Sm R0m oFm nm 5 263 [.ref 0] s (some (.int x9)) s9 := by
  refine met_of_G (q := q_M_qKind) (t0 := (x9, s9)) y_M_qKind (Nat.le_of_ble_eq_true rfl) ?_
  rw [← h]
  exact G_eq (mEv_G (orc := mOrc (oL_M_qKind N)) (ret := rtI) (blks := bl_M_qKind) (cuts := [(76, H_M_qKind_76 (f_M_qKind_j76 N))]) wOKm (by decide) (oo_M_qKind N) (RetOK_I rfl) bk_M_qKind (List.forall_mem_cons.mpr ⟨s_M_qKind_76 N, mz_nil⟩)) rfl
noncomputable def C_M_qKind {ρ : Type} (N : Nat) : List Value → mS → (Option Value → mS → Option ρ) → Option ρ := fun vs s kk => sR vs 0 fun r0 => rv0 r0 ((f_M_qKind N s).bind fun p => kk (some (.int p.1)) p.2)
theorem cs_M_qKind {ρ : Type} {t0 : ρ} {d : Nat} (N : Nat) (hd : 5 + 1 ≤ d) : CallOK Sm R0m oFm nm d t0 263 (C_M_qKind N) := by
  intro vs s kk h0
  obtain ⟨r0, rfl, h1⟩ := sR_some h0
  obtain ⟨rfl, h2⟩ := rv0_some h1
  obtain ⟨p, hp, hk⟩ := Option.bind_eq_some_iff.mp h2
  exact ⟨_, _, _, hd, m_M_qKind N hp, hk, fun qy hq hf => by cases y_M_qKind.symm.trans hq; exact ⟨_, _, rfl, rfl⟩⟩
/-! METHOD PorterDoorsModel.qOf(IJI)J -/
set_option maxRecDepth 20000 in
noncomputable def q_M_qOf : mI := (⟨"PorterDoorsModel", "qOf", "(IJI)J"⟩, prog_13_method_121_code, 5, (some .long), 10, 1897, 139, 1, 3, 1896, 122)
theorem y_M_qOf : mT[265]? = some q_M_qOf := mT_at_6 (k := 25) rfl
noncomputable def bl_M_qOf : List (Nat × List mO) := [(0, [o0 (.iload_n 1), oS (.lookupswitch 45 #[(0, 19)]) 46 [20]]),
  (20, [o0 (.aload_n 0), o0 (.lload_n 2), o2 (.invokevirtual 466) 200 2, o1 (.ifCond .eq 19) 44, o0 (.aload_n 0), o2 (.getfield 118) 10 51, o0 (.lload_n 2), o0 (.l2i), o0 (.iaload), o0 (.iload 4), o0 (.ishr), o0 (.i2l), o0 (.lconst 1), o0 (.land), o1 (.goto 4) 45]),
  (44, [o0 (.lconst 0)]),
  (45, [o0 (.lreturn)]),
  (46, [o0 (.aload_n 0), o0 (.iload 4), o0 (.i2l), o0 (.lload_n 2), o0 (.ladd), o2 (.invokevirtual 473) 202 2, o1 (.ifCond .eq 17) 72, o0 (.aload_n 0), o0 (.iload 4), o0 (.i2l), o0 (.lload_n 2), o0 (.ladd), o0 (.l2i), o2 (.invokevirtual 386) 194 2, o0 (.i2l), o1 (.goto 4) 73]),
  (72, [o0 (.lconst 0)]),
  (73, [o0 (.lreturn)])]
theorem bk_M_qOf : okBlks q_M_qOf bl_M_qOf = true := by decide +kernel
noncomputable def oL_M_qOf {ρ : Type} (N : Nat) : List (Nat × (List Value → mS → (Option Value → mS → Option ρ) → Option ρ)) := [(200, C_M_isPorter N), (202, C_M_isDoor N), (194, C_M_openOf N)]
theorem oo_M_qOf {ρ : Type} {t0 : ρ} (N : Nat) : OrcOK Sm R0m oFm nm 3 t0 (mOrc (oL_M_qOf N)) := mOrc_OK (List.forall_mem_cons.mpr ⟨cs_M_isPorter N (by decide), List.forall_mem_cons.mpr ⟨cs_M_isDoor N (by decide), List.forall_mem_cons.mpr ⟨cs_M_openOf N (by decide), mz_nil⟩⟩⟩)
noncomputable def f_M_qOf (N : Nat) (a1 : Int32) (a2 : Int64) (a4 : Int32) (s : mS) : Option (Int64 × mS) :=
  if a1 = 0 then
    (f_M_isPorter N a2 s).bind fun p1 =>
    if p1.1 = 0 then
      some (0, p1.2)
    else
      grd (inb (a2).toInt32 10) (
      some ((((irs (gA p1.2 35 (ix (a2).toInt32)) a4)).toInt64 &&& 1), p1.2))
  else
    (f_M_isDoor N ((a4).toInt64 + a2) s).bind fun p2 =>
    if p2.1 = 0 then
      some (0, p2.2)
    else
      (f_M_openOf N (((a4).toInt64 + a2)).toInt32 p2.2).bind fun p3 =>
      some ((p3.1).toInt64, p3.2)
set_option maxRecDepth 100000 in
set_option maxHeartbeats 4000000 in
theorem m_M_qOf (N : Nat) {x9 : Int64} {s9 : mS} (a1 : Int32) (a2 : Int64) (a4 : Int32) {s : mS} (h : f_M_qOf N a1 a2 a4 s = some (x9, s9)) : MetM Sm R0m oFm nm 3 265 [.ref 0, .int a1, .long a2, .int a4] s (some (.long x9)) s9 := by
  refine met_of_G (q := q_M_qOf) (t0 := (x9, s9)) y_M_qOf (Nat.le_of_ble_eq_true rfl) ?_
  rw [← h]
  exact G_eq (mEv_G (orc := mOrc (oL_M_qOf N)) (ret := rtL) (blks := bl_M_qOf) (cuts := []) wOKm (by decide) (oo_M_qOf N) (RetOK_L rfl) bk_M_qOf (mz_nil)) rfl
noncomputable def C_M_qOf {ρ : Type} (N : Nat) : List Value → mS → (Option Value → mS → Option ρ) → Option ρ := fun vs s kk => sR vs 0 fun r0 => pi1 r0 fun a1 r1 => pl1 r1 fun a2 r2 => pi1 r2 fun a4 r3 => rv0 r3 ((f_M_qOf N a1 a2 a4 s).bind fun p => kk (some (.long p.1)) p.2)
theorem cs_M_qOf {ρ : Type} {t0 : ρ} {d : Nat} (N : Nat) (hd : 3 + 1 ≤ d) : CallOK Sm R0m oFm nm d t0 265 (C_M_qOf N) := by
  intro vs s kk h0
  obtain ⟨r0, rfl, h1⟩ := sR_some h0
  obtain ⟨a1, r1, rfl, h2⟩ := pi1_some h1
  obtain ⟨a2, r2, rfl, h3⟩ := pl1_some h2
  obtain ⟨a4, r3, rfl, h4⟩ := pi1_some h3
  obtain ⟨rfl, h5⟩ := rv0_some h4
  obtain ⟨p, hp, hk⟩ := Option.bind_eq_some_iff.mp h5
  exact ⟨_, _, _, hd, m_M_qOf N a1 a2 a4 hp, hk, fun qy hq hf => by cases y_M_qOf.symm.trans hq; exact ⟨_, _, rfl, rfl⟩⟩
/-! METHOD PorterDoorsModel.qTold(I)J -/
set_option maxRecDepth 20000 in
noncomputable def q_M_qTold : mI := (⟨"PorterDoorsModel", "qTold", "(I)J"⟩, prog_13_method_122_code, 4, (some .long), 10, 1893, 139, 1, 1, 1892, 121)
theorem y_M_qTold : mT[264]? = some q_M_qTold := mT_at_6 (k := 24) rfl
noncomputable def bl_M_qTold : List (Nat × List mO) := [(0, [o0 (.aload_n 0), o0 (.iconst 0), o2 (.putfield 395) 10 94, o0 (.iconst 0), o0 (.istore_n 2)]),
  (7, [o0 (.iload_n 2), o0 (.aload_n 0), o2 (.getfield 304) 10 88, o1 (.if_icmp .ge 156) 168, o0 (.aload_n 0), o2 (.getfield 210) 10 87, o0 (.iload_n 2), o0 (.iaload), o0 (.istore_n 3), o0 (.iload_n 3), o0 (.sipush 1000), o1 (.if_icmp .lt 16) 42, o0 (.aload_n 0), o0 (.iload_n 3), o0 (.sipush 1000), o0 (.isub), o0 (.i2l), o2 (.invokevirtual 398) 208 2, o1 (.goto 123) 162]),
  (42, [o0 (.iload_n 3), o0 (.bipush 60), o1 (.if_icmp .lt 40) 85, o0 (.aload_n 0), o2 (.getfield 216) 10 93, o0 (.aload_n 0), o2 (.getfield 395) 10 94, o0 (.iconst 1), o0 (.isub), o0 (.aload_n 0), o0 (.iload_n 3), o0 (.bipush 60), o0 (.isub), o0 (.aload_n 0), o2 (.getfield 216) 10 93, o0 (.aload_n 0), o2 (.getfield 395) 10 94, o0 (.iconst 1), o0 (.isub), o0 (.laload), o0 (.iload_n 1), o2 (.invokevirtual 609) 265 4, o2 (.invokestatic 601) 211 1, o0 (.lastore), o1 (.goto 80) 162]),
  (85, [o0 (.iload_n 3), o0 (.bipush 40), o1 (.if_icmp .lt 22) 110, o0 (.aload_n 0), o0 (.aload_n 0), o0 (.iload_n 3), o0 (.bipush 40), o0 (.isub), o0 (.iload_n 1), o2 (.invokevirtual 402) 209 3, o2 (.invokestatic 601) 211 1, o2 (.invokevirtual 398) 208 2, o1 (.goto 55) 162]),
  (110, [o0 (.iload_n 3), o0 (.bipush 13), o1 (.if_icmp .ne 11) 124, o0 (.aload_n 0), o0 (.lconst 1), o2 (.invokevirtual 398) 208 2, o1 (.goto 41) 162]),
  (124, [o0 (.iload_n 3), o0 (.bipush 12), o1 (.if_icmp .ne 30) 157, o0 (.aload_n 0), o2 (.getfield 216) 10 93, o0 (.aload_n 0), o2 (.getfield 395) 10 94, o0 (.iconst 1), o0 (.isub), o0 (.lconst 1), o0 (.aload_n 0), o2 (.getfield 216) 10 93, o0 (.aload_n 0), o2 (.getfield 395) 10 94, o0 (.iconst 1), o0 (.isub), o0 (.laload), o0 (.lsub), o0 (.lastore), o1 (.goto 8) 162]),
  (157, [o0 (.aload_n 0), o0 (.iload_n 3), o2 (.invokevirtual 406) 210 2]),
  (162, [o0 (.iinc 2 1), o1 (.goto (-158)) 7]),
  (168, [o0 (.aload_n 0), o2 (.getfield 216) 10 93, o0 (.iconst 0), o0 (.laload), o0 (.lreturn)])]
theorem bk_M_qTold : okBlks q_M_qTold bl_M_qTold = true := by decide +kernel
noncomputable def oL_M_qTold {ρ : Type} (N : Nat) : List (Nat × (List Value → mS → (Option Value → mS → Option ρ) → Option ρ)) := [(208, C_M_qPuts N), (265, C_M_qOf N), (211, C_M_qClip N), (209, C_M_qPartOf N), (210, C_M_qJoins N)]
theorem oo_M_qTold {ρ : Type} {t0 : ρ} (N : Nat) : OrcOK Sm R0m oFm nm 5 t0 (mOrc (oL_M_qTold N)) := mOrc_OK (List.forall_mem_cons.mpr ⟨cs_M_qPuts N (by decide), List.forall_mem_cons.mpr ⟨cs_M_qOf N (by decide), List.forall_mem_cons.mpr ⟨cs_M_qClip N (by decide), List.forall_mem_cons.mpr ⟨cs_M_qPartOf N (by decide), List.forall_mem_cons.mpr ⟨cs_M_qJoins N (by decide), mz_nil⟩⟩⟩⟩⟩)
noncomputable def H_M_qTold_7 {ρ : Type} (k : (Int32 × Int32 × mS) → Option ρ) : mL → List Value → mS → Option ρ := fun loc st s => cR loc 0 0 (li1 loc 1 fun v0 => li1 loc 2 fun v1 => rv0 st (k (v0, v1, s)))
noncomputable def f_M_qTold_L7 (N : Nat) (k7 : (Int32 × Int32 × mS) → Option (Int64 × mS)) (x : Int32 × Int32 × mS) : Option (Int64 × mS) :=
  if x.2.1 < (gI x.2.2 1088 0) then
    grd (inb x.2.1 1700) (
    if (gA x.2.2 64 (ix x.2.1)) < 1000 then
      if (gA x.2.2 64 (ix x.2.1)) < 60 then
        if (gA x.2.2 64 (ix x.2.1)) < 40 then
          if (gA x.2.2 64 (ix x.2.1)) = 13 then
            (f_M_qPuts N 1 x.2.2).bind fun p3 =>
            k7 (x.1, (x.2.1 + 1), p3)
          else
            if (gA x.2.2 64 (ix x.2.1)) = 12 then
              grd (inb ((gI x.2.2 1094 0) - 1) 1700) (
              grd (inb ((gI x.2.2 1094 0) - 1) 1700) (
              let s2 := sQ x.2.2 66 (ix ((gI x.2.2 1094 0) - 1)) (1 - (gQ x.2.2 66 (ix ((gI x.2.2 1094 0) - 1))))
              k7 (x.1, (x.2.1 + 1), s2)))
            else
              (f_M_qJoins N (gA x.2.2 64 (ix x.2.1)) x.2.2).bind fun p1 =>
              k7 (x.1, (x.2.1 + 1), p1)
        else
          (f_M_qPartOf N ((gA x.2.2 64 (ix x.2.1)) - 40) x.1 x.2.2).bind fun p4 =>
          (f_M_qClip N p4.1 p4.2).bind fun p5 =>
          (f_M_qPuts N p5.1 p5.2).bind fun p6 =>
          k7 (x.1, (x.2.1 + 1), p6)
      else
        grd (inb ((gI x.2.2 1094 0) - 1) 1700) (
        (f_M_qOf N ((gA x.2.2 64 (ix x.2.1)) - 60) (gQ x.2.2 66 (ix ((gI x.2.2 1094 0) - 1))) x.1 x.2.2).bind fun p7 =>
        (f_M_qClip N p7.1 p7.2).bind fun p8 =>
        grd (inb ((gI x.2.2 1094 0) - 1) 1700) (
        let s9 := sQ p8.2 66 (ix ((gI x.2.2 1094 0) - 1)) p8.1
        k7 (x.1, (x.2.1 + 1), s9)))
    else
      (f_M_qPuts N (((gA x.2.2 64 (ix x.2.1)) - 1000)).toInt64 x.2.2).bind fun p10 =>
      k7 (x.1, (x.2.1 + 1), p10))
  else
    some ((gQ x.2.2 66 0), x.2.2)
set_option maxRecDepth 100000 in
set_option maxHeartbeats 4000000 in
theorem t_M_qTold_7 (N : Nat) {x9 : Int64} {s9 : mS} {k7 : (Int32 × Int32 × mS) → Option (Int64 × mS)} (hk7 : SCd Sm R0m oFm nm 5 q_M_qTold (some (.long x9), s9) (x9, s9) 7 (H_M_qTold_7 k7)) : SCd Sm R0m oFm nm 5 q_M_qTold (some (.long x9), s9) (x9, s9) 7 (H_M_qTold_7 (f_M_qTold_L7 N k7)) := by
  intro loc st s
  refine G_cR (fun h0 => ?_)
  refine G_li (fun v0 h1 => ?_)
  refine G_li (fun v1 h2 => ?_)
  refine G_rv0 (fun e9 => ?_)
  subst e9
  refine G_sub (loc0 := [(0, .ref 0), (1, .int v0), (2, .int v1)]) (List.forall_mem_cons.mpr ⟨h0, List.forall_mem_cons.mpr ⟨h1, List.forall_mem_cons.mpr ⟨h2, mz_nil⟩⟩⟩) ?_
  exact G_eq (mEv_G (orc := mOrc (oL_M_qTold N)) (ret := rtL) (blks := bl_M_qTold) (cuts := [(7, H_M_qTold_7 k7)]) wOKm (by decide) (oo_M_qTold N) (RetOK_L rfl) bk_M_qTold (List.forall_mem_cons.mpr ⟨hk7, mz_nil⟩)) rfl
theorem s_M_qTold_7 (N : Nat) {x9 : Int64} {s9 : mS} : SCd Sm R0m oFm nm 5 q_M_qTold (some (.long x9), s9) (x9, s9) 7 (H_M_qTold_7 (mfix N (f_M_qTold_L7 N))) := by
  refine mfix_SC (H := H_M_qTold_7) (fun loc st s => ?_) (fun k hk => t_M_qTold_7 N hk) N
  refine G_cR (fun h0 => ?_)
  refine G_li (fun v0 h1 => ?_)
  refine G_li (fun v1 h2 => ?_)
  refine G_rv0 (fun e9 => ?_)
  subst e9
  exact G_none
noncomputable def f_M_qTold (N : Nat) (a1 : Int32) (s : mS) : Option (Int64 × mS) :=
  let s1 := sI s 1094 0 0
  mfix N (f_M_qTold_L7 N) (a1, 0, s1)
set_option maxRecDepth 100000 in
set_option maxHeartbeats 4000000 in
theorem m_M_qTold (N : Nat) {x9 : Int64} {s9 : mS} (a1 : Int32) {s : mS} (h : f_M_qTold N a1 s = some (x9, s9)) : MetM Sm R0m oFm nm 5 264 [.ref 0, .int a1] s (some (.long x9)) s9 := by
  refine met_of_G (q := q_M_qTold) (t0 := (x9, s9)) y_M_qTold (Nat.le_of_ble_eq_true rfl) ?_
  rw [← h]
  exact G_eq (mEv_G (orc := mOrc (oL_M_qTold N)) (ret := rtL) (blks := bl_M_qTold) (cuts := [(7, H_M_qTold_7 (mfix N (f_M_qTold_L7 N)))]) wOKm (by decide) (oo_M_qTold N) (RetOK_L rfl) bk_M_qTold (List.forall_mem_cons.mpr ⟨s_M_qTold_7 N, mz_nil⟩)) rfl
noncomputable def C_M_qTold {ρ : Type} (N : Nat) : List Value → mS → (Option Value → mS → Option ρ) → Option ρ := fun vs s kk => sR vs 0 fun r0 => pi1 r0 fun a1 r1 => rv0 r1 ((f_M_qTold N a1 s).bind fun p => kk (some (.long p.1)) p.2)
theorem cs_M_qTold {ρ : Type} {t0 : ρ} {d : Nat} (N : Nat) (hd : 5 + 1 ≤ d) : CallOK Sm R0m oFm nm d t0 264 (C_M_qTold N) := by
  intro vs s kk h0
  obtain ⟨r0, rfl, h1⟩ := sR_some h0
  obtain ⟨a1, r1, rfl, h2⟩ := pi1_some h1
  obtain ⟨rfl, h3⟩ := rv0_some h2
  obtain ⟨p, hp, hk⟩ := Option.bind_eq_some_iff.mp h3
  exact ⟨_, _, _, hd, m_M_qTold N a1 hp, hk, fun qy hq hf => by cases y_M_qTold.symm.trans hq; exact ⟨_, _, rfl, rfl⟩⟩
/-! METHOD PorterDoorsModel.qTakes(IJI)V -/
set_option maxRecDepth 20000 in
noncomputable def q_M_qTakes : mI := (⟨"PorterDoorsModel", "qTakes", "(IJI)V"⟩, prog_13_method_124_code, 6, none, 10, 1901, 139, 1, 3, 1900, 123)
theorem y_M_qTakes : mT[266]? = some q_M_qTakes := mT_at_6 (k := 26) rfl
noncomputable def bl_M_qTakes : List (Nat × List mO) := [(0, [o0 (.iload_n 1), o0 (.iconst 3), o1 (.if_icmp .ge 13) 15, o0 (.lload_n 2), o0 (.lconst 1), o0 (.lcmp), o1 (.ifCond .ne 7) 15, o0 (.iconst 1), o1 (.goto 4) 16]),
  (15, [o0 (.iconst 0)]),
  (16, [o0 (.istore 5), o0 (.iload_n 1), o1 (.ifCond .ne 19) 38, o0 (.iload 5), o1 (.ifCond .eq 14) 38, o0 (.aload_n 0), o2 (.getfield 613) 10 95, oC (.ldc2_w 616) (.long (-1)), o0 (.lcmp), o1 (.ifCond .eq 13) 48]),
  (38, [o0 (.iload_n 1), o0 (.iconst 1), o1 (.if_icmp .ne 15) 55, o0 (.iload 5), o1 (.ifCond .eq 10) 55]),
  (48, [o0 (.aload_n 0), o0 (.iload 4), o0 (.i2l), o2 (.putfield 613) 10 95]),
  (55, [o0 (.iload_n 1), o0 (.iconst 2), o1 (.if_icmp .ne 18) 75, o0 (.iload 5), o1 (.ifCond .eq 13) 75, o0 (.aload_n 0), o0 (.dup), o2 (.getfield 613) 10 95, o0 (.lconst 1), o0 (.ladd), o2 (.putfield 613) 10 95]),
  (75, [o0 (.iload_n 1), o0 (.iconst 3), o1 (.if_icmp .ne 13) 90, o0 (.aload_n 0), o0 (.dup), o2 (.getfield 613) 10 95, o0 (.lload_n 2), o0 (.ladd), o2 (.putfield 613) 10 95]),
  (90, [o0 (.iload_n 1), o0 (.iconst 3), o1 (.if_icmp .le 41) 133, o0 (.aload_n 0), o2 (.getfield 618) 10 96, o1 (.ifCond .ne 29) 128, o0 (.iload_n 1), o0 (.iconst 4), o1 (.if_icmp .ne 15) 119, o0 (.lload_n 2), o0 (.aload_n 0), o2 (.getfield 613) 10 95, o0 (.lcmp), o1 (.ifCond .le 20) 133, o1 (.goto 12) 128]),
  (119, [o0 (.lload_n 2), o0 (.aload_n 0), o2 (.getfield 613) 10 95, o0 (.lcmp), o1 (.ifCond .ge 8) 133]),
  (128, [o0 (.aload_n 0), o0 (.lload_n 2), o2 (.putfield 613) 10 95]),
  (133, [o0 (.aload_n 0), o0 (.iconst 0), o2 (.putfield 618) 10 96, o0 (.return_)])]
theorem bk_M_qTakes : okBlks q_M_qTakes bl_M_qTakes = true := by decide +kernel
noncomputable def oL_M_qTakes {ρ : Type} (N : Nat) : List (Nat × (List Value → mS → (Option Value → mS → Option ρ) → Option ρ)) := []
theorem oo_M_qTakes {ρ : Type} {t0 : ρ} (N : Nat) : OrcOK Sm R0m oFm nm 1 t0 (mOrc (oL_M_qTakes N)) := mOrc_OK (mz_nil)
noncomputable def H_M_qTakes_16 {ρ : Type} (k : (Int32 × Int64 × Int32 × Int32 × mS) → Option ρ) : mL → List Value → mS → Option ρ := fun loc st s => cR loc 0 0 (li1 loc 1 fun v0 => ll1 loc 2 fun v1 => li1 loc 4 fun v2 => pi1 st fun w0 r0 => rv0 r0 (k (v0, v1, v2, w0, s)))
noncomputable def H_M_qTakes_38 {ρ : Type} (k : (Int32 × Int64 × Int32 × Int32 × mS) → Option ρ) : mL → List Value → mS → Option ρ := fun loc st s => cR loc 0 0 (li1 loc 1 fun v0 => ll1 loc 2 fun v1 => li1 loc 4 fun v2 => li1 loc 5 fun v3 => rv0 st (k (v0, v1, v2, v3, s)))
noncomputable def H_M_qTakes_55 {ρ : Type} (k : (Int32 × Int64 × Int32 × mS) → Option ρ) : mL → List Value → mS → Option ρ := fun loc st s => cR loc 0 0 (li1 loc 1 fun v0 => ll1 loc 2 fun v1 => li1 loc 5 fun v2 => rv0 st (k (v0, v1, v2, s)))
noncomputable def H_M_qTakes_75 {ρ : Type} (k : (Int32 × Int64 × mS) → Option ρ) : mL → List Value → mS → Option ρ := fun loc st s => cR loc 0 0 (li1 loc 1 fun v0 => ll1 loc 2 fun v1 => rv0 st (k (v0, v1, s)))
noncomputable def H_M_qTakes_90 {ρ : Type} (k : (Int32 × Int64 × mS) → Option ρ) : mL → List Value → mS → Option ρ := fun loc st s => cR loc 0 0 (li1 loc 1 fun v0 => ll1 loc 2 fun v1 => rv0 st (k (v0, v1, s)))
noncomputable def f_M_qTakes_j90 (N : Nat) (x : Int32 × Int64 × mS) : Option (mS) :=
  if 3 < x.1 then
    if (gI x.2.2 1096 0) = 0 then
      if x.1 = 4 then
        if 0 < (lg_cmp x.2.1 (gL x.2.2 1095 0)) then
          let s8 := sL x.2.2 1095 0 x.2.1
          let s9 := sI s8 1096 0 0
          some s9
        else
          let s7 := sI x.2.2 1096 0 0
          some s7
      else
        if (lg_cmp x.2.1 (gL x.2.2 1095 0)) < 0 then
          let s5 := sL x.2.2 1095 0 x.2.1
          let s6 := sI s5 1096 0 0
          some s6
        else
          let s4 := sI x.2.2 1096 0 0
          some s4
    else
      let s2 := sL x.2.2 1095 0 x.2.1
      let s3 := sI s2 1096 0 0
      some s3
  else
    let s1 := sI x.2.2 1096 0 0
    some s1
set_option maxRecDepth 100000 in
set_option maxHeartbeats 4000000 in
theorem s_M_qTakes_90 (N : Nat) {s9 : mS} : SCd Sm R0m oFm nm 1 q_M_qTakes (none, s9) s9 90 (H_M_qTakes_90 (f_M_qTakes_j90 N)) := by
  intro loc st s
  refine G_cR (fun h0 => ?_)
  refine G_li (fun v0 h1 => ?_)
  refine G_ll (fun v1 h2 => ?_)
  refine G_rv0 (fun e9 => ?_)
  subst e9
  refine G_sub (loc0 := [(0, .ref 0), (1, .int v0), (2, .long v1)]) (List.forall_mem_cons.mpr ⟨h0, List.forall_mem_cons.mpr ⟨h1, List.forall_mem_cons.mpr ⟨h2, mz_nil⟩⟩⟩) ?_
  exact G_eq (mEv_G (orc := mOrc (oL_M_qTakes N)) (ret := rtV) (blks := bl_M_qTakes) (cuts := []) wOKm (by decide) (oo_M_qTakes N) (RetOK_V rfl) bk_M_qTakes (mz_nil)) rfl
noncomputable def f_M_qTakes_j75 (N : Nat) (x : Int32 × Int64 × mS) : Option (mS) :=
  if x.1 = 3 then
    let s1 := sL x.2.2 1095 0 ((gL x.2.2 1095 0) + x.2.1)
    f_M_qTakes_j90 N (x.1, x.2.1, s1)
  else
    f_M_qTakes_j90 N (x.1, x.2.1, x.2.2)
set_option maxRecDepth 100000 in
set_option maxHeartbeats 4000000 in
theorem s_M_qTakes_75 (N : Nat) {s9 : mS} : SCd Sm R0m oFm nm 1 q_M_qTakes (none, s9) s9 75 (H_M_qTakes_75 (f_M_qTakes_j75 N)) := by
  intro loc st s
  refine G_cR (fun h0 => ?_)
  refine G_li (fun v0 h1 => ?_)
  refine G_ll (fun v1 h2 => ?_)
  refine G_rv0 (fun e9 => ?_)
  subst e9
  refine G_sub (loc0 := [(0, .ref 0), (1, .int v0), (2, .long v1)]) (List.forall_mem_cons.mpr ⟨h0, List.forall_mem_cons.mpr ⟨h1, List.forall_mem_cons.mpr ⟨h2, mz_nil⟩⟩⟩) ?_
  exact G_eq (mEv_G (orc := mOrc (oL_M_qTakes N)) (ret := rtV) (blks := bl_M_qTakes) (cuts := [(90, H_M_qTakes_90 (f_M_qTakes_j90 N))]) wOKm (by decide) (oo_M_qTakes N) (RetOK_V rfl) bk_M_qTakes (List.forall_mem_cons.mpr ⟨s_M_qTakes_90 N, mz_nil⟩)) rfl
noncomputable def f_M_qTakes_j55 (N : Nat) (x : Int32 × Int64 × Int32 × mS) : Option (mS) :=
  if x.1 = 2 then
    if x.2.2.1 = 0 then
      f_M_qTakes_j75 N (x.1, x.2.1, x.2.2.2)
    else
      let s1 := sL x.2.2.2 1095 0 ((gL x.2.2.2 1095 0) + 1)
      f_M_qTakes_j75 N (x.1, x.2.1, s1)
  else
    f_M_qTakes_j75 N (x.1, x.2.1, x.2.2.2)
set_option maxRecDepth 100000 in
set_option maxHeartbeats 4000000 in
theorem s_M_qTakes_55 (N : Nat) {s9 : mS} : SCd Sm R0m oFm nm 1 q_M_qTakes (none, s9) s9 55 (H_M_qTakes_55 (f_M_qTakes_j55 N)) := by
  intro loc st s
  refine G_cR (fun h0 => ?_)
  refine G_li (fun v0 h1 => ?_)
  refine G_ll (fun v1 h2 => ?_)
  refine G_li (fun v2 h5 => ?_)
  refine G_rv0 (fun e9 => ?_)
  subst e9
  refine G_sub (loc0 := [(0, .ref 0), (1, .int v0), (2, .long v1), (5, .int v2)]) (List.forall_mem_cons.mpr ⟨h0, List.forall_mem_cons.mpr ⟨h1, List.forall_mem_cons.mpr ⟨h2, List.forall_mem_cons.mpr ⟨h5, mz_nil⟩⟩⟩⟩) ?_
  exact G_eq (mEv_G (orc := mOrc (oL_M_qTakes N)) (ret := rtV) (blks := bl_M_qTakes) (cuts := [(75, H_M_qTakes_75 (f_M_qTakes_j75 N))]) wOKm (by decide) (oo_M_qTakes N) (RetOK_V rfl) bk_M_qTakes (List.forall_mem_cons.mpr ⟨s_M_qTakes_75 N, mz_nil⟩)) rfl
noncomputable def f_M_qTakes_j38 (N : Nat) (x : Int32 × Int64 × Int32 × Int32 × mS) : Option (mS) :=
  if x.1 = 1 then
    if x.2.2.2.1 = 0 then
      f_M_qTakes_j55 N (x.1, x.2.1, x.2.2.2.1, x.2.2.2.2)
    else
      let s1 := sL x.2.2.2.2 1095 0 (x.2.2.1).toInt64
      f_M_qTakes_j55 N (x.1, x.2.1, x.2.2.2.1, s1)
  else
    f_M_qTakes_j55 N (x.1, x.2.1, x.2.2.2.1, x.2.2.2.2)
set_option maxRecDepth 100000 in
set_option maxHeartbeats 4000000 in
theorem s_M_qTakes_38 (N : Nat) {s9 : mS} : SCd Sm R0m oFm nm 1 q_M_qTakes (none, s9) s9 38 (H_M_qTakes_38 (f_M_qTakes_j38 N)) := by
  intro loc st s
  refine G_cR (fun h0 => ?_)
  refine G_li (fun v0 h1 => ?_)
  refine G_ll (fun v1 h2 => ?_)
  refine G_li (fun v2 h4 => ?_)
  refine G_li (fun v3 h5 => ?_)
  refine G_rv0 (fun e9 => ?_)
  subst e9
  refine G_sub (loc0 := [(0, .ref 0), (1, .int v0), (2, .long v1), (4, .int v2), (5, .int v3)]) (List.forall_mem_cons.mpr ⟨h0, List.forall_mem_cons.mpr ⟨h1, List.forall_mem_cons.mpr ⟨h2, List.forall_mem_cons.mpr ⟨h4, List.forall_mem_cons.mpr ⟨h5, mz_nil⟩⟩⟩⟩⟩) ?_
  exact G_eq (mEv_G (orc := mOrc (oL_M_qTakes N)) (ret := rtV) (blks := bl_M_qTakes) (cuts := [(55, H_M_qTakes_55 (f_M_qTakes_j55 N))]) wOKm (by decide) (oo_M_qTakes N) (RetOK_V rfl) bk_M_qTakes (List.forall_mem_cons.mpr ⟨s_M_qTakes_55 N, mz_nil⟩)) rfl
noncomputable def f_M_qTakes_j16 (N : Nat) (x : Int32 × Int64 × Int32 × Int32 × mS) : Option (mS) :=
  if x.1 = 0 then
    if x.2.2.2.1 = 0 then
      f_M_qTakes_j38 N (x.1, x.2.1, x.2.2.1, x.2.2.2.1, x.2.2.2.2)
    else
      if (lg_cmp (gL x.2.2.2.2 1095 0) (-1)) = 0 then
        let s1 := sL x.2.2.2.2 1095 0 (x.2.2.1).toInt64
        f_M_qTakes_j55 N (x.1, x.2.1, x.2.2.2.1, s1)
      else
        f_M_qTakes_j38 N (x.1, x.2.1, x.2.2.1, x.2.2.2.1, x.2.2.2.2)
  else
    f_M_qTakes_j38 N (x.1, x.2.1, x.2.2.1, x.2.2.2.1, x.2.2.2.2)
set_option maxRecDepth 100000 in
set_option maxHeartbeats 4000000 in
theorem s_M_qTakes_16 (N : Nat) {s9 : mS} : SCd Sm R0m oFm nm 1 q_M_qTakes (none, s9) s9 16 (H_M_qTakes_16 (f_M_qTakes_j16 N)) := by
  intro loc st s
  refine G_cR (fun h0 => ?_)
  refine G_li (fun v0 h1 => ?_)
  refine G_ll (fun v1 h2 => ?_)
  refine G_li (fun v2 h4 => ?_)
  refine G_pi (fun w0 r0 e0 => ?_)
  refine G_rv0 (fun e9 => ?_)
  subst e9
  subst e0
  refine G_sub (loc0 := [(0, .ref 0), (1, .int v0), (2, .long v1), (4, .int v2)]) (List.forall_mem_cons.mpr ⟨h0, List.forall_mem_cons.mpr ⟨h1, List.forall_mem_cons.mpr ⟨h2, List.forall_mem_cons.mpr ⟨h4, mz_nil⟩⟩⟩⟩) ?_
  exact G_eq (mEv_G (orc := mOrc (oL_M_qTakes N)) (ret := rtV) (blks := bl_M_qTakes) (cuts := [(38, H_M_qTakes_38 (f_M_qTakes_j38 N)), (55, H_M_qTakes_55 (f_M_qTakes_j55 N))]) wOKm (by decide) (oo_M_qTakes N) (RetOK_V rfl) bk_M_qTakes (List.forall_mem_cons.mpr ⟨s_M_qTakes_38 N, List.forall_mem_cons.mpr ⟨s_M_qTakes_55 N, mz_nil⟩⟩)) rfl
noncomputable def f_M_qTakes (N : Nat) (a1 : Int32) (a2 : Int64) (a4 : Int32) (s : mS) : Option (mS) :=
  if a1 < 3 then
    if (lg_cmp a2 1) = 0 then
      f_M_qTakes_j16 N (a1, a2, a4, 1, s)
    else
      f_M_qTakes_j16 N (a1, a2, a4, 0, s)
  else
    f_M_qTakes_j16 N (a1, a2, a4, 0, s)
set_option maxRecDepth 100000 in
set_option maxHeartbeats 4000000 in
theorem m_M_qTakes (N : Nat) {s9 : mS} (a1 : Int32) (a2 : Int64) (a4 : Int32) {s : mS} (h : f_M_qTakes N a1 a2 a4 s = some s9) : MetM Sm R0m oFm nm 1 266 [.ref 0, .int a1, .long a2, .int a4] s (none) s9 := by
  refine met_of_G (q := q_M_qTakes) (t0 := s9) y_M_qTakes (Nat.le_of_ble_eq_true rfl) ?_
  rw [← h]
  exact G_eq (mEv_G (orc := mOrc (oL_M_qTakes N)) (ret := rtV) (blks := bl_M_qTakes) (cuts := [(16, H_M_qTakes_16 (f_M_qTakes_j16 N))]) wOKm (by decide) (oo_M_qTakes N) (RetOK_V rfl) bk_M_qTakes (List.forall_mem_cons.mpr ⟨s_M_qTakes_16 N, mz_nil⟩)) rfl
noncomputable def C_M_qTakes {ρ : Type} (N : Nat) : List Value → mS → (Option Value → mS → Option ρ) → Option ρ := fun vs s kk => sR vs 0 fun r0 => pi1 r0 fun a1 r1 => pl1 r1 fun a2 r2 => pi1 r2 fun a4 r3 => rv0 r3 ((f_M_qTakes N a1 a2 a4 s).bind fun p => kk none p)
theorem cs_M_qTakes {ρ : Type} {t0 : ρ} {d : Nat} (N : Nat) (hd : 1 + 1 ≤ d) : CallOK Sm R0m oFm nm d t0 266 (C_M_qTakes N) := by
  intro vs s kk h0
  obtain ⟨r0, rfl, h1⟩ := sR_some h0
  obtain ⟨a1, r1, rfl, h2⟩ := pi1_some h1
  obtain ⟨a2, r2, rfl, h3⟩ := pl1_some h2
  obtain ⟨a4, r3, rfl, h4⟩ := pi1_some h3
  obtain ⟨rfl, h5⟩ := rv0_some h4
  obtain ⟨p, hp, hk⟩ := Option.bind_eq_some_iff.mp h5
  exact ⟨_, _, _, hd, m_M_qTakes N a1 a2 a4 hp, hk, fun qy hq hf => by cases y_M_qTakes.symm.trans hq; exact ⟨_, _, rfl, rfl⟩⟩
/-! METHOD PorterDoorsModel.ask()J -/
set_option maxRecDepth 20000 in
noncomputable def q_M_ask : mI := (⟨"PorterDoorsModel", "ask", "()J"⟩, prog_13_method_125_code, 3, (some .long), 10, 1883, 139, 1, 0, 1881, 1882)
theorem y_M_ask : mT[262]? = some q_M_ask := mT_at_6 (k := 22) rfl
noncomputable def bl_M_ask : List (Nat × List mO) := [(0, [o0 (.aload_n 0), o2 (.getfield 367) 10 46, o1 (.ifCond .ne 12) 16, o0 (.aload_n 0), o0 (.iconst 0), o2 (.putfield 224) 10 1, oC (.ldc2_w 621) (.long (-1000000000000000)), o0 (.lreturn)]),
  (16, [o0 (.aload_n 0), o0 (.aload_n 0), o2 (.getfield 224) 10 1, o2 (.putfield 236) 10 3, o0 (.aload_n 0), o0 (.iconst 0), o2 (.putfield 224) 10 1, o0 (.aload_n 0), o0 (.iconst 0), o2 (.putfield 233) 10 2, o0 (.aload_n 0), o0 (.iconst (-1)), o2 (.putfield 247) 10 4, o0 (.aload_n 0), o0 (.iconst 0), o2 (.putfield 227) 10 5, o0 (.aload_n 0), o0 (.iconst (-1)), o2 (.putfield 230) 10 6, o0 (.aload_n 0), o0 (.iconst 3), o2 (.putfield 285) 10 47, o0 (.aload_n 0), o0 (.iconst 0), o2 (.putfield 304) 10 88, o0 (.aload_n 0), o0 (.iconst 0), o2 (.putfield 307) 10 90, o0 (.aload_n 0), o0 (.iconst 0), o2 (.putfield 310) 10 91, o0 (.aload_n 0), o0 (.iconst 0), o2 (.putfield 313) 10 92, o0 (.aload_n 0), o2 (.invokevirtual 623) 263 1, o0 (.istore_n 1), o0 (.aload_n 0), o2 (.getfield 227) 10 5, o1 (.ifCond .ne 15) 98, o0 (.iload_n 1), o0 (.iconst 3), o1 (.if_icmp .ge 10) 98, o0 (.aload_n 0), o2 (.invokevirtual 319) 178 1, o1 (.goto 14) 109]),
  (98, [o0 (.aload_n 0), o2 (.getfield 227) 10 5, o1 (.ifCond .ne 7) 109, o0 (.aload_n 0), o2 (.invokevirtual 316) 163 1]),
  (109, [o0 (.aload_n 0), o2 (.getfield 227) 10 5, o1 (.ifCond .ne 20) 133, o0 (.aload_n 0), o2 (.invokevirtual 239) 150 1, o0 (.iconst (-1)), o1 (.if_icmp .eq 12) 133, o0 (.aload_n 0), o0 (.iconst 1), o0 (.aload_n 0), o2 (.getfield 233) 10 2, o2 (.invokevirtual 257) 152 3]),
  (133, [o0 (.aload_n 0), o0 (.aload_n 0), o2 (.getfield 227) 10 5, o2 (.putfield 357) 10 7, o0 (.aload_n 0), o0 (.aload_n 0), o2 (.getfield 230) 10 6, o2 (.putfield 13) 10 8, o0 (.aload_n 0), o2 (.getfield 227) 10 5, o1 (.ifCond .eq 7) 160, oC (.ldc2_w 621) (.long (-1000000000000000)), o0 (.lreturn)]),
  (160, [o0 (.aload_n 0), o0 (.iload_n 1), o0 (.iconst 2), o1 (.if_icmp .ge 9) 172, oC (.ldc2_w 616) (.long (-1)), o1 (.goto 4) 173]),
  (172, [o0 (.lconst 0)]),
  (173, [o2 (.putfield 613) 10 95, o0 (.aload_n 0), o0 (.iconst 1), o2 (.putfield 618) 10 96, o0 (.aload_n 0), o2 (.invokevirtual 470) 205 1, o0 (.iconst 0), o0 (.istore_n 2)]),
  (187, [o0 (.iload_n 2), o0 (.aload_n 0), o2 (.invokevirtual 377) 190 1, o1 (.if_icmp .ge 25) 217, o0 (.aload_n 0), o0 (.iload_n 2), o2 (.putfield 409) 10 49, o0 (.aload_n 0), o0 (.iload_n 1), o0 (.aload_n 0), o0 (.iload_n 2), o2 (.invokevirtual 626) 264 2, o0 (.iload_n 2), o2 (.invokevirtual 629) 266 4, o0 (.iinc 2 1), o1 (.goto (-27)) 187]),
  (217, [o0 (.aload_n 0), o2 (.getfield 613) 10 95, o0 (.lreturn)])]
theorem bk_M_ask : okBlks q_M_ask bl_M_ask = true := by decide +kernel
noncomputable def oL_M_ask {ρ : Type} (N : Nat) : List (Nat × (List Value → mS → (Option Value → mS → Option ρ) → Option ρ)) := [(263, C_M_qKind N), (178, C_M_qTest N), (163, C_M_qSums N), (150, C_M_look N), (152, C_M_fail N), (205, C_M_laysOrders N), (190, C_M_doorMany N), (264, C_M_qTold N), (266, C_M_qTakes N)]
theorem oo_M_ask {ρ : Type} {t0 : ρ} (N : Nat) : OrcOK Sm R0m oFm nm 10 t0 (mOrc (oL_M_ask N)) := mOrc_OK (List.forall_mem_cons.mpr ⟨cs_M_qKind N (by decide), List.forall_mem_cons.mpr ⟨cs_M_qTest N (by decide), List.forall_mem_cons.mpr ⟨cs_M_qSums N (by decide), List.forall_mem_cons.mpr ⟨cs_M_look N (by decide), List.forall_mem_cons.mpr ⟨cs_M_fail N (by decide), List.forall_mem_cons.mpr ⟨cs_M_laysOrders N (by decide), List.forall_mem_cons.mpr ⟨cs_M_doorMany N (by decide), List.forall_mem_cons.mpr ⟨cs_M_qTold N (by decide), List.forall_mem_cons.mpr ⟨cs_M_qTakes N (by decide), mz_nil⟩⟩⟩⟩⟩⟩⟩⟩⟩)
noncomputable def H_M_ask_98 {ρ : Type} (k : (Int32 × mS) → Option ρ) : mL → List Value → mS → Option ρ := fun loc st s => cR loc 0 0 (li1 loc 1 fun v0 => rv0 st (k (v0, s)))
noncomputable def H_M_ask_109 {ρ : Type} (k : (Int32 × mS) → Option ρ) : mL → List Value → mS → Option ρ := fun loc st s => cR loc 0 0 (li1 loc 1 fun v0 => rv0 st (k (v0, s)))
noncomputable def H_M_ask_133 {ρ : Type} (k : (Int32 × mS) → Option ρ) : mL → List Value → mS → Option ρ := fun loc st s => cR loc 0 0 (li1 loc 1 fun v0 => rv0 st (k (v0, s)))
noncomputable def H_M_ask_173 {ρ : Type} (k : (Int32 × Int64 × mS) → Option ρ) : mL → List Value → mS → Option ρ := fun loc st s => cR loc 0 0 (li1 loc 1 fun v0 => pl1 st fun w1 r0 => sR r0 0 fun r1 => rv0 r1 (k (v0, w1, s)))
noncomputable def H_M_ask_187 {ρ : Type} (k : (Int32 × Int32 × mS) → Option ρ) : mL → List Value → mS → Option ρ := fun loc st s => cR loc 0 0 (li1 loc 1 fun v0 => li1 loc 2 fun v1 => rv0 st (k (v0, v1, s)))
noncomputable def f_M_ask_L187 (N : Nat) (k187 : (Int32 × Int32 × mS) → Option (Int64 × mS)) (x : Int32 × Int32 × mS) : Option (Int64 × mS) :=
  (f_M_doorMany N x.2.2).bind fun p1 =>
  if x.2.1 < p1.1 then
    let s2 := sI p1.2 1049 0 x.2.1
    (f_M_qTold N x.2.1 s2).bind fun p3 =>
    (f_M_qTakes N x.1 p3.1 x.2.1 p3.2).bind fun p4 =>
    k187 (x.1, (x.2.1 + 1), p4)
  else
    some ((gL p1.2 1095 0), p1.2)
set_option maxRecDepth 100000 in
set_option maxHeartbeats 4000000 in
theorem t_M_ask_187 (N : Nat) {x9 : Int64} {s9 : mS} {k187 : (Int32 × Int32 × mS) → Option (Int64 × mS)} (hk187 : SCd Sm R0m oFm nm 10 q_M_ask (some (.long x9), s9) (x9, s9) 187 (H_M_ask_187 k187)) : SCd Sm R0m oFm nm 10 q_M_ask (some (.long x9), s9) (x9, s9) 187 (H_M_ask_187 (f_M_ask_L187 N k187)) := by
  intro loc st s
  refine G_cR (fun h0 => ?_)
  refine G_li (fun v0 h1 => ?_)
  refine G_li (fun v1 h2 => ?_)
  refine G_rv0 (fun e9 => ?_)
  subst e9
  refine G_sub (loc0 := [(0, .ref 0), (1, .int v0), (2, .int v1)]) (List.forall_mem_cons.mpr ⟨h0, List.forall_mem_cons.mpr ⟨h1, List.forall_mem_cons.mpr ⟨h2, mz_nil⟩⟩⟩) ?_
  exact G_eq (mEv_G (orc := mOrc (oL_M_ask N)) (ret := rtL) (blks := bl_M_ask) (cuts := [(187, H_M_ask_187 k187)]) wOKm (by decide) (oo_M_ask N) (RetOK_L rfl) bk_M_ask (List.forall_mem_cons.mpr ⟨hk187, mz_nil⟩)) rfl
theorem s_M_ask_187 (N : Nat) {x9 : Int64} {s9 : mS} : SCd Sm R0m oFm nm 10 q_M_ask (some (.long x9), s9) (x9, s9) 187 (H_M_ask_187 (mfix N (f_M_ask_L187 N))) := by
  refine mfix_SC (H := H_M_ask_187) (fun loc st s => ?_) (fun k hk => t_M_ask_187 N hk) N
  refine G_cR (fun h0 => ?_)
  refine G_li (fun v0 h1 => ?_)
  refine G_li (fun v1 h2 => ?_)
  refine G_rv0 (fun e9 => ?_)
  subst e9
  exact G_none
noncomputable def f_M_ask_j173 (N : Nat) (x : Int32 × Int64 × mS) : Option (Int64 × mS) :=
  let s1 := sL x.2.2 1095 0 x.2.1
  let s2 := sI s1 1096 0 1
  (f_M_laysOrders N s2).bind fun p3 =>
  mfix N (f_M_ask_L187 N) (x.1, 0, p3)
set_option maxRecDepth 100000 in
set_option maxHeartbeats 4000000 in
theorem s_M_ask_173 (N : Nat) {x9 : Int64} {s9 : mS} : SCd Sm R0m oFm nm 10 q_M_ask (some (.long x9), s9) (x9, s9) 173 (H_M_ask_173 (f_M_ask_j173 N)) := by
  intro loc st s
  refine G_cR (fun h0 => ?_)
  refine G_li (fun v0 h1 => ?_)
  refine G_pl (fun w1 r0 e0 => ?_)
  refine G_sR (fun r1 e1 => ?_)
  refine G_rv0 (fun e9 => ?_)
  subst e9
  subst e1
  subst e0
  refine G_sub (loc0 := [(0, .ref 0), (1, .int v0)]) (List.forall_mem_cons.mpr ⟨h0, List.forall_mem_cons.mpr ⟨h1, mz_nil⟩⟩) ?_
  exact G_eq (mEv_G (orc := mOrc (oL_M_ask N)) (ret := rtL) (blks := bl_M_ask) (cuts := [(187, H_M_ask_187 (mfix N (f_M_ask_L187 N)))]) wOKm (by decide) (oo_M_ask N) (RetOK_L rfl) bk_M_ask (List.forall_mem_cons.mpr ⟨s_M_ask_187 N, mz_nil⟩)) rfl
noncomputable def f_M_ask_j133 (N : Nat) (x : Int32 × mS) : Option (Int64 × mS) :=
  let s1 := sI x.2 1007 0 (gI x.2 1005 0)
  let s2 := sI s1 1008 0 (gI s1 1006 0)
  if (gI s2 1005 0) = 0 then
    if x.1 < 2 then
      f_M_ask_j173 N (x.1, (-1), s2)
    else
      f_M_ask_j173 N (x.1, 0, s2)
  else
    some ((-1000000000000000), s2)
set_option maxRecDepth 100000 in
set_option maxHeartbeats 4000000 in
theorem s_M_ask_133 (N : Nat) {x9 : Int64} {s9 : mS} : SCd Sm R0m oFm nm 10 q_M_ask (some (.long x9), s9) (x9, s9) 133 (H_M_ask_133 (f_M_ask_j133 N)) := by
  intro loc st s
  refine G_cR (fun h0 => ?_)
  refine G_li (fun v0 h1 => ?_)
  refine G_rv0 (fun e9 => ?_)
  subst e9
  refine G_sub (loc0 := [(0, .ref 0), (1, .int v0)]) (List.forall_mem_cons.mpr ⟨h0, List.forall_mem_cons.mpr ⟨h1, mz_nil⟩⟩) ?_
  exact G_eq (mEv_G (orc := mOrc (oL_M_ask N)) (ret := rtL) (blks := bl_M_ask) (cuts := [(173, H_M_ask_173 (f_M_ask_j173 N))]) wOKm (by decide) (oo_M_ask N) (RetOK_L rfl) bk_M_ask (List.forall_mem_cons.mpr ⟨s_M_ask_173 N, mz_nil⟩)) rfl
noncomputable def f_M_ask_j109 (N : Nat) (x : Int32 × mS) : Option (Int64 × mS) :=
  if (gI x.2 1005 0) = 0 then
    (f_M_look N x.2).bind fun p1 =>
    if p1.1 = (-1) then
      f_M_ask_j133 N (x.1, p1.2)
    else
      (f_M_fail N 1 (gI p1.2 1002 0) p1.2).bind fun p2 =>
      f_M_ask_j133 N (x.1, p2)
  else
    f_M_ask_j133 N (x.1, x.2)
set_option maxRecDepth 100000 in
set_option maxHeartbeats 4000000 in
theorem s_M_ask_109 (N : Nat) {x9 : Int64} {s9 : mS} : SCd Sm R0m oFm nm 10 q_M_ask (some (.long x9), s9) (x9, s9) 109 (H_M_ask_109 (f_M_ask_j109 N)) := by
  intro loc st s
  refine G_cR (fun h0 => ?_)
  refine G_li (fun v0 h1 => ?_)
  refine G_rv0 (fun e9 => ?_)
  subst e9
  refine G_sub (loc0 := [(0, .ref 0), (1, .int v0)]) (List.forall_mem_cons.mpr ⟨h0, List.forall_mem_cons.mpr ⟨h1, mz_nil⟩⟩) ?_
  exact G_eq (mEv_G (orc := mOrc (oL_M_ask N)) (ret := rtL) (blks := bl_M_ask) (cuts := [(133, H_M_ask_133 (f_M_ask_j133 N))]) wOKm (by decide) (oo_M_ask N) (RetOK_L rfl) bk_M_ask (List.forall_mem_cons.mpr ⟨s_M_ask_133 N, mz_nil⟩)) rfl
noncomputable def f_M_ask_j98 (N : Nat) (x : Int32 × mS) : Option (Int64 × mS) :=
  if (gI x.2 1005 0) = 0 then
    (f_M_qSums N x.2).bind fun p1 =>
    f_M_ask_j109 N (x.1, p1)
  else
    f_M_ask_j109 N (x.1, x.2)
set_option maxRecDepth 100000 in
set_option maxHeartbeats 4000000 in
theorem s_M_ask_98 (N : Nat) {x9 : Int64} {s9 : mS} : SCd Sm R0m oFm nm 10 q_M_ask (some (.long x9), s9) (x9, s9) 98 (H_M_ask_98 (f_M_ask_j98 N)) := by
  intro loc st s
  refine G_cR (fun h0 => ?_)
  refine G_li (fun v0 h1 => ?_)
  refine G_rv0 (fun e9 => ?_)
  subst e9
  refine G_sub (loc0 := [(0, .ref 0), (1, .int v0)]) (List.forall_mem_cons.mpr ⟨h0, List.forall_mem_cons.mpr ⟨h1, mz_nil⟩⟩) ?_
  exact G_eq (mEv_G (orc := mOrc (oL_M_ask N)) (ret := rtL) (blks := bl_M_ask) (cuts := [(109, H_M_ask_109 (f_M_ask_j109 N))]) wOKm (by decide) (oo_M_ask N) (RetOK_L rfl) bk_M_ask (List.forall_mem_cons.mpr ⟨s_M_ask_109 N, mz_nil⟩)) rfl
noncomputable def f_M_ask (N : Nat) (s : mS) : Option (Int64 × mS) :=
  if (gI s 1046 0) = 0 then
    let s14 := sI s 1001 0 0
    some ((-1000000000000000), s14)
  else
    let s1 := sI s 1003 0 (gI s 1001 0)
    let s2 := sI s1 1001 0 0
    let s3 := sI s2 1002 0 0
    let s4 := sI s3 1004 0 (-1)
    let s5 := sI s4 1005 0 0
    let s6 := sI s5 1006 0 (-1)
    let s7 := sI s6 1047 0 3
    let s8 := sI s7 1088 0 0
    let s9 := sI s8 1090 0 0
    let s10 := sI s9 1091 0 0
    let s11 := sI s10 1092 0 0
    (f_M_qKind N s11).bind fun p12 =>
    if (gI p12.2 1005 0) = 0 then
      if p12.1 < 3 then
        (f_M_qTest N p12.2).bind fun p13 =>
        f_M_ask_j109 N (p12.1, p13)
      else
        f_M_ask_j98 N (p12.1, p12.2)
    else
      f_M_ask_j98 N (p12.1, p12.2)
set_option maxRecDepth 100000 in
set_option maxHeartbeats 4000000 in
theorem m_M_ask (N : Nat) {x9 : Int64} {s9 : mS} {s : mS} (h : f_M_ask N s = some (x9, s9)) : MetM Sm R0m oFm nm 10 262 [.ref 0] s (some (.long x9)) s9 := by
  refine met_of_G (q := q_M_ask) (t0 := (x9, s9)) y_M_ask (Nat.le_of_ble_eq_true rfl) ?_
  rw [← h]
  exact G_eq (mEv_G (orc := mOrc (oL_M_ask N)) (ret := rtL) (blks := bl_M_ask) (cuts := [(98, H_M_ask_98 (f_M_ask_j98 N)), (109, H_M_ask_109 (f_M_ask_j109 N))]) wOKm (by decide) (oo_M_ask N) (RetOK_L rfl) bk_M_ask (List.forall_mem_cons.mpr ⟨s_M_ask_98 N, List.forall_mem_cons.mpr ⟨s_M_ask_109 N, mz_nil⟩⟩)) rfl
noncomputable def C_M_ask {ρ : Type} (N : Nat) : List Value → mS → (Option Value → mS → Option ρ) → Option ρ := fun vs s kk => sR vs 0 fun r0 => rv0 r0 ((f_M_ask N s).bind fun p => kk (some (.long p.1)) p.2)
theorem cs_M_ask {ρ : Type} {t0 : ρ} {d : Nat} (N : Nat) (hd : 10 + 1 ≤ d) : CallOK Sm R0m oFm nm d t0 262 (C_M_ask N) := by
  intro vs s kk h0
  obtain ⟨r0, rfl, h1⟩ := sR_some h0
  obtain ⟨rfl, h2⟩ := rv0_some h1
  obtain ⟨p, hp, hk⟩ := Option.bind_eq_some_iff.mp h2
  exact ⟨_, _, _, hd, m_M_ask N hp, hk, fun qy hq hf => by cases y_M_ask.symm.trans hq; exact ⟨_, _, rfl, rfl⟩⟩
/-! METHOD PorterDoorsModel.octet(I)I -/
set_option maxRecDepth 20000 in
noncomputable def q_M_octet : mI := (⟨"PorterDoorsModel", "octet", "(I)I"⟩, prog_13_method_130_code, 2, (some .int), 10, 1905, 139, 1, 1, 1903, 1904)
theorem y_M_octet : mT[267]? = some q_M_octet := mT_at_6 (k := 27) rfl
noncomputable def bl_M_octet : List (Nat × List mO) := [(0, [o0 (.iload_n 1), o1 (.ifCond .lt 20) 21, o0 (.iload_n 1), o0 (.aload_n 0), o2 (.getfield 633) 10 98, o1 (.if_icmp .ge 12) 21, o0 (.aload_n 0), o2 (.getfield 219) 10 97, o0 (.iload_n 1), o0 (.iaload), o1 (.goto 4) 22]),
  (21, [o0 (.iconst (-1))]),
  (22, [o0 (.ireturn)])]
theorem bk_M_octet : okBlks q_M_octet bl_M_octet = true := by decide +kernel
noncomputable def oL_M_octet {ρ : Type} (N : Nat) : List (Nat × (List Value → mS → (Option Value → mS → Option ρ) → Option ρ)) := []
theorem oo_M_octet {ρ : Type} {t0 : ρ} (N : Nat) : OrcOK Sm R0m oFm nm 1 t0 (mOrc (oL_M_octet N)) := mOrc_OK (mz_nil)
noncomputable def f_M_octet (N : Nat) (a1 : Int32) (s : mS) : Option (Int32 × mS) :=
  if a1 < 0 then
    some ((-1), s)
  else
    if a1 < (gI s 1098 0) then
      grd (inb a1 88) (
      some ((gA s 67 (ix a1)), s))
    else
      some ((-1), s)
set_option maxRecDepth 100000 in
set_option maxHeartbeats 4000000 in
theorem m_M_octet (N : Nat) {x9 : Int32} {s9 : mS} (a1 : Int32) {s : mS} (h : f_M_octet N a1 s = some (x9, s9)) : MetM Sm R0m oFm nm 1 267 [.ref 0, .int a1] s (some (.int x9)) s9 := by
  refine met_of_G (q := q_M_octet) (t0 := (x9, s9)) y_M_octet (Nat.le_of_ble_eq_true rfl) ?_
  rw [← h]
  exact G_eq (mEv_G (orc := mOrc (oL_M_octet N)) (ret := rtI) (blks := bl_M_octet) (cuts := []) wOKm (by decide) (oo_M_octet N) (RetOK_I rfl) bk_M_octet (mz_nil)) rfl
noncomputable def C_M_octet {ρ : Type} (N : Nat) : List Value → mS → (Option Value → mS → Option ρ) → Option ρ := fun vs s kk => sR vs 0 fun r0 => pi1 r0 fun a1 r1 => rv0 r1 ((f_M_octet N a1 s).bind fun p => kk (some (.int p.1)) p.2)
theorem cs_M_octet {ρ : Type} {t0 : ρ} {d : Nat} (N : Nat) (hd : 1 + 1 ≤ d) : CallOK Sm R0m oFm nm d t0 267 (C_M_octet N) := by
  intro vs s kk h0
  obtain ⟨r0, rfl, h1⟩ := sR_some h0
  obtain ⟨a1, r1, rfl, h2⟩ := pi1_some h1
  obtain ⟨rfl, h3⟩ := rv0_some h2
  obtain ⟨p, hp, hk⟩ := Option.bind_eq_some_iff.mp h3
  exact ⟨_, _, _, hd, m_M_octet N a1 hp, hk, fun qy hq hf => by cases y_M_octet.symm.trans hq; exact ⟨_, _, rfl, rfl⟩⟩
/-! METHOD PorterDoorsModel.status(I)I -/
set_option maxRecDepth 20000 in
noncomputable def q_M_status : mI := (⟨"PorterDoorsModel", "status", "(I)I"⟩, prog_13_method_131_code, 2, (some .int), 10, 1909, 139, 1, 1, 1907, 1908)
theorem y_M_status : mT[268]? = some q_M_status := mT_at_6 (k := 28) rfl
noncomputable def bl_M_status : List (Nat × List mO) := [(0, [o0 (.iload_n 1), o0 (.i2l), o0 (.lconst 0), oC (.ldc2_w 288) (.long 5), o2 (.invokestatic 270) 155 3, o1 (.ifCond .eq 12) 21, o0 (.aload_n 0), o2 (.getfield 17) 10 9, o0 (.iload_n 1), o0 (.iaload), o1 (.goto 4) 22]),
  (21, [o0 (.iconst (-1))]),
  (22, [o0 (.ireturn)])]
theorem bk_M_status : okBlks q_M_status bl_M_status = true := by decide +kernel
noncomputable def oL_M_status {ρ : Type} (N : Nat) : List (Nat × (List Value → mS → (Option Value → mS → Option ρ) → Option ρ)) := [(155, C_M_isIn N)]
theorem oo_M_status {ρ : Type} {t0 : ρ} (N : Nat) : OrcOK Sm R0m oFm nm 2 t0 (mOrc (oL_M_status N)) := mOrc_OK (List.forall_mem_cons.mpr ⟨cs_M_isIn N (by decide), mz_nil⟩)
noncomputable def f_M_status (N : Nat) (a1 : Int32) (s : mS) : Option (Int32 × mS) :=
  (f_M_isIn N (a1).toInt64 0 5 s).bind fun p1 =>
  if p1.1 = 0 then
    some ((-1), p1.2)
  else
    grd (inb a1 6) (
    some ((gA p1.2 2 (ix a1)), p1.2))
set_option maxRecDepth 100000 in
set_option maxHeartbeats 4000000 in
theorem m_M_status (N : Nat) {x9 : Int32} {s9 : mS} (a1 : Int32) {s : mS} (h : f_M_status N a1 s = some (x9, s9)) : MetM Sm R0m oFm nm 2 268 [.ref 0, .int a1] s (some (.int x9)) s9 := by
  refine met_of_G (q := q_M_status) (t0 := (x9, s9)) y_M_status (Nat.le_of_ble_eq_true rfl) ?_
  rw [← h]
  exact G_eq (mEv_G (orc := mOrc (oL_M_status N)) (ret := rtI) (blks := bl_M_status) (cuts := []) wOKm (by decide) (oo_M_status N) (RetOK_I rfl) bk_M_status (mz_nil)) rfl
noncomputable def C_M_status {ρ : Type} (N : Nat) : List Value → mS → (Option Value → mS → Option ρ) → Option ρ := fun vs s kk => sR vs 0 fun r0 => pi1 r0 fun a1 r1 => rv0 r1 ((f_M_status N a1 s).bind fun p => kk (some (.int p.1)) p.2)
theorem cs_M_status {ρ : Type} {t0 : ρ} {d : Nat} (N : Nat) (hd : 2 + 1 ≤ d) : CallOK Sm R0m oFm nm d t0 268 (C_M_status N) := by
  intro vs s kk h0
  obtain ⟨r0, rfl, h1⟩ := sR_some h0
  obtain ⟨a1, r1, rfl, h2⟩ := pi1_some h1
  obtain ⟨rfl, h3⟩ := rv0_some h2
  obtain ⟨p, hp, hk⟩ := Option.bind_eq_some_iff.mp h3
  exact ⟨_, _, _, hd, m_M_status N a1 hp, hk, fun qy hq hf => by cases y_M_status.symm.trans hq; exact ⟨_, _, rfl, rfl⟩⟩
/-! METHOD PorterDoorsModel.writes(I)V -/
set_option maxRecDepth 20000 in
noncomputable def q_M_writes : mI := (⟨"PorterDoorsModel", "writes", "(I)V"⟩, prog_13_method_127_code, 2, none, 10, 1921, 139, 1, 1, 1920, 125)
theorem y_M_writes : mT[271]? = some q_M_writes := mT_at_6 (k := 31) rfl
noncomputable def bl_M_writes : List (Nat × List mO) := [(0, [o0 (.aload_n 0), o2 (.getfield 219) 10 97, o0 (.aload_n 0), o2 (.getfield 633) 10 98, o0 (.iload_n 1), o0 (.iastore), o0 (.aload_n 0), o0 (.dup), o2 (.getfield 633) 10 98, o0 (.iconst 1), o0 (.iadd), o2 (.putfield 633) 10 98, o0 (.return_)])]
theorem bk_M_writes : okBlks q_M_writes bl_M_writes = true := by decide +kernel
noncomputable def oL_M_writes {ρ : Type} (N : Nat) : List (Nat × (List Value → mS → (Option Value → mS → Option ρ) → Option ρ)) := []
theorem oo_M_writes {ρ : Type} {t0 : ρ} (N : Nat) : OrcOK Sm R0m oFm nm 1 t0 (mOrc (oL_M_writes N)) := mOrc_OK (mz_nil)
noncomputable def f_M_writes (N : Nat) (a1 : Int32) (s : mS) : Option (mS) :=
  grd (inb (gI s 1098 0) 88) (
  let s1 := sA s 67 (ix (gI s 1098 0)) a1
  let s2 := sI s1 1098 0 ((gI s1 1098 0) + 1)
  some s2)
set_option maxRecDepth 100000 in
set_option maxHeartbeats 4000000 in
theorem m_M_writes (N : Nat) {s9 : mS} (a1 : Int32) {s : mS} (h : f_M_writes N a1 s = some s9) : MetM Sm R0m oFm nm 1 271 [.ref 0, .int a1] s (none) s9 := by
  refine met_of_G (q := q_M_writes) (t0 := s9) y_M_writes (Nat.le_of_ble_eq_true rfl) ?_
  rw [← h]
  exact G_eq (mEv_G (orc := mOrc (oL_M_writes N)) (ret := rtV) (blks := bl_M_writes) (cuts := []) wOKm (by decide) (oo_M_writes N) (RetOK_V rfl) bk_M_writes (mz_nil)) rfl
noncomputable def C_M_writes {ρ : Type} (N : Nat) : List Value → mS → (Option Value → mS → Option ρ) → Option ρ := fun vs s kk => sR vs 0 fun r0 => pi1 r0 fun a1 r1 => rv0 r1 ((f_M_writes N a1 s).bind fun p => kk none p)
theorem cs_M_writes {ρ : Type} {t0 : ρ} {d : Nat} (N : Nat) (hd : 1 + 1 ≤ d) : CallOK Sm R0m oFm nm d t0 271 (C_M_writes N) := by
  intro vs s kk h0
  obtain ⟨r0, rfl, h1⟩ := sR_some h0
  obtain ⟨a1, r1, rfl, h2⟩ := pi1_some h1
  obtain ⟨rfl, h3⟩ := rv0_some h2
  obtain ⟨p, hp, hk⟩ := Option.bind_eq_some_iff.mp h3
  exact ⟨_, _, _, hd, m_M_writes N a1 hp, hk, fun qy hq hf => by cases y_M_writes.symm.trans hq; exact ⟨_, _, rfl, rfl⟩⟩
/-! METHOD PorterDoorsModel.writesTwo(I)V -/
set_option maxRecDepth 20000 in
noncomputable def q_M_writesTwo : mI := (⟨"PorterDoorsModel", "writesTwo", "(I)V"⟩, prog_13_method_128_code, 2, none, 10, 1917, 139, 1, 1, 1916, 124)
theorem y_M_writesTwo : mT[270]? = some q_M_writesTwo := mT_at_6 (k := 30) rfl
noncomputable def bl_M_writesTwo : List (Nat × List mO) := [(0, [o0 (.aload_n 0), o0 (.iload_n 1), o0 (.sipush 256), o0 (.idiv), o2 (.invokevirtual 636) 271 2, o0 (.aload_n 0), o0 (.iload_n 1), o0 (.sipush 256), o0 (.irem), o2 (.invokevirtual 636) 271 2, o0 (.return_)])]
theorem bk_M_writesTwo : okBlks q_M_writesTwo bl_M_writesTwo = true := by decide +kernel
noncomputable def oL_M_writesTwo {ρ : Type} (N : Nat) : List (Nat × (List Value → mS → (Option Value → mS → Option ρ) → Option ρ)) := [(271, C_M_writes N)]
theorem oo_M_writesTwo {ρ : Type} {t0 : ρ} (N : Nat) : OrcOK Sm R0m oFm nm 2 t0 (mOrc (oL_M_writesTwo N)) := mOrc_OK (List.forall_mem_cons.mpr ⟨cs_M_writes N (by decide), mz_nil⟩)
noncomputable def f_M_writesTwo (N : Nat) (a1 : Int32) (s : mS) : Option (mS) :=
  (f_M_writes N (a1 / 256) s).bind fun p1 =>
  (f_M_writes N (irm a1 256) p1).bind fun p2 =>
  some p2
set_option maxRecDepth 100000 in
set_option maxHeartbeats 4000000 in
theorem m_M_writesTwo (N : Nat) {s9 : mS} (a1 : Int32) {s : mS} (h : f_M_writesTwo N a1 s = some s9) : MetM Sm R0m oFm nm 2 270 [.ref 0, .int a1] s (none) s9 := by
  refine met_of_G (q := q_M_writesTwo) (t0 := s9) y_M_writesTwo (Nat.le_of_ble_eq_true rfl) ?_
  rw [← h]
  exact G_eq (mEv_G (orc := mOrc (oL_M_writesTwo N)) (ret := rtV) (blks := bl_M_writesTwo) (cuts := []) wOKm (by decide) (oo_M_writesTwo N) (RetOK_V rfl) bk_M_writesTwo (mz_nil)) rfl
noncomputable def C_M_writesTwo {ρ : Type} (N : Nat) : List Value → mS → (Option Value → mS → Option ρ) → Option ρ := fun vs s kk => sR vs 0 fun r0 => pi1 r0 fun a1 r1 => rv0 r1 ((f_M_writesTwo N a1 s).bind fun p => kk none p)
theorem cs_M_writesTwo {ρ : Type} {t0 : ρ} {d : Nat} (N : Nat) (hd : 2 + 1 ≤ d) : CallOK Sm R0m oFm nm d t0 270 (C_M_writesTwo N) := by
  intro vs s kk h0
  obtain ⟨r0, rfl, h1⟩ := sR_some h0
  obtain ⟨a1, r1, rfl, h2⟩ := pi1_some h1
  obtain ⟨rfl, h3⟩ := rv0_some h2
  obtain ⟨p, hp, hk⟩ := Option.bind_eq_some_iff.mp h3
  exact ⟨_, _, _, hd, m_M_writesTwo N a1 hp, hk, fun qy hq hf => by cases y_M_writesTwo.symm.trans hq; exact ⟨_, _, rfl, rfl⟩⟩
/-! METHOD PorterDoorsModel.checked([II)I -/
set_option maxRecDepth 20000 in
noncomputable def q_M_checked : mI := (⟨"PorterDoorsModel", "checked", "([II)I"⟩, prog_13_method_126_code, 4, (some .int), 10, 1925, 139, 0, 2, 1924, 0)
theorem y_M_checked : mT[272]? = some q_M_checked := mT_at_6 (k := 32) rfl
noncomputable def bl_M_checked : List (Nat × List mO) := [(0, [o0 (.sipush 193), o0 (.istore_n 2), o0 (.iconst 0), o0 (.istore_n 3)]),
  (6, [o0 (.iload_n 3), o0 (.iload_n 1), o1 (.if_icmp .ge 21) 29, o0 (.iconst 3), o0 (.iload_n 2), o0 (.imul), o0 (.aload_n 0), o0 (.iload_n 3), o0 (.iaload), o0 (.iadd), o0 (.sipush 251), o0 (.irem), o0 (.istore_n 2), o0 (.iinc 3 1), o1 (.goto (-20)) 6]),
  (29, [o0 (.iload_n 2), o0 (.ireturn)])]
theorem bk_M_checked : okBlks q_M_checked bl_M_checked = true := by decide +kernel
noncomputable def oL_M_checked {ρ : Type} (N : Nat) : List (Nat × (List Value → mS → (Option Value → mS → Option ρ) → Option ρ)) := []
theorem oo_M_checked {ρ : Type} {t0 : ρ} (N : Nat) : OrcOK Sm R0m oFm nm 1 t0 (mOrc (oL_M_checked N)) := mOrc_OK (mz_nil)
noncomputable def H_M_checked_6 {ρ : Type} (k : (Nat × Int32 × Int32 × Int32 × mS) → Option ρ) : mL → List Value → mS → Option ρ := fun loc st s => lr1 loc 0 fun v0 => li1 loc 1 fun v1 => li1 loc 2 fun v2 => li1 loc 3 fun v3 => rv0 st (k (v0, v1, v2, v3, s))
noncomputable def f_M_checked_L6 (N : Nat) (k6 : (Nat × Int32 × Int32 × Int32 × mS) → Option (Int32 × mS)) (x : Nat × Int32 × Int32 × Int32 × mS) : Option (Int32 × mS) :=
  if x.2.2.2.1 < x.2.1 then
    grd (inb x.2.2.2.1 (aln Sm 0 x.1)) (
    let v1 := (irm ((3 * x.2.2.1) + (gA x.2.2.2.2 x.1 (ix x.2.2.2.1))) 251)
    k6 (x.1, x.2.1, v1, (x.2.2.2.1 + 1), x.2.2.2.2))
  else
    some (x.2.2.1, x.2.2.2.2)
set_option maxRecDepth 100000 in
set_option maxHeartbeats 4000000 in
theorem t_M_checked_6 (N : Nat) {x9 : Int32} {s9 : mS} {k6 : (Nat × Int32 × Int32 × Int32 × mS) → Option (Int32 × mS)} (hk6 : SCd Sm R0m oFm nm 1 q_M_checked (some (.int x9), s9) (x9, s9) 6 (H_M_checked_6 k6)) : SCd Sm R0m oFm nm 1 q_M_checked (some (.int x9), s9) (x9, s9) 6 (H_M_checked_6 (f_M_checked_L6 N k6)) := by
  intro loc st s
  refine G_lr (fun v0 h0 => ?_)
  refine G_li (fun v1 h1 => ?_)
  refine G_li (fun v2 h2 => ?_)
  refine G_li (fun v3 h3 => ?_)
  refine G_rv0 (fun e9 => ?_)
  subst e9
  refine G_sub (loc0 := [(0, .ref v0), (1, .int v1), (2, .int v2), (3, .int v3)]) (List.forall_mem_cons.mpr ⟨h0, List.forall_mem_cons.mpr ⟨h1, List.forall_mem_cons.mpr ⟨h2, List.forall_mem_cons.mpr ⟨h3, mz_nil⟩⟩⟩⟩) ?_
  exact G_eq (mEv_G (orc := mOrc (oL_M_checked N)) (ret := rtI) (blks := bl_M_checked) (cuts := [(6, H_M_checked_6 k6)]) wOKm (by decide) (oo_M_checked N) (RetOK_I rfl) bk_M_checked (List.forall_mem_cons.mpr ⟨hk6, mz_nil⟩)) rfl
theorem s_M_checked_6 (N : Nat) {x9 : Int32} {s9 : mS} : SCd Sm R0m oFm nm 1 q_M_checked (some (.int x9), s9) (x9, s9) 6 (H_M_checked_6 (mfix N (f_M_checked_L6 N))) := by
  refine mfix_SC (H := H_M_checked_6) (fun loc st s => ?_) (fun k hk => t_M_checked_6 N hk) N
  refine G_lr (fun v0 h0 => ?_)
  refine G_li (fun v1 h1 => ?_)
  refine G_li (fun v2 h2 => ?_)
  refine G_li (fun v3 h3 => ?_)
  refine G_rv0 (fun e9 => ?_)
  subst e9
  exact G_none
noncomputable def f_M_checked (N : Nat) (a0 : Nat) (a1 : Int32) (s : mS) : Option (Int32 × mS) :=
  mfix N (f_M_checked_L6 N) (a0, a1, 193, 0, s)
set_option maxRecDepth 100000 in
set_option maxHeartbeats 4000000 in
theorem m_M_checked (N : Nat) {x9 : Int32} {s9 : mS} (a0 : Nat) (a1 : Int32) {s : mS} (h : f_M_checked N a0 a1 s = some (x9, s9)) : MetM Sm R0m oFm nm 1 272 [.ref a0, .int a1] s (some (.int x9)) s9 := by
  refine met_of_G (q := q_M_checked) (t0 := (x9, s9)) y_M_checked (Nat.le_of_ble_eq_true rfl) ?_
  rw [← h]
  exact G_eq (mEv_G (orc := mOrc (oL_M_checked N)) (ret := rtI) (blks := bl_M_checked) (cuts := [(6, H_M_checked_6 (mfix N (f_M_checked_L6 N)))]) wOKm (by decide) (oo_M_checked N) (RetOK_I rfl) bk_M_checked (List.forall_mem_cons.mpr ⟨s_M_checked_6 N, mz_nil⟩)) rfl
noncomputable def C_M_checked {ρ : Type} (N : Nat) : List Value → mS → (Option Value → mS → Option ρ) → Option ρ := fun vs s kk => pr1 vs fun a0 r0 => pi1 r0 fun a1 r1 => rv0 r1 ((f_M_checked N a0 a1 s).bind fun p => kk (some (.int p.1)) p.2)
theorem cs_M_checked {ρ : Type} {t0 : ρ} {d : Nat} (N : Nat) (hd : 1 + 1 ≤ d) : CallOK Sm R0m oFm nm d t0 272 (C_M_checked N) := by
  intro vs s kk h0
  obtain ⟨a0, r0, rfl, h1⟩ := pr1_some h0
  obtain ⟨a1, r1, rfl, h2⟩ := pi1_some h1
  obtain ⟨rfl, h3⟩ := rv0_some h2
  obtain ⟨p, hp, hk⟩ := Option.bind_eq_some_iff.mp h3
  exact ⟨_, _, _, hd, m_M_checked N a0 a1 hp, hk, fun qy hq hf => by cases y_M_checked.symm.trans hq; exact absurd hf (by decide)⟩
/-! METHOD PorterDoorsModel.image()I -/
set_option maxRecDepth 20000 in
noncomputable def q_M_image : mI := (⟨"PorterDoorsModel", "image", "()I"⟩, prog_13_method_132_code, 2, (some .int), 10, 1913, 139, 1, 0, 1911, 1912)
theorem y_M_image : mT[269]? = some q_M_image := mT_at_6 (k := 29) rfl
noncomputable def bl_M_image : List (Nat × List mO) := [(0, [o0 (.aload_n 0), o0 (.iconst 0), o2 (.putfield 633) 10 98, o0 (.aload_n 0), o0 (.aload_n 0), o2 (.getfield 115) 10 48, o0 (.iconst 0), o0 (.iaload), o2 (.invokevirtual 639) 270 2, o0 (.aload_n 0), o0 (.aload_n 0), o2 (.getfield 115) 10 48, o0 (.iconst 1), o0 (.iaload), oC (.ldc_w 642) (.int 65536), o0 (.idiv), o2 (.invokevirtual 636) 271 2, o0 (.aload_n 0), o0 (.aload_n 0), o2 (.getfield 115) 10 48, o0 (.iconst 1), o0 (.iaload), oC (.ldc_w 642) (.int 65536), o0 (.irem), o2 (.invokevirtual 639) 270 2, o0 (.iconst 0), o0 (.istore_n 1)]),
  (45, [o0 (.iload_n 1), o0 (.iconst 3), o0 (.aload_n 0), o2 (.invokevirtual 377) 190 1, o0 (.imul), o1 (.if_icmp .ge 21) 73, o0 (.aload_n 0), o0 (.aload_n 0), o2 (.getfield 115) 10 48, o0 (.iconst 2), o0 (.iload_n 1), o0 (.iadd), o0 (.iaload), o2 (.invokevirtual 636) 271 2, o0 (.iinc 1 1), o1 (.goto (-25)) 45]),
  (73, [o0 (.iconst 0), o0 (.istore_n 1)]),
  (75, [o0 (.iload_n 1), o0 (.aload_n 0), o2 (.invokevirtual 380) 191 1, o1 (.if_icmp .ge 22) 102, o0 (.aload_n 0), o0 (.aload_n 0), o2 (.getfield 115) 10 48, o0 (.bipush 74), o0 (.iload_n 1), o0 (.iadd), o0 (.iaload), o2 (.invokevirtual 636) 271 2, o0 (.iinc 1 1), o1 (.goto (-24)) 75]),
  (102, [o0 (.aload_n 0), o0 (.aload_n 0), o2 (.getfield 219) 10 97, o0 (.aload_n 0), o2 (.getfield 633) 10 98, o2 (.invokestatic 643) 272 2, o2 (.invokevirtual 636) 271 2, o0 (.aload_n 0), o2 (.getfield 633) 10 98, o0 (.ireturn)])]
theorem bk_M_image : okBlks q_M_image bl_M_image = true := by decide +kernel
noncomputable def oL_M_image {ρ : Type} (N : Nat) : List (Nat × (List Value → mS → (Option Value → mS → Option ρ) → Option ρ)) := [(270, C_M_writesTwo N), (271, C_M_writes N), (190, C_M_doorMany N), (191, C_M_porterMany N), (272, C_M_checked N)]
theorem oo_M_image {ρ : Type} {t0 : ρ} (N : Nat) : OrcOK Sm R0m oFm nm 3 t0 (mOrc (oL_M_image N)) := mOrc_OK (List.forall_mem_cons.mpr ⟨cs_M_writesTwo N (by decide), List.forall_mem_cons.mpr ⟨cs_M_writes N (by decide), List.forall_mem_cons.mpr ⟨cs_M_doorMany N (by decide), List.forall_mem_cons.mpr ⟨cs_M_porterMany N (by decide), List.forall_mem_cons.mpr ⟨cs_M_checked N (by decide), mz_nil⟩⟩⟩⟩⟩)
noncomputable def H_M_image_45 {ρ : Type} (k : (Int32 × mS) → Option ρ) : mL → List Value → mS → Option ρ := fun loc st s => cR loc 0 0 (li1 loc 1 fun v0 => rv0 st (k (v0, s)))
noncomputable def H_M_image_75 {ρ : Type} (k : (Int32 × mS) → Option ρ) : mL → List Value → mS → Option ρ := fun loc st s => cR loc 0 0 (li1 loc 1 fun v0 => rv0 st (k (v0, s)))
noncomputable def f_M_image_L75 (N : Nat) (k75 : (Int32 × mS) → Option (Int32 × mS)) (x : Int32 × mS) : Option (Int32 × mS) :=
  (f_M_porterMany N x.2).bind fun p1 =>
  if x.1 < p1.1 then
    grd (inb (74 + x.1) 205) (
    (f_M_writes N (gA p1.2 34 (ix (74 + x.1))) p1.2).bind fun p4 =>
    k75 ((x.1 + 1), p4))
  else
    (f_M_checked N 67 (gI p1.2 1098 0) p1.2).bind fun p2 =>
    (f_M_writes N p2.1 p2.2).bind fun p3 =>
    some ((gI p3 1098 0), p3)
set_option maxRecDepth 100000 in
set_option maxHeartbeats 4000000 in
theorem t_M_image_75 (N : Nat) {x9 : Int32} {s9 : mS} {k75 : (Int32 × mS) → Option (Int32 × mS)} (hk75 : SCd Sm R0m oFm nm 3 q_M_image (some (.int x9), s9) (x9, s9) 75 (H_M_image_75 k75)) : SCd Sm R0m oFm nm 3 q_M_image (some (.int x9), s9) (x9, s9) 75 (H_M_image_75 (f_M_image_L75 N k75)) := by
  intro loc st s
  refine G_cR (fun h0 => ?_)
  refine G_li (fun v0 h1 => ?_)
  refine G_rv0 (fun e9 => ?_)
  subst e9
  refine G_sub (loc0 := [(0, .ref 0), (1, .int v0)]) (List.forall_mem_cons.mpr ⟨h0, List.forall_mem_cons.mpr ⟨h1, mz_nil⟩⟩) ?_
  exact G_eq (mEv_G (orc := mOrc (oL_M_image N)) (ret := rtI) (blks := bl_M_image) (cuts := [(75, H_M_image_75 k75)]) wOKm (by decide) (oo_M_image N) (RetOK_I rfl) bk_M_image (List.forall_mem_cons.mpr ⟨hk75, mz_nil⟩)) rfl
theorem s_M_image_75 (N : Nat) {x9 : Int32} {s9 : mS} : SCd Sm R0m oFm nm 3 q_M_image (some (.int x9), s9) (x9, s9) 75 (H_M_image_75 (mfix N (f_M_image_L75 N))) := by
  refine mfix_SC (H := H_M_image_75) (fun loc st s => ?_) (fun k hk => t_M_image_75 N hk) N
  refine G_cR (fun h0 => ?_)
  refine G_li (fun v0 h1 => ?_)
  refine G_rv0 (fun e9 => ?_)
  subst e9
  exact G_none
noncomputable def f_M_image_L45 (N : Nat) (k45 : (Int32 × mS) → Option (Int32 × mS)) (x : Int32 × mS) : Option (Int32 × mS) :=
  (f_M_doorMany N x.2).bind fun p1 =>
  if x.1 < (3 * p1.1) then
    grd (inb (2 + x.1) 205) (
    (f_M_writes N (gA p1.2 34 (ix (2 + x.1))) p1.2).bind fun p2 =>
    k45 ((x.1 + 1), p2))
  else
    mfix N (f_M_image_L75 N) (0, p1.2)
set_option maxRecDepth 100000 in
set_option maxHeartbeats 4000000 in
theorem t_M_image_45 (N : Nat) {x9 : Int32} {s9 : mS} {k45 : (Int32 × mS) → Option (Int32 × mS)} (hk45 : SCd Sm R0m oFm nm 3 q_M_image (some (.int x9), s9) (x9, s9) 45 (H_M_image_45 k45)) : SCd Sm R0m oFm nm 3 q_M_image (some (.int x9), s9) (x9, s9) 45 (H_M_image_45 (f_M_image_L45 N k45)) := by
  intro loc st s
  refine G_cR (fun h0 => ?_)
  refine G_li (fun v0 h1 => ?_)
  refine G_rv0 (fun e9 => ?_)
  subst e9
  refine G_sub (loc0 := [(0, .ref 0), (1, .int v0)]) (List.forall_mem_cons.mpr ⟨h0, List.forall_mem_cons.mpr ⟨h1, mz_nil⟩⟩) ?_
  exact G_eq (mEv_G (orc := mOrc (oL_M_image N)) (ret := rtI) (blks := bl_M_image) (cuts := [(45, H_M_image_45 k45), (75, H_M_image_75 (mfix N (f_M_image_L75 N)))]) wOKm (by decide) (oo_M_image N) (RetOK_I rfl) bk_M_image (List.forall_mem_cons.mpr ⟨hk45, List.forall_mem_cons.mpr ⟨s_M_image_75 N, mz_nil⟩⟩)) rfl
theorem s_M_image_45 (N : Nat) {x9 : Int32} {s9 : mS} : SCd Sm R0m oFm nm 3 q_M_image (some (.int x9), s9) (x9, s9) 45 (H_M_image_45 (mfix N (f_M_image_L45 N))) := by
  refine mfix_SC (H := H_M_image_45) (fun loc st s => ?_) (fun k hk => t_M_image_45 N hk) N
  refine G_cR (fun h0 => ?_)
  refine G_li (fun v0 h1 => ?_)
  refine G_rv0 (fun e9 => ?_)
  subst e9
  exact G_none
noncomputable def f_M_image (N : Nat) (s : mS) : Option (Int32 × mS) :=
  let s1 := sI s 1098 0 0
  (f_M_writesTwo N (gA s1 34 0) s1).bind fun p2 =>
  (f_M_writes N ((gA p2 34 1) / 65536) p2).bind fun p3 =>
  (f_M_writesTwo N (irm (gA p3 34 1) 65536) p3).bind fun p4 =>
  mfix N (f_M_image_L45 N) (0, p4)
set_option maxRecDepth 100000 in
set_option maxHeartbeats 4000000 in
theorem m_M_image (N : Nat) {x9 : Int32} {s9 : mS} {s : mS} (h : f_M_image N s = some (x9, s9)) : MetM Sm R0m oFm nm 3 269 [.ref 0] s (some (.int x9)) s9 := by
  refine met_of_G (q := q_M_image) (t0 := (x9, s9)) y_M_image (Nat.le_of_ble_eq_true rfl) ?_
  rw [← h]
  exact G_eq (mEv_G (orc := mOrc (oL_M_image N)) (ret := rtI) (blks := bl_M_image) (cuts := [(45, H_M_image_45 (mfix N (f_M_image_L45 N)))]) wOKm (by decide) (oo_M_image N) (RetOK_I rfl) bk_M_image (List.forall_mem_cons.mpr ⟨s_M_image_45 N, mz_nil⟩)) rfl
noncomputable def C_M_image {ρ : Type} (N : Nat) : List Value → mS → (Option Value → mS → Option ρ) → Option ρ := fun vs s kk => sR vs 0 fun r0 => rv0 r0 ((f_M_image N s).bind fun p => kk (some (.int p.1)) p.2)
theorem cs_M_image {ρ : Type} {t0 : ρ} {d : Nat} (N : Nat) (hd : 3 + 1 ≤ d) : CallOK Sm R0m oFm nm d t0 269 (C_M_image N) := by
  intro vs s kk h0
  obtain ⟨r0, rfl, h1⟩ := sR_some h0
  obtain ⟨rfl, h2⟩ := rv0_some h1
  obtain ⟨p, hp, hk⟩ := Option.bind_eq_some_iff.mp h2
  exact ⟨_, _, _, hd, m_M_image N hp, hk, fun qy hq hf => by cases y_M_image.symm.trans hq; exact ⟨_, _, rfl, rfl⟩⟩
/-! METHOD PorterDoorsModel.twoAt(I)I -/
set_option maxRecDepth 20000 in
noncomputable def q_M_twoAt : mI := (⟨"PorterDoorsModel", "twoAt", "(I)I"⟩, prog_13_method_129_code, 2, (some .int), 10, 1937, 139, 1, 1, 1936, 127)
theorem y_M_twoAt : mT[275]? = some q_M_twoAt := mT_at_6 (k := 35) rfl
noncomputable def bl_M_twoAt : List (Nat × List mO) := [(0, [o0 (.sipush 256), o0 (.aload_n 0), o2 (.getfield 7) 10 0, o0 (.iload_n 1), o0 (.iaload), o0 (.imul), o0 (.aload_n 0), o2 (.getfield 7) 10 0, o0 (.iload_n 1), o0 (.iconst 1), o0 (.iadd), o0 (.iaload), o0 (.iadd), o0 (.ireturn)])]
theorem bk_M_twoAt : okBlks q_M_twoAt bl_M_twoAt = true := by decide +kernel
noncomputable def oL_M_twoAt {ρ : Type} (N : Nat) : List (Nat × (List Value → mS → (Option Value → mS → Option ρ) → Option ρ)) := []
theorem oo_M_twoAt {ρ : Type} {t0 : ρ} (N : Nat) : OrcOK Sm R0m oFm nm 1 t0 (mOrc (oL_M_twoAt N)) := mOrc_OK (mz_nil)
noncomputable def f_M_twoAt (N : Nat) (a1 : Int32) (s : mS) : Option (Int32 × mS) :=
  grd (inb a1 1600) (
  grd (inb (a1 + 1) 1600) (
  some (((256 * (gA s 1 (ix a1))) + (gA s 1 (ix (a1 + 1)))), s)))
set_option maxRecDepth 100000 in
set_option maxHeartbeats 4000000 in
theorem m_M_twoAt (N : Nat) {x9 : Int32} {s9 : mS} (a1 : Int32) {s : mS} (h : f_M_twoAt N a1 s = some (x9, s9)) : MetM Sm R0m oFm nm 1 275 [.ref 0, .int a1] s (some (.int x9)) s9 := by
  refine met_of_G (q := q_M_twoAt) (t0 := (x9, s9)) y_M_twoAt (Nat.le_of_ble_eq_true rfl) ?_
  rw [← h]
  exact G_eq (mEv_G (orc := mOrc (oL_M_twoAt N)) (ret := rtI) (blks := bl_M_twoAt) (cuts := []) wOKm (by decide) (oo_M_twoAt N) (RetOK_I rfl) bk_M_twoAt (mz_nil)) rfl
noncomputable def C_M_twoAt {ρ : Type} (N : Nat) : List Value → mS → (Option Value → mS → Option ρ) → Option ρ := fun vs s kk => sR vs 0 fun r0 => pi1 r0 fun a1 r1 => rv0 r1 ((f_M_twoAt N a1 s).bind fun p => kk (some (.int p.1)) p.2)
theorem cs_M_twoAt {ρ : Type} {t0 : ρ} {d : Nat} (N : Nat) (hd : 1 + 1 ≤ d) : CallOK Sm R0m oFm nm d t0 275 (C_M_twoAt N) := by
  intro vs s kk h0
  obtain ⟨r0, rfl, h1⟩ := sR_some h0
  obtain ⟨a1, r1, rfl, h2⟩ := pi1_some h1
  obtain ⟨rfl, h3⟩ := rv0_some h2
  obtain ⟨p, hp, hk⟩ := Option.bind_eq_some_iff.mp h3
  exact ⟨_, _, _, hd, m_M_twoAt N a1 hp, hk, fun qy hq hf => by cases y_M_twoAt.symm.trans hq; exact ⟨_, _, rfl, rfl⟩⟩
/-! METHOD PorterDoorsModel.isImage(I)Z -/
set_option maxRecDepth 20000 in
noncomputable def q_M_isImage : mI := (⟨"PorterDoorsModel", "isImage", "(I)Z"⟩, prog_13_method_133_code, 4, (some .boolean), 10, 1933, 139, 1, 1, 1932, 126)
theorem y_M_isImage : mT[274]? = some q_M_isImage := mT_at_6 (k := 34) rfl
noncomputable def bl_M_isImage : List (Nat × List mO) := [(0, [o0 (.iconst 5), o0 (.iconst 3), o0 (.aload_n 0), o2 (.invokevirtual 377) 190 1, o0 (.imul), o0 (.iadd), o0 (.istore_n 2), o0 (.aload_n 0), o2 (.getfield 367) 10 46, o1 (.ifCond .eq 69) 82, o0 (.iload_n 1), o0 (.iload_n 2), o0 (.aload_n 0), o2 (.invokevirtual 380) 191 1, o0 (.iadd), o0 (.iconst 1), o0 (.iadd), o1 (.if_icmp .ne 57) 82, o0 (.aload_n 0), o2 (.getfield 7) 10 0, o0 (.iload_n 1), o0 (.iconst 1), o0 (.isub), o0 (.iaload), o0 (.aload_n 0), o2 (.getfield 7) 10 0, o0 (.iload_n 1), o0 (.iconst 1), o0 (.isub), o2 (.invokestatic 643) 272 2, o1 (.if_icmp .ne 36) 82, o0 (.aload_n 0), o0 (.iconst 0), o2 (.invokevirtual 647) 275 2, o0 (.sipush 999), o1 (.if_icmp .gt 25) 82, oC (.ldc_w 642) (.int 65536), o0 (.aload_n 0), o2 (.getfield 7) 10 0, o0 (.iconst 2), o0 (.iaload), o0 (.imul), o0 (.aload_n 0), o0 (.iconst 3), o2 (.invokevirtual 647) 275 2, o0 (.iadd), oC (.ldc_w 453) (.int 999999), o1 (.if_icmp .le 5) 84]),
  (82, [o0 (.iconst 0), o0 (.ireturn)]),
  (84, [o0 (.iconst 5), o0 (.istore_n 3)]),
  (86, [o0 (.iload_n 3), o0 (.iload_n 2), o1 (.if_icmp .ge 47) 135, o0 (.aload_n 0), o2 (.getfield 7) 10 0, o0 (.iload_n 3), o0 (.iaload), o0 (.iconst 1), o1 (.if_icmp .gt 29) 127, o0 (.aload_n 0), o2 (.getfield 7) 10 0, o0 (.iload_n 3), o0 (.iconst 1), o0 (.iadd), o0 (.iaload), o0 (.bipush 99), o1 (.if_icmp .gt 16) 127, o0 (.aload_n 0), o2 (.getfield 7) 10 0, o0 (.iload_n 3), o0 (.iconst 2), o0 (.iadd), o0 (.iaload), o0 (.bipush 9), o1 (.if_icmp .le 5) 129]),
  (127, [o0 (.iconst 0), o0 (.ireturn)]),
  (129, [o0 (.iinc 3 3), o1 (.goto (-46)) 86]),
  (135, [o0 (.iload_n 2), o0 (.istore_n 3)]),
  (137, [o0 (.iload_n 3), o0 (.iload_n 1), o0 (.iconst 1), o0 (.isub), o1 (.if_icmp .ge 22) 163, o0 (.aload_n 0), o2 (.getfield 7) 10 0, o0 (.iload_n 3), o0 (.iaload), o0 (.bipush 99), o1 (.if_icmp .le 5) 157, o0 (.iconst 0), o0 (.ireturn)]),
  (157, [o0 (.iinc 3 1), o1 (.goto (-23)) 137]),
  (163, [o0 (.iconst 1), o0 (.ireturn)])]
theorem bk_M_isImage : okBlks q_M_isImage bl_M_isImage = true := by decide +kernel
noncomputable def oL_M_isImage {ρ : Type} (N : Nat) : List (Nat × (List Value → mS → (Option Value → mS → Option ρ) → Option ρ)) := [(190, C_M_doorMany N), (191, C_M_porterMany N), (272, C_M_checked N), (275, C_M_twoAt N)]
theorem oo_M_isImage {ρ : Type} {t0 : ρ} (N : Nat) : OrcOK Sm R0m oFm nm 2 t0 (mOrc (oL_M_isImage N)) := mOrc_OK (List.forall_mem_cons.mpr ⟨cs_M_doorMany N (by decide), List.forall_mem_cons.mpr ⟨cs_M_porterMany N (by decide), List.forall_mem_cons.mpr ⟨cs_M_checked N (by decide), List.forall_mem_cons.mpr ⟨cs_M_twoAt N (by decide), mz_nil⟩⟩⟩⟩)
noncomputable def H_M_isImage_86 {ρ : Type} (k : (Int32 × Int32 × Int32 × mS) → Option ρ) : mL → List Value → mS → Option ρ := fun loc st s => cR loc 0 0 (li1 loc 1 fun v0 => li1 loc 2 fun v1 => li1 loc 3 fun v2 => rv0 st (k (v0, v1, v2, s)))
noncomputable def H_M_isImage_137 {ρ : Type} (k : (Int32 × Int32 × mS) → Option ρ) : mL → List Value → mS → Option ρ := fun loc st s => cR loc 0 0 (li1 loc 1 fun v0 => li1 loc 3 fun v1 => rv0 st (k (v0, v1, s)))
noncomputable def f_M_isImage_L137 (N : Nat) (k137 : (Int32 × Int32 × mS) → Option (Int32 × mS)) (x : Int32 × Int32 × mS) : Option (Int32 × mS) :=
  if x.2.1 < (x.1 - 1) then
    grd (inb x.2.1 1600) (
    if 99 < (gA x.2.2 1 (ix x.2.1)) then
      some (0, x.2.2)
    else
      k137 (x.1, (x.2.1 + 1), x.2.2))
  else
    some (1, x.2.2)
set_option maxRecDepth 100000 in
set_option maxHeartbeats 4000000 in
theorem t_M_isImage_137 (N : Nat) {x9 : Int32} {s9 : mS} {k137 : (Int32 × Int32 × mS) → Option (Int32 × mS)} (hk137 : SCd Sm R0m oFm nm 2 q_M_isImage (some (.int x9), s9) (x9, s9) 137 (H_M_isImage_137 k137)) : SCd Sm R0m oFm nm 2 q_M_isImage (some (.int x9), s9) (x9, s9) 137 (H_M_isImage_137 (f_M_isImage_L137 N k137)) := by
  intro loc st s
  refine G_cR (fun h0 => ?_)
  refine G_li (fun v0 h1 => ?_)
  refine G_li (fun v1 h3 => ?_)
  refine G_rv0 (fun e9 => ?_)
  subst e9
  refine G_sub (loc0 := [(0, .ref 0), (1, .int v0), (3, .int v1)]) (List.forall_mem_cons.mpr ⟨h0, List.forall_mem_cons.mpr ⟨h1, List.forall_mem_cons.mpr ⟨h3, mz_nil⟩⟩⟩) ?_
  exact G_eq (mEv_G (orc := mOrc (oL_M_isImage N)) (ret := rtZ) (blks := bl_M_isImage) (cuts := [(137, H_M_isImage_137 k137)]) wOKm (by decide) (oo_M_isImage N) (RetOK_Z rfl) bk_M_isImage (List.forall_mem_cons.mpr ⟨hk137, mz_nil⟩)) rfl
theorem s_M_isImage_137 (N : Nat) {x9 : Int32} {s9 : mS} : SCd Sm R0m oFm nm 2 q_M_isImage (some (.int x9), s9) (x9, s9) 137 (H_M_isImage_137 (mfix N (f_M_isImage_L137 N))) := by
  refine mfix_SC (H := H_M_isImage_137) (fun loc st s => ?_) (fun k hk => t_M_isImage_137 N hk) N
  refine G_cR (fun h0 => ?_)
  refine G_li (fun v0 h1 => ?_)
  refine G_li (fun v1 h3 => ?_)
  refine G_rv0 (fun e9 => ?_)
  subst e9
  exact G_none
noncomputable def f_M_isImage_L86 (N : Nat) (k86 : (Int32 × Int32 × Int32 × mS) → Option (Int32 × mS)) (x : Int32 × Int32 × Int32 × mS) : Option (Int32 × mS) :=
  if x.2.2.1 < x.2.1 then
    grd (inb x.2.2.1 1600) (
    if 1 < (gA x.2.2.2 1 (ix x.2.2.1)) then
      some (0, x.2.2.2)
    else
      grd (inb (x.2.2.1 + 1) 1600) (
      if 99 < (gA x.2.2.2 1 (ix (x.2.2.1 + 1))) then
        some (0, x.2.2.2)
      else
        grd (inb (x.2.2.1 + 2) 1600) (
        if 9 < (gA x.2.2.2 1 (ix (x.2.2.1 + 2))) then
          some (0, x.2.2.2)
        else
          k86 (x.1, x.2.1, (x.2.2.1 + 3), x.2.2.2))))
  else
    mfix N (f_M_isImage_L137 N) (x.1, x.2.1, x.2.2.2)
set_option maxRecDepth 100000 in
set_option maxHeartbeats 4000000 in
theorem t_M_isImage_86 (N : Nat) {x9 : Int32} {s9 : mS} {k86 : (Int32 × Int32 × Int32 × mS) → Option (Int32 × mS)} (hk86 : SCd Sm R0m oFm nm 2 q_M_isImage (some (.int x9), s9) (x9, s9) 86 (H_M_isImage_86 k86)) : SCd Sm R0m oFm nm 2 q_M_isImage (some (.int x9), s9) (x9, s9) 86 (H_M_isImage_86 (f_M_isImage_L86 N k86)) := by
  intro loc st s
  refine G_cR (fun h0 => ?_)
  refine G_li (fun v0 h1 => ?_)
  refine G_li (fun v1 h2 => ?_)
  refine G_li (fun v2 h3 => ?_)
  refine G_rv0 (fun e9 => ?_)
  subst e9
  refine G_sub (loc0 := [(0, .ref 0), (1, .int v0), (2, .int v1), (3, .int v2)]) (List.forall_mem_cons.mpr ⟨h0, List.forall_mem_cons.mpr ⟨h1, List.forall_mem_cons.mpr ⟨h2, List.forall_mem_cons.mpr ⟨h3, mz_nil⟩⟩⟩⟩) ?_
  exact G_eq (mEv_G (orc := mOrc (oL_M_isImage N)) (ret := rtZ) (blks := bl_M_isImage) (cuts := [(86, H_M_isImage_86 k86), (137, H_M_isImage_137 (mfix N (f_M_isImage_L137 N)))]) wOKm (by decide) (oo_M_isImage N) (RetOK_Z rfl) bk_M_isImage (List.forall_mem_cons.mpr ⟨hk86, List.forall_mem_cons.mpr ⟨s_M_isImage_137 N, mz_nil⟩⟩)) rfl
theorem s_M_isImage_86 (N : Nat) {x9 : Int32} {s9 : mS} : SCd Sm R0m oFm nm 2 q_M_isImage (some (.int x9), s9) (x9, s9) 86 (H_M_isImage_86 (mfix N (f_M_isImage_L86 N))) := by
  refine mfix_SC (H := H_M_isImage_86) (fun loc st s => ?_) (fun k hk => t_M_isImage_86 N hk) N
  refine G_cR (fun h0 => ?_)
  refine G_li (fun v0 h1 => ?_)
  refine G_li (fun v1 h2 => ?_)
  refine G_li (fun v2 h3 => ?_)
  refine G_rv0 (fun e9 => ?_)
  subst e9
  exact G_none
noncomputable def f_M_isImage (N : Nat) (a1 : Int32) (s : mS) : Option (Int32 × mS) :=
  (f_M_doorMany N s).bind fun p1 =>
  if (gI p1.2 1046 0) = 0 then
    some (0, p1.2)
  else
    (f_M_porterMany N p1.2).bind fun p2 =>
    if a1 = (((5 + (3 * p1.1)) + p2.1) + 1) then
      grd (inb (a1 - 1) 1600) (
      (f_M_checked N 1 (a1 - 1) p2.2).bind fun p3 =>
      if (gA p2.2 1 (ix (a1 - 1))) = p3.1 then
        (f_M_twoAt N 0 p3.2).bind fun p4 =>
        if 999 < p4.1 then
          some (0, p4.2)
        else
          (f_M_twoAt N 3 p4.2).bind fun p5 =>
          if 999999 < ((65536 * (gA p4.2 1 2)) + p5.1) then
            some (0, p5.2)
          else
            mfix N (f_M_isImage_L86 N) (a1, (5 + (3 * p1.1)), 5, p5.2)
      else
        some (0, p3.2))
    else
      some (0, p2.2)
set_option maxRecDepth 100000 in
set_option maxHeartbeats 4000000 in
theorem m_M_isImage (N : Nat) {x9 : Int32} {s9 : mS} (a1 : Int32) {s : mS} (h : f_M_isImage N a1 s = some (x9, s9)) : MetM Sm R0m oFm nm 2 274 [.ref 0, .int a1] s (some (.int x9)) s9 := by
  refine met_of_G (q := q_M_isImage) (t0 := (x9, s9)) y_M_isImage (Nat.le_of_ble_eq_true rfl) ?_
  rw [← h]
  exact G_eq (mEv_G (orc := mOrc (oL_M_isImage N)) (ret := rtZ) (blks := bl_M_isImage) (cuts := [(86, H_M_isImage_86 (mfix N (f_M_isImage_L86 N)))]) wOKm (by decide) (oo_M_isImage N) (RetOK_Z rfl) bk_M_isImage (List.forall_mem_cons.mpr ⟨s_M_isImage_86 N, mz_nil⟩)) rfl
noncomputable def C_M_isImage {ρ : Type} (N : Nat) : List Value → mS → (Option Value → mS → Option ρ) → Option ρ := fun vs s kk => sR vs 0 fun r0 => pi1 r0 fun a1 r1 => rv0 r1 ((f_M_isImage N a1 s).bind fun p => kk (some (.int p.1)) p.2)
theorem cs_M_isImage {ρ : Type} {t0 : ρ} {d : Nat} (N : Nat) (hd : 2 + 1 ≤ d) : CallOK Sm R0m oFm nm d t0 274 (C_M_isImage N) := by
  intro vs s kk h0
  obtain ⟨r0, rfl, h1⟩ := sR_some h0
  obtain ⟨a1, r1, rfl, h2⟩ := pi1_some h1
  obtain ⟨rfl, h3⟩ := rv0_some h2
  obtain ⟨p, hp, hk⟩ := Option.bind_eq_some_iff.mp h3
  exact ⟨_, _, _, hd, m_M_isImage N a1 hp, hk, fun qy hq hf => by cases y_M_isImage.symm.trans hq; exact ⟨_, _, rfl, rfl⟩⟩
/-! METHOD PorterDoorsModel.on()Z -/
set_option maxRecDepth 20000 in
noncomputable def q_M_on : mI := (⟨"PorterDoorsModel", "on", "()Z"⟩, prog_13_method_134_code, 3, (some .boolean), 10, 1929, 139, 1, 0, 1927, 1928)
theorem y_M_on : mT[273]? = some q_M_on := mT_at_6 (k := 33) rfl
noncomputable def bl_M_on : List (Nat × List mO) := [(0, [o0 (.aload_n 0), o2 (.getfield 224) 10 1, o0 (.istore_n 1), o0 (.aload_n 0), o0 (.iconst 0), o2 (.putfield 224) 10 1, o0 (.aload_n 0), o0 (.iload_n 1), o2 (.invokevirtual 650) 274 2, o1 (.ifCond .ne 9) 24, o0 (.aload_n 0), o0 (.iconst 5), o2 (.invokevirtual 527) 255 2, o0 (.ireturn)]),
  (24, [o0 (.aload_n 0), o2 (.getfield 115) 10 48, o0 (.iconst 0), o0 (.aload_n 0), o0 (.iconst 0), o2 (.invokevirtual 647) 275 2, o0 (.iastore), o0 (.aload_n 0), o2 (.getfield 115) 10 48, o0 (.iconst 1), oC (.ldc_w 642) (.int 65536), o0 (.aload_n 0), o2 (.getfield 7) 10 0, o0 (.iconst 2), o0 (.iaload), o0 (.imul), o0 (.aload_n 0), o0 (.iconst 3), o2 (.invokevirtual 647) 275 2, o0 (.iadd), o0 (.iastore), o0 (.iconst 0), o0 (.istore_n 2)]),
  (59, [o0 (.iload_n 2), o0 (.iconst 3), o0 (.aload_n 0), o2 (.invokevirtual 377) 190 1, o0 (.imul), o1 (.if_icmp .ge 25) 91, o0 (.aload_n 0), o2 (.getfield 115) 10 48, o0 (.iconst 2), o0 (.iload_n 2), o0 (.iadd), o0 (.aload_n 0), o2 (.getfield 7) 10 0, o0 (.iconst 5), o0 (.iload_n 2), o0 (.iadd), o0 (.iaload), o0 (.iastore), o0 (.iinc 2 1), o1 (.goto (-29)) 59]),
  (91, [o0 (.iconst 0), o0 (.istore_n 2)]),
  (93, [o0 (.iload_n 2), o0 (.aload_n 0), o2 (.invokevirtual 380) 191 1, o1 (.if_icmp .ge 33) 131, o0 (.aload_n 0), o2 (.getfield 115) 10 48, o0 (.bipush 74), o0 (.iload_n 2), o0 (.iadd), o0 (.aload_n 0), o2 (.getfield 7) 10 0, o0 (.iconst 5), o0 (.iconst 3), o0 (.aload_n 0), o2 (.invokevirtual 377) 190 1, o0 (.imul), o0 (.iadd), o0 (.iload_n 2), o0 (.iadd), o0 (.iaload), o0 (.iastore), o0 (.iinc 2 1), o1 (.goto (-35)) 93]),
  (131, [o0 (.aload_n 0), o2 (.getfield 115) 10 48, o0 (.bipush 84), o0 (.iconst 0), o0 (.iastore), o0 (.aload_n 0), o0 (.iconst 0), o2 (.putfield 371) 10 61, o0 (.iconst 1), o0 (.ireturn)])]
theorem bk_M_on : okBlks q_M_on bl_M_on = true := by decide +kernel
noncomputable def oL_M_on {ρ : Type} (N : Nat) : List (Nat × (List Value → mS → (Option Value → mS → Option ρ) → Option ρ)) := [(274, C_M_isImage N), (255, C_M_isRefused N), (275, C_M_twoAt N), (190, C_M_doorMany N), (191, C_M_porterMany N)]
theorem oo_M_on {ρ : Type} {t0 : ρ} (N : Nat) : OrcOK Sm R0m oFm nm 3 t0 (mOrc (oL_M_on N)) := mOrc_OK (List.forall_mem_cons.mpr ⟨cs_M_isImage N (by decide), List.forall_mem_cons.mpr ⟨cs_M_isRefused N (by decide), List.forall_mem_cons.mpr ⟨cs_M_twoAt N (by decide), List.forall_mem_cons.mpr ⟨cs_M_doorMany N (by decide), List.forall_mem_cons.mpr ⟨cs_M_porterMany N (by decide), mz_nil⟩⟩⟩⟩⟩)
noncomputable def H_M_on_59 {ρ : Type} (k : (Int32 × mS) → Option ρ) : mL → List Value → mS → Option ρ := fun loc st s => cR loc 0 0 (li1 loc 2 fun v0 => rv0 st (k (v0, s)))
noncomputable def H_M_on_93 {ρ : Type} (k : (Int32 × mS) → Option ρ) : mL → List Value → mS → Option ρ := fun loc st s => cR loc 0 0 (li1 loc 2 fun v0 => rv0 st (k (v0, s)))
noncomputable def f_M_on_L93 (N : Nat) (k93 : (Int32 × mS) → Option (Int32 × mS)) (x : Int32 × mS) : Option (Int32 × mS) :=
  (f_M_porterMany N x.2).bind fun p1 =>
  if x.1 < p1.1 then
    (f_M_doorMany N p1.2).bind fun p4 =>
    grd (inb ((5 + (3 * p4.1)) + x.1) 1600) (
    grd (inb (74 + x.1) 205) (
    let s5 := sA p4.2 34 (ix (74 + x.1)) (gA p4.2 1 (ix ((5 + (3 * p4.1)) + x.1)))
    k93 ((x.1 + 1), s5)))
  else
    let s2 := sA p1.2 34 84 0
    let s3 := sI s2 1061 0 0
    some (1, s3)
set_option maxRecDepth 100000 in
set_option maxHeartbeats 4000000 in
theorem t_M_on_93 (N : Nat) {x9 : Int32} {s9 : mS} {k93 : (Int32 × mS) → Option (Int32 × mS)} (hk93 : SCd Sm R0m oFm nm 3 q_M_on (some (.int x9), s9) (x9, s9) 93 (H_M_on_93 k93)) : SCd Sm R0m oFm nm 3 q_M_on (some (.int x9), s9) (x9, s9) 93 (H_M_on_93 (f_M_on_L93 N k93)) := by
  intro loc st s
  refine G_cR (fun h0 => ?_)
  refine G_li (fun v0 h2 => ?_)
  refine G_rv0 (fun e9 => ?_)
  subst e9
  refine G_sub (loc0 := [(0, .ref 0), (2, .int v0)]) (List.forall_mem_cons.mpr ⟨h0, List.forall_mem_cons.mpr ⟨h2, mz_nil⟩⟩) ?_
  exact G_eq (mEv_G (orc := mOrc (oL_M_on N)) (ret := rtZ) (blks := bl_M_on) (cuts := [(93, H_M_on_93 k93)]) wOKm (by decide) (oo_M_on N) (RetOK_Z rfl) bk_M_on (List.forall_mem_cons.mpr ⟨hk93, mz_nil⟩)) rfl
theorem s_M_on_93 (N : Nat) {x9 : Int32} {s9 : mS} : SCd Sm R0m oFm nm 3 q_M_on (some (.int x9), s9) (x9, s9) 93 (H_M_on_93 (mfix N (f_M_on_L93 N))) := by
  refine mfix_SC (H := H_M_on_93) (fun loc st s => ?_) (fun k hk => t_M_on_93 N hk) N
  refine G_cR (fun h0 => ?_)
  refine G_li (fun v0 h2 => ?_)
  refine G_rv0 (fun e9 => ?_)
  subst e9
  exact G_none
noncomputable def f_M_on_L59 (N : Nat) (k59 : (Int32 × mS) → Option (Int32 × mS)) (x : Int32 × mS) : Option (Int32 × mS) :=
  (f_M_doorMany N x.2).bind fun p1 =>
  if x.1 < (3 * p1.1) then
    grd (inb (5 + x.1) 1600) (
    grd (inb (2 + x.1) 205) (
    let s2 := sA p1.2 34 (ix (2 + x.1)) (gA p1.2 1 (ix (5 + x.1)))
    k59 ((x.1 + 1), s2)))
  else
    mfix N (f_M_on_L93 N) (0, p1.2)
set_option maxRecDepth 100000 in
set_option maxHeartbeats 4000000 in
theorem t_M_on_59 (N : Nat) {x9 : Int32} {s9 : mS} {k59 : (Int32 × mS) → Option (Int32 × mS)} (hk59 : SCd Sm R0m oFm nm 3 q_M_on (some (.int x9), s9) (x9, s9) 59 (H_M_on_59 k59)) : SCd Sm R0m oFm nm 3 q_M_on (some (.int x9), s9) (x9, s9) 59 (H_M_on_59 (f_M_on_L59 N k59)) := by
  intro loc st s
  refine G_cR (fun h0 => ?_)
  refine G_li (fun v0 h2 => ?_)
  refine G_rv0 (fun e9 => ?_)
  subst e9
  refine G_sub (loc0 := [(0, .ref 0), (2, .int v0)]) (List.forall_mem_cons.mpr ⟨h0, List.forall_mem_cons.mpr ⟨h2, mz_nil⟩⟩) ?_
  exact G_eq (mEv_G (orc := mOrc (oL_M_on N)) (ret := rtZ) (blks := bl_M_on) (cuts := [(59, H_M_on_59 k59), (93, H_M_on_93 (mfix N (f_M_on_L93 N)))]) wOKm (by decide) (oo_M_on N) (RetOK_Z rfl) bk_M_on (List.forall_mem_cons.mpr ⟨hk59, List.forall_mem_cons.mpr ⟨s_M_on_93 N, mz_nil⟩⟩)) rfl
theorem s_M_on_59 (N : Nat) {x9 : Int32} {s9 : mS} : SCd Sm R0m oFm nm 3 q_M_on (some (.int x9), s9) (x9, s9) 59 (H_M_on_59 (mfix N (f_M_on_L59 N))) := by
  refine mfix_SC (H := H_M_on_59) (fun loc st s => ?_) (fun k hk => t_M_on_59 N hk) N
  refine G_cR (fun h0 => ?_)
  refine G_li (fun v0 h2 => ?_)
  refine G_rv0 (fun e9 => ?_)
  subst e9
  exact G_none
noncomputable def f_M_on (N : Nat) (s : mS) : Option (Int32 × mS) :=
  let s1 := sI s 1001 0 0
  (f_M_isImage N (gI s 1001 0) s1).bind fun p2 =>
  if p2.1 = 0 then
    (f_M_isRefused N 5 p2.2).bind fun p7 =>
    grd (isb p7.1) (some (p7.1, p7.2))
  else
    (f_M_twoAt N 0 p2.2).bind fun p3 =>
    let s4 := sA p3.2 34 0 p3.1
    (f_M_twoAt N 3 s4).bind fun p5 =>
    let s6 := sA p5.2 34 1 ((65536 * (gA s4 1 2)) + p5.1)
    mfix N (f_M_on_L59 N) (0, s6)
set_option maxRecDepth 100000 in
set_option maxHeartbeats 4000000 in
theorem m_M_on (N : Nat) {x9 : Int32} {s9 : mS} {s : mS} (h : f_M_on N s = some (x9, s9)) : MetM Sm R0m oFm nm 3 273 [.ref 0] s (some (.int x9)) s9 := by
  refine met_of_G (q := q_M_on) (t0 := (x9, s9)) y_M_on (Nat.le_of_ble_eq_true rfl) ?_
  rw [← h]
  exact G_eq (mEv_G (orc := mOrc (oL_M_on N)) (ret := rtZ) (blks := bl_M_on) (cuts := [(59, H_M_on_59 (mfix N (f_M_on_L59 N)))]) wOKm (by decide) (oo_M_on N) (RetOK_Z rfl) bk_M_on (List.forall_mem_cons.mpr ⟨s_M_on_59 N, mz_nil⟩)) rfl
noncomputable def C_M_on {ρ : Type} (N : Nat) : List Value → mS → (Option Value → mS → Option ρ) → Option ρ := fun vs s kk => sR vs 0 fun r0 => rv0 r0 ((f_M_on N s).bind fun p => kk (some (.int p.1)) p.2)
theorem cs_M_on {ρ : Type} {t0 : ρ} {d : Nat} (N : Nat) (hd : 3 + 1 ≤ d) : CallOK Sm R0m oFm nm d t0 273 (C_M_on N) := by
  intro vs s kk h0
  obtain ⟨r0, rfl, h1⟩ := sR_some h0
  obtain ⟨rfl, h2⟩ := rv0_some h1
  obtain ⟨p, hp, hk⟩ := Option.bind_eq_some_iff.mp h2
  exact ⟨_, _, _, hd, m_M_on N hp, hk, fun qy hq hf => by cases y_M_on.symm.trans hq; exact ⟨_, _, rfl, rfl⟩⟩
