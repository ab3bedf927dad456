set_option maxRecDepth 20000 in
noncomputable def q_Rd_test : mI := (⟨"PorterDoors$Reader", "test", "()V"⟩, prog_7_method_10_code, 4, none, 6, 596, 132, 1, 0, 595, 10)
theorem y_Rd_test : mT[102]? = some q_Rd_test := mT_at_2 (k := 22) rfl
set_option maxRecDepth 20000 in
noncomputable def q_Rd_fact : mI := (⟨"PorterDoors$Reader", "fact", "()V"⟩, prog_7_method_11_code, 2, none, 6, 600, 132, 1, 0, 599, 11)
theorem y_Rd_fact : mT[103]? = some q_Rd_fact := mT_at_2 (k := 23) rfl
set_option maxRecDepth 20000 in
noncomputable def q_Rd_sum : mI := (⟨"PorterDoors$Reader", "sum", "()V"⟩, prog_7_method_12_code, 6, none, 6, 613, 132, 1, 0, 612, 14)
theorem y_Rd_sum : mT[106]? = some q_Rd_sum := mT_at_2 (k := 26) rfl
set_option maxRecDepth 20000 in
noncomputable def q_Rd_part : mI := (⟨"PorterDoors$Reader", "part", "()V"⟩, prog_7_method_13_code, 2, none, 6, 617, 132, 1, 0, 616, 15)
theorem y_Rd_part : mT[107]? = some q_Rd_part := mT_at_2 (k := 27) rfl
/-! METHOD PorterDoors$Reader.test()V -/
noncomputable def bl_Rd_test : List (Nat × List mO) := [(0, [o0 (.iconst 0), o0 (.istore_n 1), o0 (.iconst 1), o0 (.istore_n 2)]),
  (4, [o0 (.iload_n 2), o1 (.ifCond .eq 97) 102, o0 (.iload_n 1), o0 (.sipush 1600), o1 (.if_icmp .ge 90) 102, o0 (.aload_n 0), o2 (.invokevirtual 145) 103 1, o0 (.iconst 0), o0 (.istore_n 3)]),
  (21, [o0 (.iload_n 3), o0 (.sipush 1600), o1 (.if_icmp .ge 35) 60, o0 (.aload_n 0), o2 (.invokevirtual 72) 98 1, o0 (.bipush 20), o1 (.if_icmp .ne 26) 60, o0 (.aload_n 0), o2 (.invokevirtual 69) 93 1, o0 (.aload_n 0), o2 (.invokevirtual 145) 103 1, o0 (.aload_n 0), o2 (.getfield 60) 6 2, o0 (.bipush 20), o2 (.invokevirtual 148) 88 2, o0 (.iinc 3 1), o1 (.goto (-36)) 21]),
  (60, [o0 (.iload_n 1), o1 (.ifCond .le 12) 73, o0 (.aload_n 0), o2 (.getfield 60) 6 2, o0 (.bipush 19), o2 (.invokevirtual 148) 88 2]),
  (73, [o0 (.iinc 1 1), o0 (.aload_n 0), o2 (.invokevirtual 72) 98 1, o0 (.bipush 19), o1 (.if_icmp .ne 7) 89, o0 (.iconst 1), o1 (.goto 4) 90]),
  (89, [o0 (.iconst 0)]),
  (90, [o0 (.istore_n 2), o0 (.iload_n 2), o1 (.ifCond .eq (-88)) 4, o0 (.aload_n 0), o2 (.invokevirtual 69) 93 1, o1 (.goto (-95)) 4]),
  (102, [o0 (.return_)])]
theorem bk_Rd_test : okBlks q_Rd_test bl_Rd_test = true := by decide +kernel
noncomputable def oL_Rd_test {ρ : Type} (N : Nat) (kt kf ks kp : mS → Option mS) : List (Nat × (List Value → mS → (Option Value → mS → Option ρ) → Option ρ)) := [(103, Cg kf), (98, C_Rd_word N), (93, C_Rd_advance N), (88, C_Pg_add N)]
theorem oo_Rd_test {ρ : Type} {t0 : ρ} {d : Nat} {kt kf ks kp : mS → Option mS} (N : Nat) (ht : ∀ s s1, kt s = some s1 → MetM Sx R0x oFx nx d 102 [.ref 18] s none s1)  (hf : ∀ s s1, kf s = some s1 → MetM Sx R0x oFx nx d 103 [.ref 18] s none s1)  (hs : ∀ s s1, ks s = some s1 → MetM Sx R0x oFx nx d 106 [.ref 18] s none s1)  (hp : ∀ s s1, kp s = some s1 → MetM Sx R0x oFx nx d 107 [.ref 18] s none s1) (hdd : 3 ≤ d) : OrcOK Sx R0x oFx nx (d + 1) t0 (mOrc (oL_Rd_test N kt kf ks kp)) := mOrc_OK (List.forall_mem_cons.mpr ⟨Cg_OK y_Rd_fact rfl (Nat.le_refl _) hf, List.forall_mem_cons.mpr ⟨cs_Rd_word N (Nat.le_trans (by decide) (Nat.succ_le_succ hdd)), List.forall_mem_cons.mpr ⟨cs_Rd_advance N (Nat.le_trans (by decide) (Nat.succ_le_succ hdd)), List.forall_mem_cons.mpr ⟨cs_Pg_add N (Nat.le_trans (by decide) (Nat.succ_le_succ hdd)), mz_nil⟩⟩⟩⟩)
noncomputable def H_Rd_test_4 {ρ : Type} (k : (Int32 × Int32 × mS) → Option ρ) : mL → List Value → mS → Option ρ := fun loc st s => cR loc 0 18 (li1 loc 1 fun v0 => li1 loc 2 fun v1 => rv0 st (k (v0, v1, s)))
noncomputable def H_Rd_test_21 {ρ : Type} (k : (Int32 × Int32 × mS) → Option ρ) : mL → List Value → mS → Option ρ := fun loc st s => cR loc 0 18 (li1 loc 1 fun v0 => li1 loc 3 fun v1 => rv0 st (k (v0, v1, s)))
noncomputable def H_Rd_test_60 {ρ : Type} (k : (Int32 × mS) → Option ρ) : mL → List Value → mS → Option ρ := fun loc st s => cR loc 0 18 (li1 loc 1 fun v0 => rv0 st (k (v0, s)))
noncomputable def H_Rd_test_73 {ρ : Type} (k : (Int32 × mS) → Option ρ) : mL → List Value → mS → Option ρ := fun loc st s => cR loc 0 18 (li1 loc 1 fun v0 => rv0 st (k (v0, s)))
noncomputable def H_Rd_test_90 {ρ : Type} (k : (Int32 × Int32 × mS) → Option ρ) : mL → List Value → mS → Option ρ := fun loc st s => cR loc 0 18 (li1 loc 1 fun v0 => pi1 st fun w0 r0 => rv0 r0 (k (v0, w0, s)))
noncomputable def f_Rd_test_j90 (N : Nat) (kt kf ks kp : mS → Option mS) (k4 : (Int32 × Int32 × mS) → Option (mS)) (x : Int32 × Int32 × mS) : Option (mS) :=
  if x.2.1 = 0 then
    k4 (x.1, x.2.1, x.2.2)
  else
    (f_Rd_advance N x.2.2).bind fun p1 =>
    k4 (x.1, x.2.1, p1)
set_option maxRecDepth 100000 in
set_option maxHeartbeats 4000000 in
theorem s_Rd_test_90 (N : Nat) {s9 : mS} {d : Nat} {kt kf ks kp : mS → Option mS} (ht : ∀ s s1, kt s = some s1 → MetM Sx R0x oFx nx d 102 [.ref 18] s none s1)  (hf : ∀ s s1, kf s = some s1 → MetM Sx R0x oFx nx d 103 [.ref 18] s none s1)  (hs : ∀ s s1, ks s = some s1 → MetM Sx R0x oFx nx d 106 [.ref 18] s none s1)  (hp : ∀ s s1, kp s = some s1 → MetM Sx R0x oFx nx d 107 [.ref 18] s none s1) (hdd : 3 ≤ d) {k4 : (Int32 × Int32 × mS) → Option (mS)} (hk4 : SCd Sx R0x oFx nx (d + 1) q_Rd_test (none, s9) s9 4 (H_Rd_test_4 k4)) : SCd Sx R0x oFx nx (d + 1) q_Rd_test (none, s9) s9 90 (H_Rd_test_90 (f_Rd_test_j90 N kt kf ks kp k4)) := by
  intro loc st s
  refine G_cR (fun h0 => ?_)
  refine G_li (fun v0 h1 => ?_)
  refine G_pi (fun w0 r0 e0 => ?_)
  refine G_rv0 (fun e9 => ?_)
  subst e9
  subst e0
  refine G_sub (loc0 := [(0, .ref 18), (1, .int v0)]) (List.forall_mem_cons.mpr ⟨h0, List.forall_mem_cons.mpr ⟨h1, mz_nil⟩⟩) ?_
  exact G_eq (mEv_G (orc := mOrc (oL_Rd_test N kt kf ks kp)) (ret := rtV) (blks := bl_Rd_test) (cuts := [(4, H_Rd_test_4 k4)]) wOKx (Nat.succ_le_succ (Nat.zero_le _)) (oo_Rd_test N ht hf hs hp hdd) (RetOK_V rfl) bk_Rd_test (List.forall_mem_cons.mpr ⟨hk4, mz_nil⟩)) rfl
noncomputable def f_Rd_test_j73 (N : Nat) (kt kf ks kp : mS → Option mS) (k4 : (Int32 × Int32 × mS) → Option (mS)) (x : Int32 × mS) : Option (mS) :=
  (f_Rd_word N x.2).bind fun p1 =>
  if p1.1 = 19 then
    f_Rd_test_j90 N kt kf ks kp k4 ((x.1 + 1), 1, p1.2)
  else
    f_Rd_test_j90 N kt kf ks kp k4 ((x.1 + 1), 0, p1.2)
set_option maxRecDepth 100000 in
set_option maxHeartbeats 4000000 in
theorem s_Rd_test_73 (N : Nat) {s9 : mS} {d : Nat} {kt kf ks kp : mS → Option mS} (ht : ∀ s s1, kt s = some s1 → MetM Sx R0x oFx nx d 102 [.ref 18] s none s1)  (hf : ∀ s s1, kf s = some s1 → MetM Sx R0x oFx nx d 103 [.ref 18] s none s1)  (hs : ∀ s s1, ks s = some s1 → MetM Sx R0x oFx nx d 106 [.ref 18] s none s1)  (hp : ∀ s s1, kp s = some s1 → MetM Sx R0x oFx nx d 107 [.ref 18] s none s1) (hdd : 3 ≤ d) {k4 : (Int32 × Int32 × mS) → Option (mS)} (hk4 : SCd Sx R0x oFx nx (d + 1) q_Rd_test (none, s9) s9 4 (H_Rd_test_4 k4)) : SCd Sx R0x oFx nx (d + 1) q_Rd_test (none, s9) s9 73 (H_Rd_test_73 (f_Rd_test_j73 N kt kf ks kp k4)) := by
  intro loc st s
  refine G_cR (fun h0 => ?_)
  refine G_li (fun v0 h1 => ?_)
  refine G_rv0 (fun e9 => ?_)
  subst e9
  refine G_sub (loc0 := [(0, .ref 18), (1, .int v0)]) (List.forall_mem_cons.mpr ⟨h0, List.forall_mem_cons.mpr ⟨h1, mz_nil⟩⟩) ?_
  exact G_eq (mEv_G (orc := mOrc (oL_Rd_test N kt kf ks kp)) (ret := rtV) (blks := bl_Rd_test) (cuts := [(90, H_Rd_test_90 (f_Rd_test_j90 N kt kf ks kp k4))]) wOKx (Nat.succ_le_succ (Nat.zero_le _)) (oo_Rd_test N ht hf hs hp hdd) (RetOK_V rfl) bk_Rd_test (List.forall_mem_cons.mpr ⟨s_Rd_test_90 N ht hf hs hp hdd hk4, mz_nil⟩)) rfl
noncomputable def f_Rd_test_j60 (N : Nat) (kt kf ks kp : mS → Option mS) (k4 : (Int32 × Int32 × mS) → Option (mS)) (x : Int32 × mS) : Option (mS) :=
  if 0 < x.1 then
    grd (isO Sx (gO x.2) 5) (
    (f_Pg_add N (gO x.2) 19 x.2).bind fun p1 =>
    f_Rd_test_j73 N kt kf ks kp k4 (x.1, p1))
  else
    f_Rd_test_j73 N kt kf ks kp k4 (x.1, x.2)
set_option maxRecDepth 100000 in
set_option maxHeartbeats 4000000 in
theorem s_Rd_test_60 (N : Nat) {s9 : mS} {d : Nat} {kt kf ks kp : mS → Option mS} (ht : ∀ s s1, kt s = some s1 → MetM Sx R0x oFx nx d 102 [.ref 18] s none s1)  (hf : ∀ s s1, kf s = some s1 → MetM Sx R0x oFx nx d 103 [.ref 18] s none s1)  (hs : ∀ s s1, ks s = some s1 → MetM Sx R0x oFx nx d 106 [.ref 18] s none s1)  (hp : ∀ s s1, kp s = some s1 → MetM Sx R0x oFx nx d 107 [.ref 18] s none s1) (hdd : 3 ≤ d) {k4 : (Int32 × Int32 × mS) → Option (mS)} (hk4 : SCd Sx R0x oFx nx (d + 1) q_Rd_test (none, s9) s9 4 (H_Rd_test_4 k4)) : SCd Sx R0x oFx nx (d + 1) q_Rd_test (none, s9) s9 60 (H_Rd_test_60 (f_Rd_test_j60 N kt kf ks kp k4)) := by
  intro loc st s
  refine G_cR (fun h0 => ?_)
  refine G_li (fun v0 h1 => ?_)
  refine G_rv0 (fun e9 => ?_)
  subst e9
  refine G_sub (loc0 := [(0, .ref 18), (1, .int v0)]) (List.forall_mem_cons.mpr ⟨h0, List.forall_mem_cons.mpr ⟨h1, mz_nil⟩⟩) ?_
  exact G_eq (mEv_G (orc := mOrc (oL_Rd_test N kt kf ks kp)) (ret := rtV) (blks := bl_Rd_test) (cuts := [(73, H_Rd_test_73 (f_Rd_test_j73 N kt kf ks kp k4))]) wOKx (Nat.succ_le_succ (Nat.zero_le _)) (oo_Rd_test N ht hf hs hp hdd) (RetOK_V rfl) bk_Rd_test (List.forall_mem_cons.mpr ⟨s_Rd_test_73 N ht hf hs hp hdd hk4, mz_nil⟩)) rfl
noncomputable def f_Rd_test_L21 (N : Nat) (kt kf ks kp : mS → Option mS) (k4 : (Int32 × Int32 × mS) → Option (mS)) (k21 : (Int32 × Int32 × mS) → Option (mS)) (x : Int32 × Int32 × mS) : Option (mS) :=
  if x.2.1 < 1600 then
    (f_Rd_word N x.2.2).bind fun p1 =>
    if p1.1 = 20 then
      (f_Rd_advance N p1.2).bind fun p2 =>
      (kf p2).bind fun p3 =>
      grd (isO Sx (gO p3) 5) (
      (f_Pg_add N (gO p3) 20 p3).bind fun p4 =>
      k21 (x.1, (x.2.1 + 1), p4))
    else
      f_Rd_test_j60 N kt kf ks kp k4 (x.1, p1.2)
  else
    f_Rd_test_j60 N kt kf ks kp k4 (x.1, x.2.2)
set_option maxRecDepth 100000 in
set_option maxHeartbeats 4000000 in
theorem t_Rd_test_21 (N : Nat) {s9 : mS} {d : Nat} {kt kf ks kp : mS → Option mS} (ht : ∀ s s1, kt s = some s1 → MetM Sx R0x oFx nx d 102 [.ref 18] s none s1)  (hf : ∀ s s1, kf s = some s1 → MetM Sx R0x oFx nx d 103 [.ref 18] s none s1)  (hs : ∀ s s1, ks s = some s1 → MetM Sx R0x oFx nx d 106 [.ref 18] s none s1)  (hp : ∀ s s1, kp s = some s1 → MetM Sx R0x oFx nx d 107 [.ref 18] s none s1) (hdd : 3 ≤ d) {k4 : (Int32 × Int32 × mS) → Option (mS)} (hk4 : SCd Sx R0x oFx nx (d + 1) q_Rd_test (none, s9) s9 4 (H_Rd_test_4 k4)) {k21 : (Int32 × Int32 × mS) → Option (mS)} (hk21 : SCd Sx R0x oFx nx (d + 1) q_Rd_test (none, s9) s9 21 (H_Rd_test_21 k21)) : SCd Sx R0x oFx nx (d + 1) q_Rd_test (none, s9) s9 21 (H_Rd_test_21 (f_Rd_test_L21 N kt kf ks kp k4 k21)) := by
  intro loc st s
  refine G_cR (fun h0 => ?_)
  refine G_li (fun v0 h1 => ?_)
  refine G_li (fun v1 h3 => ?_)
  refine G_rv0 (fun e9 => ?_)
  subst e9
  refine G_sub (loc0 := [(0, .ref 18), (1, .int v0), (3, .int v1)]) (List.forall_mem_cons.mpr ⟨h0, List.forall_mem_cons.mpr ⟨h1, List.forall_mem_cons.mpr ⟨h3, mz_nil⟩⟩⟩) ?_
  exact G_eq (mEv_G (orc := mOrc (oL_Rd_test N kt kf ks kp)) (ret := rtV) (blks := bl_Rd_test) (cuts := [(21, H_Rd_test_21 k21), (60, H_Rd_test_60 (f_Rd_test_j60 N kt kf ks kp k4))]) wOKx (Nat.succ_le_succ (Nat.zero_le _)) (oo_Rd_test N ht hf hs hp hdd) (RetOK_V rfl) bk_Rd_test (List.forall_mem_cons.mpr ⟨hk21, List.forall_mem_cons.mpr ⟨s_Rd_test_60 N ht hf hs hp hdd hk4, mz_nil⟩⟩)) rfl
theorem s_Rd_test_21 (N : Nat) {s9 : mS} {d : Nat} {kt kf ks kp : mS → Option mS} (ht : ∀ s s1, kt s = some s1 → MetM Sx R0x oFx nx d 102 [.ref 18] s none s1)  (hf : ∀ s s1, kf s = some s1 → MetM Sx R0x oFx nx d 103 [.ref 18] s none s1)  (hs : ∀ s s1, ks s = some s1 → MetM Sx R0x oFx nx d 106 [.ref 18] s none s1)  (hp : ∀ s s1, kp s = some s1 → MetM Sx R0x oFx nx d 107 [.ref 18] s none s1) (hdd : 3 ≤ d) {k4 : (Int32 × Int32 × mS) → Option (mS)} (hk4 : SCd Sx R0x oFx nx (d + 1) q_Rd_test (none, s9) s9 4 (H_Rd_test_4 k4)) : SCd Sx R0x oFx nx (d + 1) q_Rd_test (none, s9) s9 21 (H_Rd_test_21 (mfix N (f_Rd_test_L21 N kt kf ks kp k4))) := by
  refine mfix_SC (H := H_Rd_test_21) (fun loc st s => ?_) (fun k hk => t_Rd_test_21 N ht hf hs hp hdd hk4 hk) N
  refine G_cR (fun h0 => ?_)
  refine G_li (fun v0 h1 => ?_)
  refine G_li (fun v1 h3 => ?_)
  refine G_rv0 (fun e9 => ?_)
  subst e9
  exact G_none
noncomputable def f_Rd_test_L4 (N : Nat) (kt kf ks kp : mS → Option mS) (k4 : (Int32 × Int32 × mS) → Option (mS)) (x : Int32 × Int32 × mS) : Option (mS) :=
  if x.2.1 = 0 then
    some x.2.2
  else
    if x.1 < 1600 then
      (kf x.2.2).bind fun p1 =>
      mfix N (f_Rd_test_L21 N kt kf ks kp k4) (x.1, 0, p1)
    else
      some x.2.2
set_option maxRecDepth 100000 in
set_option maxHeartbeats 4000000 in
theorem t_Rd_test_4 (N : Nat) {s9 : mS} {d : Nat} {kt kf ks kp : mS → Option mS} (ht : ∀ s s1, kt s = some s1 → MetM Sx R0x oFx nx d 102 [.ref 18] s none s1)  (hf : ∀ s s1, kf s = some s1 → MetM Sx R0x oFx nx d 103 [.ref 18] s none s1)  (hs : ∀ s s1, ks s = some s1 → MetM Sx R0x oFx nx d 106 [.ref 18] s none s1)  (hp : ∀ s s1, kp s = some s1 → MetM Sx R0x oFx nx d 107 [.ref 18] s none s1) (hdd : 3 ≤ d) {k4 : (Int32 × Int32 × mS) → Option (mS)} (hk4 : SCd Sx R0x oFx nx (d + 1) q_Rd_test (none, s9) s9 4 (H_Rd_test_4 k4)) : SCd Sx R0x oFx nx (d + 1) q_Rd_test (none, s9) s9 4 (H_Rd_test_4 (f_Rd_test_L4 N kt kf ks kp k4)) := by
  intro loc st s
  refine G_cR (fun h0 => ?_)
  refine G_li (fun v0 h1 => ?_)
  refine G_li (fun v1 h2 => ?_)
  refine G_rv0 (fun e9 => ?_)
  subst e9
  refine G_sub (loc0 := [(0, .ref 18), (1, .int v0), (2, .int v1)]) (List.forall_mem_cons.mpr ⟨h0, List.forall_mem_cons.mpr ⟨h1, List.forall_mem_cons.mpr ⟨h2, mz_nil⟩⟩⟩) ?_
  exact G_eq (mEv_G (orc := mOrc (oL_Rd_test N kt kf ks kp)) (ret := rtV) (blks := bl_Rd_test) (cuts := [(21, H_Rd_test_21 (mfix N (f_Rd_test_L21 N kt kf ks kp k4)))]) wOKx (Nat.succ_le_succ (Nat.zero_le _)) (oo_Rd_test N ht hf hs hp hdd) (RetOK_V rfl) bk_Rd_test (List.forall_mem_cons.mpr ⟨s_Rd_test_21 N ht hf hs hp hdd hk4, mz_nil⟩)) rfl
theorem s_Rd_test_4 (N : Nat) {s9 : mS} {d : Nat} {kt kf ks kp : mS → Option mS} (ht : ∀ s s1, kt s = some s1 → MetM Sx R0x oFx nx d 102 [.ref 18] s none s1)  (hf : ∀ s s1, kf s = some s1 → MetM Sx R0x oFx nx d 103 [.ref 18] s none s1)  (hs : ∀ s s1, ks s = some s1 → MetM Sx R0x oFx nx d 106 [.ref 18] s none s1)  (hp : ∀ s s1, kp s = some s1 → MetM Sx R0x oFx nx d 107 [.ref 18] s none s1) (hdd : 3 ≤ d) : SCd Sx R0x oFx nx (d + 1) q_Rd_test (none, s9) s9 4 (H_Rd_test_4 (mfix N (f_Rd_test_L4 N kt kf ks kp))) := by
  refine mfix_SC (H := H_Rd_test_4) (fun loc st s => ?_) (fun k hk => t_Rd_test_4 N ht hf hs hp hdd hk) N
  refine G_cR (fun h0 => ?_)
  refine G_li (fun v0 h1 => ?_)
  refine G_li (fun v1 h2 => ?_)
  refine G_rv0 (fun e9 => ?_)
  subst e9
  exact G_none
noncomputable def f_Rd_test_B (N : Nat) (kt kf ks kp : mS → Option mS) (s : mS) : Option (mS) :=
  mfix N (f_Rd_test_L4 N kt kf ks kp) (0, 1, s)
set_option maxRecDepth 100000 in
set_option maxHeartbeats 4000000 in
theorem m_Rd_test (N : Nat) {s9 : mS} {d : Nat} {kt kf ks kp : mS → Option mS} (ht : ∀ s s1, kt s = some s1 → MetM Sx R0x oFx nx d 102 [.ref 18] s none s1)  (hf : ∀ s s1, kf s = some s1 → MetM Sx R0x oFx nx d 103 [.ref 18] s none s1)  (hs : ∀ s s1, ks s = some s1 → MetM Sx R0x oFx nx d 106 [.ref 18] s none s1)  (hp : ∀ s s1, kp s = some s1 → MetM Sx R0x oFx nx d 107 [.ref 18] s none s1) (hdd : 3 ≤ d) {s : mS} (h : f_Rd_test_B N kt kf ks kp s = some s9) : MetM Sx R0x oFx nx (d + 1) 102 [.ref 18] s (none) s9 := by
  refine met_of_G (q := q_Rd_test) (t0 := s9) y_Rd_test (Nat.le_of_ble_eq_true rfl) ?_
  rw [← h]
  exact G_eq (mEv_G (orc := mOrc (oL_Rd_test N kt kf ks kp)) (ret := rtV) (blks := bl_Rd_test) (cuts := [(4, H_Rd_test_4 (mfix N (f_Rd_test_L4 N kt kf ks kp)))]) wOKx (Nat.succ_le_succ (Nat.zero_le _)) (oo_Rd_test N ht hf hs hp hdd) (RetOK_V rfl) bk_Rd_test (List.forall_mem_cons.mpr ⟨s_Rd_test_4 N ht hf hs hp hdd, mz_nil⟩)) rfl
/-! METHOD PorterDoors$Reader.fact()V -/
noncomputable def bl_Rd_fact : List (Nat × List mO) := [(0, [o0 (.aload_n 0), o2 (.invokevirtual 72) 98 1, o0 (.bipush 21), o1 (.if_icmp .ne 40) 46, o0 (.aload_n 0), o2 (.invokevirtual 151) 104 1, o1 (.ifCond .eq 157) 170, o0 (.aload_n 0), o2 (.invokevirtual 69) 93 1, o0 (.aload_n 0), o2 (.invokevirtual 145) 103 1, o0 (.aload_n 0), o2 (.getfield 60) 6 2, o0 (.bipush 21), o2 (.invokevirtual 148) 88 2, o0 (.aload_n 0), o0 (.dup), o2 (.getfield 37) 6 11, o0 (.iconst 1), o0 (.isub), o2 (.putfield 37) 6 11, o1 (.goto 127) 170]),
  (46, [o0 (.aload_n 0), o2 (.getfield 18) 6 5, o0 (.bipush 91), o1 (.if_icmp .ne 41) 93, o0 (.aload_n 0), o2 (.invokevirtual 151) 104 1, o1 (.ifCond .eq 111) 170, o0 (.aload_n 0), o2 (.invokevirtual 69) 93 1, o0 (.aload_n 0), o2 (.invokevirtual 95) 102 1, o0 (.aload_n 0), o0 (.bipush 93), o2 (.invokevirtual 115) 105 2, o0 (.aload_n 0), o2 (.invokevirtual 69) 93 1, o0 (.aload_n 0), o0 (.dup), o2 (.getfield 37) 6 11, o0 (.iconst 1), o0 (.isub), o2 (.putfield 37) 6 11, o1 (.goto 80) 170]),
  (93, [o0 (.aload_n 0), o2 (.invokevirtual 72) 98 1, o0 (.bipush 22), o1 (.if_icmp .ne 19) 118, o0 (.aload_n 0), o2 (.getfield 60) 6 2, o0 (.bipush 22), o2 (.invokevirtual 148) 88 2, o0 (.aload_n 0), o2 (.invokevirtual 69) 93 1, o1 (.goto 55) 170]),
  (118, [o0 (.aload_n 0), o2 (.invokevirtual 108) 106 1, o0 (.aload_n 0), o2 (.getfield 18) 6 5, o0 (.istore_n 1), o0 (.iload_n 1), o0 (.bipush 60), o1 (.if_icmp .eq 24) 154, o0 (.iload_n 1), o0 (.bipush 62), o1 (.if_icmp .eq 18) 154, o0 (.iload_n 1), o0 (.bipush 61), o1 (.if_icmp .eq 12) 154, o0 (.aload_n 0), o0 (.iconst 1), o0 (.aload_n 0), o2 (.getfield 21) 6 6, o2 (.invokevirtual 80) 100 3]),
  (154, [o0 (.aload_n 0), o2 (.invokevirtual 69) 93 1, o0 (.aload_n 0), o2 (.invokevirtual 108) 106 1, o0 (.aload_n 0), o2 (.getfield 60) 6 2, o0 (.iload_n 1), o2 (.invokevirtual 148) 88 2]),
  (170, [o0 (.return_)])]
theorem bk_Rd_fact : okBlks q_Rd_fact bl_Rd_fact = true := by decide +kernel
noncomputable def oL_Rd_fact {ρ : Type} (N : Nat) (kt kf ks kp : mS → Option mS) : List (Nat × (List Value → mS → (Option Value → mS → Option ρ) → Option ρ)) := [(98, C_Rd_word N), (104, C_Rd_enters N), (93, C_Rd_advance N), (103, Cg kf), (88, C_Pg_add N), (102, Cg kt), (105, C_Rd_expect N), (106, Cg ks), (100, C_Rd_fail N)]
theorem oo_Rd_fact {ρ : Type} {t0 : ρ} {d : Nat} {kt kf ks kp : mS → Option mS} (N : Nat) (ht : ∀ s s1, kt s = some s1 → MetM Sx R0x oFx nx d 102 [.ref 18] s none s1)  (hf : ∀ s s1, kf s = some s1 → MetM Sx R0x oFx nx d 103 [.ref 18] s none s1)  (hs : ∀ s s1, ks s = some s1 → MetM Sx R0x oFx nx d 106 [.ref 18] s none s1)  (hp : ∀ s s1, kp s = some s1 → MetM Sx R0x oFx nx d 107 [.ref 18] s none s1) (hdd : 3 ≤ d) : OrcOK Sx R0x oFx nx (d + 1) t0 (mOrc (oL_Rd_fact N kt kf ks kp)) := mOrc_OK (List.forall_mem_cons.mpr ⟨cs_Rd_word N (Nat.le_trans (by decide) (Nat.succ_le_succ hdd)), List.forall_mem_cons.mpr ⟨cs_Rd_enters N (Nat.le_trans (by decide) (Nat.succ_le_succ hdd)), List.forall_mem_cons.mpr ⟨cs_Rd_advance N (Nat.le_trans (by decide) (Nat.succ_le_succ hdd)), List.forall_mem_cons.mpr ⟨Cg_OK y_Rd_fact rfl (Nat.le_refl _) hf, List.forall_mem_cons.mpr ⟨cs_Pg_add N (Nat.le_trans (by decide) (Nat.succ_le_succ hdd)), List.forall_mem_cons.mpr ⟨Cg_OK y_Rd_test rfl (Nat.le_refl _) ht, List.forall_mem_cons.mpr ⟨cs_Rd_expect N (Nat.le_trans (by decide) (Nat.succ_le_succ hdd)), List.forall_mem_cons.mpr ⟨Cg_OK y_Rd_sum rfl (Nat.le_refl _) hs, List.forall_mem_cons.mpr ⟨cs_Rd_fail N (Nat.le_trans (by decide) (Nat.succ_le_succ hdd)), mz_nil⟩⟩⟩⟩⟩⟩⟩⟩⟩)
noncomputable def H_Rd_fact_154 {ρ : Type} (k : (Int32 × mS) → Option ρ) : mL → List Value → mS → Option ρ := fun loc st s => cR loc 0 18 (li1 loc 1 fun v0 => rv0 st (k (v0, s)))
noncomputable def f_Rd_fact_j154 (N : Nat) (kt kf ks kp : mS → Option mS) (x : Int32 × mS) : Option (mS) :=
  (f_Rd_advance N x.2).bind fun p1 =>
  (ks p1).bind fun p2 =>
  grd (isO Sx (gO p2) 5) (
  (f_Pg_add N (gO p2) x.1 p2).bind fun p3 =>
  some p3)
set_option maxRecDepth 100000 in
set_option maxHeartbeats 4000000 in
theorem s_Rd_fact_154 (N : Nat) {s9 : mS} {d : Nat} {kt kf ks kp : mS → Option mS} (ht : ∀ s s1, kt s = some s1 → MetM Sx R0x oFx nx d 102 [.ref 18] s none s1)  (hf : ∀ s s1, kf s = some s1 → MetM Sx R0x oFx nx d 103 [.ref 18] s none s1)  (hs : ∀ s s1, ks s = some s1 → MetM Sx R0x oFx nx d 106 [.ref 18] s none s1)  (hp : ∀ s s1, kp s = some s1 → MetM Sx R0x oFx nx d 107 [.ref 18] s none s1) (hdd : 3 ≤ d) : SCd Sx R0x oFx nx (d + 1) q_Rd_fact (none, s9) s9 154 (H_Rd_fact_154 (f_Rd_fact_j154 N kt kf ks kp)) := by
  intro loc st s
  refine G_cR (fun h0 => ?_)
  refine G_li (fun v0 h1 => ?_)
  refine G_rv0 (fun e9 => ?_)
  subst e9
  refine G_sub (loc0 := [(0, .ref 18), (1, .int v0)]) (List.forall_mem_cons.mpr ⟨h0, List.forall_mem_cons.mpr ⟨h1, mz_nil⟩⟩) ?_
  exact G_eq (mEv_G (orc := mOrc (oL_Rd_fact N kt kf ks kp)) (ret := rtV) (blks := bl_Rd_fact) (cuts := []) wOKx (Nat.succ_le_succ (Nat.zero_le _)) (oo_Rd_fact N ht hf hs hp hdd) (RetOK_V rfl) bk_Rd_fact (mz_nil)) rfl
noncomputable def f_Rd_fact_B (N : Nat) (kt kf ks kp : mS → Option mS) (s : mS) : Option (mS) :=
  (f_Rd_word N s).bind fun p1 =>
  if p1.1 = 21 then
    (f_Rd_enters N p1.2).bind fun p13 =>
    if p13.1 = 0 then
      some p13.2
    else
      (f_Rd_advance N p13.2).bind fun p14 =>
      (kf p14).bind fun p15 =>
      grd (isO Sx (gO p15) 5) (
      (f_Pg_add N (gO p15) 21 p15).bind fun p16 =>
      let s17 := sI p16 611 18 ((gI p16 611 18) - 1)
      some s17)
  else
    if (gI p1.2 605 18) = 91 then
      (f_Rd_enters N p1.2).bind fun p7 =>
      if p7.1 = 0 then
        some p7.2
      else
        (f_Rd_advance N p7.2).bind fun p8 =>
        (kt p8).bind fun p9 =>
        (f_Rd_expect N 93 p9).bind fun p10 =>
        (f_Rd_advance N p10).bind fun p11 =>
        let s12 := sI p11 611 18 ((gI p11 611 18) - 1)
        some s12
    else
      (f_Rd_word N p1.2).bind fun p2 =>
      if p2.1 = 22 then
        grd (isO Sx (gO p2.2) 5) (
        (f_Pg_add N (gO p2.2) 22 p2.2).bind fun p5 =>
        (f_Rd_advance N p5).bind fun p6 =>
        some p6)
      else
        (ks p2.2).bind fun p3 =>
        if (gI p3 605 18) = 60 then
          f_Rd_fact_j154 N kt kf ks kp ((gI p3 605 18), p3)
        else
          if (gI p3 605 18) = 62 then
            f_Rd_fact_j154 N kt kf ks kp ((gI p3 605 18), p3)
          else
            if (gI p3 605 18) = 61 then
              f_Rd_fact_j154 N kt kf ks kp ((gI p3 605 18), p3)
            else
              (f_Rd_fail N 1 (gI p3 606 18) p3).bind fun p4 =>
              f_Rd_fact_j154 N kt kf ks kp ((gI p3 605 18), p4)
set_option maxRecDepth 100000 in
set_option maxHeartbeats 4000000 in
theorem m_Rd_fact (N : Nat) {s9 : mS} {d : Nat} {kt kf ks kp : mS → Option mS} (ht : ∀ s s1, kt s = some s1 → MetM Sx R0x oFx nx d 102 [.ref 18] s none s1)  (hf : ∀ s s1, kf s = some s1 → MetM Sx R0x oFx nx d 103 [.ref 18] s none s1)  (hs : ∀ s s1, ks s = some s1 → MetM Sx R0x oFx nx d 106 [.ref 18] s none s1)  (hp : ∀ s s1, kp s = some s1 → MetM Sx R0x oFx nx d 107 [.ref 18] s none s1) (hdd : 3 ≤ d) {s : mS} (h : f_Rd_fact_B N kt kf ks kp s = some s9) : MetM Sx R0x oFx nx (d + 1) 103 [.ref 18] s (none) s9 := by
  refine met_of_G (q := q_Rd_fact) (t0 := s9) y_Rd_fact (Nat.le_of_ble_eq_true rfl) ?_
  rw [← h]
  exact G_eq (mEv_G (orc := mOrc (oL_Rd_fact N kt kf ks kp)) (ret := rtV) (blks := bl_Rd_fact) (cuts := [(154, H_Rd_fact_154 (f_Rd_fact_j154 N kt kf ks kp))]) wOKx (Nat.succ_le_succ (Nat.zero_le _)) (oo_Rd_fact N ht hf hs hp hdd) (RetOK_V rfl) bk_Rd_fact (List.forall_mem_cons.mpr ⟨s_Rd_fact_154 N ht hf hs hp hdd, mz_nil⟩)) rfl
/-! METHOD PorterDoors$Reader.sum()V -/
noncomputable def bl_Rd_sum : List (Nat × List mO) := [(0, [o0 (.iconst (-1)), o0 (.istore_n 1), o0 (.iconst 1), o0 (.istore_n 2), o0 (.iconst 0), o0 (.istore_n 3)]),
  (6, [o0 (.iload_n 2), o1 (.ifCond .eq 128) 135, o0 (.iload_n 3), o0 (.sipush 1600), o1 (.if_icmp .ge 121) 135, o0 (.aload_n 0), o2 (.invokevirtual 155) 107 1, o0 (.iconst 0), o0 (.istore 4)]),
  (24, [o0 (.iload 4), o0 (.sipush 1600), o1 (.if_icmp .ge 50) 79, o0 (.aload_n 0), o2 (.getfield 18) 6 5, o0 (.bipush 42), o1 (.if_icmp .eq 12) 50, o0 (.aload_n 0), o2 (.getfield 18) 6 5, o0 (.bipush 47), o1 (.if_icmp .ne 32) 79]),
  (50, [o0 (.aload_n 0), o2 (.getfield 18) 6 5, o0 (.istore 5), o0 (.aload_n 0), o2 (.invokevirtual 69) 93 1, o0 (.aload_n 0), o2 (.invokevirtual 155) 107 1, o0 (.aload_n 0), o2 (.getfield 60) 6 2, o0 (.iload 5), o2 (.invokevirtual 148) 88 2, o0 (.iinc 4 1), o1 (.goto (-52)) 24]),
  (79, [o0 (.iload_n 1), o0 (.iconst (-1)), o1 (.if_icmp .eq 11) 92, o0 (.aload_n 0), o2 (.getfield 60) 6 2, o0 (.iload_n 1), o2 (.invokevirtual 148) 88 2]),
  (92, [o0 (.aload_n 0), o2 (.getfield 18) 6 5, o0 (.istore_n 1), o0 (.aload_n 0), o2 (.getfield 18) 6 5, o0 (.bipush 43), o1 (.if_icmp .eq 12) 115, o0 (.aload_n 0), o2 (.getfield 18) 6 5, o0 (.bipush 45), o1 (.if_icmp .ne 7) 119]),
  (115, [o0 (.iconst 1), o1 (.goto 4) 120]),
  (119, [o0 (.iconst 0)]),
  (120, [o0 (.istore_n 2), o0 (.iload_n 2), o1 (.ifCond .eq 7) 129, o0 (.aload_n 0), o2 (.invokevirtual 69) 93 1]),
  (129, [o0 (.iinc 3 1), o1 (.goto (-126)) 6]),
  (135, [o0 (.return_)])]
theorem bk_Rd_sum : okBlks q_Rd_sum bl_Rd_sum = true := by decide +kernel
noncomputable def oL_Rd_sum {ρ : Type} (N : Nat) (kt kf ks kp : mS → Option mS) : List (Nat × (List Value → mS → (Option Value → mS → Option ρ) → Option ρ)) := [(107, Cg kp), (93, C_Rd_advance N), (88, C_Pg_add N)]
theorem oo_Rd_sum {ρ : Type} {t0 : ρ} {d : Nat} {kt kf ks kp : mS → Option mS} (N : Nat) (ht : ∀ s s1, kt s = some s1 → MetM Sx R0x oFx nx d 102 [.ref 18] s none s1)  (hf : ∀ s s1, kf s = some s1 → MetM Sx R0x oFx nx d 103 [.ref 18] s none s1)  (hs : ∀ s s1, ks s = some s1 → MetM Sx R0x oFx nx d 106 [.ref 18] s none s1)  (hp : ∀ s s1, kp s = some s1 → MetM Sx R0x oFx nx d 107 [.ref 18] s none s1) (hdd : 3 ≤ d) : OrcOK Sx R0x oFx nx (d + 1) t0 (mOrc (oL_Rd_sum N kt kf ks kp)) := mOrc_OK (List.forall_mem_cons.mpr ⟨Cg_OK y_Rd_part rfl (Nat.le_refl _) hp, List.forall_mem_cons.mpr ⟨cs_Rd_advance N (Nat.le_trans (by decide) (Nat.succ_le_succ hdd)), List.forall_mem_cons.mpr ⟨cs_Pg_add N (Nat.le_trans (by decide) (Nat.succ_le_succ hdd)), mz_nil⟩⟩⟩)
noncomputable def H_Rd_sum_6 {ρ : Type} (k : (Int32 × Int32 × Int32 × mS) → Option ρ) : mL → List Value → mS → Option ρ := fun loc st s => cR loc 0 18 (li1 loc 1 fun v0 => li1 loc 2 fun v1 => li1 loc 3 fun v2 => rv0 st (k (v0, v1, v2, s)))
noncomputable def H_Rd_sum_24 {ρ : Type} (k : (Int32 × Int32 × Int32 × mS) → Option ρ) : mL → List Value → mS → Option ρ := fun loc st s => cR loc 0 18 (li1 loc 1 fun v0 => li1 loc 3 fun v1 => li1 loc 4 fun v2 => rv0 st (k (v0, v1, v2, s)))
noncomputable def H_Rd_sum_50 {ρ : Type} (k : (Int32 × Int32 × Int32 × mS) → Option ρ) : mL → List Value → mS → Option ρ := fun loc st s => cR loc 0 18 (li1 loc 1 fun v0 => li1 loc 3 fun v1 => li1 loc 4 fun v2 => rv0 st (k (v0, v1, v2, s)))
noncomputable def H_Rd_sum_79 {ρ : Type} (k : (Int32 × Int32 × mS) → Option ρ) : mL → List Value → mS → Option ρ := fun loc st s => cR loc 0 18 (li1 loc 1 fun v0 => li1 loc 3 fun v1 => rv0 st (k (v0, v1, s)))
noncomputable def H_Rd_sum_92 {ρ : Type} (k : (Int32 × mS) → Option ρ) : mL → List Value → mS → Option ρ := fun loc st s => cR loc 0 18 (li1 loc 3 fun v0 => rv0 st (k (v0, s)))
noncomputable def H_Rd_sum_120 {ρ : Type} (k : (Int32 × Int32 × Int32 × mS) → Option ρ) : mL → List Value → mS → Option ρ := fun loc st s => cR loc 0 18 (li1 loc 1 fun v0 => li1 loc 3 fun v1 => pi1 st fun w0 r0 => rv0 r0 (k (v0, v1, w0, s)))
noncomputable def f_Rd_sum_j50 (N : Nat) (kt kf ks kp : mS → Option mS) (k6 : (Int32 × Int32 × Int32 × mS) → Option (mS)) (k24 : (Int32 × Int32 × Int32 × mS) → Option (mS)) (x : Int32 × Int32 × Int32 × mS) : Option (mS) :=
  (f_Rd_advance N x.2.2.2).bind fun p1 =>
  (kp p1).bind fun p2 =>
  grd (isO Sx (gO p2) 5) (
  (f_Pg_add N (gO p2) (gI x.2.2.2 605 18) p2).bind fun p3 =>
  k24 (x.1, x.2.1, (x.2.2.1 + 1), p3))
set_option maxRecDepth 100000 in
set_option maxHeartbeats 4000000 in
theorem s_Rd_sum_50 (N : Nat) {s9 : mS} {d : Nat} {kt kf ks kp : mS → Option mS} (ht : ∀ s s1, kt s = some s1 → MetM Sx R0x oFx nx d 102 [.ref 18] s none s1)  (hf : ∀ s s1, kf s = some s1 → MetM Sx R0x oFx nx d 103 [.ref 18] s none s1)  (hs : ∀ s s1, ks s = some s1 → MetM Sx R0x oFx nx d 106 [.ref 18] s none s1)  (hp : ∀ s s1, kp s = some s1 → MetM Sx R0x oFx nx d 107 [.ref 18] s none s1) (hdd : 3 ≤ d) {k6 : (Int32 × Int32 × Int32 × mS) → Option (mS)} (hk6 : SCd Sx R0x oFx nx (d + 1) q_Rd_sum (none, s9) s9 6 (H_Rd_sum_6 k6)) {k24 : (Int32 × Int32 × Int32 × mS) → Option (mS)} (hk24 : SCd Sx R0x oFx nx (d + 1) q_Rd_sum (none, s9) s9 24 (H_Rd_sum_24 k24)) : SCd Sx R0x oFx nx (d + 1) q_Rd_sum (none, s9) s9 50 (H_Rd_sum_50 (f_Rd_sum_j50 N kt kf ks kp k6 k24)) := by
  intro loc st s
  refine G_cR (fun h0 => ?_)
  refine G_li (fun v0 h1 => ?_)
  refine G_li (fun v1 h3 => ?_)
  refine G_li (fun v2 h4 => ?_)
  refine G_rv0 (fun e9 => ?_)
  subst e9
  refine G_sub (loc0 := [(0, .ref 18), (1, .int v0), (3, .int v1), (4, .int v2)]) (List.forall_mem_cons.mpr ⟨h0, List.forall_mem_cons.mpr ⟨h1, List.forall_mem_cons.mpr ⟨h3, List.forall_mem_cons.mpr ⟨h4, mz_nil⟩⟩⟩⟩) ?_
  exact G_eq (mEv_G (orc := mOrc (oL_Rd_sum N kt kf ks kp)) (ret := rtV) (blks := bl_Rd_sum) (cuts := [(24, H_Rd_sum_24 k24)]) wOKx (Nat.succ_le_succ (Nat.zero_le _)) (oo_Rd_sum N ht hf hs hp hdd) (RetOK_V rfl) bk_Rd_sum (List.forall_mem_cons.mpr ⟨hk24, mz_nil⟩)) rfl
noncomputable def f_Rd_sum_j120 (N : Nat) (kt kf ks kp : mS → Option mS) (k6 : (Int32 × Int32 × Int32 × mS) → Option (mS)) (x : Int32 × Int32 × Int32 × mS) : Option (mS) :=
  if x.2.2.1 = 0 then
    k6 (x.1, x.2.2.1, (x.2.1 + 1), x.2.2.2)
  else
    (f_Rd_advance N x.2.2.2).bind fun p1 =>
    k6 (x.1, x.2.2.1, (x.2.1 + 1), p1)
set_option maxRecDepth 100000 in
set_option maxHeartbeats 4000000 in
theorem s_Rd_sum_120 (N : Nat) {s9 : mS} {d : Nat} {kt kf ks kp : mS → Option mS} (ht : ∀ s s1, kt s = some s1 → MetM Sx R0x oFx nx d 102 [.ref 18] s none s1)  (hf : ∀ s s1, kf s = some s1 → MetM Sx R0x oFx nx d 103 [.ref 18] s none s1)  (hs : ∀ s s1, ks s = some s1 → MetM Sx R0x oFx nx d 106 [.ref 18] s none s1)  (hp : ∀ s s1, kp s = some s1 → MetM Sx R0x oFx nx d 107 [.ref 18] s none s1) (hdd : 3 ≤ d) {k6 : (Int32 × Int32 × Int32 × mS) → Option (mS)} (hk6 : SCd Sx R0x oFx nx (d + 1) q_Rd_sum (none, s9) s9 6 (H_Rd_sum_6 k6)) : SCd Sx R0x oFx nx (d + 1) q_Rd_sum (none, s9) s9 120 (H_Rd_sum_120 (f_Rd_sum_j120 N kt kf ks kp k6)) := by
  intro loc st s
  refine G_cR (fun h0 => ?_)
  refine G_li (fun v0 h1 => ?_)
  refine G_li (fun v1 h3 => ?_)
  refine G_pi (fun w0 r0 e0 => ?_)
  refine G_rv0 (fun e9 => ?_)
  subst e9
  subst e0
  refine G_sub (loc0 := [(0, .ref 18), (1, .int v0), (3, .int v1)]) (List.forall_mem_cons.mpr ⟨h0, List.forall_mem_cons.mpr ⟨h1, List.forall_mem_cons.mpr ⟨h3, mz_nil⟩⟩⟩) ?_
  exact G_eq (mEv_G (orc := mOrc (oL_Rd_sum N kt kf ks kp)) (ret := rtV) (blks := bl_Rd_sum) (cuts := [(6, H_Rd_sum_6 k6)]) wOKx (Nat.succ_le_succ (Nat.zero_le _)) (oo_Rd_sum N ht hf hs hp hdd) (RetOK_V rfl) bk_Rd_sum (List.forall_mem_cons.mpr ⟨hk6, mz_nil⟩)) rfl
noncomputable def f_Rd_sum_j92 (N : Nat) (kt kf ks kp : mS → Option mS) (k6 : (Int32 × Int32 × Int32 × mS) → Option (mS)) (x : Int32 × mS) : Option (mS) :=
  if (gI x.2 605 18) = 43 then
    f_Rd_sum_j120 N kt kf ks kp k6 ((gI x.2 605 18), x.1, 1, x.2)
  else
    if (gI x.2 605 18) = 45 then
      f_Rd_sum_j120 N kt kf ks kp k6 ((gI x.2 605 18), x.1, 1, x.2)
    else
      f_Rd_sum_j120 N kt kf ks kp k6 ((gI x.2 605 18), x.1, 0, x.2)
set_option maxRecDepth 100000 in
set_option maxHeartbeats 4000000 in
theorem s_Rd_sum_92 (N : Nat) {s9 : mS} {d : Nat} {kt kf ks kp : mS → Option mS} (ht : ∀ s s1, kt s = some s1 → MetM Sx R0x oFx nx d 102 [.ref 18] s none s1)  (hf : ∀ s s1, kf s = some s1 → MetM Sx R0x oFx nx d 103 [.ref 18] s none s1)  (hs : ∀ s s1, ks s = some s1 → MetM Sx R0x oFx nx d 106 [.ref 18] s none s1)  (hp : ∀ s s1, kp s = some s1 → MetM Sx R0x oFx nx d 107 [.ref 18] s none s1) (hdd : 3 ≤ d) {k6 : (Int32 × Int32 × Int32 × mS) → Option (mS)} (hk6 : SCd Sx R0x oFx nx (d + 1) q_Rd_sum (none, s9) s9 6 (H_Rd_sum_6 k6)) : SCd Sx R0x oFx nx (d + 1) q_Rd_sum (none, s9) s9 92 (H_Rd_sum_92 (f_Rd_sum_j92 N kt kf ks kp k6)) := by
  intro loc st s
  refine G_cR (fun h0 => ?_)
  refine G_li (fun v0 h3 => ?_)
  refine G_rv0 (fun e9 => ?_)
  subst e9
  refine G_sub (loc0 := [(0, .ref 18), (3, .int v0)]) (List.forall_mem_cons.mpr ⟨h0, List.forall_mem_cons.mpr ⟨h3, mz_nil⟩⟩) ?_
  exact G_eq (mEv_G (orc := mOrc (oL_Rd_sum N kt kf ks kp)) (ret := rtV) (blks := bl_Rd_sum) (cuts := [(120, H_Rd_sum_120 (f_Rd_sum_j120 N kt kf ks kp k6))]) wOKx (Nat.succ_le_succ (Nat.zero_le _)) (oo_Rd_sum N ht hf hs hp hdd) (RetOK_V rfl) bk_Rd_sum (List.forall_mem_cons.mpr ⟨s_Rd_sum_120 N ht hf hs hp hdd hk6, mz_nil⟩)) rfl
noncomputable def f_Rd_sum_j79 (N : Nat) (kt kf ks kp : mS → Option mS) (k6 : (Int32 × Int32 × Int32 × mS) → Option (mS)) (x : Int32 × Int32 × mS) : Option (mS) :=
  if x.1 = (-1) then
    f_Rd_sum_j92 N kt kf ks kp k6 (x.2.1, x.2.2)
  else
    grd (isO Sx (gO x.2.2) 5) (
    (f_Pg_add N (gO x.2.2) x.1 x.2.2).bind fun p1 =>
    f_Rd_sum_j92 N kt kf ks kp k6 (x.2.1, p1))
set_option maxRecDepth 100000 in
set_option maxHeartbeats 4000000 in
theorem s_Rd_sum_79 (N : Nat) {s9 : mS} {d : Nat} {kt kf ks kp : mS → Option mS} (ht : ∀ s s1, kt s = some s1 → MetM Sx R0x oFx nx d 102 [.ref 18] s none s1)  (hf : ∀ s s1, kf s = some s1 → MetM Sx R0x oFx nx d 103 [.ref 18] s none s1)  (hs : ∀ s s1, ks s = some s1 → MetM Sx R0x oFx nx d 106 [.ref 18] s none s1)  (hp : ∀ s s1, kp s = some s1 → MetM Sx R0x oFx nx d 107 [.ref 18] s none s1) (hdd : 3 ≤ d) {k6 : (Int32 × Int32 × Int32 × mS) → Option (mS)} (hk6 : SCd Sx R0x oFx nx (d + 1) q_Rd_sum (none, s9) s9 6 (H_Rd_sum_6 k6)) : SCd Sx R0x oFx nx (d + 1) q_Rd_sum (none, s9) s9 79 (H_Rd_sum_79 (f_Rd_sum_j79 N kt kf ks kp k6)) := by
  intro loc st s
  refine G_cR (fun h0 => ?_)
  refine G_li (fun v0 h1 => ?_)
  refine G_li (fun v1 h3 => ?_)
  refine G_rv0 (fun e9 => ?_)
  subst e9
  refine G_sub (loc0 := [(0, .ref 18), (1, .int v0), (3, .int v1)]) (List.forall_mem_cons.mpr ⟨h0, List.forall_mem_cons.mpr ⟨h1, List.forall_mem_cons.mpr ⟨h3, mz_nil⟩⟩⟩) ?_
  exact G_eq (mEv_G (orc := mOrc (oL_Rd_sum N kt kf ks kp)) (ret := rtV) (blks := bl_Rd_sum) (cuts := [(92, H_Rd_sum_92 (f_Rd_sum_j92 N kt kf ks kp k6))]) wOKx (Nat.succ_le_succ (Nat.zero_le _)) (oo_Rd_sum N ht hf hs hp hdd) (RetOK_V rfl) bk_Rd_sum (List.forall_mem_cons.mpr ⟨s_Rd_sum_92 N ht hf hs hp hdd hk6, mz_nil⟩)) rfl
noncomputable def f_Rd_sum_L24 (N : Nat) (kt kf ks kp : mS → Option mS) (k6 : (Int32 × Int32 × Int32 × mS) → Option (mS)) (k24 : (Int32 × Int32 × Int32 × mS) → Option (mS)) (x : Int32 × Int32 × Int32 × mS) : Option (mS) :=
  if x.2.2.1 < 1600 then
    if (gI x.2.2.2 605 18) = 42 then
      f_Rd_sum_j50 N kt kf ks kp k6 k24 (x.1, x.2.1, x.2.2.1, x.2.2.2)
    else
      if (gI x.2.2.2 605 18) = 47 then
        f_Rd_sum_j50 N kt kf ks kp k6 k24 (x.1, x.2.1, x.2.2.1, x.2.2.2)
      else
        f_Rd_sum_j79 N kt kf ks kp k6 (x.1, x.2.1, x.2.2.2)
  else
    f_Rd_sum_j79 N kt kf ks kp k6 (x.1, x.2.1, x.2.2.2)
set_option maxRecDepth 100000 in
set_option maxHeartbeats 4000000 in
theorem t_Rd_sum_24 (N : Nat) {s9 : mS} {d : Nat} {kt kf ks kp : mS → Option mS} (ht : ∀ s s1, kt s = some s1 → MetM Sx R0x oFx nx d 102 [.ref 18] s none s1)  (hf : ∀ s s1, kf s = some s1 → MetM Sx R0x oFx nx d 103 [.ref 18] s none s1)  (hs : ∀ s s1, ks s = some s1 → MetM Sx R0x oFx nx d 106 [.ref 18] s none s1)  (hp : ∀ s s1, kp s = some s1 → MetM Sx R0x oFx nx d 107 [.ref 18] s none s1) (hdd : 3 ≤ d) {k6 : (Int32 × Int32 × Int32 × mS) → Option (mS)} (hk6 : SCd Sx R0x oFx nx (d + 1) q_Rd_sum (none, s9) s9 6 (H_Rd_sum_6 k6)) {k24 : (Int32 × Int32 × Int32 × mS) → Option (mS)} (hk24 : SCd Sx R0x oFx nx (d + 1) q_Rd_sum (none, s9) s9 24 (H_Rd_sum_24 k24)) : SCd Sx R0x oFx nx (d + 1) q_Rd_sum (none, s9) s9 24 (H_Rd_sum_24 (f_Rd_sum_L24 N kt kf ks kp k6 k24)) := by
  intro loc st s
  refine G_cR (fun h0 => ?_)
  refine G_li (fun v0 h1 => ?_)
  refine G_li (fun v1 h3 => ?_)
  refine G_li (fun v2 h4 => ?_)
  refine G_rv0 (fun e9 => ?_)
  subst e9
  refine G_sub (loc0 := [(0, .ref 18), (1, .int v0), (3, .int v1), (4, .int v2)]) (List.forall_mem_cons.mpr ⟨h0, List.forall_mem_cons.mpr ⟨h1, List.forall_mem_cons.mpr ⟨h3, List.forall_mem_cons.mpr ⟨h4, mz_nil⟩⟩⟩⟩) ?_
  exact G_eq (mEv_G (orc := mOrc (oL_Rd_sum N kt kf ks kp)) (ret := rtV) (blks := bl_Rd_sum) (cuts := [(50, H_Rd_sum_50 (f_Rd_sum_j50 N kt kf ks kp k6 k24)), (79, H_Rd_sum_79 (f_Rd_sum_j79 N kt kf ks kp k6))]) wOKx (Nat.succ_le_succ (Nat.zero_le _)) (oo_Rd_sum N ht hf hs hp hdd) (RetOK_V rfl) bk_Rd_sum (List.forall_mem_cons.mpr ⟨s_Rd_sum_50 N ht hf hs hp hdd hk6 hk24, List.forall_mem_cons.mpr ⟨s_Rd_sum_79 N ht hf hs hp hdd hk6, mz_nil⟩⟩)) rfl
theorem s_Rd_sum_24 (N : Nat) {s9 : mS} {d : Nat} {kt kf ks kp : mS → Option mS} (ht : ∀ s s1, kt s = some s1 → MetM Sx R0x oFx nx d 102 [.ref 18] s none s1)  (hf : ∀ s s1, kf s = some s1 → MetM Sx R0x oFx nx d 103 [.ref 18] s none s1)  (hs : ∀ s s1, ks s = some s1 → MetM Sx R0x oFx nx d 106 [.ref 18] s none s1)  (hp : ∀ s s1, kp s = some s1 → MetM Sx R0x oFx nx d 107 [.ref 18] s none s1) (hdd : 3 ≤ d) {k6 : (Int32 × Int32 × Int32 × mS) → Option (mS)} (hk6 : SCd Sx R0x oFx nx (d + 1) q_Rd_sum (none, s9) s9 6 (H_Rd_sum_6 k6)) : SCd Sx R0x oFx nx (d + 1) q_Rd_sum (none, s9) s9 24 (H_Rd_sum_24 (mfix N (f_Rd_sum_L24 N kt kf ks kp k6))) := by
  refine mfix_SC (H := H_Rd_sum_24) (fun loc st s => ?_) (fun k hk => t_Rd_sum_24 N ht hf hs hp hdd hk6 hk) N
  refine G_cR (fun h0 => ?_)
  refine G_li (fun v0 h1 => ?_)
  refine G_li (fun v1 h3 => ?_)
  refine G_li (fun v2 h4 => ?_)
  refine G_rv0 (fun e9 => ?_)
  subst e9
  exact G_none
noncomputable def f_Rd_sum_L6 (N : Nat) (kt kf ks kp : mS → Option mS) (k6 : (Int32 × Int32 × Int32 × mS) → Option (mS)) (x : Int32 × Int32 × Int32 × mS) : Option (mS) :=
  if x.2.1 = 0 then
    some x.2.2.2
  else
    if x.2.2.1 < 1600 then
      (kp x.2.2.2).bind fun p1 =>
      mfix N (f_Rd_sum_L24 N kt kf ks kp k6) (x.1, x.2.2.1, 0, p1)
    else
      some x.2.2.2
set_option maxRecDepth 100000 in
set_option maxHeartbeats 4000000 in
theorem t_Rd_sum_6 (N : Nat) {s9 : mS} {d : Nat} {kt kf ks kp : mS → Option mS} (ht : ∀ s s1, kt s = some s1 → MetM Sx R0x oFx nx d 102 [.ref 18] s none s1)  (hf : ∀ s s1, kf s = some s1 → MetM Sx R0x oFx nx d 103 [.ref 18] s none s1)  (hs : ∀ s s1, ks s = some s1 → MetM Sx R0x oFx nx d 106 [.ref 18] s none s1)  (hp : ∀ s s1, kp s = some s1 → MetM Sx R0x oFx nx d 107 [.ref 18] s none s1) (hdd : 3 ≤ d) {k6 : (Int32 × Int32 × Int32 × mS) → Option (mS)} (hk6 : SCd Sx R0x oFx nx (d + 1) q_Rd_sum (none, s9) s9 6 (H_Rd_sum_6 k6)) : SCd Sx R0x oFx nx (d + 1) q_Rd_sum (none, s9) s9 6 (H_Rd_sum_6 (f_Rd_sum_L6 N kt kf ks kp k6)) := by
  intro loc st s
  refine G_cR (fun h0 => ?_)
  refine G_li (fun v0 h1 => ?_)
  refine G_li (fun v1 h2 => ?_)
  refine G_li (fun v2 h3 => ?_)
  refine G_rv0 (fun e9 => ?_)
  subst e9
  refine G_sub (loc0 := [(0, .ref 18), (1, .int v0), (2, .int v1), (3, .int v2)]) (List.forall_mem_cons.mpr ⟨h0, List.forall_mem_cons.mpr ⟨h1, List.forall_mem_cons.mpr ⟨h2, List.forall_mem_cons.mpr ⟨h3, mz_nil⟩⟩⟩⟩) ?_
  exact G_eq (mEv_G (orc := mOrc (oL_Rd_sum N kt kf ks kp)) (ret := rtV) (blks := bl_Rd_sum) (cuts := [(24, H_Rd_sum_24 (mfix N (f_Rd_sum_L24 N kt kf ks kp k6)))]) wOKx (Nat.succ_le_succ (Nat.zero_le _)) (oo_Rd_sum N ht hf hs hp hdd) (RetOK_V rfl) bk_Rd_sum (List.forall_mem_cons.mpr ⟨s_Rd_sum_24 N ht hf hs hp hdd hk6, mz_nil⟩)) rfl
theorem s_Rd_sum_6 (N : Nat) {s9 : mS} {d : Nat} {kt kf ks kp : mS → Option mS} (ht : ∀ s s1, kt s = some s1 → MetM Sx R0x oFx nx d 102 [.ref 18] s none s1)  (hf : ∀ s s1, kf s = some s1 → MetM Sx R0x oFx nx d 103 [.ref 18] s none s1)  (hs : ∀ s s1, ks s = some s1 → MetM Sx R0x oFx nx d 106 [.ref 18] s none s1)  (hp : ∀ s s1, kp s = some s1 → MetM Sx R0x oFx nx d 107 [.ref 18] s none s1) (hdd : 3 ≤ d) : SCd Sx R0x oFx nx (d + 1) q_Rd_sum (none, s9) s9 6 (H_Rd_sum_6 (mfix N (f_Rd_sum_L6 N kt kf ks kp))) := by
  refine mfix_SC (H := H_Rd_sum_6) (fun loc st s => ?_) (fun k hk => t_Rd_sum_6 N ht hf hs hp hdd hk) N
  refine G_cR (fun h0 => ?_)
  refine G_li (fun v0 h1 => ?_)
  refine G_li (fun v1 h2 => ?_)
  refine G_li (fun v2 h3 => ?_)
  refine G_rv0 (fun e9 => ?_)
  subst e9
  exact G_none
noncomputable def f_Rd_sum_B (N : Nat) (kt kf ks kp : mS → Option mS) (s : mS) : Option (mS) :=
  mfix N (f_Rd_sum_L6 N kt kf ks kp) ((-1), 1, 0, s)
set_option maxRecDepth 100000 in
set_option maxHeartbeats 4000000 in
theorem m_Rd_sum (N : Nat) {s9 : mS} {d : Nat} {kt kf ks kp : mS → Option mS} (ht : ∀ s s1, kt s = some s1 → MetM Sx R0x oFx nx d 102 [.ref 18] s none s1)  (hf : ∀ s s1, kf s = some s1 → MetM Sx R0x oFx nx d 103 [.ref 18] s none s1)  (hs : ∀ s s1, ks s = some s1 → MetM Sx R0x oFx nx d 106 [.ref 18] s none s1)  (hp : ∀ s s1, kp s = some s1 → MetM Sx R0x oFx nx d 107 [.ref 18] s none s1) (hdd : 3 ≤ d) {s : mS} (h : f_Rd_sum_B N kt kf ks kp s = some s9) : MetM Sx R0x oFx nx (d + 1) 106 [.ref 18] s (none) s9 := by
  refine met_of_G (q := q_Rd_sum) (t0 := s9) y_Rd_sum (Nat.le_of_ble_eq_true rfl) ?_
  rw [← h]
  exact G_eq (mEv_G (orc := mOrc (oL_Rd_sum N kt kf ks kp)) (ret := rtV) (blks := bl_Rd_sum) (cuts := [(6, H_Rd_sum_6 (mfix N (f_Rd_sum_L6 N kt kf ks kp)))]) wOKx (Nat.succ_le_succ (Nat.zero_le _)) (oo_Rd_sum N ht hf hs hp hdd) (RetOK_V rfl) bk_Rd_sum (List.forall_mem_cons.mpr ⟨s_Rd_sum_6 N ht hf hs hp hdd, mz_nil⟩)) rfl
/-! METHOD PorterDoors$Reader.part()V -/
noncomputable def bl_Rd_part : List (Nat × List mO) := [(0, [o0 (.aload_n 0), o2 (.invokevirtual 72) 98 1, o0 (.istore_n 1), o0 (.aload_n 0), o2 (.getfield 18) 6 5, o0 (.sipush 257), o1 (.if_icmp .ne 42) 54, o0 (.aload_n 0), o2 (.getfield 24) 6 7, o0 (.iconst 4), o1 (.if_icmp .le 14) 34, o0 (.aload_n 0), o0 (.iconst 1), o0 (.aload_n 0), o2 (.getfield 21) 6 6, o0 (.iconst 4), o0 (.iadd), o2 (.invokevirtual 80) 100 3]),
  (34, [o0 (.aload_n 0), o2 (.getfield 60) 6 2, o0 (.iconst (-1)), o0 (.aload_n 0), o2 (.getfield 27) 6 8, o0 (.isub), o2 (.invokevirtual 148) 88 2, o0 (.aload_n 0), o2 (.invokevirtual 69) 93 1, o1 (.goto 212) 263]),
  (54, [o0 (.aload_n 0), o2 (.getfield 18) 6 5, o0 (.bipush 40), o1 (.if_icmp .ne 41) 101, o0 (.aload_n 0), o2 (.invokevirtual 151) 104 1, o1 (.ifCond .eq 196) 263, o0 (.aload_n 0), o2 (.invokevirtual 69) 93 1, o0 (.aload_n 0), o2 (.invokevirtual 108) 106 1, o0 (.aload_n 0), o0 (.bipush 41), o2 (.invokevirtual 115) 105 2, o0 (.aload_n 0), o2 (.invokevirtual 69) 93 1, o0 (.aload_n 0), o0 (.dup), o2 (.getfield 37) 6 11, o0 (.iconst 1), o0 (.isub), o2 (.putfield 37) 6 11, o1 (.goto 165) 263]),
  (101, [o0 (.iload_n 1), o0 (.bipush 23), o1 (.if_icmp .eq 9) 113, o0 (.iload_n 1), o0 (.bipush 24), o1 (.if_icmp .ne 73) 183]),
  (113, [o0 (.aload_n 0), o2 (.invokevirtual 69) 93 1, o0 (.aload_n 0), o0 (.bipush 40), o2 (.invokevirtual 115) 105 2, o0 (.aload_n 0), o2 (.invokevirtual 151) 104 1, o1 (.ifCond .eq 136) 263, o0 (.aload_n 0), o2 (.invokevirtual 69) 93 1, o0 (.aload_n 0), o2 (.invokevirtual 108) 106 1, o0 (.aload_n 0), o0 (.bipush 44), o2 (.invokevirtual 115) 105 2, o0 (.aload_n 0), o2 (.invokevirtual 69) 93 1, o0 (.aload_n 0), o2 (.invokevirtual 108) 106 1, o0 (.aload_n 0), o0 (.bipush 41), o2 (.invokevirtual 115) 105 2, o0 (.aload_n 0), o2 (.invokevirtual 69) 93 1, o0 (.aload_n 0), o2 (.getfield 60) 6 2, o0 (.iload_n 1), o2 (.invokevirtual 148) 88 2, o0 (.aload_n 0), o0 (.dup), o2 (.getfield 37) 6 11, o0 (.iconst 1), o0 (.isub), o2 (.putfield 37) 6 11, o1 (.goto 83) 263]),
  (183, [o0 (.aload_n 0), o0 (.iload_n 1), o2 (.invokevirtual 158) 108 2, o1 (.ifCond .ne 15) 203, o0 (.aload_n 0), o0 (.iconst 1), o0 (.aload_n 0), o2 (.getfield 21) 6 6, o2 (.invokevirtual 80) 100 3, o1 (.goto 63) 263]),
  (203, [o0 (.iload_n 1), o0 (.bipush 17), o1 (.if_icmp .eq 9) 215, o0 (.iload_n 1), o0 (.bipush 18), o1 (.if_icmp .ne 39) 251]),
  (215, [o0 (.aload_n 0), o2 (.invokevirtual 151) 104 1, o1 (.ifCond .eq 44) 263, o0 (.aload_n 0), o2 (.invokevirtual 69) 93 1, o0 (.aload_n 0), o2 (.invokevirtual 155) 107 1, o0 (.aload_n 0), o2 (.getfield 60) 6 2, o0 (.iload_n 1), o2 (.invokevirtual 148) 88 2, o0 (.aload_n 0), o0 (.dup), o2 (.getfield 37) 6 11, o0 (.iconst 1), o0 (.isub), o2 (.putfield 37) 6 11, o1 (.goto 15) 263]),
  (251, [o0 (.aload_n 0), o2 (.getfield 60) 6 2, o0 (.iload_n 1), o2 (.invokevirtual 148) 88 2, o0 (.aload_n 0), o2 (.invokevirtual 69) 93 1]),
  (263, [o0 (.return_)])]
theorem bk_Rd_part : okBlks q_Rd_part bl_Rd_part = true := by decide +kernel
noncomputable def oL_Rd_part {ρ : Type} (N : Nat) (kt kf ks kp : mS → Option mS) : List (Nat × (List Value → mS → (Option Value → mS → Option ρ) → Option ρ)) := [(98, C_Rd_word N), (100, C_Rd_fail N), (88, C_Pg_add N), (93, C_Rd_advance N), (104, C_Rd_enters N), (106, Cg ks), (105, C_Rd_expect N), (108, C_Rd_isAllowed N), (107, Cg kp)]
theorem oo_Rd_part {ρ : Type} {t0 : ρ} {d : Nat} {kt kf ks kp : mS → Option mS} (N : Nat) (ht : ∀ s s1, kt s = some s1 → MetM Sx R0x oFx nx d 102 [.ref 18] s none s1)  (hf : ∀ s s1, kf s = some s1 → MetM Sx R0x oFx nx d 103 [.ref 18] s none s1)  (hs : ∀ s s1, ks s = some s1 → MetM Sx R0x oFx nx d 106 [.ref 18] s none s1)  (hp : ∀ s s1, kp s = some s1 → MetM Sx R0x oFx nx d 107 [.ref 18] s none s1) (hdd : 3 ≤ d) : OrcOK Sx R0x oFx nx (d + 1) t0 (mOrc (oL_Rd_part N kt kf ks kp)) := mOrc_OK (List.forall_mem_cons.mpr ⟨cs_Rd_word N (Nat.le_trans (by decide) (Nat.succ_le_succ hdd)), List.forall_mem_cons.mpr ⟨cs_Rd_fail N (Nat.le_trans (by decide) (Nat.succ_le_succ hdd)), List.forall_mem_cons.mpr ⟨cs_Pg_add N (Nat.le_trans (by decide) (Nat.succ_le_succ hdd)), List.forall_mem_cons.mpr ⟨cs_Rd_advance N (Nat.le_trans (by decide) (Nat.succ_le_succ hdd)), List.forall_mem_cons.mpr ⟨cs_Rd_enters N (Nat.le_trans (by decide) (Nat.succ_le_succ hdd)), List.forall_mem_cons.mpr ⟨Cg_OK y_Rd_sum rfl (Nat.le_refl _) hs, List.forall_mem_cons.mpr ⟨cs_Rd_expect N (Nat.le_trans (by decide) (Nat.succ_le_succ hdd)), List.forall_mem_cons.mpr ⟨cs_Rd_isAllowed N (Nat.le_trans (by decide) (Nat.succ_le_succ hdd)), List.forall_mem_cons.mpr ⟨Cg_OK y_Rd_part rfl (Nat.le_refl _) hp, mz_nil⟩⟩⟩⟩⟩⟩⟩⟩⟩)
noncomputable def H_Rd_part_34 {ρ : Type} (k : mS → Option ρ) : mL → List Value → mS → Option ρ := fun loc st s => cR loc 0 18 (rv0 st (k s))
noncomputable def H_Rd_part_113 {ρ : Type} (k : (Int32 × mS) → Option ρ) : mL → List Value → mS → Option ρ := fun loc st s => cR loc 0 18 (li1 loc 1 fun v0 => rv0 st (k (v0, s)))
noncomputable def H_Rd_part_215 {ρ : Type} (k : (Int32 × mS) → Option ρ) : mL → List Value → mS → Option ρ := fun loc st s => cR loc 0 18 (li1 loc 1 fun v0 => rv0 st (k (v0, s)))
noncomputable def f_Rd_part_j34 (N : Nat) (kt kf ks kp : mS → Option mS) (x : mS) : Option (mS) :=
  grd (isO Sx (gO x) 5) (
  (f_Pg_add N (gO x) ((-1) - (gI x 608 18)) x).bind fun p1 =>
  (f_Rd_advance N p1).bind fun p2 =>
  some p2)
set_option maxRecDepth 100000 in
set_option maxHeartbeats 4000000 in
theorem s_Rd_part_34 (N : Nat) {s9 : mS} {d : Nat} {kt kf ks kp : mS → Option mS} (ht : ∀ s s1, kt s = some s1 → MetM Sx R0x oFx nx d 102 [.ref 18] s none s1)  (hf : ∀ s s1, kf s = some s1 → MetM Sx R0x oFx nx d 103 [.ref 18] s none s1)  (hs : ∀ s s1, ks s = some s1 → MetM Sx R0x oFx nx d 106 [.ref 18] s none s1)  (hp : ∀ s s1, kp s = some s1 → MetM Sx R0x oFx nx d 107 [.ref 18] s none s1) (hdd : 3 ≤ d) : SCd Sx R0x oFx nx (d + 1) q_Rd_part (none, s9) s9 34 (H_Rd_part_34 (f_Rd_part_j34 N kt kf ks kp)) := by
  intro loc st s
  refine G_cR (fun h0 => ?_)
  refine G_rv0 (fun e9 => ?_)
  subst e9
  refine G_sub (loc0 := [(0, .ref 18)]) (List.forall_mem_cons.mpr ⟨h0, mz_nil⟩) ?_
  exact G_eq (mEv_G (orc := mOrc (oL_Rd_part N kt kf ks kp)) (ret := rtV) (blks := bl_Rd_part) (cuts := []) wOKx (Nat.succ_le_succ (Nat.zero_le _)) (oo_Rd_part N ht hf hs hp hdd) (RetOK_V rfl) bk_Rd_part (mz_nil)) rfl
noncomputable def f_Rd_part_j113 (N : Nat) (kt kf ks kp : mS → Option mS) (x : Int32 × mS) : Option (mS) :=
  (f_Rd_advance N x.2).bind fun p1 =>
  (f_Rd_expect N 40 p1).bind fun p2 =>
  (f_Rd_enters N p2).bind fun p3 =>
  if p3.1 = 0 then
    some p3.2
  else
    (f_Rd_advance N p3.2).bind fun p4 =>
    (ks p4).bind fun p5 =>
    (f_Rd_expect N 44 p5).bind fun p6 =>
    (f_Rd_advance N p6).bind fun p7 =>
    (ks p7).bind fun p8 =>
    (f_Rd_expect N 41 p8).bind fun p9 =>
    (f_Rd_advance N p9).bind fun p10 =>
    grd (isO Sx (gO p10) 5) (
    (f_Pg_add N (gO p10) x.1 p10).bind fun p11 =>
    let s12 := sI p11 611 18 ((gI p11 611 18) - 1)
    some s12)
set_option maxRecDepth 100000 in
set_option maxHeartbeats 4000000 in
theorem s_Rd_part_113 (N : Nat) {s9 : mS} {d : Nat} {kt kf ks kp : mS → Option mS} (ht : ∀ s s1, kt s = some s1 → MetM Sx R0x oFx nx d 102 [.ref 18] s none s1)  (hf : ∀ s s1, kf s = some s1 → MetM Sx R0x oFx nx d 103 [.ref 18] s none s1)  (hs : ∀ s s1, ks s = some s1 → MetM Sx R0x oFx nx d 106 [.ref 18] s none s1)  (hp : ∀ s s1, kp s = some s1 → MetM Sx R0x oFx nx d 107 [.ref 18] s none s1) (hdd : 3 ≤ d) : SCd Sx R0x oFx nx (d + 1) q_Rd_part (none, s9) s9 113 (H_Rd_part_113 (f_Rd_part_j113 N kt kf ks kp)) := by
  intro loc st s
  refine G_cR (fun h0 => ?_)
  refine G_li (fun v0 h1 => ?_)
  refine G_rv0 (fun e9 => ?_)
  subst e9
  refine G_sub (loc0 := [(0, .ref 18), (1, .int v0)]) (List.forall_mem_cons.mpr ⟨h0, List.forall_mem_cons.mpr ⟨h1, mz_nil⟩⟩) ?_
  exact G_eq (mEv_G (orc := mOrc (oL_Rd_part N kt kf ks kp)) (ret := rtV) (blks := bl_Rd_part) (cuts := []) wOKx (Nat.succ_le_succ (Nat.zero_le _)) (oo_Rd_part N ht hf hs hp hdd) (RetOK_V rfl) bk_Rd_part (mz_nil)) rfl
noncomputable def f_Rd_part_j215 (N : Nat) (kt kf ks kp : mS → Option mS) (x : Int32 × mS) : Option (mS) :=
  (f_Rd_enters N x.2).bind fun p1 =>
  if p1.1 = 0 then
    some p1.2
  else
    (f_Rd_advance N p1.2).bind fun p2 =>
    (kp p2).bind fun p3 =>
    grd (isO Sx (gO p3) 5) (
    (f_Pg_add N (gO p3) x.1 p3).bind fun p4 =>
    let s5 := sI p4 611 18 ((gI p4 611 18) - 1)
    some s5)
set_option maxRecDepth 100000 in
set_option maxHeartbeats 4000000 in
theorem s_Rd_part_215 (N : Nat) {s9 : mS} {d : Nat} {kt kf ks kp : mS → Option mS} (ht : ∀ s s1, kt s = some s1 → MetM Sx R0x oFx nx d 102 [.ref 18] s none s1)  (hf : ∀ s s1, kf s = some s1 → MetM Sx R0x oFx nx d 103 [.ref 18] s none s1)  (hs : ∀ s s1, ks s = some s1 → MetM Sx R0x oFx nx d 106 [.ref 18] s none s1)  (hp : ∀ s s1, kp s = some s1 → MetM Sx R0x oFx nx d 107 [.ref 18] s none s1) (hdd : 3 ≤ d) : SCd Sx R0x oFx nx (d + 1) q_Rd_part (none, s9) s9 215 (H_Rd_part_215 (f_Rd_part_j215 N kt kf ks kp)) := by
  intro loc st s
  refine G_cR (fun h0 => ?_)
  refine G_li (fun v0 h1 => ?_)
  refine G_rv0 (fun e9 => ?_)
  subst e9
  refine G_sub (loc0 := [(0, .ref 18), (1, .int v0)]) (List.forall_mem_cons.mpr ⟨h0, List.forall_mem_cons.mpr ⟨h1, mz_nil⟩⟩) ?_
  exact G_eq (mEv_G (orc := mOrc (oL_Rd_part N kt kf ks kp)) (ret := rtV) (blks := bl_Rd_part) (cuts := []) wOKx (Nat.succ_le_succ (Nat.zero_le _)) (oo_Rd_part N ht hf hs hp hdd) (RetOK_V rfl) bk_Rd_part (mz_nil)) rfl
noncomputable def f_Rd_part_B (N : Nat) (kt kf ks kp : mS → Option mS) (s : mS) : Option (mS) :=
  (f_Rd_word N s).bind fun p1 =>
  if (gI p1.2 605 18) = 257 then
    if 4 < (gI p1.2 607 18) then
      (f_Rd_fail N 1 ((gI p1.2 606 18) + 4) p1.2).bind fun p12 =>
      f_Rd_part_j34 N kt kf ks kp p12
    else
      f_Rd_part_j34 N kt kf ks kp p1.2
  else
    if (gI p1.2 605 18) = 40 then
      (f_Rd_enters N p1.2).bind fun p6 =>
      if p6.1 = 0 then
        some p6.2
      else
        (f_Rd_advance N p6.2).bind fun p7 =>
        (ks p7).bind fun p8 =>
        (f_Rd_expect N 41 p8).bind fun p9 =>
        (f_Rd_advance N p9).bind fun p10 =>
        let s11 := sI p10 611 18 ((gI p10 611 18) - 1)
        some s11
    else
      if p1.1 = 23 then
        f_Rd_part_j113 N kt kf ks kp (p1.1, p1.2)
      else
        if p1.1 = 24 then
          f_Rd_part_j113 N kt kf ks kp (p1.1, p1.2)
        else
          (f_Rd_isAllowed N p1.1 p1.2).bind fun p2 =>
          if p2.1 = 0 then
            (f_Rd_fail N 1 (gI p2.2 606 18) p2.2).bind fun p5 =>
            some p5
          else
            if p1.1 = 17 then
              f_Rd_part_j215 N kt kf ks kp (p1.1, p2.2)
            else
              if p1.1 = 18 then
                f_Rd_part_j215 N kt kf ks kp (p1.1, p2.2)
              else
                grd (isO Sx (gO p2.2) 5) (
                (f_Pg_add N (gO p2.2) p1.1 p2.2).bind fun p3 =>
                (f_Rd_advance N p3).bind fun p4 =>
                some p4)
set_option maxRecDepth 100000 in
set_option maxHeartbeats 4000000 in
theorem m_Rd_part (N : Nat) {s9 : mS} {d : Nat} {kt kf ks kp : mS → Option mS} (ht : ∀ s s1, kt s = some s1 → MetM Sx R0x oFx nx d 102 [.ref 18] s none s1)  (hf : ∀ s s1, kf s = some s1 → MetM Sx R0x oFx nx d 103 [.ref 18] s none s1)  (hs : ∀ s s1, ks s = some s1 → MetM Sx R0x oFx nx d 106 [.ref 18] s none s1)  (hp : ∀ s s1, kp s = some s1 → MetM Sx R0x oFx nx d 107 [.ref 18] s none s1) (hdd : 3 ≤ d) {s : mS} (h : f_Rd_part_B N kt kf ks kp s = some s9) : MetM Sx R0x oFx nx (d + 1) 107 [.ref 18] s (none) s9 := by
  refine met_of_G (q := q_Rd_part) (t0 := s9) y_Rd_part (Nat.le_of_ble_eq_true rfl) ?_
  rw [← h]
  exact G_eq (mEv_G (orc := mOrc (oL_Rd_part N kt kf ks kp)) (ret := rtV) (blks := bl_Rd_part) (cuts := [(34, H_Rd_part_34 (f_Rd_part_j34 N kt kf ks kp)), (113, H_Rd_part_113 (f_Rd_part_j113 N kt kf ks kp)), (215, H_Rd_part_215 (f_Rd_part_j215 N kt kf ks kp))]) wOKx (Nat.succ_le_succ (Nat.zero_le _)) (oo_Rd_part N ht hf hs hp hdd) (RetOK_V rfl) bk_Rd_part (List.forall_mem_cons.mpr ⟨s_Rd_part_34 N ht hf hs hp hdd, List.forall_mem_cons.mpr ⟨s_Rd_part_113 N ht hf hs hp hdd, List.forall_mem_cons.mpr ⟨s_Rd_part_215 N ht hf hs hp hdd, mz_nil⟩⟩⟩)) rfl
/-- the four of the recursion, by how deep they may go -/
noncomputable def f_Rd_grp (N : Nat) : Nat → Nat → mS → Option mS
  | 0, _, _ => none
  | r + 1, i, s => match i with
    | 0 => f_Rd_test_B N (f_Rd_grp N r 0) (f_Rd_grp N r 1) (f_Rd_grp N r 2) (f_Rd_grp N r 3) s
    | 1 => f_Rd_fact_B N (f_Rd_grp N r 0) (f_Rd_grp N r 1) (f_Rd_grp N r 2) (f_Rd_grp N r 3) s
    | 2 => f_Rd_sum_B N (f_Rd_grp N r 0) (f_Rd_grp N r 1) (f_Rd_grp N r 2) (f_Rd_grp N r 3) s
    | _ => f_Rd_part_B N (f_Rd_grp N r 0) (f_Rd_grp N r 1) (f_Rd_grp N r 2) (f_Rd_grp N r 3) s
theorem m_Rd_grp (N : Nat) : ∀ r : Nat, (∀ s s1, f_Rd_grp N r 0 s = some s1 → MetM Sx R0x oFx nx (3 + r) 102 [.ref 18] s none s1) ∧ (∀ s s1, f_Rd_grp N r 1 s = some s1 → MetM Sx R0x oFx nx (3 + r) 103 [.ref 18] s none s1) ∧ (∀ s s1, f_Rd_grp N r 2 s = some s1 → MetM Sx R0x oFx nx (3 + r) 106 [.ref 18] s none s1) ∧ (∀ s s1, f_Rd_grp N r 3 s = some s1 → MetM Sx R0x oFx nx (3 + r) 107 [.ref 18] s none s1)
  | 0 => by refine ⟨?_, ?_, ?_, ?_⟩ <;> intro s s1 h <;> exact absurd (show none = some s1 from h) (fun e => by cases e)
  | r + 1 => by
    obtain ⟨ht, hf, hs, hp⟩ := m_Rd_grp N r
    exact ⟨fun s s1 h => m_Rd_test N ht hf hs hp (Nat.le_add_right _ _) h, fun s s1 h => m_Rd_fact N ht hf hs hp (Nat.le_add_right _ _) h, fun s s1 h => m_Rd_sum N ht hf hs hp (Nat.le_add_right _ _) h, fun s s1 h => m_Rd_part N ht hf hs hp (Nat.le_add_right _ _) h⟩
noncomputable def f_Rd_test (N : Nat) (s : mS) : Option mS := f_Rd_grp N 100 0 s
noncomputable def C_Rd_test {ρ : Type} (N : Nat) : List Value → mS → (Option Value → mS → Option ρ) → Option ρ := fun vs s kk => sR vs 18 fun r0 => rv0 r0 ((f_Rd_test N s).bind fun p => kk none p)
theorem cs_Rd_test {ρ : Type} {t0 : ρ} {d : Nat} (N : Nat) (hd : 103 + 1 ≤ d) : CallOK Sx R0x oFx nx d t0 102 (C_Rd_test N) := by
  intro vs s kk h0
  obtain ⟨r0, rfl, h1⟩ := sR_some h0
  obtain ⟨rfl, h2⟩ := rv0_some h1
  obtain ⟨p, hp, hk⟩ := Option.bind_eq_some_iff.mp h2
  exact ⟨_, _, _, hd, (m_Rd_grp N 100).1 _ _ hp, hk, fun qy hq hf => by cases y_Rd_test.symm.trans hq; exact ⟨_, _, rfl, rfl⟩⟩
noncomputable def f_Rd_fact (N : Nat) (s : mS) : Option mS := f_Rd_grp N 100 1 s
noncomputable def C_Rd_fact {ρ : Type} (N : Nat) : List Value → mS → (Option Value → mS → Option ρ) → Option ρ := fun vs s kk => sR vs 18 fun r0 => rv0 r0 ((f_Rd_fact N s).bind fun p => kk none p)
theorem cs_Rd_fact {ρ : Type} {t0 : ρ} {d : Nat} (N : Nat) (hd : 103 + 1 ≤ d) : CallOK Sx R0x oFx nx d t0 103 (C_Rd_fact N) := by
  intro vs s kk h0
  obtain ⟨r0, rfl, h1⟩ := sR_some h0
  obtain ⟨rfl, h2⟩ := rv0_some h1
  obtain ⟨p, hp, hk⟩ := Option.bind_eq_some_iff.mp h2
  exact ⟨_, _, _, hd, (m_Rd_grp N 100).2.1 _ _ hp, hk, fun qy hq hf => by cases y_Rd_fact.symm.trans hq; exact ⟨_, _, rfl, rfl⟩⟩
noncomputable def f_Rd_sum (N : Nat) (s : mS) : Option mS := f_Rd_grp N 100 2 s
noncomputable def C_Rd_sum {ρ : Type} (N : Nat) : List Value → mS → (Option Value → mS → Option ρ) → Option ρ := fun vs s kk => sR vs 18 fun r0 => rv0 r0 ((f_Rd_sum N s).bind fun p => kk none p)
theorem cs_Rd_sum {ρ : Type} {t0 : ρ} {d : Nat} (N : Nat) (hd : 103 + 1 ≤ d) : CallOK Sx R0x oFx nx d t0 106 (C_Rd_sum N) := by
  intro vs s kk h0
  obtain ⟨r0, rfl, h1⟩ := sR_some h0
  obtain ⟨rfl, h2⟩ := rv0_some h1
  obtain ⟨p, hp, hk⟩ := Option.bind_eq_some_iff.mp h2
  exact ⟨_, _, _, hd, (m_Rd_grp N 100).2.2.1 _ _ hp, hk, fun qy hq hf => by cases y_Rd_sum.symm.trans hq; exact ⟨_, _, rfl, rfl⟩⟩
noncomputable def f_Rd_part (N : Nat) (s : mS) : Option mS := f_Rd_grp N 100 3 s
noncomputable def C_Rd_part {ρ : Type} (N : Nat) : List Value → mS → (Option Value → mS → Option ρ) → Option ρ := fun vs s kk => sR vs 18 fun r0 => rv0 r0 ((f_Rd_part N s).bind fun p => kk none p)
theorem cs_Rd_part {ρ : Type} {t0 : ρ} {d : Nat} (N : Nat) (hd : 103 + 1 ≤ d) : CallOK Sx R0x oFx nx d t0 107 (C_Rd_part N) := by
  intro vs s kk h0
  obtain ⟨r0, rfl, h1⟩ := sR_some h0
  obtain ⟨rfl, h2⟩ := rv0_some h1
  obtain ⟨p, hp, hk⟩ := Option.bind_eq_some_iff.mp h2
  exact ⟨_, _, _, hd, (m_Rd_grp N 100).2.2.2 _ _ hp, hk, fun qy hq hf => by cases y_Rd_part.symm.trans hq; exact ⟨_, _, rfl, rfl⟩⟩
/-! METHOD PorterDoors$Reader.statement(I)V -/
set_option maxRecDepth 20000 in
noncomputable def q_Rd_statement : mI := (⟨"PorterDoors$Reader", "statement", "(I)V"⟩, prog_7_method_4_code, 5, none, 6, 564, 132, 1, 1, 562, 563)
theorem y_Rd_statement : mT[97]? = some q_Rd_statement := mT_at_2 (k := 17) rfl
noncomputable def bl_Rd_statement : List (Nat × List mO) := [(0, [o0 (.aload_n 0), o2 (.invokevirtual 72) 98 1, o0 (.istore_n 2), o0 (.iload_n 1), o0 (.bipush 60), o1 (.if_icmp .ge 11) 19, o0 (.aload_n 0), o0 (.iload_n 2), o2 (.invokevirtual 76) 99 2, o1 (.ifCond .eq 15) 31]),
  (19, [o0 (.aload_n 0), o0 (.iconst 5), o0 (.aload_n 0), o2 (.getfield 21) 6 6, o2 (.invokevirtual 80) 100 3, o1 (.goto 43) 71]),
  (31, [o0 (.iload_n 1), o1 (.ifCond .ne 7) 39, o0 (.iconst 1), o1 (.goto 4) 40]),
  (39, [o0 (.iconst 0)]),
  (40, [o0 (.iload_n 2), o1 (.ifCond .ne 7) 48, o0 (.iconst 1), o1 (.goto 4) 49]),
  (48, [o0 (.iconst 0)]),
  (49, [o1 (.if_icmp .ne 13) 62, o0 (.iload_n 2), o1 (.ifCond .lt 9) 62, o0 (.iload_n 2), o0 (.bipush 7), o1 (.if_icmp .le 12) 71]),
  (62, [o0 (.aload_n 0), o0 (.iconst 1), o0 (.aload_n 0), o2 (.getfield 21) 6 6, o2 (.invokevirtual 80) 100 3]),
  (71, [o0 (.aload_n 0), o2 (.getfield 40) 6 12, o1 (.ifCond .eq 4) 79, o0 (.return_)]),
  (79, [o0 (.aload_n 0), o2 (.invokevirtual 69) 93 1, o0 (.aload_n 0), o2 (.getfield 60) 6 2, o2 (.getfield 86) 5 1, o0 (.istore_n 3), o0 (.iload_n 2), oS (.lookupswitch 136 #[(1, 36), (5, 73), (6, 104)]) 228 [128, 165, 196]]),
  (128, [o0 (.aload_n 0), o2 (.getfield 50) 6 1, o2 (.getfield 89) 4 1, o0 (.istore 4), o0 (.aload_n 0), o2 (.invokevirtual 92) 101 1, o0 (.aload_n 0), o0 (.sipush 9728), o2 (.putfield 34) 6 10, o0 (.aload_n 0), o2 (.invokevirtual 95) 102 1, o0 (.aload_n 0), o2 (.getfield 50) 6 1, o0 (.iload 4), o0 (.iload_n 3), o2 (.invokevirtual 98) 81 3, o1 (.goto 71) 233]),
  (165, [o0 (.aload_n 0), o2 (.getfield 50) 6 1, o0 (.iconst 1), o2 (.putfield 100) 4 11, o0 (.aload_n 0), oC (.ldc 104) (.int 61440), o2 (.putfield 34) 6 10, o0 (.aload_n 0), o2 (.invokevirtual 95) 102 1, o0 (.aload_n 0), o2 (.getfield 50) 6 1, o0 (.bipush 10), o0 (.iload_n 3), o2 (.invokevirtual 98) 81 3, o1 (.goto 40) 233]),
  (196, [o0 (.aload_n 0), o2 (.getfield 50) 6 1, o0 (.iconst 1), o2 (.putfield 105) 4 12, o0 (.aload_n 0), o0 (.sipush 11784), o2 (.putfield 34) 6 10, o0 (.aload_n 0), o2 (.invokevirtual 108) 106 1, o0 (.aload_n 0), o2 (.getfield 50) 6 1, o0 (.bipush 11), o0 (.iload_n 3), o2 (.invokevirtual 98) 81 3, o1 (.goto 8) 233]),
  (228, [o0 (.aload_n 0), o0 (.iload_n 2), o2 (.invokevirtual 111) 109 2]),
  (233, [o0 (.aload_n 0), o0 (.bipush 59), o2 (.invokevirtual 115) 105 2, o0 (.aload_n 0), o2 (.invokevirtual 69) 93 1, o0 (.return_)])]
theorem bk_Rd_statement : okBlks q_Rd_statement bl_Rd_statement = true := by decide +kernel
noncomputable def oL_Rd_statement {ρ : Type} (N : Nat) : List (Nat × (List Value → mS → (Option Value → mS → Option ρ) → Option ρ)) := [(98, C_Rd_word N), (99, C_Rd_isOneTooMany N), (100, C_Rd_fail N), (93, C_Rd_advance N), (101, C_Rd_name N), (102, C_Rd_test N), (81, C_Pl_place N), (106, C_Rd_sum N), (109, C_Rd_numbers N), (105, C_Rd_expect N)]
theorem oo_Rd_statement {ρ : Type} {t0 : ρ} (N : Nat) : OrcOK Sx R0x oFx nx 104 t0 (mOrc (oL_Rd_statement N)) := mOrc_OK (List.forall_mem_cons.mpr ⟨cs_Rd_word N (by decide), List.forall_mem_cons.mpr ⟨cs_Rd_isOneTooMany N (by decide), List.forall_mem_cons.mpr ⟨cs_Rd_fail N (by decide), List.forall_mem_cons.mpr ⟨cs_Rd_advance N (by decide), List.forall_mem_cons.mpr ⟨cs_Rd_name N (by decide), List.forall_mem_cons.mpr ⟨cs_Rd_test N (by decide), List.forall_mem_cons.mpr ⟨cs_Pl_place N (by decide), List.forall_mem_cons.mpr ⟨cs_Rd_sum N (by decide), List.forall_mem_cons.mpr ⟨cs_Rd_numbers N (by decide), List.forall_mem_cons.mpr ⟨cs_Rd_expect N (by decide), mz_nil⟩⟩⟩⟩⟩⟩⟩⟩⟩⟩)
noncomputable def H_Rd_statement_19 {ρ : Type} (k : (Int32 × mS) → Option ρ) : mL → List Value → mS → Option ρ := fun loc st s => cR loc 0 18 (li1 loc 2 fun v0 => rv0 st (k (v0, s)))
noncomputable def H_Rd_statement_49 {ρ : Type} (k : (Int32 × Int32 × Int32 × mS) → Option ρ) : mL → List Value → mS → Option ρ := fun loc st s => cR loc 0 18 (li1 loc 2 fun v0 => pi1 st fun w1 r0 => pi1 r0 fun w0 r1 => rv0 r1 (k (v0, w0, w1, s)))
noncomputable def H_Rd_statement_62 {ρ : Type} (k : (Int32 × mS) → Option ρ) : mL → List Value → mS → Option ρ := fun loc st s => cR loc 0 18 (li1 loc 2 fun v0 => rv0 st (k (v0, s)))
noncomputable def H_Rd_statement_71 {ρ : Type} (k : (Int32 × mS) → Option ρ) : mL → List Value → mS → Option ρ := fun loc st s => cR loc 0 18 (li1 loc 2 fun v0 => rv0 st (k (v0, s)))
noncomputable def H_Rd_statement_233 {ρ : Type} (k : mS → Option ρ) : mL → List Value → mS → Option ρ := fun loc st s => cR loc 0 18 (rv0 st (k s))
noncomputable def f_Rd_statement_j233 (N : Nat) (x : mS) : Option (mS) :=
  (f_Rd_expect N 59 x).bind fun p1 =>
  (f_Rd_advance N p1).bind fun p2 =>
  some p2
set_option maxRecDepth 100000 in
set_option maxHeartbeats 4000000 in
theorem s_Rd_statement_233 (N : Nat) {s9 : mS} : SCd Sx R0x oFx nx 104 q_Rd_statement (none, s9) s9 233 (H_Rd_statement_233 (f_Rd_statement_j233 N)) := by
  intro loc st s
  refine G_cR (fun h0 => ?_)
  refine G_rv0 (fun e9 => ?_)
  subst e9
  refine G_sub (loc0 := [(0, .ref 18)]) (List.forall_mem_cons.mpr ⟨h0, mz_nil⟩) ?_
  exact G_eq (mEv_G (orc := mOrc (oL_Rd_statement N)) (ret := rtV) (blks := bl_Rd_statement) (cuts := []) wOKx (by decide) (oo_Rd_statement N) (RetOK_V rfl) bk_Rd_statement (mz_nil)) rfl
noncomputable def f_Rd_statement_j71 (N : Nat) (x : Int32 × mS) : Option (mS) :=
  if (gI x.2 612 18) = 0 then
    (f_Rd_advance N x.2).bind fun p1 =>
    grd (isO Sx (gO p1) 5) (
    if x.1 = 1 then
      (f_Rd_name N p1).bind fun p2 =>
      let s3 := sI p2 610 18 9728
      (f_Rd_test N s3).bind fun p4 =>
      (f_Pl_place N 9 (gI p1 401 9) (gI p1 501 (gO p1)) p4).bind fun p5 =>
      f_Rd_statement_j233 N p5
    else if x.1 = 5 then
      let s6 := sI p1 411 9 1
      let s7 := sI s6 610 18 61440
      (f_Rd_test N s7).bind fun p8 =>
      (f_Pl_place N 9 10 (gI p1 501 (gO p1)) p8).bind fun p9 =>
      f_Rd_statement_j233 N p9
    else if x.1 = 6 then
      let s10 := sI p1 412 9 1
      let s11 := sI s10 610 18 11784
      (f_Rd_sum N s11).bind fun p12 =>
      (f_Pl_place N 9 11 (gI p1 501 (gO p1)) p12).bind fun p13 =>
      f_Rd_statement_j233 N p13
    else
      (f_Rd_numbers N x.1 p1).bind fun p14 =>
      f_Rd_statement_j233 N p14)
  else
    some x.2
set_option maxRecDepth 100000 in
set_option maxHeartbeats 4000000 in
theorem s_Rd_statement_71 (N : Nat) {s9 : mS} : SCd Sx R0x oFx nx 104 q_Rd_statement (none, s9) s9 71 (H_Rd_statement_71 (f_Rd_statement_j71 N)) := by
  intro loc st s
  refine G_cR (fun h0 => ?_)
  refine G_li (fun v0 h2 => ?_)
  refine G_rv0 (fun e9 => ?_)
  subst e9
  refine G_sub (loc0 := [(0, .ref 18), (2, .int v0)]) (List.forall_mem_cons.mpr ⟨h0, List.forall_mem_cons.mpr ⟨h2, mz_nil⟩⟩) ?_
  exact G_eq (mEv_G (orc := mOrc (oL_Rd_statement N)) (ret := rtV) (blks := bl_Rd_statement) (cuts := [(233, H_Rd_statement_233 (f_Rd_statement_j233 N))]) wOKx (by decide) (oo_Rd_statement N) (RetOK_V rfl) bk_Rd_statement (List.forall_mem_cons.mpr ⟨s_Rd_statement_233 N, mz_nil⟩)) rfl
noncomputable def f_Rd_statement_j19 (N : Nat) (x : Int32 × mS) : Option (mS) :=
  (f_Rd_fail N 5 (gI x.2 606 18) x.2).bind fun p1 =>
  f_Rd_statement_j71 N (x.1, p1)
set_option maxRecDepth 100000 in
set_option maxHeartbeats 4000000 in
theorem s_Rd_statement_19 (N : Nat) {s9 : mS} : SCd Sx R0x oFx nx 104 q_Rd_statement (none, s9) s9 19 (H_Rd_statement_19 (f_Rd_statement_j19 N)) := by
  intro loc st s
  refine G_cR (fun h0 => ?_)
  refine G_li (fun v0 h2 => ?_)
  refine G_rv0 (fun e9 => ?_)
  subst e9
  refine G_sub (loc0 := [(0, .ref 18), (2, .int v0)]) (List.forall_mem_cons.mpr ⟨h0, List.forall_mem_cons.mpr ⟨h2, mz_nil⟩⟩) ?_
  exact G_eq (mEv_G (orc := mOrc (oL_Rd_statement N)) (ret := rtV) (blks := bl_Rd_statement) (cuts := [(71, H_Rd_statement_71 (f_Rd_statement_j71 N))]) wOKx (by decide) (oo_Rd_statement N) (RetOK_V rfl) bk_Rd_statement (List.forall_mem_cons.mpr ⟨s_Rd_statement_71 N, mz_nil⟩)) rfl
noncomputable def f_Rd_statement_j62 (N : Nat) (x : Int32 × mS) : Option (mS) :=
  (f_Rd_fail N 1 (gI x.2 606 18) x.2).bind fun p1 =>
  f_Rd_statement_j71 N (x.1, p1)
set_option maxRecDepth 100000 in
set_option maxHeartbeats 4000000 in
theorem s_Rd_statement_62 (N : Nat) {s9 : mS} : SCd Sx R0x oFx nx 104 q_Rd_statement (none, s9) s9 62 (H_Rd_statement_62 (f_Rd_statement_j62 N)) := by
  intro loc st s
  refine G_cR (fun h0 => ?_)
  refine G_li (fun v0 h2 => ?_)
  refine G_rv0 (fun e9 => ?_)
  subst e9
  refine G_sub (loc0 := [(0, .ref 18), (2, .int v0)]) (List.forall_mem_cons.mpr ⟨h0, List.forall_mem_cons.mpr ⟨h2, mz_nil⟩⟩) ?_
  exact G_eq (mEv_G (orc := mOrc (oL_Rd_statement N)) (ret := rtV) (blks := bl_Rd_statement) (cuts := [(71, H_Rd_statement_71 (f_Rd_statement_j71 N))]) wOKx (by decide) (oo_Rd_statement N) (RetOK_V rfl) bk_Rd_statement (List.forall_mem_cons.mpr ⟨s_Rd_statement_71 N, mz_nil⟩)) rfl
noncomputable def f_Rd_statement_j49 (N : Nat) (x : Int32 × Int32 × Int32 × mS) : Option (mS) :=
  if x.2.1 = x.2.2.1 then
    if x.1 < 0 then
      f_Rd_statement_j62 N (x.1, x.2.2.2)
    else
      if 7 < x.1 then
        f_Rd_statement_j62 N (x.1, x.2.2.2)
      else
        f_Rd_statement_j71 N (x.1, x.2.2.2)
  else
    f_Rd_statement_j62 N (x.1, x.2.2.2)
set_option maxRecDepth 100000 in
set_option maxHeartbeats 4000000 in
theorem s_Rd_statement_49 (N : Nat) {s9 : mS} : SCd Sx R0x oFx nx 104 q_Rd_statement (none, s9) s9 49 (H_Rd_statement_49 (f_Rd_statement_j49 N)) := by
  intro loc st s
  refine G_cR (fun h0 => ?_)
  refine G_li (fun v0 h2 => ?_)
  refine G_pi (fun w1 r0 e0 => ?_)
  refine G_pi (fun w0 r1 e1 => ?_)
  refine G_rv0 (fun e9 => ?_)
  subst e9
  subst e1
  subst e0
  refine G_sub (loc0 := [(0, .ref 18), (2, .int v0)]) (List.forall_mem_cons.mpr ⟨h0, List.forall_mem_cons.mpr ⟨h2, mz_nil⟩⟩) ?_
  exact G_eq (mEv_G (orc := mOrc (oL_Rd_statement N)) (ret := rtV) (blks := bl_Rd_statement) (cuts := [(62, H_Rd_statement_62 (f_Rd_statement_j62 N)), (71, H_Rd_statement_71 (f_Rd_statement_j71 N))]) wOKx (by decide) (oo_Rd_statement N) (RetOK_V rfl) bk_Rd_statement (List.forall_mem_cons.mpr ⟨s_Rd_statement_62 N, List.forall_mem_cons.mpr ⟨s_Rd_statement_71 N, mz_nil⟩⟩)) rfl
noncomputable def f_Rd_statement (N : Nat) (a1 : Int32) (s : mS) : Option (mS) :=
  (f_Rd_word N s).bind fun p1 =>
  if a1 < 60 then
    (f_Rd_isOneTooMany N p1.1 p1.2).bind fun p2 =>
    if p2.1 = 0 then
      if a1 = 0 then
        if p1.1 = 0 then
          f_Rd_statement_j49 N (p1.1, 1, 1, p2.2)
        else
          f_Rd_statement_j49 N (p1.1, 1, 0, p2.2)
      else
        if p1.1 = 0 then
          f_Rd_statement_j49 N (p1.1, 0, 1, p2.2)
        else
          f_Rd_statement_j49 N (p1.1, 0, 0, p2.2)
    else
      f_Rd_statement_j19 N (p1.1, p2.2)
  else
    f_Rd_statement_j19 N (p1.1, p1.2)
set_option maxRecDepth 100000 in
set_option maxHeartbeats 4000000 in
theorem m_Rd_statement (N : Nat) {s9 : mS} (a1 : Int32) {s : mS} (h : f_Rd_statement N a1 s = some s9) : MetM Sx R0x oFx nx 104 97 [.ref 18, .int a1] s (none) s9 := by
  refine met_of_G (q := q_Rd_statement) (t0 := s9) y_Rd_statement (Nat.le_of_ble_eq_true rfl) ?_
  rw [← h]
  exact G_eq (mEv_G (orc := mOrc (oL_Rd_statement N)) (ret := rtV) (blks := bl_Rd_statement) (cuts := [(19, H_Rd_statement_19 (f_Rd_statement_j19 N)), (49, H_Rd_statement_49 (f_Rd_statement_j49 N))]) wOKx (by decide) (oo_Rd_statement N) (RetOK_V rfl) bk_Rd_statement (List.forall_mem_cons.mpr ⟨s_Rd_statement_19 N, List.forall_mem_cons.mpr ⟨s_Rd_statement_49 N, mz_nil⟩⟩)) rfl
noncomputable def C_Rd_statement {ρ : Type} (N : Nat) : List Value → mS → (Option Value → mS → Option ρ) → Option ρ := fun vs s kk => sR vs 18 fun r0 => pi1 r0 fun a1 r1 => rv0 r1 ((f_Rd_statement N a1 s).bind fun p => kk none p)
theorem cs_Rd_statement {ρ : Type} {t0 : ρ} {d : Nat} (N : Nat) (hd : 104 + 1 ≤ d) : CallOK Sx R0x oFx nx d t0 97 (C_Rd_statement N) := by
  intro vs s kk h0
  obtain ⟨r0, rfl, h1⟩ := sR_some h0
  obtain ⟨a1, r1, rfl, h2⟩ := pi1_some h1
  obtain ⟨rfl, h3⟩ := rv0_some h2
  obtain ⟨p, hp, hk⟩ := Option.bind_eq_some_iff.mp h3
  exact ⟨_, _, _, hd, m_Rd_statement N a1 hp, hk, fun qy hq hf => by cases y_Rd_statement.symm.trans hq; exact ⟨_, _, rfl, rfl⟩⟩
/-! METHOD PorterDoors.corridor()I -/
set_option maxRecDepth 20000 in
noncomputable def q_X_corridor : mI := (⟨"PorterDoors", "corridor", "()I"⟩, prog_1_method_4_code, 2, (some .int), 0, 514, 129, 1, 0, 512, 513)
theorem y_X_corridor : mT[5]? = some q_X_corridor := mT_at_0 (k := 5) rfl
noncomputable def bl_X_corridor : List (Nat × List mO) := [(0, [o0 (.aload_n 0), o2 (.getfield 24) 0 3, o2 (.invokevirtual 114) 80 1, o0 (.aload_n 0), o2 (.getfield 39) 0 5, o0 (.aload_n 0), o2 (.invokevirtual 117) 6 1, o0 (.aload_n 0), o2 (.getfield 24) 0 3, o2 (.getfield 121) 4 7, o2 (.invokevirtual 124) 92 3, o0 (.iconst 0), o0 (.istore_n 1)]),
  (27, [o0 (.iload_n 1), o0 (.bipush 60), o1 (.if_icmp .gt 31) 61, o0 (.iload_n 1), o1 (.ifCond .eq 13) 47, o0 (.aload_n 0), o2 (.getfield 39) 0 5, o2 (.invokevirtual 128) 96 1, o1 (.ifCond .eq 17) 61]),
  (47, [o0 (.aload_n 0), o2 (.getfield 39) 0 5, o0 (.iload_n 1), o2 (.invokevirtual 132) 97 2, o0 (.iinc 1 1), o1 (.goto (-31)) 27]),
  (61, [o0 (.aload_n 0), o2 (.getfield 39) 0 5, o2 (.getfield 135) 6 12, o1 (.ifCond .eq 11) 79, o0 (.aload_n 0), o0 (.iconst 1), o2 (.invokevirtual 106) 2 2, o0 (.pop), o0 (.iconst (-1)), o0 (.ireturn)]),
  (79, [o0 (.aload_n 0), o2 (.getfield 20) 0 2, o0 (.aload_n 0), o2 (.getfield 24) 0 3, o2 (.invokevirtual 138) 85 2, o0 (.aload_n 0), o2 (.getfield 46) 0 6, o0 (.aload_n 0), o2 (.getfield 20) 0 2, o2 (.invokevirtual 142) 66 2, o0 (.aload_n 0), o2 (.getfield 56) 0 8, o2 (.invokevirtual 144) 76 1, o0 (.aload_n 0), o2 (.getfield 90) 0 12, o2 (.invokevirtual 147) 121 1, o0 (.aload_n 0), o2 (.invokevirtual 150) 7 1, o0 (.iload_n 1), o0 (.ireturn)])]
theorem bk_X_corridor : okBlks q_X_corridor bl_X_corridor = true := by decide +kernel
noncomputable def oL_X_corridor {ρ : Type} (N : Nat) : List (Nat × (List Value → mS → (Option Value → mS → Option ρ) → Option ρ)) := [(80, C_Pl_clear N), (6, C_X_takeTape N), (92, C_Rd_begin N), (96, C_Rd_hasMore N), (97, C_Rd_statement N), (2, C_X_refuse N), (85, C_Pl_copy N), (66, C_Ha_begin N), (76, C_Pa_forget N), (121, C_Se_forgetSeen N), (7, C_X_forgetReckoned N)]
theorem oo_X_corridor {ρ : Type} {t0 : ρ} (N : Nat) : OrcOK Sx R0x oFx nx 105 t0 (mOrc (oL_X_corridor N)) := mOrc_OK (List.forall_mem_cons.mpr ⟨cs_Pl_clear N (by decide), List.forall_mem_cons.mpr ⟨cs_X_takeTape N (by decide), List.forall_mem_cons.mpr ⟨cs_Rd_begin N (by decide), List.forall_mem_cons.mpr ⟨cs_Rd_hasMore N (by decide), List.forall_mem_cons.mpr ⟨cs_Rd_statement N (by decide), List.forall_mem_cons.mpr ⟨cs_X_refuse N (by decide), List.forall_mem_cons.mpr ⟨cs_Pl_copy N (by decide), List.forall_mem_cons.mpr ⟨cs_Ha_begin N (by decide), List.forall_mem_cons.mpr ⟨cs_Pa_forget N (by decide), List.forall_mem_cons.mpr ⟨cs_Se_forgetSeen N (by decide), List.forall_mem_cons.mpr ⟨cs_X_forgetReckoned N (by decide), mz_nil⟩⟩⟩⟩⟩⟩⟩⟩⟩⟩⟩)
noncomputable def H_X_corridor_27 {ρ : Type} (k : (Int32 × mS) → Option ρ) : mL → List Value → mS → Option ρ := fun loc st s => cR loc 0 0 (li1 loc 1 fun v0 => rv0 st (k (v0, s)))
noncomputable def H_X_corridor_47 {ρ : Type} (k : (Int32 × mS) → Option ρ) : mL → List Value → mS → Option ρ := fun loc st s => cR loc 0 0 (li1 loc 1 fun v0 => rv0 st (k (v0, s)))
noncomputable def H_X_corridor_61 {ρ : Type} (k : (Int32 × mS) → Option ρ) : mL → List Value → mS → Option ρ := fun loc st s => cR loc 0 0 (li1 loc 1 fun v0 => rv0 st (k (v0, s)))
noncomputable def f_X_corridor_j47 (N : Nat) (k27 : (Int32 × mS) → Option (Int32 × mS)) (x : Int32 × mS) : Option (Int32 × mS) :=
  (f_Rd_statement N x.1 x.2).bind fun p1 =>
  k27 ((x.1 + 1), p1)
set_option maxRecDepth 100000 in
set_option maxHeartbeats 4000000 in
theorem s_X_corridor_47 (N : Nat) {x9 : Int32} {s9 : mS} {k27 : (Int32 × mS) → Option (Int32 × mS)} (hk27 : SCd Sx R0x oFx nx 105 q_X_corridor (some (.int x9), s9) (x9, s9) 27 (H_X_corridor_27 k27)) : SCd Sx R0x oFx nx 105 q_X_corridor (some (.int x9), s9) (x9, s9) 47 (H_X_corridor_47 (f_X_corridor_j47 N k27)) := by
  intro loc st s
  refine G_cR (fun h0 => ?_)
  refine G_li (fun v0 h1 => ?_)
  refine G_rv0 (fun e9 => ?_)
  subst e9
  refine G_sub (loc0 := [(0, .ref 0), (1, .int v0)]) (List.forall_mem_cons.mpr ⟨h0, List.forall_mem_cons.mpr ⟨h1, mz_nil⟩⟩) ?_
  exact G_eq (mEv_G (orc := mOrc (oL_X_corridor N)) (ret := rtI) (blks := bl_X_corridor) (cuts := [(27, H_X_corridor_27 k27)]) wOKx (by decide) (oo_X_corridor N) (RetOK_I rfl) bk_X_corridor (List.forall_mem_cons.mpr ⟨hk27, mz_nil⟩)) rfl
noncomputable def f_X_corridor_j61 (N : Nat) (x : Int32 × mS) : Option (Int32 × mS) :=
  if (gI x.2 612 18) = 0 then
    (f_Pl_copy N 2 9 x.2).bind fun p1 =>
    (f_Ha_begin N 19 2 p1).bind fun p2 =>
    (f_Pa_forget N p2).bind fun p3 =>
    (f_Se_forgetSeen N p3).bind fun p4 =>
    (f_X_forgetReckoned N p4).bind fun p5 =>
    some (x.1, p5)
  else
    (f_X_refuse N 1 x.2).bind fun p6 =>
    some ((-1), p6.2)
set_option maxRecDepth 100000 in
set_option maxHeartbeats 4000000 in
theorem s_X_corridor_61 (N : Nat) {x9 : Int32} {s9 : mS} : SCd Sx R0x oFx nx 105 q_X_corridor (some (.int x9), s9) (x9, s9) 61 (H_X_corridor_61 (f_X_corridor_j61 N)) := by
  intro loc st s
  refine G_cR (fun h0 => ?_)
  refine G_li (fun v0 h1 => ?_)
  refine G_rv0 (fun e9 => ?_)
  subst e9
  refine G_sub (loc0 := [(0, .ref 0), (1, .int v0)]) (List.forall_mem_cons.mpr ⟨h0, List.forall_mem_cons.mpr ⟨h1, mz_nil⟩⟩) ?_
  exact G_eq (mEv_G (orc := mOrc (oL_X_corridor N)) (ret := rtI) (blks := bl_X_corridor) (cuts := []) wOKx (by decide) (oo_X_corridor N) (RetOK_I rfl) bk_X_corridor (mz_nil)) rfl
noncomputable def f_X_corridor_L27 (N : Nat) (k27 : (Int32 × mS) → Option (Int32 × mS)) (x : Int32 × mS) : Option (Int32 × mS) :=
  if 60 < x.1 then
    f_X_corridor_j61 N (x.1, x.2)
  else
    if x.1 = 0 then
      f_X_corridor_j47 N k27 (x.1, x.2)
    else
      (f_Rd_hasMore N x.2).bind fun p1 =>
      if p1.1 = 0 then
        f_X_corridor_j61 N (x.1, p1.2)
      else
        f_X_corridor_j47 N k27 (x.1, p1.2)
set_option maxRecDepth 100000 in
set_option maxHeartbeats 4000000 in
theorem t_X_corridor_27 (N : Nat) {x9 : Int32} {s9 : mS} {k27 : (Int32 × mS) → Option (Int32 × mS)} (hk27 : SCd Sx R0x oFx nx 105 q_X_corridor (some (.int x9), s9) (x9, s9) 27 (H_X_corridor_27 k27)) : SCd Sx R0x oFx nx 105 q_X_corridor (some (.int x9), s9) (x9, s9) 27 (H_X_corridor_27 (f_X_corridor_L27 N k27)) := by
  intro loc st s
  refine G_cR (fun h0 => ?_)
  refine G_li (fun v0 h1 => ?_)
  refine G_rv0 (fun e9 => ?_)
  subst e9
  refine G_sub (loc0 := [(0, .ref 0), (1, .int v0)]) (List.forall_mem_cons.mpr ⟨h0, List.forall_mem_cons.mpr ⟨h1, mz_nil⟩⟩) ?_
  exact G_eq (mEv_G (orc := mOrc (oL_X_corridor N)) (ret := rtI) (blks := bl_X_corridor) (cuts := [(47, H_X_corridor_47 (f_X_corridor_j47 N k27)), (61, H_X_corridor_61 (f_X_corridor_j61 N))]) wOKx (by decide) (oo_X_corridor N) (RetOK_I rfl) bk_X_corridor (List.forall_mem_cons.mpr ⟨s_X_corridor_47 N hk27, List.forall_mem_cons.mpr ⟨s_X_corridor_61 N, mz_nil⟩⟩)) rfl
theorem s_X_corridor_27 (N : Nat) {x9 : Int32} {s9 : mS} : SCd Sx R0x oFx nx 105 q_X_corridor (some (.int x9), s9) (x9, s9) 27 (H_X_corridor_27 (mfix N (f_X_corridor_L27 N))) := by
  refine mfix_SC (H := H_X_corridor_27) (fun loc st s => ?_) (fun k hk => t_X_corridor_27 N hk) N
  refine G_cR (fun h0 => ?_)
  refine G_li (fun v0 h1 => ?_)
  refine G_rv0 (fun e9 => ?_)
  subst e9
  exact G_none
noncomputable def f_X_corridor (N : Nat) (s : mS) : Option (Int32 × mS) :=
  (f_Pl_clear N 9 s).bind fun p1 =>
  (f_X_takeTape N p1).bind fun p2 =>
  (f_Rd_begin N p2.1 12 p2.2).bind fun p3 =>
  mfix N (f_X_corridor_L27 N) (0, p3)
set_option maxRecDepth 100000 in
set_option maxHeartbeats 4000000 in
theorem m_X_corridor (N : Nat) {x9 : Int32} {s9 : mS} {s : mS} (h : f_X_corridor N s = some (x9, s9)) : MetM Sx R0x oFx nx 105 5 [.ref 0] s (some (.int x9)) s9 := by
  refine met_of_G (q := q_X_corridor) (t0 := (x9, s9)) y_X_corridor (Nat.le_of_ble_eq_true rfl) ?_
  rw [← h]
  exact G_eq (mEv_G (orc := mOrc (oL_X_corridor N)) (ret := rtI) (blks := bl_X_corridor) (cuts := [(27, H_X_corridor_27 (mfix N (f_X_corridor_L27 N)))]) wOKx (by decide) (oo_X_corridor N) (RetOK_I rfl) bk_X_corridor (List.forall_mem_cons.mpr ⟨s_X_corridor_27 N, mz_nil⟩)) rfl
noncomputable def C_X_corridor {ρ : Type} (N : Nat) : List Value → mS → (Option Value → mS → Option ρ) → Option ρ := fun vs s kk => sR vs 0 fun r0 => rv0 r0 ((f_X_corridor N s).bind fun p => kk (some (.int p.1)) p.2)
theorem cs_X_corridor {ρ : Type} {t0 : ρ} {d : Nat} (N : Nat) (hd : 105 + 1 ≤ d) : CallOK Sx R0x oFx nx d t0 5 (C_X_corridor N) := by
  intro vs s kk h0
  obtain ⟨r0, rfl, h1⟩ := sR_some h0
  obtain ⟨rfl, h2⟩ := rv0_some h1
  obtain ⟨p, hp, hk⟩ := Option.bind_eq_some_iff.mp h2
  exact ⟨_, _, _, hd, m_X_corridor N hp, hk, fun qy hq hf => by cases y_X_corridor.symm.trans hq; exact ⟨_, _, rfl, rfl⟩⟩
/-! METHOD PorterDoors$Reader.question()I -/
set_option maxRecDepth 20000 in
noncomputable def q_Rd_question : mI := (⟨"PorterDoors$Reader", "question", "()I"⟩, prog_7_method_9_code, 2, (some .int), 6, 1037, 132, 1, 0, 1035, 1036)
theorem y_Rd_question : mT[111]? = some q_Rd_question := mT_at_2 (k := 31) rfl
noncomputable def bl_Rd_question : List (Nat × List mO) := [(0, [o0 (.aload_n 0), o2 (.invokevirtual 72) 98 1, o0 (.istore_n 1), o0 (.iload_n 1), o0 (.bipush 25), o1 (.if_icmp .ge 12) 20, o0 (.aload_n 0), o0 (.iconst 1), o0 (.aload_n 0), o2 (.getfield 21) 6 6, o2 (.invokevirtual 80) 100 3]),
  (20, [o0 (.aload_n 0), o2 (.invokevirtual 69) 93 1, o0 (.aload_n 0), oC (.ldc 144) (.int 470536), o2 (.putfield 34) 6 10, o0 (.iload_n 1), o0 (.bipush 27), o1 (.if_icmp .gt 10) 43, o0 (.aload_n 0), o2 (.invokevirtual 95) 102 1, o1 (.goto 7) 47]),
  (43, [o0 (.aload_n 0), o2 (.invokevirtual 108) 106 1]),
  (47, [o0 (.aload_n 0), o2 (.getfield 18) 6 5, o0 (.sipush 258), o1 (.if_icmp .eq 12) 66, o0 (.aload_n 0), o0 (.iconst 1), o0 (.aload_n 0), o2 (.getfield 21) 6 6, o2 (.invokevirtual 80) 100 3]),
  (66, [o0 (.iload_n 1), o0 (.ireturn)])]
theorem bk_Rd_question : okBlks q_Rd_question bl_Rd_question = true := by decide +kernel
noncomputable def oL_Rd_question {ρ : Type} (N : Nat) : List (Nat × (List Value → mS → (Option Value → mS → Option ρ) → Option ρ)) := [(98, C_Rd_word N), (100, C_Rd_fail N), (93, C_Rd_advance N), (102, C_Rd_test N), (106, C_Rd_sum N)]
theorem oo_Rd_question {ρ : Type} {t0 : ρ} (N : Nat) : OrcOK Sx R0x oFx nx 104 t0 (mOrc (oL_Rd_question N)) := mOrc_OK (List.forall_mem_cons.mpr ⟨cs_Rd_word N (by decide), List.forall_mem_cons.mpr ⟨cs_Rd_fail N (by decide), List.forall_mem_cons.mpr ⟨cs_Rd_advance N (by decide), List.forall_mem_cons.mpr ⟨cs_Rd_test N (by decide), List.forall_mem_cons.mpr ⟨cs_Rd_sum N (by decide), mz_nil⟩⟩⟩⟩⟩)
noncomputable def H_Rd_question_20 {ρ : Type} (k : (Int32 × mS) → Option ρ) : mL → List Value → mS → Option ρ := fun loc st s => cR loc 0 18 (li1 loc 1 fun v0 => rv0 st (k (v0, s)))
noncomputable def H_Rd_question_47 {ρ : Type} (k : (Int32 × mS) → Option ρ) : mL → List Value → mS → Option ρ := fun loc st s => cR loc 0 18 (li1 loc 1 fun v0 => rv0 st (k (v0, s)))
noncomputable def f_Rd_question_j47 (N : Nat) (x : Int32 × mS) : Option (Int32 × mS) :=
  if (gI x.2 605 18) = 258 then
    some (x.1, x.2)
  else
    (f_Rd_fail N 1 (gI x.2 606 18) x.2).bind fun p1 =>
    some (x.1, p1)
set_option maxRecDepth 100000 in
set_option maxHeartbeats 4000000 in
theorem s_Rd_question_47 (N : Nat) {x9 : Int32} {s9 : mS} : SCd Sx R0x oFx nx 104 q_Rd_question (some (.int x9), s9) (x9, s9) 47 (H_Rd_question_47 (f_Rd_question_j47 N)) := by
  intro loc st s
  refine G_cR (fun h0 => ?_)
  refine G_li (fun v0 h1 => ?_)
  refine G_rv0 (fun e9 => ?_)
  subst e9
  refine G_sub (loc0 := [(0, .ref 18), (1, .int v0)]) (List.forall_mem_cons.mpr ⟨h0, List.forall_mem_cons.mpr ⟨h1, mz_nil⟩⟩) ?_
  exact G_eq (mEv_G (orc := mOrc (oL_Rd_question N)) (ret := rtI) (blks := bl_Rd_question) (cuts := []) wOKx (by decide) (oo_Rd_question N) (RetOK_I rfl) bk_Rd_question (mz_nil)) rfl
noncomputable def f_Rd_question_j20 (N : Nat) (x : Int32 × mS) : Option (Int32 × mS) :=
  (f_Rd_advance N x.2).bind fun p1 =>
  let s2 := sI p1 610 18 470536
  if 27 < x.1 then
    (f_Rd_sum N s2).bind fun p3 =>
    f_Rd_question_j47 N (x.1, p3)
  else
    (f_Rd_test N s2).bind fun p4 =>
    f_Rd_question_j47 N (x.1, p4)
set_option maxRecDepth 100000 in
set_option maxHeartbeats 4000000 in
theorem s_Rd_question_20 (N : Nat) {x9 : Int32} {s9 : mS} : SCd Sx R0x oFx nx 104 q_Rd_question (some (.int x9), s9) (x9, s9) 20 (H_Rd_question_20 (f_Rd_question_j20 N)) := by
  intro loc st s
  refine G_cR (fun h0 => ?_)
  refine G_li (fun v0 h1 => ?_)
  refine G_rv0 (fun e9 => ?_)
  subst e9
  refine G_sub (loc0 := [(0, .ref 18), (1, .int v0)]) (List.forall_mem_cons.mpr ⟨h0, List.forall_mem_cons.mpr ⟨h1, mz_nil⟩⟩) ?_
  exact G_eq (mEv_G (orc := mOrc (oL_Rd_question N)) (ret := rtI) (blks := bl_Rd_question) (cuts := [(47, H_Rd_question_47 (f_Rd_question_j47 N))]) wOKx (by decide) (oo_Rd_question N) (RetOK_I rfl) bk_Rd_question (List.forall_mem_cons.mpr ⟨s_Rd_question_47 N, mz_nil⟩)) rfl
noncomputable def f_Rd_question (N : Nat) (s : mS) : Option (Int32 × mS) :=
  (f_Rd_word N s).bind fun p1 =>
  if p1.1 < 25 then
    (f_Rd_fail N 1 (gI p1.2 606 18) p1.2).bind fun p2 =>
    f_Rd_question_j20 N (p1.1, p2)
  else
    f_Rd_question_j20 N (p1.1, p1.2)
set_option maxRecDepth 100000 in
set_option maxHeartbeats 4000000 in
theorem m_Rd_question (N : Nat) {x9 : Int32} {s9 : mS} {s : mS} (h : f_Rd_question N s = some (x9, s9)) : MetM Sx R0x oFx nx 104 111 [.ref 18] s (some (.int x9)) s9 := by
  refine met_of_G (q := q_Rd_question) (t0 := (x9, s9)) y_Rd_question (Nat.le_of_ble_eq_true rfl) ?_
  rw [← h]
  exact G_eq (mEv_G (orc := mOrc (oL_Rd_question N)) (ret := rtI) (blks := bl_Rd_question) (cuts := [(20, H_Rd_question_20 (f_Rd_question_j20 N))]) wOKx (by decide) (oo_Rd_question N) (RetOK_I rfl) bk_Rd_question (List.forall_mem_cons.mpr ⟨s_Rd_question_20 N, mz_nil⟩)) rfl
noncomputable def C_Rd_question {ρ : Type} (N : Nat) : List Value → mS → (Option Value → mS → Option ρ) → Option ρ := fun vs s kk => sR vs 18 fun r0 => rv0 r0 ((f_Rd_question N s).bind fun p => kk (some (.int p.1)) p.2)
theorem cs_Rd_question {ρ : Type} {t0 : ρ} {d : Nat} (N : Nat) (hd : 104 + 1 ≤ d) : CallOK Sx R0x oFx nx d t0 111 (C_Rd_question N) := by
  intro vs s kk h0
  obtain ⟨r0, rfl, h1⟩ := sR_some h0
  obtain ⟨rfl, h2⟩ := rv0_some h1
  obtain ⟨p, hp, hk⟩ := Option.bind_eq_some_iff.mp h2
  exact ⟨_, _, _, hd, m_Rd_question N hp, hk, fun qy hq hf => by cases y_Rd_question.symm.trans hq; exact ⟨_, _, rfl, rfl⟩⟩
/-! METHOD PorterDoors.ask()J -/
set_option maxRecDepth 20000 in
noncomputable def q_X_ask : mI := (⟨"PorterDoors", "ask", "()J"⟩, prog_1_method_35_code, 3, (some .long), 0, 1032, 129, 1, 0, 1030, 1031)
theorem y_X_ask : mT[50]? = some q_X_ask := mT_at_1 (k := 10) rfl
noncomputable def bl_X_ask : List (Nat × List mO) := [(0, [o0 (.aload_n 0), o2 (.invokevirtual 117) 6 1, o0 (.istore_n 1), o0 (.aload_n 0), o2 (.invokevirtual 220) 20 1, o1 (.ifCond .ne 7) 16, oC (.ldc2_w 312) (.long (-1000000000000000)), o0 (.lreturn)]),
  (16, [o0 (.aload_n 0), o2 (.getfield 30) 0 4, o0 (.iconst 0), o2 (.putfield 314) 5 1, o0 (.aload_n 0), o2 (.getfield 39) 0 5, o0 (.iload_n 1), o0 (.aload_n 0), o2 (.getfield 30) 0 4, o2 (.invokevirtual 124) 92 3, o0 (.aload_n 0), o2 (.getfield 39) 0 5, o2 (.invokevirtual 317) 111 1, o0 (.istore_n 2), o0 (.aload_n 0), o2 (.getfield 39) 0 5, o2 (.getfield 135) 6 12, o1 (.ifCond .ne 11) 62, o0 (.aload_n 0), o0 (.iload_n 2), o2 (.invokevirtual 319) 51 2, o1 (.goto 6) 65]),
  (62, [oC (.ldc2_w 312) (.long (-1000000000000000))]),
  (65, [o0 (.lreturn)])]
theorem bk_X_ask : okBlks q_X_ask bl_X_ask = true := by decide +kernel
noncomputable def oL_X_ask {ρ : Type} (N : Nat) : List (Nat × (List Value → mS → (Option Value → mS → Option ρ) → Option ρ)) := [(6, C_X_takeTape N), (20, C_X_isTold N), (92, C_Rd_begin N), (111, C_Rd_question N), (51, C_X_answerTo N)]
theorem oo_X_ask {ρ : Type} {t0 : ρ} (N : Nat) : OrcOK Sx R0x oFx nx 105 t0 (mOrc (oL_X_ask N)) := mOrc_OK (List.forall_mem_cons.mpr ⟨cs_X_takeTape N (by decide), List.forall_mem_cons.mpr ⟨cs_X_isTold N (by decide), List.forall_mem_cons.mpr ⟨cs_Rd_begin N (by decide), List.forall_mem_cons.mpr ⟨cs_Rd_question N (by decide), List.forall_mem_cons.mpr ⟨cs_X_answerTo N (by decide), mz_nil⟩⟩⟩⟩⟩)
noncomputable def f_X_ask (N : Nat) (s : mS) : Option (Int64 × mS) :=
  (f_X_takeTape N s).bind fun p1 =>
  (f_X_isTold N p1.2).bind fun p2 =>
  if p2.1 = 0 then
    some ((-1000000000000000), p2.2)
  else
    let s3 := sI p2.2 501 16 0
    (f_Rd_begin N p1.1 16 s3).bind fun p4 =>
    (f_Rd_question N p4).bind fun p5 =>
    if (gI p5.2 612 18) = 0 then
      (f_X_answerTo N p5.1 p5.2).bind fun p6 =>
      some (p6.1, p6.2)
    else
      some ((-1000000000000000), p5.2)
set_option maxRecDepth 100000 in
set_option maxHeartbeats 4000000 in
theorem m_X_ask (N : Nat) {x9 : Int64} {s9 : mS} {s : mS} (h : f_X_ask N s = some (x9, s9)) : MetM Sx R0x oFx nx 105 50 [.ref 0] s (some (.long x9)) s9 := by
  refine met_of_G (q := q_X_ask) (t0 := (x9, s9)) y_X_ask (Nat.le_of_ble_eq_true rfl) ?_
  rw [← h]
  exact G_eq (mEv_G (orc := mOrc (oL_X_ask N)) (ret := rtL) (blks := bl_X_ask) (cuts := []) wOKx (by decide) (oo_X_ask N) (RetOK_L rfl) bk_X_ask (mz_nil)) rfl
noncomputable def C_X_ask {ρ : Type} (N : Nat) : List Value → mS → (Option Value → mS → Option ρ) → Option ρ := fun vs s kk => sR vs 0 fun r0 => rv0 r0 ((f_X_ask N s).bind fun p => kk (some (.long p.1)) p.2)
theorem cs_X_ask {ρ : Type} {t0 : ρ} {d : Nat} (N : Nat) (hd : 105 + 1 ≤ d) : CallOK Sx R0x oFx nx d t0 50 (C_X_ask N) := by
  intro vs s kk h0
  obtain ⟨r0, rfl, h1⟩ := sR_some h0
  obtain ⟨rfl, h2⟩ := rv0_some h1
  obtain ⟨p, hp, hk⟩ := Option.bind_eq_some_iff.mp h2
  exact ⟨_, _, _, hd, m_X_ask N hp, hk, fun qy hq hf => by cases y_X_ask.symm.trans hq; exact ⟨_, _, rfl, rfl⟩⟩
