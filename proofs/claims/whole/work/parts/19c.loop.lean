/-! THE LAW'S LOOP AND START -/
section LAWL
variable {p : Program} {l : Launch} {e : Env} {s : State} {m : MethodId} {below : List Frame} {meth : Method} {c : Code} {b L : Nat} {xs : Nat → Int32} {D : va_G} {dA : Nat → ClassId} {tS : Nat} {i : Int32} {pc : Nat} {st : List Value} {sx sm : mS}
theorem Wl_stop (hc : lC p s m meth c b L xs D dA tS) : Wl p l e s m below meth c b D dA tS i 1101 [] sx sm := fun H ls locs h1 h2 hl hS =>
  va_forget (fun q hq => hS.2.2 q hq) (lv_iconst (v := 1) hc.1 hc.2.1 ld_1101 rfl (W.widen (k := 600000) (n := 7302250) (by decide) (by decide) (lw_ret hc.1 hc.2.1 hc.2.2.1 hc.2.2.2.2.2.2.1 ld_1102)))
theorem l_add {j : Nat} {n : Int} (h : 0 ≤ n) : nI j + Int32.ofInt n = nI (j + n.toNat) := by
  have : Int32.ofInt n = nI n.toNat := by
    show Int32.ofInt n = Int32.ofNat n.toNat
    rw [← Int32.ofInt_eq_ofNat, Int.toNat_of_nonneg h]
  rw [this, nI_add]
theorem Wl_dispatch (hc : lC p s m meth c b L xs D dA tS) {I : mS → mS → Prop} {N : Nat} (hp : PureOK I N) (hI : I sx sm) (hv : ∀ n : Int, 0 ≤ n → n ≤ 5 → vp_in (i + Int32.ofInt n) L) (hv0 : vp_in i L) (k : ∀ s1 t1, I s1 t1 → Wl p l e s m below meth c b D dA tS i 1095 [] s1 t1) : Wl p l e s m below meth c b D dA tS i 27 [] sx sm := fun H ls locs h1 h2 hl hS => by
  refine lv_aload_n hc.1 hc.2.1 ld_27 rfl (lv_at hl 3 rfl) (lv_iload_n hc.1 hc.2.1 ld_28 rfl (lv_at hl 0 rfl) (va_sld hc.1 hc.2.1 hc.2.2.2.2.2.2.2.2.2.1 hc.2.2.2.2.2.2.2.2.2.2.1 (l_bA hc) hS hv0 ld_29 (lv_bipush (v := 63) hc.1 hc.2.1 ld_30 rfl (lv_iand hc.1 hc.2.1 ld_32 ?_))))
  generalize hx : xs i.toNatClampNeg &&& 63 = x
  have go : ∀ (k9 : Nat) (off : Int) (tgt : Nat), x.toInt = (k9 : Int) → k9 < 38 → (#[167, 230, 253, 266, 289, 312, 345, 378, 411, 434, 467, 490, 513, 526, 539, 562, 595, 608, 631, 654, 687, 710, 723, 746, 769, 792, 815, 838, 861, 894, 917, 940, 953, 976, 990, 1003, 1026, 1039] : Array Int)[k9]? = some off → ((33 : Nat) : Int) + off = (tgt : Int) → Wl p l e s m below meth c b D dA tS i tgt [] sx sm → W p l e room_1 s m #[.ref b] below meth c H locs 110 29491 (lw_Z below #[.ref b] s) (F0 m 33 ls [.int x]) := by
    intro k9 off tgt e1 e2 e3 e4 kk
    refine lv_tableIn hc.1 hc.2.1 ld_33 (by rw [e1]; omega) (by rw [e1]; omega) (off := off) ?_ e4 (kk H ls locs h1 h2 hl hS)
    rw [e1, Int.sub_zero, Int.toNat_natCast]
    exact e3
  have out : x.toInt < 0 ∨ 37 < x.toInt → W p l e room_1 s m #[.ref b] below meth c H locs 110 29491 (lw_Z below #[.ref b] s) (F0 m 33 ls [.int x]) := fun h => lv_tableOut hc.1 hc.2.1 ld_33 h (tgt := 1095) (by decide) (k sx sm hI H ls locs h1 h2 hl hS)
  by_cases h0 : x.toInt < 0
  · exact out (Or.inl h0)
  by_cases h9 : 37 < x.toInt
  · exact out (Or.inr h9)
  obtain ⟨kn, hkn⟩ : ∃ kn : Nat, x.toInt = (kn : Int) := ⟨x.toInt.toNat, (Int.toNat_of_nonneg (by omega)).symm⟩
  have hk38 : kn < 38 := by omega
  match kn, hk38, hkn with
  | 0, hk, e1 =>
    obtain ⟨r, s1, t1, g1, g2, g3⟩ := hp.1 (xs (ix (i + Int32.ofInt 1))) (xs (ix (i + Int32.ofInt 2))) (xs (ix (i + Int32.ofInt 3))) (xs (ix (i + Int32.ofInt 4))) (xs (ix (i + Int32.ofInt 5))) _ _ hI
    exact go 0 167 200 e1 hk rfl (by decide) (lcase_0 hc hv N g1 g2 (k s1 t1 g3))
  | 1, hk, e1 =>
    obtain ⟨r, s1, t1, g1, g2, g3⟩ := hp.2.1 (xs (ix (i + Int32.ofInt 1))) _ _ hI
    exact go 1 230 263 e1 hk rfl (by decide) (lcase_1 hc hv N g1 g2 (k s1 t1 g3))
  | 2, hk, e1 =>
    obtain ⟨r, s1, t1, g1, g2, g3⟩ := hp.2.2.1 _ _ hI
    exact go 2 253 286 e1 hk rfl (by decide) (lcase_2 hc hv N g1 g2 (k s1 t1 g3))
  | 3, hk, e1 =>
    obtain ⟨r, s1, t1, g1, g2, g3⟩ := hp.2.2.2.1 (xs (ix (i + Int32.ofInt 1))) _ _ hI
    exact go 3 266 299 e1 hk rfl (by decide) (lcase_3 hc hv N g1 g2 (k s1 t1 g3))
  | 4, hk, e1 =>
    obtain ⟨r, s1, t1, g1, g2, g3⟩ := hp.2.2.2.2.1 (xs (ix (i + Int32.ofInt 1))) _ _ hI
    exact go 4 289 322 e1 hk rfl (by decide) (lcase_4 hc hv N g1 g2 (k s1 t1 g3))
  | 5, hk, e1 =>
    obtain ⟨r, s1, t1, g1, g2, g3⟩ := hp.2.2.2.2.2.1 (xs (ix (i + Int32.ofInt 1))) (xs (ix (i + Int32.ofInt 2))) _ _ hI
    exact go 5 312 345 e1 hk rfl (by decide) (lcase_5 hc hv N g1 g2 (k s1 t1 g3))
  | 6, hk, e1 =>
    obtain ⟨r, s1, t1, g1, g2, g3⟩ := hp.2.2.2.2.2.2.1 (xs (ix (i + Int32.ofInt 1))) (xs (ix (i + Int32.ofInt 2))) _ _ hI
    exact go 6 345 378 e1 hk rfl (by decide) (lcase_6 hc hv N g1 g2 (k s1 t1 g3))
  | 7, hk, e1 =>
    obtain ⟨r, s1, t1, g1, g2, g3⟩ := hp.2.2.2.2.2.2.2.1 (xs (ix (i + Int32.ofInt 1))) (xs (ix (i + Int32.ofInt 2))) _ _ hI
    exact go 7 378 411 e1 hk rfl (by decide) (lcase_7 hc hv N g1 g2 (k s1 t1 g3))
  | 8, hk, e1 =>
    obtain ⟨r, s1, t1, g1, g2, g3⟩ := hp.2.2.2.2.2.2.2.2.1 (xs (ix (i + Int32.ofInt 1))) _ _ hI
    exact go 8 411 444 e1 hk rfl (by decide) (lcase_8 hc hv N g1 g2 (k s1 t1 g3))
  | 9, hk, e1 =>
    obtain ⟨r, s1, t1, g1, g2, g3⟩ := hp.2.2.2.2.2.2.2.2.2.1 (xs (ix (i + Int32.ofInt 1))) (xs (ix (i + Int32.ofInt 2))) _ _ hI
    exact go 9 434 467 e1 hk rfl (by decide) (lcase_9 hc hv N g1 g2 (k s1 t1 g3))
  | 10, hk, e1 =>
    obtain ⟨r, s1, t1, g1, g2, g3⟩ := hp.2.2.2.2.2.2.2.2.2.2.1 (xs (ix (i + Int32.ofInt 1))) _ _ hI
    exact go 10 467 500 e1 hk rfl (by decide) (lcase_10 hc hv N g1 g2 (k s1 t1 g3))
  | 11, hk, e1 =>
    obtain ⟨r, s1, t1, g1, g2, g3⟩ := hp.2.2.2.2.2.2.2.2.2.2.2.1 (xs (ix (i + Int32.ofInt 1))) _ _ hI
    exact go 11 490 523 e1 hk rfl (by decide) (lcase_11 hc hv N g1 g2 (k s1 t1 g3))
  | 12, hk, e1 =>
    obtain ⟨r, s1, t1, g1, g2, g3⟩ := hp.2.2.2.2.2.2.2.2.2.2.2.2.1 _ _ hI
    exact go 12 513 546 e1 hk rfl (by decide) (lcase_12 hc hv N g1 g2 (k s1 t1 g3))
  | 13, hk, e1 =>
    obtain ⟨r, s1, t1, g1, g2, g3⟩ := hp.2.2.2.2.2.2.2.2.2.2.2.2.2.1 _ _ hI
    exact go 13 526 559 e1 hk rfl (by decide) (lcase_13 hc hv N g1 g2 (k s1 t1 g3))
  | 14, hk, e1 =>
    obtain ⟨r, s1, t1, g1, g2, g3⟩ := hp.2.2.2.2.2.2.2.2.2.2.2.2.2.2.1 (xs (ix (i + Int32.ofInt 1))) _ _ hI
    exact go 14 539 572 e1 hk rfl (by decide) (lcase_14 hc hv N g1 g2 (k s1 t1 g3))
  | 15, hk, e1 =>
    obtain ⟨r, s1, t1, g1, g2, g3⟩ := hp.2.2.2.2.2.2.2.2.2.2.2.2.2.2.2.1 (xs (ix (i + Int32.ofInt 1))) (xs (ix (i + Int32.ofInt 2))) _ _ hI
    exact go 15 562 595 e1 hk rfl (by decide) (lcase_15 hc hv N g1 g2 (k s1 t1 g3))
  | 16, hk, e1 =>
    obtain ⟨r, s1, t1, g1, g2, g3⟩ := hp.2.2.2.2.2.2.2.2.2.2.2.2.2.2.2.2.1 _ _ hI
    exact go 16 595 628 e1 hk rfl (by decide) (lcase_16 hc hv N g1 g2 (k s1 t1 g3))
  | 17, hk, e1 =>
    obtain ⟨r, s1, t1, g1, g2, g3⟩ := hp.2.2.2.2.2.2.2.2.2.2.2.2.2.2.2.2.2.1 (xs (ix (i + Int32.ofInt 1))) _ _ hI
    exact go 17 608 641 e1 hk rfl (by decide) (lcase_17 hc hv N g1 g2 (k s1 t1 g3))
  | 18, hk, e1 =>
    obtain ⟨r, s1, t1, g1, g2, g3⟩ := hp.2.2.2.2.2.2.2.2.2.2.2.2.2.2.2.2.2.2.1 (xs (ix (i + Int32.ofInt 1))) _ _ hI
    exact go 18 631 664 e1 hk rfl (by decide) (lcase_18 hc hv N g1 g2 (k s1 t1 g3))
  | 19, hk, e1 =>
    obtain ⟨r, s1, t1, g1, g2, g3⟩ := hp.2.2.2.2.2.2.2.2.2.2.2.2.2.2.2.2.2.2.2.1 (xs (ix (i + Int32.ofInt 1))) (xs (ix (i + Int32.ofInt 2))) _ _ hI
    exact go 19 654 687 e1 hk rfl (by decide) (lcase_19 hc hv N g1 g2 (k s1 t1 g3))
  | 20, hk, e1 =>
    obtain ⟨r, s1, t1, g1, g2, g3⟩ := hp.2.2.2.2.2.2.2.2.2.2.2.2.2.2.2.2.2.2.2.2.1 (xs (ix (i + Int32.ofInt 1))) _ _ hI
    exact go 20 687 720 e1 hk rfl (by decide) (lcase_20 hc hv N g1 g2 (k s1 t1 g3))
  | 21, hk, e1 =>
    obtain ⟨r, s1, t1, g1, g2, g3⟩ := hp.2.2.2.2.2.2.2.2.2.2.2.2.2.2.2.2.2.2.2.2.2.1 _ _ hI
    exact go 21 710 743 e1 hk rfl (by decide) (lcase_21 hc hv N g1 g2 (k s1 t1 g3))
  | 22, hk, e1 =>
    obtain ⟨r, s1, t1, g1, g2, g3⟩ := hp.2.2.2.2.2.2.2.2.2.2.2.2.2.2.2.2.2.2.2.2.2.2.1 (xs (ix (i + Int32.ofInt 1))) _ _ hI
    exact go 22 723 756 e1 hk rfl (by decide) (lcase_22 hc hv N g1 g2 (k s1 t1 g3))
  | 23, hk, e1 =>
    obtain ⟨r, s1, t1, g1, g2, g3⟩ := hp.2.2.2.2.2.2.2.2.2.2.2.2.2.2.2.2.2.2.2.2.2.2.2.1 (xs (ix (i + Int32.ofInt 1))) _ _ hI
    exact go 23 746 779 e1 hk rfl (by decide) (lcase_23 hc hv N g1 g2 (k s1 t1 g3))
  | 24, hk, e1 =>
    obtain ⟨r, s1, t1, g1, g2, g3⟩ := hp.2.2.2.2.2.2.2.2.2.2.2.2.2.2.2.2.2.2.2.2.2.2.2.2.1 (xs (ix (i + Int32.ofInt 1))) _ _ hI
    exact go 24 769 802 e1 hk rfl (by decide) (lcase_24 hc hv N g1 g2 (k s1 t1 g3))
  | 25, hk, e1 =>
    obtain ⟨r, s1, t1, g1, g2, g3⟩ := hp.2.2.2.2.2.2.2.2.2.2.2.2.2.2.2.2.2.2.2.2.2.2.2.2.2.1 (xs (ix (i + Int32.ofInt 1))) _ _ hI
    exact go 25 792 825 e1 hk rfl (by decide) (lcase_25 hc hv N g1 g2 (k s1 t1 g3))
  | 26, hk, e1 =>
    obtain ⟨r, s1, t1, g1, g2, g3⟩ := hp.2.2.2.2.2.2.2.2.2.2.2.2.2.2.2.2.2.2.2.2.2.2.2.2.2.2.1 (xs (ix (i + Int32.ofInt 1))) _ _ hI
    exact go 26 815 848 e1 hk rfl (by decide) (lcase_26 hc hv N g1 g2 (k s1 t1 g3))
  | 27, hk, e1 =>
    obtain ⟨r, s1, t1, g1, g2, g3⟩ := hp.2.2.2.2.2.2.2.2.2.2.2.2.2.2.2.2.2.2.2.2.2.2.2.2.2.2.2.1 (xs (ix (i + Int32.ofInt 1))) _ _ hI
    exact go 27 838 871 e1 hk rfl (by decide) (lcase_27 hc hv N g1 g2 (k s1 t1 g3))
  | 28, hk, e1 =>
    obtain ⟨r, s1, t1, g1, g2, g3⟩ := hp.2.2.2.2.2.2.2.2.2.2.2.2.2.2.2.2.2.2.2.2.2.2.2.2.2.2.2.2.1 (xs (ix (i + Int32.ofInt 1))) (xs (ix (i + Int32.ofInt 2))) _ _ hI
    exact go 28 861 894 e1 hk rfl (by decide) (lcase_28 hc hv N g1 g2 (k s1 t1 g3))
  | 29, hk, e1 =>
    obtain ⟨r, s1, t1, g1, g2, g3⟩ := hp.2.2.2.2.2.2.2.2.2.2.2.2.2.2.2.2.2.2.2.2.2.2.2.2.2.2.2.2.2.1 (xs (ix (i + Int32.ofInt 1))) _ _ hI
    exact go 29 894 927 e1 hk rfl (by decide) (lcase_29 hc hv N g1 g2 (k s1 t1 g3))
  | 30, hk, e1 =>
    obtain ⟨r, s1, t1, g1, g2, g3⟩ := hp.2.2.2.2.2.2.2.2.2.2.2.2.2.2.2.2.2.2.2.2.2.2.2.2.2.2.2.2.2.2.1 (xs (ix (i + Int32.ofInt 1))) _ _ hI
    exact go 30 917 950 e1 hk rfl (by decide) (lcase_30 hc hv N g1 g2 (k s1 t1 g3))
  | 31, hk, e1 =>
    obtain ⟨r, s1, t1, g1, g2, g3⟩ := hp.2.2.2.2.2.2.2.2.2.2.2.2.2.2.2.2.2.2.2.2.2.2.2.2.2.2.2.2.2.2.2.1 _ _ hI
    exact go 31 940 973 e1 hk rfl (by decide) (lcase_31 hc hv N g1 g2 (k s1 t1 g3))
  | 32, hk, e1 =>
    obtain ⟨r, s1, t1, g1, g2, g3⟩ := hp.2.2.2.2.2.2.2.2.2.2.2.2.2.2.2.2.2.2.2.2.2.2.2.2.2.2.2.2.2.2.2.2.1 (xs (ix (i + Int32.ofInt 1))) _ _ hI
    exact go 32 953 986 e1 hk rfl (by decide) (lcase_32 hc hv N g1 g2 (k s1 t1 g3))
  | 33, hk, e1 =>
    obtain ⟨r, s1, t1, g1, g2, g3⟩ := hp.2.2.2.2.2.2.2.2.2.2.2.2.2.2.2.2.2.2.2.2.2.2.2.2.2.2.2.2.2.2.2.2.2.1 _ _ hI
    exact go 33 976 1009 e1 hk rfl (by decide) (lcase_33 hc hv N g1 g2 (k s1 t1 g3))
  | 34, hk, e1 =>
    obtain ⟨r, s1, t1, g1, g2, g3⟩ := hp.2.2.2.2.2.2.2.2.2.2.2.2.2.2.2.2.2.2.2.2.2.2.2.2.2.2.2.2.2.2.2.2.2.2.1 _ _ hI
    exact go 34 990 1023 e1 hk rfl (by decide) (lcase_34 hc hv N g1 g2 (k s1 t1 g3))
  | 35, hk, e1 =>
    obtain ⟨r, s1, t1, g1, g2, g3⟩ := hp.2.2.2.2.2.2.2.2.2.2.2.2.2.2.2.2.2.2.2.2.2.2.2.2.2.2.2.2.2.2.2.2.2.2.2.1 (xs (ix (i + Int32.ofInt 1))) _ _ hI
    exact go 35 1003 1036 e1 hk rfl (by decide) (lcase_35 hc hv N g1 g2 (k s1 t1 g3))
  | 36, hk, e1 =>
    obtain ⟨r, s1, t1, g1, g2, g3⟩ := hp.2.2.2.2.2.2.2.2.2.2.2.2.2.2.2.2.2.2.2.2.2.2.2.2.2.2.2.2.2.2.2.2.2.2.2.2.1 _ _ hI
    exact go 36 1026 1059 e1 hk rfl (by decide) (lcase_36 hc hv N g1 g2 (k s1 t1 g3))
  | 37, hk, e1 =>
    obtain ⟨r, s1, t1, g1, g2, g3⟩ := hp.2.2.2.2.2.2.2.2.2.2.2.2.2.2.2.2.2.2.2.2.2.2.2.2.2.2.2.2.2.2.2.2.2.2.2.2.2 (xs (ix (i + Int32.ofInt 1))) _ _ hI
    exact go 37 1039 1072 e1 hk rfl (by decide) (lcase_37 hc hv N g1 g2 (k s1 t1 g3))
  | kn + 38, h, _ => exact absurd h (by omega)
theorem law_loop (hc : lC p s m meth c b L xs D dA tS) {I : mS → mS → Prop} {N : Nat} (hp : PureOK I N) : ∀ (f j : Nat) (sx sm : mS), L < 6 * j + f → 6 * j ≤ L + 6 → I sx sm → Wl p l e s m below meth c b D dA tS (nI (6 * j)) 18 [] sx sm
  | 0, j, sx, sm, h, h5, hI => fun H ls locs h1 h2 hl hS => by
    have hL := hc.2.2.2.2.2.2.2.2.2.2.2.2
    refine lv_iload_n hc.1 hc.2.1 ld_18 rfl (lv_at hl 0 rfl) (lv_aload_n hc.1 hc.2.1 ld_19 rfl (lv_at hl 3 rfl) (va_slen hc.1 hc.2.1 hc.2.2.2.2.2.2.2.2.2.1 hc.2.2.2.2.2.2.2.2.2.2.1 (l_bA hc) hS ld_20 (lv_bipush (v := 6) hc.1 hc.2.1 ld_21 rfl (lv_isub hc.1 hc.2.1 ld_23 (lv_icmp_gt hc.1 hc.2.1 ld_24 (tgt := 1101) (by decide) (fun _ => Wl_stop hc H ls locs h1 h2 hl hS) (fun h9 => absurd ?_ h9))))))
    rw [Int32.lt_iff_toInt_lt, show Int32.ofNat L - 6 = nI L - nI 6 from rfl, pk_sub_toInt (a := L) (b := 6) (by omega) (by decide), nI_toInt (by omega)]
    omega
  | f + 1, j, sx, sm, h, h5, hI => fun H ls locs h1 h2 hl hS => by
    have hL := hc.2.2.2.2.2.2.2.2.2.2.2.2
    refine lv_iload_n hc.1 hc.2.1 ld_18 rfl (lv_at hl 0 rfl) (lv_aload_n hc.1 hc.2.1 ld_19 rfl (lv_at hl 3 rfl) (va_slen hc.1 hc.2.1 hc.2.2.2.2.2.2.2.2.2.1 hc.2.2.2.2.2.2.2.2.2.2.1 (l_bA hc) hS ld_20 (lv_bipush (v := 6) hc.1 hc.2.1 ld_21 rfl (lv_isub hc.1 hc.2.1 ld_23 (lv_icmp_gt hc.1 hc.2.1 ld_24 (tgt := 1101) (by decide) (fun _ => Wl_stop hc H ls locs h1 h2 hl hS) (fun h9 => ?_))))))
    rw [Int32.lt_iff_toInt_lt, show Int32.ofNat L - 6 = nI L - nI 6 from rfl, pk_sub_toInt (a := L) (b := 6) (by omega) (by decide), nI_toInt (by omega)] at h9
    have hle : 6 * j + 6 ≤ L := by omega
    have hv : ∀ n : Int, 0 ≤ n → n ≤ 5 → vp_in (nI (6 * j) + Int32.ofInt n) L := fun n g1 g2 => by
      rw [l_add g1]
      exact pk_in (6 * j + n.toNat) L (by omega) rfl (by omega)
    refine Wl_dispatch hc hp hI hv (pk_in (6 * j) L (by omega) rfl (by omega)) (fun s1 t1 g => fun H ls locs h1 h2 hl hS => ?_) H ls locs h1 h2 hl hS
    refine lv_iinc hc.1 hc.2.1 (k := 0) (v := nI (6 * (j + 1))) (lv' := lLo s b (nI (6 * (j + 1)))) ld_1095 hl rfl ?_ (by decide) rfl (fun ls hl => ?_)
    · rw [l_add (by decide)]; rfl
    · exact lv_goto hc.1 hc.2.1 ld_1098 (tgt := 18) (by decide) (law_loop hc hp f (j + 1) s1 t1 (by omega) (by omega) g H ls locs h1 h2 hl hS)
end LAWL
/-- a fresh object of class a at B, ahead of its constructor -/
theorem cBl_P {s : State} {args : Array Value} {D : va_G} {dA : Nat → ClassId} {B tS a : Nat} {H1 : Heap} {kC : Class} {qc : vw_C} (hts : ∀ w ∈ lw_good, w.before args s = true) (hK : mKM D dA s) (hq : mcl[a]? = some qc) (hkC : s.vm.classes[D.1 a]? = some kC) (e1 : H1[B]? = some (blank (D.1 a) kC)) : va_P D mcl (cWs dA B tS (cBl a)) H1 := by
  have hKn := hK.1 a _ hq
  have hN := mN_of hq
  have hborn := u_born (fun k => mFT (qc.2.1 k).2.2.1) hts (cls_ok hq).1 hKn hkC e1 (cls_ok hq).2.1
  intro k y hy
  unfold cWs at hy
  obtain ⟨hk1, rfl⟩ := mWs_get hy
  obtain rfl : k = 0 := by
    have : k < 1 := hk1
    omega
  rw [mAd_own (n := 1) (by decide) (by decide), mEnt_obj (ci := a) (show (cBl a).1 0 = .inl a from rfl)]
  refine ⟨qc, hq, hborn.to (fun j hj => ?_)⟩
  unfold vp_V
  rw [List.getD_eq_getElem?_getD, List.getElem?_map, hN, List.getElem?_range hj]
  show defaultValue _ = mFv _ _ _ a j 0
  have hf := fld_ok hq hj
  unfold mFv
  have hlt4 := mKd_lt a j
  have e5 : (cBl a).2.1 (100 * a + j) 0 = none := rfl
  have e6 : gI (cBl a).2.2.2.2 (100 * a + j) 0 = 0 := rfl
  have e7 : gL (cBl a).2.2.2.2 (100 * a + j) 0 = 0 := rfl
  rw [e5, e6, e7]
  generalize hz9 : mKd a j = z at hlt4
  match z, hlt4 with
  | 0, _ => rw [okK_int hf.2.2.1 hz9]; rfl
  | 1, _ => rw [okK_long hf.2.2.1 hz9]; rfl
  | 2, _ =>
    have hr := okK_ref hf.2.2.1 hz9
    cases hty : mFT (qc.2.1 j).2.2.1 <;> rw [hty] at hr <;> first | exact absurd hr (by decide) | rfl | (simp [FieldType.isReference] at hr)
  | 3, _ => rw [okK_bool hf.2.2.1 hz9]; rfl
theorem l_arr {args : Array Value} {s : State} {ty : FieldType} (h : (Cond.arrayClass ty).before args s = true) (hp : ∀ C, ty ≠ .object C) : ∃ cA, ArrOfT s cA ty ∧ va_RA s cA ty := by
  obtain ⟨cA, kA, comp, h1, h2, h3⟩ := Cond.arrayClass_spec h
  refine ⟨cA, fun n z => ⟨(fun k h => by cases h), kA, h2, comp, h3⟩, ?_⟩
  unfold va_RA
  split
  · rename_i C; exact absurd rfl (hp C)
  · exact h1
theorem l_KM {args : Array Value} {s : State} (hts : ∀ w ∈ lw_good, w.before args s = true) : ∃ (D : va_G) (dA : Nat → ClassId), mKM D dA s := by
  have h : ∀ k : Nat, ∃ d : ClassId × (Nat → Nat), ∀ q, mcl[k]? = some q → u_Kn s q.1 q.2.1 q.2.2 d.1 d.2 := by
    intro k
    cases hq : mcl[k]? with
    | none => exact ⟨(0, fun _ => 0), fun q h => by cases h⟩
    | some q =>
      obtain ⟨cC, iS, hK⟩ := u_known (n := q.2.2) hts (cls_ok hq).1 (hts _ (mcl_ok k q hq).2.2.1)
      exact ⟨(cC, iS), fun q' h' => by cases h'; exact hK⟩
  obtain ⟨f, hf⟩ := Classical.axiomOfChoice h
  obtain ⟨a0, h0⟩ := l_arr (hts _ w_ac_int) (fun C h => by cases h)
  obtain ⟨a1, h1⟩ := l_arr (hts _ w_ac_char) (fun C h => by cases h)
  obtain ⟨a2, h2⟩ := l_arr (hts _ w_ac_boolean) (fun C h => by cases h)
  obtain ⟨a3, h3⟩ := l_arr (hts _ w_ac_long) (fun C h => by cases h)
  refine ⟨(fun k => (f k).1, fun k => (f k).2), fun k => match k with
    | 0 => a0
    | 1 => a1
    | 2 => a2
    | _ => a3, hf, ?_⟩
  intro k q hq
  match k, hq with
  | 0, hq => cases hq; exact h0
  | 1, hq => cases hq; exact h1
  | 2, hq => cases hq; exact h2
  | 3, hq => cases hq; exact h3
  | k + 4, hq => simp [mTy] at hq
/-- one of the law's two makings: new, dup, the constructor's call -/
theorem l_make {p : Program} {l : Launch} {e : Env} {s : State} {m : MethodId} {below : List Frame} {meth : Method} {c : Code} {b tS : Nat} {D : va_G} {dA : Nat → ClassId} {pc : Nat} {H : Heap} {ls : Array Slot} {locs : List Loc} {cells slots : Nat} {Q : State → Prop} (hx : p.tables.exec = Jvm.exec) (hb : c.code = code) (hml : c.maxLocals = 4) (hown : s.vm.findClass (mC 12) = some m.cls) (hts : ∀ w ∈ lw_good, w.before #[Value.ref b] s = true) (hK : mKM D dA s) (hNW : mNW s)
    {a y idx id2 i9 n sl : Nat} {qc : vw_C} {qy : mI} {c1 : cS} (hq : mcl[a]? = some qc) (hy : mT[y]? = some qy) (hfg : mFg qy = 2) (hrt : mRt qy = none) (hnp0 : mNp qy = 0) (hlk : Cond.classLink (mC 12) idx qc.1 ∈ lw_good) (hlk2 : (id2, y, i9) ∈ mMl 12)
    (hrun : runC cCd 5 y [.ref 0] (cBl a) = some c1) (hn : c1.2.2.1 = n) (hsl : c1.2.2.2.1 = sl) (hn9 : n ≤ 999999) (hroom : cells + n ≤ 600000 ∧ slots + sl ≤ 7302250)
    (d0 : decode code pc = .ok (.new idx, 3)) (d1 : decode code (pc + 3) = .ok (.dup, 1)) (d2 : decode code (pc + 4) = .ok (.invokespecial id2, 3)) (hls : ls.size = 4)
    (kk : ∀ (H1 : Heap) (L : List Loc), va_P D mcl (cWs dA H.size tS c1) H1 → H1.size = H.size + n → (∀ q, q < H.size → H1[q]? = H[q]?) → (∀ q ∈ L, H.size ≤ q.base) → W p l e room_1 s m #[.ref b] below meth c H1 (locs ++ L) (cells + n) (slots + sl) Q (F0 m (pc + 7) ls [.ref H.size])) : W p l e room_1 s m #[.ref b] below meth c H locs cells slots Q (F0 m pc ls []) := by
  obtain ⟨hwu, hbq, hins, hini⟩ := mcl_ok a qc hq
  have hN := mN_of hq
  obtain ⟨hco, hin, hg, hb9⟩ := mT_in hy
  obtain ⟨hC, hpl, hno, hnp, hmx⟩ := okB_spec hb9
  unfold okG at hg
  rw [hfg] at hg
  obtain ⟨q9, hq9, hlk9⟩ := mMl_ok _ _ hlk2
  cases hy.symm.trans hq9
  have hmono := runC_mono _ _ _ _ _ hrun
  have hm1 : 1 ≤ n := by rw [← hn]; exact hmono.1
  have hm2 : qc.2.2 ≤ sl := by
    have := hmono.2
    rw [hsl] at this
    have e : (cBl a).2.2.2.1 = 0 + mN a := rfl
    rw [e, hN] at this
    omega
  refine W.newcK (n := qc.2.2) hx hb hown (hts _ hlk) (hts _ hins) (hts _ hini) rfl d0 (by show _ ≤ 600000; omega) (by show _ ≤ 7302250; omega) (hK.1 a _ hq).2.1 rfl (fun H1 kC hkC e1 z9 o1 => ?_)
  refine lv_dup (va := .ref H.size) hx hb d1 rfl ?_
  have hM := runC_met cCd_ok 5 y _ _ _ hrun (by rw [hn]; exact hn9)
  have hP := cBl_P (tS := tS) hts hK hq hkC e1
  have hwd : mWd qy = Cond.code (mNm qy) (mBy qy) (mMx qy) none :: lw_good := by unfold mWd; rw [hrt]
  have e0 : mAd H.size tS 0 = H.size := mAd_own (n := 1) (by decide) (by decide)
  have hr := va_runI (p := p) (l := l) (e := e) (R := room_1) (s := s) (m := m) (args := #[.ref b]) (below := below) (meth := meth) (c := c) (H := H1) (locs := locs) (cells := cells + 1) (slots := slots + qc.2.2) (g := F0 m (pc + 3 + 1) ls [.ref H.size, .ref H.size]) (rest := [.ref H.size]) (b := mAd H.size tS 0) (As := []) (Ts := lw_good) (own := mC 12) ⟨hx, hb, hml, hown, hts⟩ (hM l H.size tS D dA qy hy) (cwI 0 hts (good_GoodIn (fun w hw9 => by
      rcases List.mem_cons.mp hw9 with rfl | h
      · exact hco
      · exact h)) hwd rfl rfl (hts _ hin) (hts _ hlk9) (hts _ hg.1) hg.2 ⟨hno.1, hno.2, by rw [hnp, hnp0]⟩ ⟨by show 5 + 1 ≤ 2048; decide, by show 8 + (mMx qy + 11) + 70 * 5 ≤ 84000; omega⟩)
    ⟨cPc_blind, fun U hU hW => ⟨rfl, by rw [hU]; exact hP, by rw [hU]; exact z9, va_K.moved hW.alike hK, mNW_warm hW hNW⟩⟩ rfl rfl hls (by rw [e0]; rfl) (lv_room (Nat.le_of_ble_eq_true rfl)) d2 ⟨by show _ + (c1.2.2.1 - 1) ≤ 600000; omega, by show _ + (c1.2.2.2.1 - (0 + mN a)) ≤ 7302250; omega⟩
  intro T hT X
  obtain ⟨v, st₀, t, T', L, h0, X', hL, g1, g2, ⟨hv, hp, hz, hz8, hk⟩, sp⟩ := hr T hT X
  obtain rfl := Outcome.returned.inj hv
  rw [h0] at hz8 hk
  have z1 : cells + 1 + (c1.2.2.1 - (cBl a).2.2.1) = cells + n := by
    have e : (cBl a).2.2.1 = 1 := rfl
    rw [e, hn]; omega
  have z2 : slots + qc.2.2 + (c1.2.2.2.1 - (cBl a).2.2.2.1) = slots + sl := by
    have e : (cBl a).2.2.2.1 = 0 + mN a := rfl
    rw [e, hN, hsl]; omega
  rw [z1, z2] at X'
  obtain ⟨t2, a1, b1⟩ := kk T'.heap L (by rw [g1]; exact hp) (by rw [g1, hz, hn]) (fun q hq => by rw [g1, hk q (by omega) (fun h9 => by have : H.size ≤ q := h9; omega)]; exact o1 q hq) (fun q hq => hL q hq) T' rfl X'
  exact ⟨t2, sp t2 a1, b1⟩
theorem whole_of {p : Program} {e : Env} {s : State} {m : MethodId} {below : List Frame} {meth : Method} {c : Code} (l : Launch) {b L : Nat} {xs : Nat → Int32} (hL : L ≤ 3072) (C0 : lw_At p s m meth c b L xs) {I : mS → mS → Prop} {N : Nat} (hI : I x0 m0) (hp : PureOK I N) : W p l e room_1 s m #[Value.ref b] below meth c s.heap [] 0 0 (lw_Z below #[Value.ref b] s) (entryFrame m ([Value.ref b] : List Value).toArray 4) := by
  obtain ⟨hx, hb, hr, hml, hown, hts0, hX, hbl, hlocks, hgv⟩ := id C0
  have hts : ∀ w ∈ lw_good, w.before #[Value.ref b] s = true := fun w hw => hts0 w (good_tbl w hw)
  obtain ⟨D, dA, hK⟩ := l_KM hts
  obtain ⟨tS, hz1, hz2⟩ := sp_of (A := cFr s.heap.size) hts0 hgv (fun a h h9 => by have : s.heap.size ≤ a := h9; omega)
  have hNW : mNW s := ⟨va_Nw.of rfl (hts0 _ nest_f), fun w hw => va_Nw.of (nest_tbl w hw).2 (hts0 _ (nest_tbl w hw).1)⟩
  have hc : lC p s m meth c b L xs D dA tS := ⟨hx, hb, hr, hml, hown, hts, hlocks, hK, hNW, hX, hbl, ⟨hz1, hz2⟩, hL⟩
  obtain ⟨cx, rx, nx9, sx9, wx⟩ := mk_x
  obtain ⟨cm, rm, nm9, sm9, wm⟩ := mk_m
  have hl := lv_entry ([.ref b]) (n := 4) (Nat.le_of_ble_eq_true rfl)
  rw [lg_entry_eq]
  generalize (lg_sl ([.ref b]) ++ List.replicate (4 - (lg_sl ([.ref b])).length) Slot.unset).toArray = ls at hl ⊢
  have hl : lv_has ls 4 [(0, .ref b)] := hl
  refine l_make (tS := tS) hx hb hml hown hts hK hNW (a := 0) (y := 0) (i9 := 146) rfl y_X_init rfl rfl rfl (tb 16 (by decide +kernel) rfl) (by decide +kernel) rx nx9 sx9 (by decide) ⟨by decide, by decide⟩ ld_0 ld_3 ld_4 hl.1 (fun H1 L1 hP1 hz1 ho1 hL1 => ?_)
  refine lv_astore_n (lv' := [(1, .ref s.heap.size), (0, .ref b)]) hx hb ld_7 rfl hl (by decide) rfl (fun ls hl => ?_)
  refine l_make (tS := tS) hx hb hml hown hts hK hNW (a := 10) (y := 142) (i9 := 1094) rfl y_M_init rfl rfl rfl (tb 964 (by decide +kernel) rfl) (by decide +kernel) rm nm9 sm9 (by decide) ⟨by decide, by decide⟩ ld_8 ld_11 ld_12 hl.1 (fun H2 L2 hP2 hz2 ho2 hL2 => ?_)
  have e1 : H1.size = s.heap.size + 42 := hz1
  rw [e1] at hP2 ⊢
  refine lv_astore_n (lv' := [(2, .ref (s.heap.size + 42)), (1, .ref s.heap.size), (0, .ref b)]) hx hb ld_15 rfl hl (by decide) rfl (fun ls hl => ?_)
  refine lv_iconst (v := 0) hx hb ld_16 (by decide) ?_
  refine lv_istore_n (lv' := lLo s b (nI (6 * 0))) hx hb ld_17 rfl hl (by decide) rfl (fun ls hl => ?_)
  rw [wx] at hP1
  rw [wm] at hP2
  exact law_loop hc hp (L + 1) 0 x0 m0 (by omega) (by omega) hI H2 ls _ (mWs_kept (by decide) hP1 (fun q hq => ho2 q (by have := hq.2; unfold nx at this; omega))) hP2 hl ⟨by omega, fun q h1 h2 => by rw [ho2 q (by omega), ho1 q h1], fun q hq => by
    rcases List.mem_append.mp hq with h | h
    · rcases List.mem_append.mp h with h | h
      · cases h
      · exact hL1 q h
    · have := hL2 q h
      show s.heap.size ≤ q.base
      omega⟩
