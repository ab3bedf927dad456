/-! SIGNED small numbers -/
def zi (v : Int) : Int32 := Int32.ofInt v
def zl (v : Int) : Int64 := Int64.ofInt v
section ZNUM
variable {a b : Int}
theorem zi_nI (n : Nat) : zi (n : Int) = nI n := by
  unfold zi nI
  exact Int32.ofInt_eq_ofNat
theorem zl_lN (n : Nat) : zl (n : Int) = lN n := by
  unfold zl lN
  exact Int64.ofInt_eq_ofNat
theorem zi_t (h : -2147483648 ≤ a ∧ a < 2147483648) : (zi a).toInt = a := Int32.toInt_ofInt_of_le h.1 h.2
theorem zl_t (h : -9223372036854775808 ≤ a ∧ a < 9223372036854775808) : (zl a).toInt = a := Int64.toInt_ofInt_of_le h.1 h.2
theorem zi_add : zi a + zi b = zi (a + b) := (Int32.ofInt_add a b).symm
theorem zi_sub : zi a - zi b = zi (a - b) := (Int32.ofInt_sub a b).symm
theorem zi_mul : zi a * zi b = zi (a * b) := (Int32.ofInt_mul a b).symm
theorem zl_add : zl a + zl b = zl (a + b) := (Int64.ofInt_add a b).symm
theorem zl_sub : zl a - zl b = zl (a - b) := (Int64.ofInt_sub a b).symm
theorem zl_mul : zl a * zl b = zl (a * b) := (Int64.ofInt_mul a b).symm
theorem zi_lt (h : -2147483648 ≤ a ∧ a < 2147483648 ∧ -2147483648 ≤ b ∧ b < 2147483648) : (zi a < zi b) = (a < b) := by
  rw [Int32.lt_iff_toInt_lt, zi_t ⟨h.1, h.2.1⟩, zi_t h.2.2]
theorem zi_eq (h : -2147483648 ≤ a ∧ a < 2147483648 ∧ -2147483648 ≤ b ∧ b < 2147483648) : (zi a = zi b) = (a = b) := by
  rw [← Int32.toInt_inj, zi_t ⟨h.1, h.2.1⟩, zi_t h.2.2]
theorem zi_l (h : -2147483648 ≤ a ∧ a < 2147483648) : (zi a).toInt64 = zl a := by
  apply Int64.toInt_inj.mp
  rw [Int32.toInt_toInt64, zi_t h, zl_t (by omega)]
theorem zl_i (h : -2147483648 ≤ a ∧ a < 2147483648) : (zl a).toInt32 = zi a := by
  rw [← zi_l h]; exact lg_l2i_i2l _
theorem zl_eq (h : -9223372036854775808 ≤ a ∧ a < 9223372036854775808 ∧ -9223372036854775808 ≤ b ∧ b < 9223372036854775808) : (zl a = zl b) = (a = b) := by
  rw [← Int64.toInt_inj, zl_t ⟨h.1, h.2.1⟩, zl_t h.2.2]
theorem zl_lt (h : -9223372036854775808 ≤ a ∧ a < 9223372036854775808 ∧ -9223372036854775808 ≤ b ∧ b < 9223372036854775808) : (zl a < zl b) = (a < b) := by
  rw [Int64.lt_iff_toInt_lt, zl_t ⟨h.1, h.2.1⟩, zl_t h.2.2]
theorem zc_lt (h : -9223372036854775808 ≤ a ∧ a < 9223372036854775808 ∧ -9223372036854775808 ≤ b ∧ b < 9223372036854775808) : (lg_cmp (zl a) (zl b) < 0) = (a < b) := by
  rw [propext (lg_cmp_lt _ _), zl_lt h]
theorem zc_gt (h : -9223372036854775808 ≤ a ∧ a < 9223372036854775808 ∧ -9223372036854775808 ≤ b ∧ b < 9223372036854775808) : (0 < lg_cmp (zl a) (zl b)) = (b < a) := by
  rw [propext (lg_cmp_gt _ _), zl_lt ⟨h.2.2.1, h.2.2.2, h.1, h.2.1⟩]
theorem zc_eq (h : -9223372036854775808 ≤ a ∧ a < 9223372036854775808 ∧ -9223372036854775808 ≤ b ∧ b < 9223372036854775808) : (lg_cmp (zl a) (zl b) = 0) = (a = b) := by
  rw [propext (lg_cmp_eq _ _), zl_eq h]
end ZNUM
/-! THE PLAN, THE HALL, what codes come to -/
abbrev pL : Type := Nat × Nat × Nat × Nat × (Nat → List Nat) × (Nat → List Nat) × Bool × Bool
def pD (A : pL) : Nat := A.1
def pP (A : pL) : Nat := A.2.1
def pS (A : pL) : Nat := A.2.2.1
def pI (A : pL) : Nat := A.2.2.2.1
def pC (A : pL) : Nat → List Nat := A.2.2.2.2.1
def pNm (A : pL) : Nat → List Nat := A.2.2.2.2.2.1
def pTw (A : pL) : Bool := A.2.2.2.2.2.2.1
def pTc (A : pL) : Bool := A.2.2.2.2.2.2.2
abbrev hL : Type := (Nat → Nat) × (Nat → Nat × Nat × Nat)
def fU {α : Type} (f : Nat → α) (i : Nat) (v : α) : Nat → α := fun j => if j = i then v else f j
theorem fU_s {α : Type} (f : Nat → α) (i : Nat) (v : α) : fU f i v i = v := if_pos rfl
theorem fU_e {α : Type} {f : Nat → α} {i j : Nat} {v : α} (h : j = i) : fU f i v j = v := if_pos h
theorem fU_n {α : Type} {f : Nat → α} {i j : Nat} {v : α} (h : j ≠ i) : fU f i v j = f j := if_neg h
def b01 (b : Bool) : Int := if b then 1 else 0
def jm (A : pL) (H : hL) (d : Nat) : Bool := decide (0 < pS A) && decide (pS A ≤ H.1 (4 + d))
def gv (A : pL) (H : hL) (d p : Nat) : Nat → Int
  | 0 => H.1 0
  | 1 => d
  | 2 => H.1 (28 + d)
  | 3 => b01 ((H.1 2).testBit d)
  | 4 => H.1 (4 + d)
  | 5 => p
  | 6 => pc (H.1 2)
  | 7 => H.1 (52 + p)
  | _ => b01 (jm A H d)
def clip (v : Int) : Int := if 1000000 < v then 1000000 else if v < -1000000 then -1000000 else v
def fdv (a b : Int) : Int := if b = 0 then 0 else if ¬ (a < 0 ↔ b < 0) ∧ a.tdiv b * b ≠ a then a.tdiv b - 1 else a.tdiv b
def bin (c : Nat) (a b : Int) : Int := match c with
  | 1 => clip (a + b)
  | 2 => clip (a - b)
  | 3 => clip (a * b)
  | 4 => fdv a b
  | 5 => if a < b then a else b
  | 6 => if b < a then a else b
  | 7 => b01 (decide (a < b))
  | 8 => b01 (decide (b < a))
  | 9 => b01 (decide (a = b))
  | 10 => a * b
  | _ => b01 (decide (0 < a + b))
def ev1 (g : Nat → Int) (gb gn : Int → Int) (c : Nat) (st : List Int) : List Int :=
  if 1000 ≤ c then (((c - 1000 : Nat) : Int)) :: st
  else if c = 60 then (match st with | a :: r => gb a :: r | [] => [])
  else if c = 61 then (match st with | a :: r => gn a :: r | [] => [])
  else if 40 ≤ c then g (c - 40) :: st
  else if c = 13 then 1 :: st
  else if c = 12 then (match st with | a :: r => (1 - a) :: r | [] => [])
  else (match st with | b :: a :: r => bin c a b :: r | _ => st)
def evL (g : Nat → Int) (gb gn : Int → Int) : List Nat → List Int → List Int
  | [], st => st
  | c :: cs, st => evL g gb gn cs (ev1 g gb gn c st)
def ev (g : Nat → Int) (gb gn : Int → Int) (cs : List Nat) : Int := (evL g gb gn cs []).headD 0
/-- what may stand on the pile: true a truth, false a number -/
def ck1 (al : Nat → Bool) (c : Nat) (ts : List Bool) : Option (List Bool) :=
  if 1000 ≤ c then (if c ≤ 10999 ∧ ts.length < 50 then some (false :: ts) else none)
  else if c = 60 then (if al 9 then (match ts with | false :: r => some (false :: r) | _ => none) else none)
  else if c = 61 then (if al 10 then (match ts with | false :: r => some (false :: r) | _ => none) else none)
  else if 40 ≤ c then (if al (c - 40) ∧ c ≤ 48 ∧ ts.length < 50 then some (false :: ts) else none)
  else if c = 13 then (if ts.length < 50 then some (true :: ts) else none)
  else if c = 12 then (match ts with | true :: r => some (true :: r) | _ => none)
  else if c = 10 ∨ c = 11 then (match ts with | true :: true :: r => some (true :: r) | _ => none)
  else if 7 ≤ c ∧ c ≤ 9 then (match ts with | false :: false :: r => some (true :: r) | _ => none)
  else if 1 ≤ c ∧ c ≤ 6 then (match ts with | false :: false :: r => some (false :: r) | _ => none)
  else none
def ckL (al : Nat → Bool) : List Nat → List Bool → Option (List Bool)
  | [], ts => some ts
  | c :: cs, ts => match ck1 al c ts with
    | some ts' => ckL al cs ts'
    | none => none
def TyV (t : Bool) (v : Int) : Prop := if t then v = 0 ∨ v = 1 else -1000000 ≤ v ∧ v ≤ 1000000
def TyS : List Bool → List Int → Prop
  | [], [] => True
  | t :: ts, v :: st => TyV t v ∧ TyS ts st
  | _, _ => False
theorem TyS_len : ∀ {ts st}, TyS ts st → ts.length = st.length
  | [], [], _ => rfl
  | _ :: ts, _ :: st, h => by rw [List.length_cons, List.length_cons, TyS_len h.2]
  | [], _ :: _, h => h.elim
  | _ :: _, [], h => h.elim
theorem TyV_n (v : Int) : TyV false v ↔ (-1000000 ≤ v ∧ v ≤ 1000000) := Iff.rfl
theorem TyV_b (v : Int) : TyV true v ↔ (v = 0 ∨ v = 1) := Iff.rfl
theorem clip_r (v : Int) : -1000000 ≤ clip v ∧ clip v ≤ 1000000 := by
  unfold clip; split
  · omega
  · split <;> omega
theorem ab_le {x a : Int} {m : Int} (h : x.natAbs ≤ a.natAbs) (ha : -m ≤ a ∧ a ≤ m) : -m ≤ x ∧ x ≤ m := by
  rcases Int.natAbs_eq a with e | e <;> rcases Int.natAbs_eq x with e2 | e2 <;> omega
theorem tdv_r {a b : Int} (ha : -1000000 ≤ a ∧ a ≤ 1000000) : -1000000 ≤ a.tdiv b ∧ a.tdiv b ≤ 1000000 := by
  have h1 : (a.tdiv b).natAbs = a.natAbs / b.natAbs := Int.natAbs_tdiv a b
  have h2 := Nat.div_le_self a.natAbs b.natAbs
  rw [← h1] at h2
  exact ab_le h2 ha
theorem fdv_r {a b : Int} (ha : -1000000 ≤ a ∧ a ≤ 1000000) : -1000000 ≤ fdv a b ∧ fdv a b ≤ 1000000 := by
  unfold fdv
  split
  · omega
  · rename_i hb
    have h1 : (a.tdiv b).natAbs = a.natAbs / b.natAbs := Int.natAbs_tdiv a b
    have h3 := tdv_r (b := b) ha
    split
    · rename_i hc
      have hb2 : b ≠ 1 ∧ b ≠ -1 := by
        constructor
        · rintro rfl
          exact hc.2 (by rw [Int.tdiv_one, Int.mul_one])
        · rintro rfl
          exact hc.2 (by rw [Int.tdiv_neg, Int.tdiv_one]; omega)
      have h2 : a.natAbs / b.natAbs ≤ a.natAbs / 2 := Nat.div_le_div_left (by omega) (by omega)
      rw [← h1] at h2
      rcases Int.natAbs_eq a with e | e <;> rcases Int.natAbs_eq (a.tdiv b) with e2 | e2 <;> omega
    · exact h3
theorem bin_n {c : Nat} {a b : Int} (h : 1 ≤ c ∧ c ≤ 6) (ha : TyV false a) (hb : TyV false b) : TyV false (bin c a b) := by
  have ha := (TyV_n a).mp ha
  have hb := (TyV_n b).mp hb
  obtain ⟨h1, h2⟩ := h
  have : c = 1 ∨ c = 2 ∨ c = 3 ∨ c = 4 ∨ c = 5 ∨ c = 6 := by omega
  rcases this with rfl | rfl | rfl | rfl | rfl | rfl
  · exact clip_r _
  · exact clip_r _
  · exact clip_r _
  · exact fdv_r ha
  · show TyV false (if a < b then a else b)
    rw [TyV_n]; split <;> omega
  · show TyV false (if b < a then a else b)
    rw [TyV_n]; split <;> omega
theorem b01_t (b : Bool) : TyV true (b01 b) := by cases b; exact Or.inl rfl; exact Or.inr rfl
theorem b01_n (b : Bool) : TyV false (b01 b) := by cases b <;> rw [TyV_n] <;> simp [b01]
theorem bin_c {c : Nat} {a b : Int} (h : 7 ≤ c ∧ c ≤ 9) : TyV true (bin c a b) := by
  have : c = 7 ∨ c = 8 ∨ c = 9 := by omega
  rcases this with rfl | rfl | rfl <;> exact b01_t _
theorem bin_b {c : Nat} {a b : Int} (h : c = 10 ∨ c = 11) (ha : TyV true a) (hb : TyV true b) : TyV true (bin c a b) := by
  rcases h with rfl | rfl
  · show TyV true (a * b)
    rcases (TyV_b a).mp ha with rfl | rfl
    · left; exact Int.zero_mul b
    · rw [Int.one_mul]; exact hb
  · exact b01_t _
/-- what is asked of the numbers that are given -/
def GB (al : Nat → Bool) (g : Nat → Int) (gb gn : Int → Int) : Prop := (∀ w, al w = true → TyV false (g w)) ∧ (∀ v, TyV true (gb v)) ∧ ∀ v, TyV true (gn v)
theorem TyV_bn {v : Int} (h : TyV true v) : TyV false v := by
  rw [TyV_n]
  rcases (TyV_b v).mp h with rfl | rfl <;> omega
/-- the cases of one code -/
theorem ck1_cases {al : Nat → Bool} {c : Nat} {ts ts' : List Bool} (h : ck1 al c ts = some ts') :
    (1000 ≤ c ∧ c ≤ 10999 ∧ ts.length < 50 ∧ ts' = false :: ts) ∨ (c = 60 ∧ al 9 = true ∧ ∃ r, ts = false :: r ∧ ts' = false :: r) ∨ (c = 61 ∧ al 10 = true ∧ ∃ r, ts = false :: r ∧ ts' = false :: r) ∨
    (40 ≤ c ∧ c ≤ 48 ∧ al (c - 40) = true ∧ ts.length < 50 ∧ ts' = false :: ts) ∨ (c = 13 ∧ ts.length < 50 ∧ ts' = true :: ts) ∨ (c = 12 ∧ ∃ r, ts = true :: r ∧ ts' = true :: r) ∨
    ((c = 10 ∨ c = 11) ∧ ∃ r, ts = true :: true :: r ∧ ts' = true :: r) ∨ ((7 ≤ c ∧ c ≤ 9) ∧ ∃ r, ts = false :: false :: r ∧ ts' = true :: r) ∨ ((1 ≤ c ∧ c ≤ 6) ∧ ∃ r, ts = false :: false :: r ∧ ts' = false :: r) := by
  unfold ck1 at h
  split at h
  · split at h
    · rename_i h1 h2; cases h; exact Or.inl ⟨h1, h2.1, h2.2, rfl⟩
    · cases h
  refine Or.inr ?_
  split at h
  · split at h
    · split at h
      · cases h; exact Or.inl ⟨by assumption, by assumption, _, rfl, rfl⟩
      · cases h
    · cases h
  refine Or.inr ?_
  split at h
  · split at h
    · split at h
      · cases h; exact Or.inl ⟨by assumption, by assumption, _, rfl, rfl⟩
      · cases h
    · cases h
  refine Or.inr ?_
  split at h
  · split at h
    · rename_i h1 h2; cases h; exact Or.inl ⟨h1, h2.2.1, h2.1, h2.2.2, rfl⟩
    · cases h
  refine Or.inr ?_
  split at h
  · split at h
    · cases h; exact Or.inl ⟨by assumption, by assumption, rfl⟩
    · cases h
  refine Or.inr ?_
  split at h
  · split at h
    · cases h; exact Or.inl ⟨by assumption, _, rfl, rfl⟩
    · cases h
  refine Or.inr ?_
  split at h
  · split at h
    · cases h; exact Or.inl ⟨by assumption, _, rfl, rfl⟩
    · cases h
  refine Or.inr ?_
  split at h
  · split at h
    · cases h; exact Or.inl ⟨by assumption, _, rfl, rfl⟩
    · cases h
  refine Or.inr ?_
  split at h
  · split at h
    · cases h; exact ⟨by assumption, _, rfl, rfl⟩
    · cases h
  · cases h
theorem TyS_1 {t : Bool} {ts : List Bool} {st : List Int} (h : TyS (t :: ts) st) : ∃ v r, st = v :: r ∧ TyV t v ∧ TyS ts r := by
  cases st with
  | nil => exact h.elim
  | cons v r => exact ⟨v, r, rfl, h.1, h.2⟩
theorem TyS_2 {t u : Bool} {ts : List Bool} {st : List Int} (h : TyS (t :: u :: ts) st) : ∃ v w r, st = v :: w :: r ∧ TyV t v ∧ TyV u w ∧ TyS ts r := by
  obtain ⟨v, r, rfl, h1, h2⟩ := TyS_1 h
  obtain ⟨w, r2, rfl, h3, h4⟩ := TyS_1 h2
  exact ⟨v, w, r2, rfl, h1, h3, h4⟩
theorem ev1_num {g : Nat → Int} {gb gn : Int → Int} {c : Nat} (h : 1000 ≤ c) (st : List Int) : ev1 g gb gn c st = (((c - 1000 : Nat) : Int)) :: st := if_pos h
theorem ev1_part {g : Nat → Int} {gb gn : Int → Int} {c : Nat} (h : 40 ≤ c ∧ c ≤ 48) (st : List Int) : ev1 g gb gn c st = g (c - 40) :: st := by
  unfold ev1
  rw [if_neg (by omega), if_neg (by omega), if_neg (by omega), if_pos h.1]
theorem ev1_bin {g : Nat → Int} {gb gn : Int → Int} {c : Nat} (h : c ≤ 11) (a b : Int) (r : List Int) : ev1 g gb gn c (b :: a :: r) = bin c a b :: r := by
  unfold ev1
  rw [if_neg (by omega), if_neg (by omega), if_neg (by omega), if_neg (by omega), if_neg (by omega), if_neg (by omega)]
theorem ev1_ty {al : Nat → Bool} {g : Nat → Int} {gb gn : Int → Int} (hg : GB al g gb gn) {c : Nat} {ts ts' : List Bool} {st : List Int} (h : ck1 al c ts = some ts') (hT : TyS ts st) : TyS ts' (ev1 g gb gn c st) := by
  rcases ck1_cases h with ⟨h1, h2, h3, rfl⟩ | ⟨rfl, h2, r, rfl, rfl⟩ | ⟨rfl, h2, r, rfl, rfl⟩ | ⟨h1, h2, h3, h4, rfl⟩ | ⟨rfl, h2, rfl⟩ | ⟨rfl, r, rfl, rfl⟩ | ⟨h1, r, rfl, rfl⟩ | ⟨h1, r, rfl, rfl⟩ | ⟨h1, r, rfl, rfl⟩
  · rw [ev1_num h1]; exact ⟨(TyV_n _).mpr (by omega), hT⟩
  · obtain ⟨v, st, rfl, _, h4⟩ := TyS_1 hT
    exact ⟨TyV_bn (hg.2.1 v), h4⟩
  · obtain ⟨v, st, rfl, _, h4⟩ := TyS_1 hT
    exact ⟨TyV_bn (hg.2.2 v), h4⟩
  · rw [ev1_part ⟨h1, h2⟩]; exact ⟨hg.1 _ h3, hT⟩
  · exact ⟨Or.inr rfl, hT⟩
  · obtain ⟨v, st, rfl, h3, h4⟩ := TyS_1 hT
    refine ⟨?_, h4⟩
    rcases (TyV_b v).mp h3 with rfl | rfl
    · exact Or.inr rfl
    · exact Or.inl rfl
  · obtain ⟨v, w, st, rfl, h3, h4, h5⟩ := TyS_2 hT
    rw [ev1_bin (by omega)]; exact ⟨bin_b h1 h4 h3, h5⟩
  · obtain ⟨v, w, st, rfl, h3, h4, h5⟩ := TyS_2 hT
    rw [ev1_bin (by omega)]; exact ⟨bin_c h1, h5⟩
  · obtain ⟨v, w, st, rfl, h3, h4, h5⟩ := TyS_2 hT
    rw [ev1_bin (by omega)]; exact ⟨bin_n h1 h4 h3, h5⟩
theorem evL_ty {al : Nat → Bool} {g : Nat → Int} {gb gn : Int → Int} (hg : GB al g gb gn) : ∀ {cs : List Nat} {ts ts' : List Bool} {st : List Int}, ckL al cs ts = some ts' → TyS ts st → TyS ts' (evL g gb gn cs st)
  | [], ts, ts', st, h, hT => by cases h; exact hT
  | c :: cs, ts, ts', st, h, hT => by
    unfold ckL at h
    split at h
    · rename_i t2 h2
      show TyS ts' (evL g gb gn cs (ev1 g gb gn c st))
      exact evL_ty hg h (ev1_ty hg h2 hT)
    · cases h
theorem ev_ty {al : Nat → Bool} {g : Nat → Int} {gb gn : Int → Int} (hg : GB al g gb gn) {cs : List Nat} {t : Bool} (h : ckL al cs [] = some [t]) : TyV t (ev g gb gn cs) ∧ evL g gb gn cs [] = [ev g gb gn cs] := by
  have hT : TyS [] [] := trivial
  obtain ⟨v, r, e, h1, h2⟩ := TyS_1 (evL_ty hg h hT)
  cases r with
  | nil => unfold ev; rw [e]; exact ⟨h1, rfl⟩
  | cons _ _ => exact h2.elim
theorem ckL_len {al : Nat → Bool} : ∀ {cs : List Nat} {ts ts' : List Bool}, ckL al cs ts = some ts' → ts.length ≤ 50 → ts'.length ≤ 50
  | [], ts, ts', h, hT => by cases h; exact hT
  | c :: cs, ts, ts', h, hT => by
    unfold ckL at h
    split at h
    · rename_i t2 h2
      refine ckL_len h ?_
      rcases ck1_cases h2 with ⟨h1, h2, h3, rfl⟩ | ⟨rfl, h2, r, rfl, rfl⟩ | ⟨rfl, h2, r, rfl, rfl⟩ | ⟨h1, h2, h3, h4, rfl⟩ | ⟨rfl, h2, rfl⟩ | ⟨rfl, r, rfl, rfl⟩ | ⟨h1, r, rfl, rfl⟩ | ⟨h1, r, rfl, rfl⟩ | ⟨h1, r, rfl, rfl⟩ <;> simp only [List.length_cons] at * <;> omega
    · cases h
theorem ckL_app (al : Nat → Bool) : ∀ (cs ds : List Nat) (ts : List Bool), ckL al (cs ++ ds) ts = (ckL al cs ts).bind (ckL al ds)
  | [], ds, ts => rfl
  | c :: cs, ds, ts => by
    rw [List.cons_append]
    unfold ckL
    split
    · exact ckL_app al cs ds _
    · rfl
