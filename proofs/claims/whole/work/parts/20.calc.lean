/-! CALCULUS of the pure half: answers, loops, frames, small numbers -/
def Ok {α : Type} (o : Option α) (Q : α → Prop) : Prop := ∃ x, o = some x ∧ Q x
section CALC
variable {α β σ : Type}
theorem Ok_some {x : α} {Q : α → Prop} (h : Q x) : Ok (some x) Q := ⟨x, rfl, h⟩
theorem Ok_bind {o : Option α} {f : α → Option β} {P : α → Prop} {Q : β → Prop} (h : Ok o P) (h2 : ∀ x, P x → Ok (f x) Q) : Ok (o.bind f) Q := by
  obtain ⟨x, rfl, hx⟩ := h
  exact h2 x hx
theorem Ok_mono {o : Option α} {P Q : α → Prop} (h : Ok o P) (h2 : ∀ x, P x → Q x) : Ok o Q := by
  obtain ⟨x, rfl, hx⟩ := h
  exact ⟨x, rfl, h2 x hx⟩
theorem grd_t (x : Option α) : grd true x = x := rfl
theorem grd_bt {b : Bool} (h : b = true) (x : Option α) : grd b x = x := by rw [h]; rfl
theorem Ok_grd {b : Bool} {x : Option α} {Q : α → Prop} (hb : b = true) (h : Ok x Q) : Ok (grd b x) Q := by rw [hb]; exact h
theorem Ok_ite {c : Prop} [Decidable c] {x y : Option α} {Q : α → Prop} (h : c → Ok x Q) (h2 : ¬ c → Ok y Q) : Ok (if c then x else y) Q := by
  by_cases hc : c
  · rw [if_pos hc]; exact h hc
  · rw [if_neg hc]; exact h2 hc
theorem grd_bl {a n : Nat} (h : a < n) (x : Option α) : grd (Nat.blt a n) x = x := by rw [show Nat.blt a n = true from Nat.ble_eq_true_of_le h]; rfl
theorem grd_bE {a n : Nat} (h : a ≤ n) (x : Option α) : grd (Nat.ble a n) x = x := by rw [show Nat.ble a n = true from Nat.ble_eq_true_of_le h]; rfl
/-- loops by a measure -/
theorem mfix_mu {b : (α → Option β) → α → Option β} {Q : β → Prop} (I : α → Prop) (μ : α → Nat) (step : ∀ k x, I x → (∀ y, I y → μ y < μ x → Ok (k y) Q) → Ok (b k x) Q) : ∀ n x, I x → μ x < n → Ok (mfix n b x) Q
  | 0, x, _, h => absurd h (Nat.not_lt_zero _)
  | n + 1, x, hI, h => step _ x hI fun y hy hm => mfix_mu I μ step n y hy (by omega)
theorem mfix_dn {b : (α → Option β) → α → Option β} {Q : β → Prop} (I : Nat → α → Prop) (step : ∀ k m x, I m x → (∀ m' y, m' < m → I m' y → Ok (k y) Q) → Ok (b k x) Q) : ∀ n m x, I m x → m < n → Ok (mfix n b x) Q
  | 0, m, x, _, h => absurd h (Nat.not_lt_zero _)
  | n + 1, m, x, hI, h => step _ m x hI fun m' y hm hy => mfix_dn I step n m' y hy (by omega)
/-- loops that count up from i to D -/
theorem mfix_up {b : (α → Option β) → α → Option β} {Q : β → Prop} (I : Nat → α → Prop) (D : Nat) (step : ∀ i k x, i < D → I i x → (∀ y, I (i + 1) y → Ok (k y) Q) → Ok (b k x) Q) (stop : ∀ k x, I D x → Ok (b k x) Q) : ∀ n i x, I i x → i ≤ D → D < n + i → Ok (mfix n b x) Q
  | 0, i, x, hI, h, h2 => by omega
  | n + 1, i, x, hI, h, h2 => by
    by_cases e : i = D
    · subst e; exact stop _ x hI
    · exact step i _ x (by omega) hI fun y hy => mfix_up I D step stop n (i + 1) y hy (by omega) (by omega)
/-- f 0, f 1, .. f (n - 1), one behind the other -/
def itN (f : Nat → σ → σ) : Nat → σ → σ
  | 0, a => a
  | n + 1, a => f n (itN f n a)
theorem itN_0 (f : Nat → σ → σ) (a : σ) : itN f 0 a = a := rfl
theorem itN_s (f : Nat → σ → σ) (n : Nat) (a : σ) : itN f (n + 1) a = f n (itN f n a) := rfl
theorem itN_inv {f : Nat → σ → σ} (P : Nat → σ → Prop) {a : σ} (h0 : P 0 a) (hs : ∀ i x, P i x → P (i + 1) (f i x)) : ∀ n, P n (itN f n a)
  | 0 => h0
  | n + 1 => hs n _ (itN_inv P h0 hs n)
theorem itN_invL {f : Nat → σ → σ} (P : Nat → σ → Prop) {a : σ} (h0 : P 0 a) {D : Nat} (hs : ∀ i x, i < D → P i x → P (i + 1) (f i x)) : ∀ n, n ≤ D → P n (itN f n a)
  | 0, _ => h0
  | n + 1, h => hs n _ (by omega) (itN_invL P h0 hs n (by omega))
theorem itN_cong {f g : Nat → σ → σ} {a : σ} : ∀ n, (∀ i x, i < n → f i x = g i x) → itN f n a = itN g n a
  | 0, _ => rfl
  | n + 1, h => by rw [itN_s, itN_s, itN_cong n fun i x hi => h i x (by omega)]; exact h n _ (by omega)
end CALC
/-! the state's cells -/
section CELLS
variable (s : mS) (f f' o o' a b i j sp dp n : Nat) (v : Int32) (w : Int64)
theorem gI_sI : gI (sI s f o v) f' o' = if f' = f ∧ o' = o then v else gI s f' o' := rfl
theorem gI_sA : gI (sA s a i v) f o = gI s f o := rfl
theorem gI_sL : gI (sL s f' o' w) f o = gI s f o := rfl
theorem gI_sQ : gI (sQ s a i w) f o = gI s f o := rfl
theorem gI_sC : gI (sC s a sp b dp n) f o = gI s f o := rfl
theorem gI_sD : gI (sD s a sp b dp n) f o = gI s f o := rfl
theorem gI_sO : gI (sO s a) f o = gI s f o := rfl
theorem gA_sI : gA (sI s f o v) a i = gA s a i := rfl
theorem gA_sA : gA (sA s a i v) b j = if b = a ∧ j = i then v else gA s b j := rfl
theorem gA_sL : gA (sL s f' o' w) a i = gA s a i := rfl
theorem gA_sQ : gA (sQ s a i w) b j = gA s b j := rfl
theorem gA_sD : gA (sD s a sp b dp n) f o = gA s f o := rfl
theorem gA_sO : gA (sO s a) b j = gA s b j := rfl
theorem gA_sC : gA (sC s a sp b dp n) o j = if o = b ∧ dp ≤ j ∧ j < dp + n then gA s a (sp + (j - dp)) else gA s o j := rfl
theorem gL_sI : gL (sI s f o v) f' o' = gL s f' o' := rfl
theorem gL_sA : gL (sA s a i v) f o = gL s f o := rfl
theorem gL_sL : gL (sL s f o w) f' o' = if f' = f ∧ o' = o then w else gL s f' o' := rfl
theorem gL_sQ : gL (sQ s a i w) f o = gL s f o := rfl
theorem gL_sC : gL (sC s a sp b dp n) f o = gL s f o := rfl
theorem gL_sD : gL (sD s a sp b dp n) f o = gL s f o := rfl
theorem gL_sO : gL (sO s a) f o = gL s f o := rfl
theorem gQ_sI : gQ (sI s f o v) a i = gQ s a i := rfl
theorem gQ_sA : gQ (sA s a i v) b j = gQ s b j := rfl
theorem gQ_sL : gQ (sL s f' o' w) a i = gQ s a i := rfl
theorem gQ_sQ : gQ (sQ s a i w) b j = if b = a ∧ j = i then w else gQ s b j := rfl
theorem gQ_sC : gQ (sC s a sp b dp n) o j = gQ s o j := rfl
theorem gQ_sD : gQ (sD s a sp b dp n) o j = if o = b ∧ dp ≤ j ∧ j < dp + n then gQ s a (sp + (j - dp)) else gQ s o j := rfl
theorem gQ_sO : gQ (sO s a) b j = gQ s b j := rfl
theorem gO_sI : gO (sI s f o v) = gO s := rfl
theorem gO_sA : gO (sA s a i v) = gO s := rfl
theorem gO_sL : gO (sL s f' o' w) = gO s := rfl
theorem gO_sQ : gO (sQ s a i w) = gO s := rfl
theorem gO_sC : gO (sC s a sp b dp n) = gO s := rfl
theorem gO_sD : gO (sD s a sp b dp n) = gO s := rfl
theorem gO_sO : gO (sO s a) = a := rfl
variable {s f f' o o' a b i j sp dp n v w}
theorem gA_eq (h : j = i) : gA (sA s a i v) a j = v := by rw [gA_sA, if_pos ⟨rfl, h⟩]
theorem gA_ne (h : ¬ (b = a ∧ j = i)) : gA (sA s a i v) b j = gA s b j := by rw [gA_sA, if_neg h]
theorem gQ_eq (h : j = i) : gQ (sQ s a i w) a j = w := by rw [gQ_sQ, if_pos ⟨rfl, h⟩]
theorem gQ_ne (h : ¬ (b = a ∧ j = i)) : gQ (sQ s a i w) b j = gQ s b j := by rw [gQ_sQ, if_neg h]
theorem gA_cin (h : dp ≤ j ∧ j < dp + n) : gA (sC s a sp b dp n) b j = gA s a (sp + (j - dp)) := by rw [gA_sC, if_pos ⟨rfl, h⟩]
theorem gA_cou (h : ¬ (o = b ∧ dp ≤ j ∧ j < dp + n)) : gA (sC s a sp b dp n) o j = gA s o j := by rw [gA_sC, if_neg h]
theorem gQ_cin (h : dp ≤ j ∧ j < dp + n) : gQ (sD s a sp b dp n) b j = gQ s a (sp + (j - dp)) := by rw [gQ_sD, if_pos ⟨rfl, h⟩]
theorem gQ_cou (h : ¬ (o = b ∧ dp ≤ j ∧ j < dp + n)) : gQ (sD s a sp b dp n) o j = gQ s o j := by rw [gQ_sD, if_neg h]
end CELLS
/-! frames: all but the cells of these keys are as they were -/
def Fr (l : List Nat) (s s' : mS) : Prop :=
  (∀ f o, 10000 + 100 * f + o ∉ l → gI s' f o = gI s f o) ∧ (∀ o i, o ∉ l → gA s' o i = gA s o i) ∧
  (∀ f o, 200000 + 100 * f + o ∉ l → gL s' f o = gL s f o) ∧ (∀ o i, 5000 + o ∉ l → gQ s' o i = gQ s o i) ∧ (9999 ∉ l → gO s' = gO s)
section FRAMES
variable {l m : List Nat} {s s1 s2 s' : mS}
theorem Fr.I (h : Fr l s s') (f o : Nat) (hk : 10000 + 100 * f + o ∉ l) : gI s' f o = gI s f o := h.1 f o hk
theorem Fr.A (h : Fr l s s') (o i : Nat) (hk : o ∉ l) : gA s' o i = gA s o i := h.2.1 o i hk
theorem Fr.L (h : Fr l s s') (f o : Nat) (hk : 200000 + 100 * f + o ∉ l) : gL s' f o = gL s f o := h.2.2.1 f o hk
theorem Fr.Q (h : Fr l s s') (o i : Nat) (hk : 5000 + o ∉ l) : gQ s' o i = gQ s o i := h.2.2.2.1 o i hk
theorem Fr.O (h : Fr l s s') (hk : 9999 ∉ l) : gO s' = gO s := h.2.2.2.2 hk
theorem Fr_r (l : List Nat) (s : mS) : Fr l s s := ⟨fun _ _ _ => rfl, fun _ _ _ => rfl, fun _ _ _ => rfl, fun _ _ _ => rfl, fun _ => rfl⟩
theorem Fr_t (h : Fr l s s1) (h2 : Fr l s1 s2) : Fr l s s2 :=
  ⟨fun f o k => (h2.I f o k).trans (h.I f o k), fun f o k => (h2.A f o k).trans (h.A f o k), fun f o k => (h2.L f o k).trans (h.L f o k), fun f o k => (h2.Q f o k).trans (h.Q f o k), fun k => (h2.O k).trans (h.O k)⟩
theorem Fr_w (h : Fr l s s') (hs : ∀ k ∈ l, k ∈ m) : Fr m s s' :=
  ⟨fun f o k => h.I f o fun c => k (hs _ c), fun f o k => h.A f o fun c => k (hs _ c), fun f o k => h.L f o fun c => k (hs _ c), fun f o k => h.Q f o fun c => k (hs _ c), fun k => h.O fun c => k (hs _ c)⟩
theorem Fr_sI (f o : Nat) (v : Int32) (h : 10000 + 100 * f + o ∈ l) : Fr l s (sI s f o v) :=
  ⟨fun f' o' k => by rw [gI_sI, if_neg]; rintro ⟨rfl, rfl⟩; exact k h, fun _ _ _ => rfl, fun _ _ _ => rfl, fun _ _ _ => rfl, fun _ => rfl⟩
theorem Fr_sA (o i : Nat) (v : Int32) (h : o ∈ l) : Fr l s (sA s o i v) :=
  ⟨fun _ _ _ => rfl, fun o' i' k => by rw [gA_sA, if_neg]; rintro ⟨rfl, rfl⟩; exact k h, fun _ _ _ => rfl, fun _ _ _ => rfl, fun _ => rfl⟩
theorem Fr_sL (f o : Nat) (v : Int64) (h : 200000 + 100 * f + o ∈ l) : Fr l s (sL s f o v) :=
  ⟨fun _ _ _ => rfl, fun _ _ _ => rfl, fun f' o' k => by rw [gL_sL, if_neg]; rintro ⟨rfl, rfl⟩; exact k h, fun _ _ _ => rfl, fun _ => rfl⟩
theorem Fr_sQ (o i : Nat) (v : Int64) (h : 5000 + o ∈ l) : Fr l s (sQ s o i v) :=
  ⟨fun _ _ _ => rfl, fun _ _ _ => rfl, fun _ _ _ => rfl, fun o' i' k => by rw [gQ_sQ, if_neg]; rintro ⟨rfl, rfl⟩; exact k h, fun _ => rfl⟩
theorem Fr_sO (o : Nat) (h : 9999 ∈ l) : Fr l s (sO s o) :=
  ⟨fun _ _ _ => rfl, fun _ _ _ => rfl, fun _ _ _ => rfl, fun _ _ _ => rfl, fun k => absurd h k⟩
theorem Fr_sC (a sp b dp n : Nat) (h : b ∈ l) : Fr l s (sC s a sp b dp n) :=
  ⟨fun _ _ _ => rfl, fun o' i' k => by rw [gA_sC, if_neg]; rintro ⟨rfl, _⟩; exact k h, fun _ _ _ => rfl, fun _ _ _ => rfl, fun _ => rfl⟩
theorem Fr_sD (a sp b dp n : Nat) (h : 5000 + b ∈ l) : Fr l s (sD s a sp b dp n) :=
  ⟨fun _ _ _ => rfl, fun _ _ _ => rfl, fun _ _ _ => rfl, fun o' i' k => by rw [gQ_sD, if_neg]; rintro ⟨rfl, _⟩; exact k h, fun _ => rfl⟩
end FRAMES
/-! small numbers -/
theorem zI_0 : (0 : Int32) = nI 0 := rfl
theorem zI_1 : (1 : Int32) = nI 1 := rfl
theorem zI_2 : (2 : Int32) = nI 2 := rfl
theorem zI_3 : (3 : Int32) = nI 3 := rfl
theorem zI_4 : (4 : Int32) = nI 4 := rfl
theorem zI_5 : (5 : Int32) = nI 5 := rfl
theorem zI_6 : (6 : Int32) = nI 6 := rfl
theorem zI_7 : (7 : Int32) = nI 7 := rfl
theorem zI_8 : (8 : Int32) = nI 8 := rfl
theorem zI_9 : (9 : Int32) = nI 9 := rfl
theorem zI_10 : (10 : Int32) = nI 10 := rfl
theorem zI_11 : (11 : Int32) = nI 11 := rfl
theorem zI_12 : (12 : Int32) = nI 12 := rfl
theorem zI_13 : (13 : Int32) = nI 13 := rfl
theorem zI_14 : (14 : Int32) = nI 14 := rfl
theorem zI_15 : (15 : Int32) = nI 15 := rfl
theorem zI_16 : (16 : Int32) = nI 16 := rfl
theorem zI_17 : (17 : Int32) = nI 17 := rfl
theorem zI_18 : (18 : Int32) = nI 18 := rfl
theorem zI_19 : (19 : Int32) = nI 19 := rfl
theorem zI_20 : (20 : Int32) = nI 20 := rfl
theorem zI_21 : (21 : Int32) = nI 21 := rfl
theorem zI_22 : (22 : Int32) = nI 22 := rfl
theorem zI_23 : (23 : Int32) = nI 23 := rfl
theorem zI_24 : (24 : Int32) = nI 24 := rfl
theorem zI_25 : (25 : Int32) = nI 25 := rfl
theorem zI_26 : (26 : Int32) = nI 26 := rfl
theorem zI_27 : (27 : Int32) = nI 27 := rfl
theorem zI_28 : (28 : Int32) = nI 28 := rfl
theorem zI_29 : (29 : Int32) = nI 29 := rfl
theorem zI_30 : (30 : Int32) = nI 30 := rfl
theorem zI_31 : (31 : Int32) = nI 31 := rfl
theorem zI_32 : (32 : Int32) = nI 32 := rfl
theorem zI_33 : (33 : Int32) = nI 33 := rfl
theorem zI_34 : (34 : Int32) = nI 34 := rfl
theorem zI_35 : (35 : Int32) = nI 35 := rfl
theorem zI_36 : (36 : Int32) = nI 36 := rfl
theorem zI_37 : (37 : Int32) = nI 37 := rfl
theorem zI_38 : (38 : Int32) = nI 38 := rfl
theorem zI_39 : (39 : Int32) = nI 39 := rfl
theorem zI_40 : (40 : Int32) = nI 40 := rfl
theorem zI_41 : (41 : Int32) = nI 41 := rfl
theorem zI_42 : (42 : Int32) = nI 42 := rfl
theorem zI_43 : (43 : Int32) = nI 43 := rfl
theorem zI_44 : (44 : Int32) = nI 44 := rfl
theorem zI_45 : (45 : Int32) = nI 45 := rfl
theorem zI_46 : (46 : Int32) = nI 46 := rfl
theorem zI_47 : (47 : Int32) = nI 47 := rfl
theorem zI_48 : (48 : Int32) = nI 48 := rfl
theorem zI_49 : (49 : Int32) = nI 49 := rfl
theorem zI_50 : (50 : Int32) = nI 50 := rfl
theorem zI_51 : (51 : Int32) = nI 51 := rfl
theorem zI_52 : (52 : Int32) = nI 52 := rfl
theorem zI_53 : (53 : Int32) = nI 53 := rfl
theorem zI_54 : (54 : Int32) = nI 54 := rfl
theorem zI_55 : (55 : Int32) = nI 55 := rfl
theorem zI_56 : (56 : Int32) = nI 56 := rfl
theorem zI_57 : (57 : Int32) = nI 57 := rfl
theorem zI_58 : (58 : Int32) = nI 58 := rfl
theorem zI_59 : (59 : Int32) = nI 59 := rfl
theorem zI_60 : (60 : Int32) = nI 60 := rfl
theorem zI_61 : (61 : Int32) = nI 61 := rfl
theorem zI_62 : (62 : Int32) = nI 62 := rfl
theorem zI_63 : (63 : Int32) = nI 63 := rfl
theorem zI_64 : (64 : Int32) = nI 64 := rfl
theorem zI_65 : (65 : Int32) = nI 65 := rfl
theorem zI_66 : (66 : Int32) = nI 66 := rfl
theorem zI_67 : (67 : Int32) = nI 67 := rfl
theorem zI_74 : (74 : Int32) = nI 74 := rfl
theorem zI_84 : (84 : Int32) = nI 84 := rfl
theorem zI_85 : (85 : Int32) = nI 85 := rfl
theorem zI_88 : (88 : Int32) = nI 88 := rfl
theorem zI_91 : (91 : Int32) = nI 91 := rfl
theorem zI_93 : (93 : Int32) = nI 93 := rfl
theorem zI_97 : (97 : Int32) = nI 97 := rfl
theorem zI_99 : (99 : Int32) = nI 99 := rfl
theorem zI_100 : (100 : Int32) = nI 100 := rfl
theorem zI_102 : (102 : Int32) = nI 102 := rfl
theorem zI_105 : (105 : Int32) = nI 105 := rfl
theorem zI_117 : (117 : Int32) = nI 117 := rfl
theorem zI_122 : (122 : Int32) = nI 122 := rfl
theorem zI_193 : (193 : Int32) = nI 193 := rfl
theorem zI_202 : (202 : Int32) = nI 202 := rfl
theorem zI_205 : (205 : Int32) = nI 205 := rfl
theorem zI_251 : (251 : Int32) = nI 251 := rfl
theorem zI_255 : (255 : Int32) = nI 255 := rfl
theorem zI_256 : (256 : Int32) = nI 256 := rfl
theorem zI_257 : (257 : Int32) = nI 257 := rfl
theorem zI_258 : (258 : Int32) = nI 258 := rfl
theorem zI_259 : (259 : Int32) = nI 259 := rfl
theorem zI_260 : (260 : Int32) = nI 260 := rfl
theorem zI_640 : (640 : Int32) = nI 640 := rfl
theorem zI_999 : (999 : Int32) = nI 999 := rfl
theorem zI_1000 : (1000 : Int32) = nI 1000 := rfl
theorem zI_1024 : (1024 : Int32) = nI 1024 := rfl
theorem zI_1600 : (1600 : Int32) = nI 1600 := rfl
theorem zI_1602 : (1602 : Int32) = nI 1602 := rfl
theorem zI_1700 : (1700 : Int32) = nI 1700 := rfl
theorem zI_2040 : (2040 : Int32) = nI 2040 := rfl
theorem zI_3200 : (3200 : Int32) = nI 3200 := rfl
theorem zI_4100 : (4100 : Int32) = nI 4100 := rfl
theorem zI_9728 : (9728 : Int32) = nI 9728 := rfl
theorem zI_11784 : (11784 : Int32) = nI 11784 := rfl
theorem zI_61440 : (61440 : Int32) = nI 61440 := rfl
theorem zI_65536 : (65536 : Int32) = nI 65536 := rfl
theorem zI_470536 : (470536 : Int32) = nI 470536 := rfl
theorem zI_999999 : (999999 : Int32) = nI 999999 := rfl
theorem zI_1000000 : (1000000 : Int32) = nI 1000000 := rfl
theorem zL_0 : (0 : Int64) = lN 0 := rfl
theorem zL_1 : (1 : Int64) = lN 1 := rfl
theorem zL_2 : (2 : Int64) = lN 2 := rfl
theorem zL_3 : (3 : Int64) = lN 3 := rfl
theorem zL_4 : (4 : Int64) = lN 4 := rfl
theorem zL_5 : (5 : Int64) = lN 5 := rfl
theorem zL_6 : (6 : Int64) = lN 6 := rfl
theorem zL_7 : (7 : Int64) = lN 7 := rfl
theorem zL_8 : (8 : Int64) = lN 8 := rfl
theorem zL_9 : (9 : Int64) = lN 9 := rfl
theorem zL_10 : (10 : Int64) = lN 10 := rfl
theorem zL_24 : (24 : Int64) = lN 24 := rfl
theorem zL_26 : (26 : Int64) = lN 26 := rfl
theorem zL_27 : (27 : Int64) = lN 27 := rfl
theorem zL_39 : (39 : Int64) = lN 39 := rfl
theorem zL_99 : (99 : Int64) = lN 99 := rfl
theorem zL_60 : (60 : Int64) = lN 60 := rfl
theorem zL_64 : (64 : Int64) = lN 64 := rfl
theorem zL_97 : (97 : Int64) = lN 97 := rfl
theorem zL_100 : (100 : Int64) = lN 100 := rfl
theorem zL_999 : (999 : Int64) = lN 999 := rfl
theorem zL_999999 : (999999 : Int64) = lN 999999 := rfl
theorem zL_1000000 : (1000000 : Int64) = lN 1000000 := rfl
theorem zL_12345 : (12345 : Int64) = lN 12345 := rfl
theorem zL_1103515245 : (1103515245 : Int64) = lN 1103515245 := rfl
theorem zL_2147483647 : (2147483647 : Int64) = lN 2147483647 := rfl
theorem zL_2147483648 : (2147483648 : Int64) = lN 2147483648 := rfl
theorem fa_or (a b : Nat) : nI a ||| nI b = nI (a ||| b) := by
  apply Int32.toBitVec_inj.1
  show BitVec.ofNat 32 a ||| BitVec.ofNat 32 b = BitVec.ofNat 32 (a ||| b)
  apply BitVec.eq_of_getLsbD_eq
  intro i hi
  simp [hi]
theorem fa_and (a b : Nat) : nI a &&& nI b = nI (a &&& b) := by
  apply Int32.toBitVec_inj.1
  show BitVec.ofNat 32 a &&& BitVec.ofNat 32 b = BitVec.ofNat 32 (a &&& b)
  apply BitVec.eq_of_getLsbD_eq
  intro i hi
  simp [hi]
theorem nx_xor (a b : Nat) : nI a ^^^ nI b = nI (a ^^^ b) := by
  apply Int32.toBitVec_inj.1
  show BitVec.ofNat 32 a ^^^ BitVec.ofNat 32 b = BitVec.ofNat 32 (a ^^^ b)
  apply BitVec.eq_of_getLsbD_eq
  intro i hi
  simp [hi]
theorem s_l : ∀ n, n < 32 → ((nI n &&& 31).toBitVec.smod 32).toNat = n := by decide +kernel
theorem s_u : ∀ n, n < 32 → (((nI n).toUInt32 &&& Int32.toUInt32 31).toBitVec % 32).toNat = n := by decide +kernel
def m1 : Int32 := -1
theorem neg_1 : -(nI 1) = m1 := rfl
theorem m1_t : m1.toInt = -1 := by decide
section NUM
variable {a b n d : Nat}
theorem cn_sub (h : b ≤ a) : nI a - nI b = nI (a - b) := pk_sub h
theorem cn_div (ha : a < 2147483648 ∧ 0 < d ∧ d < 2147483648) : nI a / nI d = nI (a / d) := pk_div ha.1 ha.2.1 ha.2.2
theorem cn_irm (ha : a < 2147483648 ∧ 0 < d ∧ d < 2147483648) : irm (nI a) (nI d) = nI (a % d) := pk_rem ha.1 ha.2.1 ha.2.2
theorem cn_lt (h : a < 2147483648 ∧ b < 2147483648) : (nI a < nI b) = (a < b) := propext (nI_ltI h.1 h.2)
theorem cn_eq (h : a < 2147483648 ∧ b < 2147483648) : (nI a = nI b) = (a = b) := propext (nI_eq h.1 h.2)
theorem cn_ltm1 (h : a < 2147483648) : (nI a < m1) = False := by
  refine eq_false fun c => ?_
  rw [Int32.lt_iff_toInt_lt, nI_toInt h] at c
  have := m1_t
  omega
theorem cn_m1lt (h : a < 2147483648) : (m1 < nI a) = True := by
  refine eq_true ?_
  rw [Int32.lt_iff_toInt_lt, nI_toInt h]
  have := m1_t
  omega
theorem cn_eqm1 (h : a < 2147483648) : (nI a = m1) = False := by
  refine eq_false fun c => ?_
  have c := congrArg Int32.toInt c
  rw [nI_toInt h] at c
  have := m1_t
  omega
theorem cn_m1eq (h : a < 2147483648) : (m1 = nI a) = False := by
  exact (propext eq_comm).trans (cn_eqm1 h)
theorem lt_T (h : a < b) : (a < b) = True := eq_true h
theorem lt_F (h : b ≤ a) : (a < b) = False := eq_false (Nat.not_lt.mpr h)
theorem le_T (h : a ≤ b) : (a ≤ b) = True := eq_true h
theorem le_F (h : b < a) : (a ≤ b) = False := eq_false (Nat.not_le.mpr h)
theorem eq_T (h : a = b) : (a = b) = True := eq_true h
theorem eq_F (h : a ≠ b) : (a = b) = False := eq_false h
theorem cn_m1n : (nI a + m1) = nI a - nI 1 := by
  show nI a + (-1) = nI a - 1
  rw [Int32.sub_eq_add_neg]
theorem cn_m11 : (m1 = m1) = True := eq_true rfl
theorem cn_m1l0 (h : a < 2147483648) : (m1 < nI a) = True := cn_m1lt h
theorem cn_m1p : m1 + nI 1 = nI 0 := rfl
theorem cn_ix (h : a < 2147483648) : ix (nI a) = a := nI_clamp h
theorem cn_inb (h : a < n ∧ n < 2147483648) : inb (nI a) n = true := by
  unfold inb
  rw [show decide (nI a < 0) = false from decide_eq_false (nI_pos (Nat.lt_trans h.1 h.2)), nI_clamp (Nat.lt_trans h.1 h.2)]
  exact Nat.ble_eq_true_of_le h.1
theorem cn_ninb (h : n ≤ a ∧ a < 2147483648) : inb (nI a) n = false := by
  unfold inb
  rw [show decide (nI a < 0) = false from decide_eq_false (nI_pos h.2), nI_clamp h.2]
  exact Bool.eq_false_iff.mpr fun c => by have := Nat.le_of_ble_eq_true c; omega
theorem cn_and : nI a &&& nI b = nI (a &&& b) := fa_and a b
theorem cn_xor : nI a ^^^ nI b = nI (a ^^^ b) := nx_xor a b
theorem cn_or : nI a ||| nI b = nI (a ||| b) := fa_or a b
theorem cn_irs (h : a < 2147483648 ∧ b < 32) : irs (nI a) (nI b) = nI (a >>> b) := by
  rw [Nat.shiftRight_eq_div_pow]; exact pk_shrN h.1 _ b (s_l b h.2)
theorem cn_ils (h : a < 256 ∧ b ≤ 24) : ils (nI a) (nI b) = nI (a <<< b) := by
  have e : 2 ^ b ≤ 2 ^ 24 := Nat.pow_le_pow_right (by omega) h.2
  rw [Nat.shiftLeft_eq]; exact pk_shlN _ b (s_l b (by omega)) (Nat.lt_of_le_of_lt (Nat.mul_le_mul (Nat.le_of_lt_succ h.1) e) (by decide))
theorem bit01 (a d : Nat) : a >>> d &&& 1 = if a.testBit d then 1 else 0 := by
  rw [Nat.and_one_is_mod, Nat.testBit]
  cases h : a >>> d % 2 with
  | zero => rw [show (1 &&& a >>> d != 0) = false from by rw [Nat.one_and_eq_mod_two, h]; rfl]; rfl
  | succ k =>
    have e : k = 0 := by omega
    subst e
    rw [show (1 &&& a >>> d != 0) = true from by rw [Nat.one_and_eq_mod_two, h]; rfl]; rfl
theorem bit_le (a d : Nat) : a >>> d &&& 1 ≤ 1 := by rw [bit01]; split <;> omega
theorem bit_ne (a d : Nat) : (nI (a >>> d &&& 1) = nI 0) = (a.testBit d = false) := by
  rw [cn_eq ⟨by have := bit_le a d; omega, by omega⟩, bit01]
  cases a.testBit d <;> simp
theorem nI_ite (c : Prop) [Decidable c] (a b : Nat) : (if c then nI a else nI b) = nI (if c then a else b) := by split <;> rfl
end NUM
