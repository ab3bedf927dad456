/-! THE MINI MACHINE: a method's bytecode run over a heap of numbers, as a function; what it answers the machine answers (part 04). -/
/-- ints of fields, ints of arrays, longs of fields, longs of arrays, the one reference that changes -/
abbrev mS : Type := (Nat → Nat → Int32) × (Nat → Nat → Int32) × (Nat → Nat → Int64) × (Nat → Nat → Int64) × Nat
noncomputable def up2 {α : Type} (f : Nat → Nat → α) (a b : Nat) (v : α) : Nat → Nat → α := fun x y => if x = a ∧ y = b then v else f x y
noncomputable def gI (s : mS) (f o : Nat) : Int32 := s.1 f o
noncomputable def gA (s : mS) (o i : Nat) : Int32 := s.2.1 o i
noncomputable def gL (s : mS) (f o : Nat) : Int64 := s.2.2.1 f o
noncomputable def gQ (s : mS) (o i : Nat) : Int64 := s.2.2.2.1 o i
noncomputable def gO (s : mS) : Nat := s.2.2.2.2
noncomputable def sI (s : mS) (f o : Nat) (v : Int32) : mS := (up2 s.1 f o v, s.2)
noncomputable def sA (s : mS) (o i : Nat) (v : Int32) : mS := (s.1, up2 s.2.1 o i v, s.2.2)
noncomputable def sL (s : mS) (f o : Nat) (v : Int64) : mS := (s.1, s.2.1, up2 s.2.2.1 f o v, s.2.2.2)
noncomputable def sQ (s : mS) (o i : Nat) (v : Int64) : mS := (s.1, s.2.1, s.2.2.1, up2 s.2.2.2.1 o i v, s.2.2.2.2)
noncomputable def sO (s : mS) (o : Nat) : mS := (s.1, s.2.1, s.2.2.1, s.2.2.2.1, o)
noncomputable def cp2 {α : Type} (f : Nat → Nat → α) (a sp b dp n : Nat) : Nat → Nat → α := fun x y => if x = b ∧ dp ≤ y ∧ y < dp + n then f a (sp + (y - dp)) else f x y
noncomputable def sC (s : mS) (a sp b dp n : Nat) : mS := (s.1, cp2 s.2.1 a sp b dp n, s.2.2)
noncomputable def sD (s : mS) (a sp b dp n : Nat) : mS := (s.1, s.2.1, s.2.2.1, cp2 s.2.2.2.1 a sp b dp n, s.2.2.2.2)
noncomputable def irm (x y : Int32) : Int32 := x - x / y * y
noncomputable def lrm (x y : Int64) : Int64 := x - x / y * y
noncomputable def ils (x y : Int32) : Int32 := x <<< (y &&& 31)
noncomputable def irs (x y : Int32) : Int32 := x >>> (y &&& 31)
noncomputable def ius (x y : Int32) : Int32 := (x.toUInt32 >>> (y.toUInt32 &&& Int32.toUInt32 31)).toInt32
noncomputable def iin (x : Int32) (n : Int) : Int32 := match n with
  | .ofNat m => x + Int32.ofNat m
  | .negSucc m => x - Int32.ofNat (m + 1)
noncomputable def ix (i : Int32) : Nat := i.toNatClampNeg
abbrev mW : Type := Nat → Nat ⊕ (Nat × Nat)
noncomputable def isO (S : mW) (o ci : Nat) : Bool := match S o with
  | .inl c => Nat.beq c ci
  | .inr _ => false
noncomputable def aln (S : mW) (t o : Nat) : Nat := match S o with
  | .inl _ => 0
  | .inr q => match Nat.beq q.1 t with
    | true => q.2
    | false => 0
noncomputable def isA (S : mW) (o : Nat) : Bool := match S o with
  | .inl _ => false
  | .inr _ => true
noncomputable def alA (S : mW) (o : Nat) : Nat := match S o with
  | .inl _ => 0
  | .inr q => q.2
noncomputable def inb (i : Int32) (n : Nat) : Bool := match decide (i < 0) with
  | true => false
  | false => Nat.blt i.toNatClampNeg n
noncomputable def isb (x : Int32) : Bool := match decide (x = 0) with
  | true => true
  | false => decide (x = 1)
noncomputable def grd {α : Type} (b : Bool) (x : Option α) : Option α := Bool.rec (motive := fun _ => Option α) none x b
noncomputable def alk {α : Type} (k : Nat) : List (Nat × α) → Option α
  | [] => none
  | q :: l => match Nat.beq q.1 k with
    | true => some q.2
    | false => alk k l
noncomputable def c1 (v : Value) : Bool := match v with
  | .long _ => false
  | .double _ => false
  | _ => true
noncomputable def fl1 (i : Nat) : List (Nat × Value) → List (Nat × Value)
  | [] => []
  | q :: l => match Nat.beq q.1 i with
    | true => fl1 i l
    | false => match Nat.beq (q.1 + 1) i with
      | true => (match c1 q.2 with
        | true => q :: fl1 i l
        | false => fl1 i l)
      | false => q :: fl1 i l
noncomputable def fl2 (i : Nat) : List (Nat × Value) → List (Nat × Value)
  | [] => []
  | q :: l => match Nat.beq q.1 i with
    | true => fl2 i l
    | false => match Nat.beq q.1 (i + 1) with
      | true => fl2 i l
      | false => match Nat.beq (q.1 + 1) i with
        | true => (match c1 q.2 with
          | true => q :: fl2 i l
          | false => fl2 i l)
        | false => q :: fl2 i l
noncomputable def rfv (r : Option Nat) : Value := match r with
  | none => .null
  | some o => .ref o
noncomputable def Rf (R0 : Nat → Nat → Option Nat) (oF : Nat) (s : mS) (f o : Nat) : Option Nat := match Nat.beq f oF with
  | true => some (gO s)
  | false => R0 f o
noncomputable def fv (kd : Nat → Nat → Nat) (R0 : Nat → Nat → Option Nat) (oF : Nat) (s : mS) (ci k o : Nat) : Value := match kd ci k with
  | 1 => .long (gL s (100 * ci + k) o)
  | 2 => rfv (Rf R0 oF s (100 * ci + k) o)
  | _ => .int (gI s (100 * ci + k) o)
section POP
variable {ρ : Type}
noncomputable def pi1 (st : List Value) (f : Int32 → List Value → Option ρ) : Option ρ := match st with
  | .int x :: r => f x r
  | _ => none
noncomputable def pi2 (st : List Value) (f : Int32 → Int32 → List Value → Option ρ) : Option ρ := match st with
  | .int y :: .int x :: r => f x y r
  | _ => none
noncomputable def pl1 (st : List Value) (f : Int64 → List Value → Option ρ) : Option ρ := match st with
  | .long x :: r => f x r
  | _ => none
noncomputable def pl2 (st : List Value) (f : Int64 → Int64 → List Value → Option ρ) : Option ρ := match st with
  | .long y :: .long x :: r => f x y r
  | _ => none
noncomputable def pr1 (st : List Value) (f : Nat → List Value → Option ρ) : Option ρ := match st with
  | .ref o :: r => f o r
  | _ => none
noncomputable def pir (st : List Value) (f : Int32 → Nat → List Value → Option ρ) : Option ρ := match st with
  | .int i :: .ref o :: r => f i o r
  | _ => none
noncomputable def piir (st : List Value) (f : Int32 → Int32 → Nat → List Value → Option ρ) : Option ρ := match st with
  | .int x :: .int i :: .ref o :: r => f x i o r
  | _ => none
noncomputable def plir (st : List Value) (f : Int64 → Int32 → Nat → List Value → Option ρ) : Option ρ := match st with
  | .long x :: .int i :: .ref o :: r => f x i o r
  | _ => none
noncomputable def plr (st : List Value) (f : Int64 → Nat → List Value → Option ρ) : Option ρ := match st with
  | .long x :: .ref o :: r => f x o r
  | _ => none
noncomputable def prr (st : List Value) (f : Nat → Nat → List Value → Option ρ) : Option ρ := match st with
  | .ref x :: .ref o :: r => f x o r
  | _ => none
noncomputable def ri1 (st : List Value) (f : Int32 → Option ρ) : Option ρ := match st with
  | [.int x] => f x
  | _ => none
noncomputable def rl1 (st : List Value) (f : Int64 → Option ρ) : Option ρ := match st with
  | [.long x] => f x
  | _ => none
noncomputable def rv0 (st : List Value) (f : Option ρ) : Option ρ := match st with
  | [] => f
  | _ => none
noncomputable def pc1 (st : List Value) (f : Value → List Value → Option ρ) : Option ρ := match st with
  | v :: r => grd (c1 v) (f v r)
  | _ => none
noncomputable def pc2 (st : List Value) (f : Value → Value → List Value → Option ρ) : Option ρ := match st with
  | v :: w :: r => grd (c1 v) (grd (c1 w) (f v w r))
  | _ => none
noncomputable def pcp (st : List Value) (f : Int32 → Int32 → Nat → Int32 → Nat → List Value → Option ρ) : Option ρ := match st with
  | .int n :: .int dp :: .ref b :: .int sp :: .ref a :: r => f n dp b sp a r
  | _ => none
noncomputable def li1 (loc : List (Nat × Value)) (k : Nat) (f : Int32 → Option ρ) : Option ρ := match alk k loc with
  | some (.int x) => f x
  | _ => none
noncomputable def ll1 (loc : List (Nat × Value)) (k : Nat) (f : Int64 → Option ρ) : Option ρ := match alk k loc with
  | some (.long x) => f x
  | _ => none
noncomputable def lr1 (loc : List (Nat × Value)) (k : Nat) (f : Nat → Option ρ) : Option ρ := match alk k loc with
  | some (.ref x) => f x
  | _ => none
noncomputable def popN : Nat → List Value → List Value → (List Value → List Value → Option ρ) → Option ρ
  | 0, st, acc, f => f acc st
  | n + 1, st, acc, f => match st with
    | v :: r => popN n r (v :: acc) f
    | [] => none
noncomputable def cats : List Value → Nat
  | [] => 0
  | v :: r => match c1 v with
    | true => cats r + 1
    | false => cats r + 2
noncomputable def psh (v : Option Value) (st : List Value) : List Value := match v with
  | none => st
  | some w => w :: st
noncomputable def swT (x : Int32) (f : Nat → Option ρ) (d : Nat) : Int → List Nat → Option ρ
  | _, [] => f d
  | k, t :: ts => if x = Int32.ofInt k then f t else swT x f d (k + 1) ts
noncomputable def swL (x : Int32) (f : Nat → Option ρ) (d : Nat) : List (Int × Int) → List Nat → Option ρ
  | q :: qs, t :: ts => if x = Int32.ofInt q.1 then f t else swL x f d qs ts
  | _, _ => f d
end POP
/-- an instruction, two numbers, a constant, targets -/
abbrev mO : Type := Instr × Nat × Nat × Value × List Nat
noncomputable def o0 (i : Instr) : mO := (i, 0, 0, .null, [])
noncomputable def o1 (i : Instr) (a : Nat) : mO := (i, a, 0, .null, [])
noncomputable def o2 (i : Instr) (a b : Nat) : mO := (i, a, b, .null, [])
noncomputable def oC (i : Instr) (v : Value) : mO := (i, 0, 0, v, [])
noncomputable def oS (i : Instr) (d : Nat) (ts : List Nat) : mO := (i, d, 0, .null, ts)
abbrev mL : Type := List (Nat × Value)
/-- the run of a row of instructions -/
noncomputable def evm {ρ : Type} (kd : Nat → Nat → Nat) (spl : Nat → Int64) (S : mW) (R0 : Nat → Nat → Option Nat) (oF : Nat) (orc : Nat → List Value → mS → (Option Value → mS → Option ρ) → Option ρ) (ret : Option Value → mS → Option ρ) (K : Nat → mL → List Value → mS → Option ρ) : List mO → Nat → mL → List Value → mS → Option ρ
  | [], pc, loc, st, s => K pc loc st s
  | (i, a, b, v, ts) :: ops, pc, loc, st, s => match i with
    | .iload k => li1 loc k fun x => evm kd spl S R0 oF orc ret K ops (pc + 2) loc (.int x :: st) s
    | .iload_n k => li1 loc k.val fun x => evm kd spl S R0 oF orc ret K ops (pc + 1) loc (.int x :: st) s
    | .lload k => ll1 loc k fun x => evm kd spl S R0 oF orc ret K ops (pc + 2) loc (.long x :: st) s
    | .lload_n k => ll1 loc k.val fun x => evm kd spl S R0 oF orc ret K ops (pc + 1) loc (.long x :: st) s
    | .aload k => lr1 loc k fun x => evm kd spl S R0 oF orc ret K ops (pc + 2) loc (.ref x :: st) s
    | .aload_n k => lr1 loc k.val fun x => evm kd spl S R0 oF orc ret K ops (pc + 1) loc (.ref x :: st) s
    | .istore k => pi1 st fun x r => evm kd spl S R0 oF orc ret K ops (pc + 2) ((k, .int x) :: fl1 k loc) r s
    | .istore_n k => pi1 st fun x r => evm kd spl S R0 oF orc ret K ops (pc + 1) ((k.val, .int x) :: fl1 k.val loc) r s
    | .lstore k => pl1 st fun x r => evm kd spl S R0 oF orc ret K ops (pc + 2) ((k, .long x) :: fl2 k loc) r s
    | .lstore_n k => pl1 st fun x r => evm kd spl S R0 oF orc ret K ops (pc + 1) ((k.val, .long x) :: fl2 k.val loc) r s
    | .astore k => pr1 st fun x r => evm kd spl S R0 oF orc ret K ops (pc + 2) ((k, .ref x) :: fl1 k loc) r s
    | .astore_n k => pr1 st fun x r => evm kd spl S R0 oF orc ret K ops (pc + 1) ((k.val, .ref x) :: fl1 k.val loc) r s
    | .iinc k n => li1 loc k fun x => evm kd spl S R0 oF orc ret K ops (pc + 3) ((k, .int (iin x n)) :: fl1 k loc) st s
    | .iconst n => evm kd spl S R0 oF orc ret K ops (pc + 1) loc (.int (Int32.ofInt n) :: st) s
    | .bipush n => evm kd spl S R0 oF orc ret K ops (pc + 2) loc (.int (Int8.ofInt n).toInt32 :: st) s
    | .sipush n => evm kd spl S R0 oF orc ret K ops (pc + 3) loc (.int (Int16.ofInt n).toInt32 :: st) s
    | .lconst n => evm kd spl S R0 oF orc ret K ops (pc + 1) loc (.long (Int64.ofNat n.val) :: st) s
    | .ldc _ => evm kd spl S R0 oF orc ret K ops (pc + 2) loc (v :: st) s
    | .ldc_w _ => evm kd spl S R0 oF orc ret K ops (pc + 3) loc (v :: st) s
    | .ldc2_w _ => evm kd spl S R0 oF orc ret K ops (pc + 3) loc (v :: st) s
    | .iadd => pi2 st fun x y r => evm kd spl S R0 oF orc ret K ops (pc + 1) loc (.int (x + y) :: r) s
    | .isub => pi2 st fun x y r => evm kd spl S R0 oF orc ret K ops (pc + 1) loc (.int (x - y) :: r) s
    | .imul => pi2 st fun x y r => evm kd spl S R0 oF orc ret K ops (pc + 1) loc (.int (x * y) :: r) s
    | .idiv => pi2 st fun x y r => grd (!decide (y = 0)) (evm kd spl S R0 oF orc ret K ops (pc + 1) loc (.int (x / y) :: r) s)
    | .irem => pi2 st fun x y r => grd (!decide (y = 0)) (evm kd spl S R0 oF orc ret K ops (pc + 1) loc (.int (irm x y) :: r) s)
    | .iand => pi2 st fun x y r => evm kd spl S R0 oF orc ret K ops (pc + 1) loc (.int (x &&& y) :: r) s
    | .ior => pi2 st fun x y r => evm kd spl S R0 oF orc ret K ops (pc + 1) loc (.int (x ||| y) :: r) s
    | .ixor => pi2 st fun x y r => evm kd spl S R0 oF orc ret K ops (pc + 1) loc (.int (x ^^^ y) :: r) s
    | .ishl => pi2 st fun x y r => evm kd spl S R0 oF orc ret K ops (pc + 1) loc (.int (ils x y) :: r) s
    | .ishr => pi2 st fun x y r => evm kd spl S R0 oF orc ret K ops (pc + 1) loc (.int (irs x y) :: r) s
    | .iushr => pi2 st fun x y r => evm kd spl S R0 oF orc ret K ops (pc + 1) loc (.int (ius x y) :: r) s
    | .ladd => pl2 st fun x y r => evm kd spl S R0 oF orc ret K ops (pc + 1) loc (.long (x + y) :: r) s
    | .lsub => pl2 st fun x y r => evm kd spl S R0 oF orc ret K ops (pc + 1) loc (.long (x - y) :: r) s
    | .lmul => pl2 st fun x y r => evm kd spl S R0 oF orc ret K ops (pc + 1) loc (.long (x * y) :: r) s
    | .land => pl2 st fun x y r => evm kd spl S R0 oF orc ret K ops (pc + 1) loc (.long (x &&& y) :: r) s
    | .ldiv => pl2 st fun x y r => grd (!decide (y = 0)) (evm kd spl S R0 oF orc ret K ops (pc + 1) loc (.long (x / y) :: r) s)
    | .lrem => pl2 st fun x y r => grd (!decide (y = 0)) (evm kd spl S R0 oF orc ret K ops (pc + 1) loc (.long (lrm x y) :: r) s)
    | .lcmp => pl2 st fun x y r => evm kd spl S R0 oF orc ret K ops (pc + 1) loc (.int (lg_cmp x y) :: r) s
    | .i2l => pi1 st fun x r => evm kd spl S R0 oF orc ret K ops (pc + 1) loc (.long x.toInt64 :: r) s
    | .l2i => pl1 st fun x r => evm kd spl S R0 oF orc ret K ops (pc + 1) loc (.int x.toInt32 :: r) s
    | .dup => pc1 st fun w r => evm kd spl S R0 oF orc ret K ops (pc + 1) loc (w :: w :: r) s
    | .dup2 => pc2 st fun w z r => evm kd spl S R0 oF orc ret K ops (pc + 1) loc (w :: z :: w :: z :: r) s
    | .pop => pc1 st fun _ r => evm kd spl S R0 oF orc ret K ops (pc + 1) loc r s
    | .getfield _ => pr1 st fun o r => grd (isO S o a) (evm kd spl S R0 oF orc ret K ops (pc + 3) loc (fv kd R0 oF s a b o :: r) s)
    | .putfield _ => (match kd a b with
      | 1 => plr st fun x o r => grd (isO S o a) (evm kd spl S R0 oF orc ret K ops (pc + 3) loc r (sL s (100 * a + b) o x))
      | 2 => prr st fun x o r => grd (isO S o a) (grd (Nat.beq (100 * a + b) oF) (evm kd spl S R0 oF orc ret K ops (pc + 3) loc r (sO s x)))
      | 3 => pir st fun x o r => grd (isO S o a) (grd (isb x) (evm kd spl S R0 oF orc ret K ops (pc + 3) loc r (sI s (100 * a + b) o x)))
      | _ => pir st fun x o r => grd (isO S o a) (evm kd spl S R0 oF orc ret K ops (pc + 3) loc r (sI s (100 * a + b) o x)))
    | .getstatic _ => evm kd spl S R0 oF orc ret K ops (pc + 3) loc (.ref 999999 :: st) s
    | .iaload => pir st fun j o r => grd (inb j (aln S 0 o)) (evm kd spl S R0 oF orc ret K ops (pc + 1) loc (.int (gA s o (ix j)) :: r) s)
    | .caload => pir st fun j o r => grd (inb j (aln S 1 o)) (evm kd spl S R0 oF orc ret K ops (pc + 1) loc (.int (gA s o (ix j)) :: r) s)
    | .baload => pir st fun j o r => grd (inb j (aln S 2 o)) (evm kd spl S R0 oF orc ret K ops (pc + 1) loc (.int (gA s o (ix j)) :: r) s)
    | .laload => pir st fun j o r => (match a with
      | 1 => grd (Nat.beq o 999999) (grd (inb j 31) (evm kd spl S R0 oF orc ret K ops (pc + 1) loc (.long (spl (ix j)) :: r) s))
      | _ => grd (inb j (aln S 3 o)) (evm kd spl S R0 oF orc ret K ops (pc + 1) loc (.long (gQ s o (ix j)) :: r) s))
    | .iastore => piir st fun x j o r => grd (inb j (aln S 0 o)) (evm kd spl S R0 oF orc ret K ops (pc + 1) loc r (sA s o (ix j) x))
    | .bastore => piir st fun x j o r => grd (inb j (aln S 2 o)) (grd (isb x) (evm kd spl S R0 oF orc ret K ops (pc + 1) loc r (sA s o (ix j) x)))
    | .lastore => plir st fun x j o r => grd (inb j (aln S 3 o)) (evm kd spl S R0 oF orc ret K ops (pc + 1) loc r (sQ s o (ix j) x))
    | .arraylength => pr1 st fun o r => (match a with
      | 1 => grd (Nat.beq o 999999) (evm kd spl S R0 oF orc ret K ops (pc + 1) loc (.int (Int32.ofNat 31) :: r) s)
      | _ => grd (isA S o) (evm kd spl S R0 oF orc ret K ops (pc + 1) loc (.int (Int32.ofNat (alA S o)) :: r) s))
    | .goto _ => K a loc st s
    | .if_icmp .eq _ => pi2 st fun x y r => if x = y then K a loc r s else evm kd spl S R0 oF orc ret K ops (pc + 3) loc r s
    | .if_icmp .ne _ => pi2 st fun x y r => if x = y then evm kd spl S R0 oF orc ret K ops (pc + 3) loc r s else K a loc r s
    | .if_icmp .lt _ => pi2 st fun x y r => if x < y then K a loc r s else evm kd spl S R0 oF orc ret K ops (pc + 3) loc r s
    | .if_icmp .ge _ => pi2 st fun x y r => if x < y then evm kd spl S R0 oF orc ret K ops (pc + 3) loc r s else K a loc r s
    | .if_icmp .gt _ => pi2 st fun x y r => if y < x then K a loc r s else evm kd spl S R0 oF orc ret K ops (pc + 3) loc r s
    | .if_icmp .le _ => pi2 st fun x y r => if y < x then evm kd spl S R0 oF orc ret K ops (pc + 3) loc r s else K a loc r s
    | .ifCond .eq _ => pi1 st fun x r => if x = 0 then K a loc r s else evm kd spl S R0 oF orc ret K ops (pc + 3) loc r s
    | .ifCond .ne _ => pi1 st fun x r => if x = 0 then evm kd spl S R0 oF orc ret K ops (pc + 3) loc r s else K a loc r s
    | .ifCond .lt _ => pi1 st fun x r => if x < 0 then K a loc r s else evm kd spl S R0 oF orc ret K ops (pc + 3) loc r s
    | .ifCond .ge _ => pi1 st fun x r => if x < 0 then evm kd spl S R0 oF orc ret K ops (pc + 3) loc r s else K a loc r s
    | .ifCond .gt _ => pi1 st fun x r => if 0 < x then K a loc r s else evm kd spl S R0 oF orc ret K ops (pc + 3) loc r s
    | .ifCond .le _ => pi1 st fun x r => if 0 < x then evm kd spl S R0 oF orc ret K ops (pc + 3) loc r s else K a loc r s
    | .tableswitch _ lo _ _ => pi1 st fun x r => swT x (fun t => K t loc r s) a lo ts
    | .lookupswitch _ ps => pi1 st fun x r => swL x (fun t => K t loc r s) a ps.toList ts
    | .invokevirtual _ => popN b st [] fun as r => grd (Nat.ble (cats r) 8) (orc a as s fun w s' => evm kd spl S R0 oF orc ret K ops (pc + 3) loc (psh w r) s')
    | .invokestatic _ => (match Nat.beq a 9999 with
      | true => pcp st fun n dp o1 sp o0 r => grd (Nat.ble (cats r) 8) (grd (!decide (n < 0)) (grd (!decide (sp < 0)) (grd (!decide (dp < 0)) (match b with
        | 3 => grd (Nat.blt 0 (aln S 3 o0)) (grd (Nat.blt 0 (aln S 3 o1)) (grd (Nat.ble (ix sp + ix n) (aln S 3 o0)) (grd (Nat.ble (ix dp + ix n) (aln S 3 o1)) (evm kd spl S R0 oF orc ret K ops (pc + 3) loc r (sD s o0 (ix sp) o1 (ix dp) (ix n))))))
        | _ => grd (Nat.blt 0 (aln S 0 o0)) (grd (Nat.blt 0 (aln S 0 o1)) (grd (Nat.ble (ix sp + ix n) (aln S 0 o0)) (grd (Nat.ble (ix dp + ix n) (aln S 0 o1)) (evm kd spl S R0 oF orc ret K ops (pc + 3) loc r (sC s o0 (ix sp) o1 (ix dp) (ix n))))))))))
      | false => popN b st [] fun as r => grd (Nat.ble (cats r) 8) (orc a as s fun w s' => evm kd spl S R0 oF orc ret K ops (pc + 3) loc (psh w r) s'))
    | .ireturn => ri1 st fun x => ret (some (.int x)) s
    | .lreturn => rl1 st fun x => ret (some (.long x)) s
    | .return_ => rv0 st (ret none s)
    | _ => none
