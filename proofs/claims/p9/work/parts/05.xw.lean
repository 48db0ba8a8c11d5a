/-! A SMALL MACHINE over whole numbers. A method's world is a row of cells by their tags 0, 1, ..; what a cell holds is told by numbers (σ tag place); references are tags.
xw: what must hold at a stretch of code so that the machine comes to a return with Q, or to a cut point where X holds. It's the same for all methods; a method is its code (as data), its links, its callees. -/
abbrev xV : Type := Int ⊕ Int ⊕ Nat ⊕ Unit
abbrev xS : Type := Nat → Nat → Int
abbrev xE : Type := List xV → xS → (Option xV → xS → Prop) → Prop
abbrev xI : Type := Nat × Instr × Nat
/-- a cell's shape: (0, class number, fields' kinds) or (1 + kind, length, []); kinds of fields: 0 int, 1 long, 2 boolean, 3 not looked at, 4 + t the cell of tag t; kinds of arrays: 0 byte, 1 int, 2 long, 3 boolean, from 4 on not looked at -/
abbrev xH : Type := Nat → Option (Nat × Nat × List Nat)
abbrev xvi (z : Int) : xV := .inl z
abbrev xvl (z : Int) : xV := .inr (.inl z)
abbrev xvr (t : Nat) : xV := .inr (.inr (.inl t))
abbrev xvu : xV := .inr (.inr (.inr ()))
def x1i (st : List xV) (f : Int → List xV → Prop) : Prop := match st with
  | .inl x :: st => f x st
  | _ => False
def x2i (st : List xV) (f : Int → Int → List xV → Prop) : Prop := match st with
  | .inl y :: .inl x :: st => f x y st
  | _ => False
def x1l (st : List xV) (f : Int → List xV → Prop) : Prop := match st with
  | .inr (.inl x) :: st => f x st
  | _ => False
def x2l (st : List xV) (f : Int → Int → List xV → Prop) : Prop := match st with
  | .inr (.inl y) :: .inr (.inl x) :: st => f x y st
  | _ => False
def x1r (st : List xV) (f : Nat → List xV → Prop) : Prop := match st with
  | .inr (.inr (.inl t)) :: st => f t st
  | _ => False
/-- a number that may wrap -/
def xn32 (e : Int) (K : Int → Prop) : Prop := ∀ z t : Int, z = e + 4294967296 * t → -2147483648 ≤ z → z ≤ 2147483647 → K z
def xn64 (e : Int) (K : Int → Prop) : Prop := ∀ z t : Int, z = e + 18446744073709551616 * t → -9223372036854775808 ≤ z → z ≤ 9223372036854775807 → K z
/-- a number that has its bounds -/
def xf32 (e : Int) (K : Int → Prop) : Prop := ∀ z : Int, z = e → -2147483648 ≤ z → z ≤ 2147483647 → K z
def xf64 (e : Int) (K : Int → Prop) : Prop := ∀ z : Int, z = e → -9223372036854775808 ≤ z → z ≤ 9223372036854775807 → K z
def xbr (c : ClassFile.Cond) (x y : Int) (A B : Prop) : Prop := match c with
  | .eq => (x = y → A) ∧ (¬ x = y → B)
  | .ne => (¬ x = y → A) ∧ (x = y → B)
  | .lt => (x < y → A) ∧ (¬ x < y → B)
  | .ge => (y ≤ x → A) ∧ (¬ y ≤ x → B)
  | .gt => (y < x → A) ∧ (¬ y < x → B)
  | .le => (x ≤ y → A) ∧ (¬ x ≤ y → B)
def xtab (x : Int) (go : Int → Prop) : Int → List Int → Prop
  | _, [] => True
  | lo, o :: os => (x = lo → go o) ∧ xtab x go (lo + 1) os
def xput (σ : xS) (t j : Nat) (v : Int) : xS := fun t' j' => if t' = t then (if j' = j then v else σ t' j') else σ t' j'
/-- locals: an int or a reference into place i, a long into places i and i + 1; what a long there loses is forgotten -/
def xcl (L : List xV) (i : Nat) : List xV := match i with
  | 0 => L
  | j + 1 => match L[j]? with
    | some (.inr (.inl _)) => L.set j xvu
    | _ => L
def xst1 (L : List xV) (i : Nat) (v : xV) : List xV := (xcl L i).set i v
def xst2 (L : List xV) (i : Nat) (v : xV) : List xV := ((xcl L i).set i v).set (i + 1) xvu
def xldi (L : List xV) (i : Nat) (f : Int → Prop) : Prop := match L[i]? with
  | some (.inl x) => f x
  | _ => False
def xldl (L : List xV) (i : Nat) (f : Int → Prop) : Prop := match L[i]? with
  | some (.inr (.inl x)) => f x
  | _ => False
def xldr (L : List xV) (i : Nat) (f : Nat → Prop) : Prop := match L[i]? with
  | some (.inr (.inr (.inl x))) => f x
  | _ => False
/-- the array of a tag: its kind and length -/
def xarr (sh : xH) (t : Nat) (f : Nat → Nat → Prop) : Prop := match sh t with
  | some (k + 1, n, _) => f k n
  | _ => False
def xget (sh : xH) (fld : Nat → Option (Nat × Nat)) (idx t : Nat) (σ : xS) (K : xV → Prop) : Prop := match fld idx with
  | some (ci, j) => match sh t with
    | some (0, ci', codes) => if ci = ci' then (match codes[j]? with
        | some 0 => xf32 (σ t j) (fun z => K (xvi z))
        | some 1 => xf64 (σ t j) (fun z => K (xvl z))
        | some 2 => xf32 (σ t j) (fun z => K (xvi z))
        | some (c + 4) => K (xvr c)
        | _ => False) else False
    | _ => False
  | none => False
def xputf (sh : xH) (fld : Nat → Option (Nat × Nat)) (idx t : Nat) (v : xV) (σ : xS) (K : xS → Prop) : Prop := match fld idx with
  | some (ci, j) => match sh t with
    | some (0, ci', codes) => if ci = ci' then (match codes[j]?, v with
        | some 0, .inl z => K (xput σ t j z)
        | some 1, .inr (.inl z) => K (xput σ t j z)
        | some 2, .inl z => (z = 0 ∨ z = 1) ∧ K (xput σ t j z)
        | _, _ => False) else False
    | _ => False
  | none => False
def xbyte (z : Int) : Int := (Int32.ofInt z).toInt8.toInt32.toInt
def xbool (z : Int) : Int := (vp_nar .boolean (Int32.ofInt z)).toInt
def xstore (sh : xH) (t : Nat) (i v : Int) (σ : xS) (K : xS → Prop) : Prop := xarr sh t (fun k n => (0 ≤ i ∧ i < n) ∧ (match k with
  | 0 => K (xput σ t i.toNat (xbyte v))
  | 1 => K (xput σ t i.toNat v)
  | 3 => K (xput σ t i.toNat (xbool v))
  | _ => False))
def xlcmp (x y : Int) (K : Int → Prop) : Prop := ∀ z : Int, (x < y → z = -1) → (x = y → z = 0) → (y < x → z = 1) → -1 ≤ z → z ≤ 1 → K z
def xdiv (x y : Int) (K : Int → Prop) : Prop := ∀ z : Int, z = (Int32.ofInt x / Int32.ofInt y).toInt → (0 ≤ x → 0 < y → z = x / y) → -2147483648 ≤ z → z ≤ 2147483647 → K z
def xrem (x y : Int) (K : Int → Prop) : Prop := ∀ z : Int, z = (Int32.ofInt x - Int32.ofInt x / Int32.ofInt y * Int32.ofInt y).toInt → (0 ≤ x → 0 < y → z = x % y) → -2147483648 ≤ z → z ≤ 2147483647 → K z
def xldiv (x y : Int) (K : Int → Prop) : Prop := ∀ z : Int, z = (Int64.ofInt x / Int64.ofInt y).toInt → (0 ≤ x → 0 < y → z = x / y) → -9223372036854775808 ≤ z → z ≤ 9223372036854775807 → K z
def xlrem (x y : Int) (K : Int → Prop) : Prop := ∀ z : Int, z = (Int64.ofInt x - Int64.ofInt x / Int64.ofInt y * Int64.ofInt y).toInt → (0 ≤ x → 0 < y → z = x % y) → -9223372036854775808 ≤ z → z ≤ 9223372036854775807 → K z
def xretI (rt : Nat) (x : Int) (P : Prop) : Prop := match rt with
  | 1 => P
  | 2 => (x = 0 ∨ x = 1) ∧ P
  | _ => False
section XW
variable (sh : xH) (fld : Nat → Option (Nat × Nat)) (con : Nat → Option (Int ⊕ Int)) (env : Nat → Option (Nat × xE)) (jmp : Nat → Option (List xI)) (rt : Nat) (X : Nat → List xV → xS → Prop) (Q : Option xV → xS → Prop)
def xto (f : List xI → Prop) (t : Int) (L st : List xV) (σ : xS) : Prop := match t with
  | .ofNat t => (match jmp t with
    | some k => f k
    | none => match st with
      | [] => X t L σ
      | _ => False)
  | .negSucc _ => False
def xcall (idx : Nat) (st : List xV) (σ : xS) (K : Option xV → List xV → xS → Prop) : Prop := match env idx with
  | some (n, E) => if n ≤ st.length ∧ (st.drop n).length ≤ 4 then E (st.take n).reverse σ (fun r σ' => K r (st.drop n) σ') else False
  | none => False
def xw : Nat → List xI → List xV → List xV → xS → Prop
  | 0, _, _, _, _ => False
  | _ + 1, [], _, _, _ => False
  | n + 1, (pc, ins, len) :: k, L, st, σ => match len with
    | 0 => xto jmp X (fun k => xw n k L st σ) pc L st σ
    | _ + 1 => (match ins with
      | .iconst i => xw n k L (xvi i :: st) σ
      | .bipush i => xw n k L (xvi i :: st) σ
      | .sipush i => xw n k L (xvi i :: st) σ
      | .lconst i => xw n k L (xvl (i.val : Int) :: st) σ
      | .ldc i => (match con i with
        | some (.inl z) => xw n k L (xvi z :: st) σ
        | _ => False)
      | .ldc_w i => (match con i with
        | some (.inl z) => xw n k L (xvi z :: st) σ
        | _ => False)
      | .ldc2_w i => (match con i with
        | some (.inr z) => xw n k L (xvl z :: st) σ
        | _ => False)
      | .iload i => xldi L i (fun x => xw n k L (xvi x :: st) σ)
      | .iload_n i => xldi L i.val (fun x => xw n k L (xvi x :: st) σ)
      | .lload i => xldl L i (fun x => xw n k L (xvl x :: st) σ)
      | .lload_n i => xldl L i.val (fun x => xw n k L (xvl x :: st) σ)
      | .aload i => xldr L i (fun x => xw n k L (xvr x :: st) σ)
      | .aload_n i => xldr L i.val (fun x => xw n k L (xvr x :: st) σ)
      | .istore i => x1i st (fun x st => i < L.length ∧ xw n k (xst1 L i (xvi x)) st σ)
      | .istore_n i => x1i st (fun x st => i.val < L.length ∧ xw n k (xst1 L i.val (xvi x)) st σ)
      | .lstore i => x1l st (fun x st => i + 1 < L.length ∧ xw n k (xst2 L i (xvl x)) st σ)
      | .lstore_n i => x1l st (fun x st => i.val + 1 < L.length ∧ xw n k (xst2 L i.val (xvl x)) st σ)
      | .astore i => x1r st (fun x st => i < L.length ∧ xw n k (xst1 L i (xvr x)) st σ)
      | .astore_n i => x1r st (fun x st => i.val < L.length ∧ xw n k (xst1 L i.val (xvr x)) st σ)
      | .iinc i d => xldi L i (fun x => xn32 (x + d) (fun z => xw n k (xst1 L i (xvi z)) st σ))
      | .iadd => x2i st (fun x y st => xn32 (x + y) (fun z => xw n k L (xvi z :: st) σ))
      | .isub => x2i st (fun x y st => xn32 (x - y) (fun z => xw n k L (xvi z :: st) σ))
      | .imul => x2i st (fun x y st => xn32 (x * y) (fun z => xw n k L (xvi z :: st) σ))
      | .ineg => x1i st (fun x st => xn32 (-x) (fun z => xw n k L (xvi z :: st) σ))
      | .idiv => x2i st (fun x y st => ¬ y = 0 ∧ xdiv x y (fun z => xw n k L (xvi z :: st) σ))
      | .irem => x2i st (fun x y st => ¬ y = 0 ∧ xrem x y (fun z => xw n k L (xvi z :: st) σ))
      | .iand => x2i st (fun x y st => xf32 (Int32.ofInt x &&& Int32.ofInt y).toInt (fun z => xw n k L (xvi z :: st) σ))
      | .ior => x2i st (fun x y st => xf32 (Int32.ofInt x ||| Int32.ofInt y).toInt (fun z => xw n k L (xvi z :: st) σ))
      | .ixor => x2i st (fun x y st => xf32 (Int32.ofInt x ^^^ Int32.ofInt y).toInt (fun z => xw n k L (xvi z :: st) σ))
      | .ishl => x2i st (fun x y st => xf32 (Int32.ofInt x <<< (Int32.ofInt y &&& 31)).toInt (fun z => xw n k L (xvi z :: st) σ))
      | .ishr => x2i st (fun x y st => xf32 (Int32.ofInt x >>> (Int32.ofInt y &&& 31)).toInt (fun z => xw n k L (xvi z :: st) σ))
      | .iushr => x2i st (fun x y st => xf32 ((Int32.ofInt x).toUInt32 >>> ((Int32.ofInt y).toUInt32 &&& Int32.toUInt32 31)).toInt32.toInt (fun z => xw n k L (xvi z :: st) σ))
      | .i2b => x1i st (fun x st => xf32 (xbyte x) (fun z => xw n k L (xvi z :: st) σ))
      | .i2l => x1i st (fun x st => xw n k L (xvl x :: st) σ)
      | .ladd => x2l st (fun x y st => xn64 (x + y) (fun z => xw n k L (xvl z :: st) σ))
      | .lsub => x2l st (fun x y st => xn64 (x - y) (fun z => xw n k L (xvl z :: st) σ))
      | .lmul => x2l st (fun x y st => xn64 (x * y) (fun z => xw n k L (xvl z :: st) σ))
      | .ldiv => x2l st (fun x y st => ¬ y = 0 ∧ xldiv x y (fun z => xw n k L (xvl z :: st) σ))
      | .lrem => x2l st (fun x y st => ¬ y = 0 ∧ xlrem x y (fun z => xw n k L (xvl z :: st) σ))
      | .lor => x2l st (fun x y st => xf64 (Int64.ofInt x ||| Int64.ofInt y).toInt (fun z => xw n k L (xvl z :: st) σ))
      | .lshl => x1i st (fun y st => x1l st (fun x st => xf64 (Int64.ofInt x <<< ((Int32.ofInt y).toInt64 &&& 63)).toInt (fun z => xw n k L (xvl z :: st) σ)))
      | .lcmp => x2l st (fun x y st => xlcmp x y (fun z => xw n k L (xvi z :: st) σ))
      | .dup => (match st with
        | .inl x :: st => xw n k L (xvi x :: xvi x :: st) σ
        | .inr (.inr (.inl t)) :: st => xw n k L (xvr t :: xvr t :: st) σ
        | _ => False)
      | .dup2 => (match st with
        | .inl x :: .inr (.inr (.inl t)) :: st => xw n k L (xvi x :: xvr t :: xvi x :: xvr t :: st) σ
        | _ => False)
      | .pop => (match st with
        | .inl _ :: st => xw n k L st σ
        | .inr (.inr (.inl _)) :: st => xw n k L st σ
        | _ => False)
      | .goto o => xto jmp X (fun k => xw n k L st σ) (pc + o) L st σ
      | .ifCond c o => x1i st (fun x st => xbr c x 0 (xto jmp X (fun k => xw n k L st σ) (pc + o) L st σ) (xw n k L st σ))
      | .if_icmp c o => x2i st (fun x y st => xbr c x y (xto jmp X (fun k => xw n k L st σ) (pc + o) L st σ) (xw n k L st σ))
      | .tableswitch d lo hi offs => x1i st (fun x st => ((x < lo ∨ hi < x) → xto jmp X (fun k => xw n k L st σ) (pc + d) L st σ) ∧ (offs.size : Int) = hi - lo + 1 ∧ xtab x (fun o => xto jmp X (fun k => xw n k L st σ) (pc + o) L st σ) lo offs.toList)
      | .getfield i => x1r st (fun t st => xget sh fld i t σ (fun v => xw n k L (v :: st) σ))
      | .putfield i => (match st with
        | v :: .inr (.inr (.inl t)) :: st => xputf sh fld i t v σ (fun σ => xw n k L st σ)
        | _ => False)
      | .iaload => x1i st (fun i st => x1r st (fun t st => xarr sh t (fun kd m => kd = 1 ∧ (0 ≤ i ∧ i < m) ∧ xf32 (σ t i.toNat) (fun z => xw n k L (xvi z :: st) σ))))
      | .baload => x1i st (fun i st => x1r st (fun t st => xarr sh t (fun kd m => (kd = 0 ∨ kd = 3) ∧ (0 ≤ i ∧ i < m) ∧ xf32 (σ t i.toNat) (fun z => xw n k L (xvi z :: st) σ))))
      | .laload => x1i st (fun i st => x1r st (fun t st => xarr sh t (fun kd m => kd = 2 ∧ (0 ≤ i ∧ i < m) ∧ xf64 (σ t i.toNat) (fun z => xw n k L (xvl z :: st) σ))))
      | .iastore => x1i st (fun v st => x1i st (fun i st => x1r st (fun t st => xarr sh t (fun kd _ => kd = 1) ∧ xstore sh t i v σ (fun σ => xw n k L st σ))))
      | .bastore => x1i st (fun v st => x1i st (fun i st => x1r st (fun t st => xarr sh t (fun kd _ => kd = 0 ∨ kd = 3) ∧ xstore sh t i v σ (fun σ => xw n k L st σ))))
      | .lastore => x1l st (fun v st => x1i st (fun i st => x1r st (fun t st => xarr sh t (fun kd m => kd = 2 ∧ (0 ≤ i ∧ i < m) ∧ xw n k L st (xput σ t i.toNat v)))))
      | .arraylength => x1r st (fun t st => xarr sh t (fun kd m => kd < 4 ∧ xw n k L (xvi m :: st) σ))
      | .invokevirtual i => xcall env (2 * i) st σ (fun r st σ => xw n k L (r.toList ++ st) σ)
      | .invokestatic i => xcall env (2 * i + 1) st σ (fun r st σ => xw n k L (r.toList ++ st) σ)
      | .ireturn => x1i st (fun x st => st = [] ∧ xretI rt x (Q (some (xvi x)) σ))
      | .lreturn => x1l st (fun x st => st = [] ∧ rt = 3 ∧ Q (some (xvl x)) σ)
      | .return_ => st = [] ∧ rt = 0 ∧ Q none σ
      | _ => False)
end XW
/-- a method as data: shape, fields' links, constants, callees, code from each place on (true: a cut), kind of its answer, how many locals -/
abbrev xC : Type := xH × (Nat → Option (Nat × Nat)) × (Nat → Option (Int ⊕ Int)) × (Nat → Option (Nat × xE)) × List (Nat × Bool × List xI) × Nat × Nat
def xcode (tb : List (Nat × Bool × List xI)) (c : Nat) : List xI := match tb with
  | [] => []
  | q :: tb => if q.1 = c then q.2.2 else xcode tb c
def xjmp (tb : List (Nat × Bool × List xI)) (c : Nat) : Option (List xI) := match tb with
  | [] => none
  | q :: tb => if q.1 = c then (if q.2.1 then none else some q.2.2) else xjmp tb c
abbrev xwC (C : xC) (X : Nat → List xV → xS → Prop) (Q : Option xV → xS → Prop) (n c : Nat) (L : List xV) (σ : xS) : Prop := xw C.1 C.2.1 C.2.2.1 C.2.2.2.1 (xjmp C.2.2.2.2.1) C.2.2.2.2.2.1 X Q n (xcode C.2.2.2.2.1 c) L [] σ
/-- locals at a method's entry -/
def xargs : List xV → List xV
  | [] => []
  | .inr (.inl x) :: l => xvl x :: xvu :: xargs l
  | v :: l => v :: xargs l
def xent (C : xC) (as : List xV) : List xV := xargs as ++ List.replicate (C.2.2.2.2.2.2 - (xargs as).length) xvu
/-- the method ends, and Q holds -/
def xT (C : xC) : xE := fun as σ Q => (xargs as).length ≤ C.2.2.2.2.2.2 ∧ ∀ X : Nat → List xV → xS → Prop, (∀ n c L σ, xwC C X Q n c L σ → X c L σ) → X 0 (xent C as) σ
