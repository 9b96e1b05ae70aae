/-! an abstract machine over a store of whole numbers: the cells of the system are numbered by (tag, instance); its runs are those of the bytecode (part 05 on) -/
abbrev av : Type := Int32 ⊕ (Int64 ⊕ ((Nat × Nat) ⊕ Unit))
abbrev vI (x : Int32) : av := .inl x
abbrev vL (x : Int64) : av := .inr (.inl x)
abbrev vR (t i : Nat) : av := .inr (.inr (.inl (t, i)))
abbrev vU : av := .inr (.inr (.inr ()))
/-- ints by tag, instance, slot; longs likewise; the law that the Tape reads into -/
abbrev Sto : Type := (Nat → Nat → Nat → Int32) × (Nat → Nat → Nat → Int64) × Option Nat
abbrev Cf : Type := Nat × List av × List av × Sto
abbrev Rt : Type := Option av × Sto
/-- goes on; calls (method, copy, arguments; whether a value comes back; where it goes on); returns -/
abbrev Nx : Type := Cf ⊕ (((Nat × Nat × List av) × Bool × Cf) ⊕ Rt)
def ib (i : Int32) (n : Nat) : Bool := decide (¬ i < 0) && decide (i.toNatClampNeg < n)
def tg (pc : Nat) (o : Int) : Nat := ((pc : Int) + o).toNat
def uI (S : Sto) (t i k : Nat) (v : Int32) : Sto := (fun a b c => if a = t ∧ b = i ∧ c = k then v else S.1 a b c, S.2)
def uL (S : Sto) (t i k : Nat) (v : Int64) : Sto := (S.1, fun a b c => if a = t ∧ b = i ∧ c = k then v else S.2.1 a b c, S.2.2)
def uA (S : Sto) (t i : Nat) (f : Nat → Int32) : Sto := (fun a b c => if a = t ∧ b = i then f c else S.1 a b c, S.2)
def uP (S : Sto) (j : Nat) : Sto := (S.1, S.2.1, some j)
def cg (pc : Nat) (ls st : List av) (S : Sto) : Option Nx := some (.inl (pc, ls, st, S))
/-- what a field holds: code 0 an int, 1 a fixed cell (0: the same instance, c+1: instance c), 2 the Tape's law, 3 a constant, 4 a boolean -/
def fval (S : Sto) (t i k : Nat) : Option av :=
  match (knd t).2.2[k]? with
  | some (0, _, _) => some (vI (S.1 t i k))
  | some (1, t', 0) => some (vR t' i)
  | some (1, t', c + 1) => some (vR t' c)
  | some (2, t', _) => S.2.2.map (fun j => vR t' j)
  | some (3, c, _) => some (vI (Int32.ofNat c))
  | some (4, _, _) => some (vI (S.1 t i k))
  | _ => none
/-- an array's length -/
def aln (S : Sto) (t i : Nat) : Option Nat := match (knd t).1 with
  | 1 => some (knd t).2.1
  | 2 => some (knd t).2.1
  | 3 => some (knd t).2.1
  | 4 => some (knd t).2.1
  | 5 => some (knd t).2.1
  | 7 => some (strB i).length
  | 8 => some (S.1 103 0 0).toNatClampNeg
  | _ => none
/-- the copy of a callee: groups that call themselves go down by one -/
def cpy (k j k' : Nat) : Option Nat :=
  match m_g k' with
  | 0 => some 0
  | g + 1 => bif Nat.beq (m_g k) (g + 1) then (match j with | 0 => none | j' + 1 => some j') else some (bif Nat.beq g 0 then 16 else 44)
/-- takes n values off the stack; the last pushed is the last argument -/
def tk : Nat → List av → List av → Option (List av × List av)
  | 0, st, a => some (a, st)
  | _ + 1, [], _ => none
  | n + 1, v :: st, a => tk n st (v :: a)
def swR {α : Type} (x : Int32) : Int → List Int → (Int → α) → Int → α
  | _, [], F, d => F d
  | lo, o :: r, F, d => if x.toInt = lo then F o else swR x (lo + 1) r F d
def swL {α : Type} (x : Int32) : List (Int × Int) → (Int → α) → Int → α
  | [], F, d => F d
  | (a, o) :: r, F, d => if x.toInt = a then F o else swL x r F d
def i2 (st : List av) (F : Int32 → Int32 → List av → Option Nx) : Option Nx := match st with
  | .inl y :: .inl x :: r => F x y r
  | _ => none
def i1 (st : List av) (F : Int32 → List av → Option Nx) : Option Nx := match st with
  | .inl x :: r => F x r
  | _ => none
def l2 (st : List av) (F : Int64 → Int64 → List av → Option Nx) : Option Nx := match st with
  | .inr (.inl y) :: .inr (.inl x) :: r => F x y r
  | _ => none
def l1 (st : List av) (F : Int64 → List av → Option Nx) : Option Nx := match st with
  | .inr (.inl x) :: r => F x r
  | _ => none
def r1 (st : List av) (F : Nat → Nat → List av → Option Nx) : Option Nx := match st with
  | .inr (.inr (.inl q)) :: r => F q.1 q.2 r
  | _ => none
/-- an index over a reference -/
def ri (st : List av) (F : Nat → Nat → Int32 → List av → Option Nx) : Option Nx := match st with
  | .inl x :: .inr (.inr (.inl q)) :: r => F q.1 q.2 x r
  | _ => none
def gI (ls : List av) (i : Nat) (F : Int32 → Option Nx) : Option Nx := match ls[i]? with
  | some (.inl x) => F x
  | _ => none
def gL (ls : List av) (i : Nat) (F : Int64 → Option Nx) : Option Nx := match ls[i]? with
  | some (.inr (.inl x)) => F x
  | _ => none
def gR (ls : List av) (i : Nat) (F : Nat → Nat → Option Nx) : Option Nx := match ls[i]? with
  | some (.inr (.inr (.inl q))) => bif Nat.beq q.1 103 then none else F q.1 q.2
  | _ => none
def sI (pc : Nat) (ls : List av) (i : Nat) (st : List av) (S : Sto) : Option Nx := i1 st fun x r => cg pc (ls.set i (vI x)) r S
def sL (pc : Nat) (ls : List av) (i : Nat) (st : List av) (S : Sto) : Option Nx := l1 st fun x r => cg pc ((ls.set i (vL x)).set (i + 1) vU) r S
def sR (pc : Nat) (ls : List av) (i : Nat) (st : List av) (S : Sto) : Option Nx := r1 st fun t j r => bif Nat.beq t 103 then none else cg pc (ls.set i (vR t j)) r S
def tco (t : Nat) : Nat := match tci t with
  | some c => bif Nat.beq c 100 then 12 else c
  | none => 99
def catS : List av → Nat
  | [] => 0
  | .inr (.inl _) :: l => catS l + 2
  | _ :: l => catS l + 1
def lsA : List av → List av
  | [] => []
  | .inr (.inl x) :: l => vL x :: vU :: lsA l
  | v :: l => v :: lsA l
def lgO (s : List Nat) : Nat → List av → Bool
  | _, [] => true
  | n, .inr (.inl _) :: l => s.contains n && lgO s (n + 2) l
  | n, _ :: l => lgO s (n + 1) l
/-- what a call asks of its arguments: the receiver's class, the room for locals, where the longs lie; of the stack below: eight words -/
def aOk (kd k' : Nat) (as r : List av) : Bool := (match kd with
  | 0 => (match as with
    | .inr (.inr (.inl (t, _))) :: _ => Nat.beq (tco t) (m_o k')
    | _ => false)
  | _ => true) && Nat.ble (lsA as).length (m_l k') && lgO (m_s k') 0 as && Nat.ble (catS r) 8
/-- a call -/
def cl (k j pc : Nat) (ls st : List av) (S : Sto) (kd idx : Nat) : Option Nx :=
  match lk (mthL (m_o k)) idx with
  | some (kd', k', _) =>
    bif (match kd' with | 0 => Nat.beq kd 0 | _ => Nat.beq kd 1) then
      (match cpy k j k' with
      | some j' => (match tk (match kd' with | 0 => m_n k' + 1 | _ => m_n k') st [] with
        | some (as, r) => bif aOk kd' k' as r then some (.inr (.inl ((k', j', as), (m_r k').isSome, (pc + 3, ls, r, S)))) else none
        | none => none)
      | none => none)
    else none
  | none => none
def c1 (v : av) : Bool := match v with
  | .inr (.inl _) => false
  | .inr (.inr (.inr _)) => false
  | _ => true
/-- an int returned as the method's type -/
def rt (k : Nat) (x : Int32) (S : Sto) : Option Nx := match m_r k with
  | some .int => some (.inr (.inr (some (vI x), S)))
  | some .boolean => if vp_nar .boolean x = x then some (.inr (.inr (some (vI x), S))) else none
  | some .byte => if vp_nar .byte x = x then some (.inr (.inr (some (vI x), S))) else none
  | some .char => if vp_nar .char x = x then some (.inr (.inr (some (vI x), S))) else none
  | _ => none
/-- arraycopy between int rows -/
def acp (pc : Nat) (ls st : List av) (S : Sto) : Option Nx := match st with
  | .inl n :: .inl dp :: .inr (.inr (.inl (t1, i1))) :: .inl sp :: .inr (.inr (.inl (t0, i0))) :: r =>
    (match knd t0, knd t1 with
    | (1, n0, _), (1, n1, _) => if ¬ sp < 0 ∧ ¬ dp < 0 ∧ ¬ n < 0 ∧ sp.toNatClampNeg + n.toNatClampNeg ≤ n0 ∧ dp.toNatClampNeg + n.toNatClampNeg ≤ n1 ∧ r = [] then
        cg (pc + 3) ls r (uA S t1 i1 (va_cpy (S.1 t0 i0) (S.1 t1 i1) sp.toNatClampNeg dp.toNatClampNeg n.toNatClampNeg)) else none
    | _, _ => none)
  | _ => none
/-- Math's max and min -/
def prm (k' pc : Nat) (ls st : List av) (S : Sto) : Option Nx := match k' with
  | 272 => i2 st fun x y r => bif Nat.ble (catS r) 8 then cg (pc + 3) ls (vI (if x < y then y else x) :: r) S else none
  | 273 => l2 st fun x y r => bif Nat.ble (catS r) 8 then cg (pc + 3) ls (vL (if y < x then y else x) :: r) S else none
  | 274 => l2 st fun x y r => bif Nat.ble (catS r) 8 then cg (pc + 3) ls (vL (if y < x then x else y) :: r) S else none
  | 275 => i2 st fun x y r => bif Nat.ble (catS r) 8 then cg (pc + 3) ls (vI (if y < x then y else x) :: r) S else none
  | _ => none
/-- the callee of a static call, where it is one of Math's -/
def prO (k idx : Nat) : Option Nat := match lk (mthL (m_o k)) idx with
  | some (_, k', _) => bif isPr k' then some k' else none
  | none => none
def nxt (k j pc : Nat) (ls st : List av) (S : Sto) (ins : Instr) : Option Nx :=
  match ins with
  | .iconst n => cg (pc + 1) ls (vI (Int32.ofInt n) :: st) S
  | .bipush n => cg (pc + 2) ls (vI (Int8.ofInt n).toInt32 :: st) S
  | .sipush n => cg (pc + 3) ls (vI (Int16.ofInt n).toInt32 :: st) S
  | .lconst n => cg (pc + 1) ls (vL (Int64.ofNat n.val) :: st) S
  | .ldc idx => (match lk (cstL (m_o k)) idx with
    | some (v, _) => cg (pc + 2) ls (vI v :: st) S
    | none => (match lk (scsL (m_o k)) idx with
      | some (s, _) => cg (pc + 2) ls (vR 100 s :: st) S
      | none => none))
  | .ldc_w idx => (match lk (cstL (m_o k)) idx with
    | some (v, _) => cg (pc + 3) ls (vI v :: st) S
    | none => (match lk (scsL (m_o k)) idx with
      | some (s, _) => cg (pc + 3) ls (vR 100 s :: st) S
      | none => none))
  | .ldc2_w idx => (match lk (lcsL (m_o k)) idx with
    | some (v, _) => cg (pc + 3) ls (vL v :: st) S
    | none => none)
  | .iload i => gI ls i fun x => cg (pc + 2) ls (vI x :: st) S
  | .iload_n i => gI ls i.val fun x => cg (pc + 1) ls (vI x :: st) S
  | .lload i => gL ls i fun x => cg (pc + 2) ls (vL x :: st) S
  | .lload_n i => gL ls i.val fun x => cg (pc + 1) ls (vL x :: st) S
  | .aload i => gR ls i fun t q => cg (pc + 2) ls (vR t q :: st) S
  | .aload_n i => gR ls i.val fun t q => cg (pc + 1) ls (vR t q :: st) S
  | .istore i => sI (pc + 2) ls i st S
  | .istore_n i => sI (pc + 1) ls i.val st S
  | .lstore i => sL (pc + 2) ls i st S
  | .lstore_n i => sL (pc + 1) ls i.val st S
  | .astore i => sR (pc + 2) ls i st S
  | .astore_n i => sR (pc + 1) ls i.val st S
  | .iinc i n => gI ls i fun x => cg (pc + 3) (ls.set i (vI (x + Int32.ofInt n))) st S
  | .iadd => i2 st fun x y r => cg (pc + 1) ls (vI (x + y) :: r) S
  | .isub => i2 st fun x y r => cg (pc + 1) ls (vI (x - y) :: r) S
  | .imul => i2 st fun x y r => cg (pc + 1) ls (vI (x * y) :: r) S
  | .iand => i2 st fun x y r => cg (pc + 1) ls (vI (x &&& y) :: r) S
  | .ior => i2 st fun x y r => cg (pc + 1) ls (vI (x ||| y) :: r) S
  | .ixor => i2 st fun x y r => cg (pc + 1) ls (vI (x ^^^ y) :: r) S
  | .ishl => i2 st fun x y r => cg (pc + 1) ls (vI (x <<< (y &&& 31)) :: r) S
  | .ishr => i2 st fun x y r => cg (pc + 1) ls (vI (x >>> (y &&& 31)) :: r) S
  | .iushr => i2 st fun x y r => cg (pc + 1) ls (vI (x.toUInt32 >>> (y.toUInt32 &&& Int32.toUInt32 31)).toInt32 :: r) S
  | .idiv => i2 st fun x y r => if y = 0 then none else cg (pc + 1) ls (vI (x / y) :: r) S
  | .irem => i2 st fun x y r => if y = 0 then none else cg (pc + 1) ls (vI (x - x / y * y) :: r) S
  | .ineg => i1 st fun x r => cg (pc + 1) ls (vI (-x) :: r) S
  | .ladd => l2 st fun x y r => cg (pc + 1) ls (vL (x + y) :: r) S
  | .lsub => l2 st fun x y r => cg (pc + 1) ls (vL (x - y) :: r) S
  | .lmul => l2 st fun x y r => cg (pc + 1) ls (vL (x * y) :: r) S
  | .land => l2 st fun x y r => cg (pc + 1) ls (vL (x &&& y) :: r) S
  | .lor => l2 st fun x y r => cg (pc + 1) ls (vL (x ||| y) :: r) S
  | .ldiv => l2 st fun x y r => if y = 0 then none else cg (pc + 1) ls (vL (x / y) :: r) S
  | .lrem => l2 st fun x y r => if y = 0 then none else cg (pc + 1) ls (vL (x - x / y * y) :: r) S
  | .lneg => l1 st fun x r => cg (pc + 1) ls (vL (-x) :: r) S
  | .lcmp => l2 st fun x y r => cg (pc + 1) ls (vI (lg_cmp x y) :: r) S
  | .i2l => i1 st fun x r => cg (pc + 1) ls (vL x.toInt64 :: r) S
  | .l2i => l1 st fun x r => cg (pc + 1) ls (vI x.toInt32 :: r) S
  | .i2b => i1 st fun x r => cg (pc + 1) ls (vI x.toInt8.toInt32 :: r) S
  | .i2c => i1 st fun x r => cg (pc + 1) ls (vI (x.toUInt32 % 65536).toInt32 :: r) S
  | .dup => (match st with
    | v :: r => bif c1 v then cg (pc + 1) ls (v :: v :: r) S else none
    | _ => none)
  | .pop => (match st with
    | v :: r => bif c1 v then cg (pc + 1) ls r S else none
    | _ => none)
  | .dup_x1 => (match st with
    | v :: w :: r => bif c1 v && c1 w then cg (pc + 1) ls (v :: w :: v :: r) S else none
    | _ => none)
  | .dup2 => (match st with
    | v :: w :: r => bif c1 v && c1 w then cg (pc + 1) ls (v :: w :: v :: w :: r) S else none
    | _ => none)
  | .ifCond .eq o => i1 st fun x r => if x = 0 then cg (tg pc o) ls r S else cg (pc + 3) ls r S
  | .ifCond .ne o => i1 st fun x r => if x = 0 then cg (pc + 3) ls r S else cg (tg pc o) ls r S
  | .ifCond .lt o => i1 st fun x r => if x < 0 then cg (tg pc o) ls r S else cg (pc + 3) ls r S
  | .ifCond .ge o => i1 st fun x r => if 0 ≤ x then cg (tg pc o) ls r S else cg (pc + 3) ls r S
  | .ifCond .gt o => i1 st fun x r => if 0 < x then cg (tg pc o) ls r S else cg (pc + 3) ls r S
  | .ifCond .le o => i1 st fun x r => if x ≤ 0 then cg (tg pc o) ls r S else cg (pc + 3) ls r S
  | .if_icmp .eq o => i2 st fun x y r => if x = y then cg (tg pc o) ls r S else cg (pc + 3) ls r S
  | .if_icmp .ne o => i2 st fun x y r => if x = y then cg (pc + 3) ls r S else cg (tg pc o) ls r S
  | .if_icmp .lt o => i2 st fun x y r => if x < y then cg (tg pc o) ls r S else cg (pc + 3) ls r S
  | .if_icmp .ge o => i2 st fun x y r => if y ≤ x then cg (tg pc o) ls r S else cg (pc + 3) ls r S
  | .if_icmp .gt o => i2 st fun x y r => if y < x then cg (tg pc o) ls r S else cg (pc + 3) ls r S
  | .if_icmp .le o => i2 st fun x y r => if x ≤ y then cg (tg pc o) ls r S else cg (pc + 3) ls r S
  | .goto o => cg (tg pc o) ls st S
  | .tableswitch d lo _ offs => i1 st fun x r => swR x lo offs.toList (fun o => cg (tg pc o) ls r S) d
  | .lookupswitch d ps => i1 st fun x r => swL x ps.toList (fun o => cg (tg pc o) ls r S) d
  | .getfield idx => r1 st fun t i r => (match lk (fldL (m_o k)) idx with
    | some (ci, s, _) => bif (match tci t with | some c => Nat.beq c ci | none => false) then (match fval S t i s with
      | some v => cg (pc + 3) ls (v :: r) S
      | none => none) else none
    | none => none)
  | .putfield idx => (match lk (fldL (m_o k)) idx with
    | some (ci, s, _) => (match st with
      | .inl x :: .inr (.inr (.inl (t, i))) :: r => bif (match tci t with | some c => Nat.beq c ci | none => false) then (match (knd t).2.2[s]? with
        | some (0, _, _) => cg (pc + 3) ls r (uI S t i s x)
        | some (4, _, _) => if vp_nar .boolean x = x then cg (pc + 3) ls r (uI S t i s x) else none
        | _ => none) else none
      | .inr (.inr (.inl (t', j))) :: .inr (.inr (.inl (t, i))) :: r => bif (match tci t with | some c => Nat.beq c ci | none => false) then (match (knd t).2.2[s]? with
        | some (2, t2, _) => bif Nat.beq t2 t' then cg (pc + 3) ls r (uP S j) else none
        | _ => none) else none
      | _ => none)
    | none => none)
  | .getstatic idx => bif Nat.beq (m_o k) 12 then (bif Nat.beq idx 38 then cg (pc + 3) ls (vI 1 :: st) S else bif Nat.beq idx 1053 then cg (pc + 3) ls (vR 103 0 :: st) S else none) else none
  | .arraylength => r1 st fun t i r => (match aln S t i with
    | some n => cg (pc + 1) ls (vI (Int32.ofNat n) :: r) S
    | none => none)
  | .iaload => ri st fun t i x r => (match (knd t).1 with
    | 1 => if ib x (knd t).2.1 then cg (pc + 1) ls (vI (S.1 t i x.toNatClampNeg) :: r) S else none
    | 8 => if ib x (S.1 103 0 0).toNatClampNeg then cg (pc + 1) ls (vI (S.1 t i x.toNatClampNeg) :: r) S else none
    | _ => none)
  | .laload => ri st fun t i x r => (match (knd t).1 with
    | 2 => if ib x (knd t).2.1 then cg (pc + 1) ls (vL (S.2.1 t i x.toNatClampNeg) :: r) S else none
    | _ => none)
  | .baload => ri st fun t i x r => (match (knd t).1 with
    | 3 => if ib x (knd t).2.1 then cg (pc + 1) ls (vI (S.1 t i x.toNatClampNeg) :: r) S else none
    | 4 => if ib x (knd t).2.1 then cg (pc + 1) ls (vI (S.1 t i x.toNatClampNeg) :: r) S else none
    | 7 => if ib x (strB i).length then cg (pc + 1) ls (vI ((strB i).getD x.toNatClampNeg 0) :: r) S else none
    | _ => none)
  | .aaload => ri st fun t _ x r => (match knd t with
    | (5, n, [(_, t', o)]) => if ib x n then cg (pc + 1) ls (vR t' (o + x.toNatClampNeg) :: r) S else none
    | _ => none)
  | .iastore => (match st with
    | .inl v :: st' => ri st' fun t i x r => (match (knd t).1 with
      | 1 => if ib x (knd t).2.1 then cg (pc + 1) ls r (uI S t i x.toNatClampNeg v) else none
      | _ => none)
    | _ => none)
  | .lastore => (match st with
    | .inr (.inl v) :: st' => ri st' fun t i x r => (match (knd t).1 with
      | 2 => if ib x (knd t).2.1 then cg (pc + 1) ls r (uL S t i x.toNatClampNeg v) else none
      | _ => none)
    | _ => none)
  | .bastore => (match st with
    | .inl v :: st' => ri st' fun t i x r => (match (knd t).1 with
      | 3 => if ib x (knd t).2.1 then cg (pc + 1) ls r (uI S t i x.toNatClampNeg (vp_nar .byte v)) else none
      | 4 => if ib x (knd t).2.1 then cg (pc + 1) ls r (uI S t i x.toNatClampNeg (vp_nar .boolean v)) else none
      | _ => none)
    | _ => none)
  | .invokevirtual idx => cl k j pc ls st S 0 idx
  | .invokestatic idx => bif Nat.beq (m_o k) 6 && Nat.beq idx 83 then acp pc ls st S else (match prO k idx with
    | some k' => prm k' pc ls st S
    | none => cl k j pc ls st S 1 idx)
  | .ireturn => (match st with
    | [.inl x] => rt k x S
    | _ => none)
  | .lreturn => (match st with
    | [.inr (.inl x)] => (match m_r k with
      | some .long => some (.inr (.inr (some (vL x), S)))
      | _ => none)
    | _ => none)
  | .areturn => (match st with
    | [.inr (.inr (.inl (t, i)))] => (match m_r k with
      | some (.object _) => bif Nat.beq t 103 then none else some (.inr (.inr (some (vR t i), S)))
      | _ => none)
    | _ => none)
  | .return_ => (match st with
    | [] => (match m_r k with
      | none => some (.inr (.inr (none, S)))
      | some _ => none)
    | _ => none)
  | _ => none
def nx (k j pc : Nat) (ls st : List av) (S : Sto) : Option Nx := match asg (codeL k) pc with
  | some (i, _) => nxt k j pc ls st S i
  | none => none
def lsO (k : Nat) (a : List av) : List av := lsA a ++ List.replicate (m_l k - (lsA a).length) vU
abbrev Res : Type := Option Rt
def goN (C : Nat → Nat → List av → Sto → Res) (K : Cf → Res) : Option Nx → Res
  | some (.inl c) => K c
  | some (.inr (.inl ((k', j', as), b, (pc, ls, st, S)))) => (match C k' j' as S with
    | some (v, S') => (match v, b with
      | some x, true => K (pc, ls, x :: st, S')
      | none, false => K (pc, ls, st, S')
      | _, _ => none)
    | none => none)
  | some (.inr (.inr r)) => some r
  | none => none
def exec : Nat → Nat → Nat → Cf → Res
  | 0, _, _, _ => none
  | n + 1, k, j, (pc, ls, st, S) => goN (fun k' j' as S' => exec n k' j' (0, lsO k' as, [], S')) (fun c => exec n k j c) (nx k j pc ls st S)
