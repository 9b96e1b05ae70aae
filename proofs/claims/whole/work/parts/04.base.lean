/-! the tables' readers -/
def lk {α : Type} : List (Nat × α) → Nat → Option α
  | [], _ => none
  | (p, a) :: l, q => bif Nat.beq p q then some a else lk l q
def m_y (k : Nat) : MethodName := (mi k).1
def m_b (k : Nat) : ByteArray := (mi k).2.1
def m_l (k : Nat) : Nat := (mi k).2.2.1
def m_r (k : Nat) : Option FieldType := (mi k).2.2.2.1
def m_o (k : Nat) : Nat := (mi k).2.2.2.2.1
def m_v (k : Nat) : Nat := (mi k).2.2.2.2.2.1
def m_g (k : Nat) : Nat := (mi k).2.2.2.2.2.2.1
def m_n (k : Nat) : Nat := (mi k).2.2.2.2.2.2.2.1
def m_s (k : Nat) : List Nat := (mi k).2.2.2.2.2.2.2.2.1
def m_w (k : Nat) : Nat := (mi k).2.2.2.2.2.2.2.2.2
def asg : List (Nat × Instr × Nat) → Nat → Option (Instr × Nat)
  | [], _ => none
  | (p, i, n) :: l, q => bif Nat.beq p q then some (i, n) else asg l q
/-- the class of a tag's objects -/
def tci (t : Nat) : Option Nat := match (knd t).1 with
  | 0 => some (knd t).2.1
  | 6 => some 100
  | _ => none
