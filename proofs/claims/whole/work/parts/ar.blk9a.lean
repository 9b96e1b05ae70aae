/-! the reference's cells; the whole world -/
def lfF2 : List It → Nat → (Nat → Nat) → List Value → List Value
  | [], _, _, fs => fs
  | (_, kd, sl, _, _, v, _) :: r, k, a, fs => bif Nat.beq kd 0 then lfF2 r k a (fs.set sl (.int v)) else bif Nat.beq kd 5 then lfF2 r k a (fs.set sl .null) else lfF2 r (k + 1) a (fs.set sl (.ref (a k)))
def lfW2 (cA : Nat → ClassId) : List It → Nat → (Nat → Nat) → va_W
  | [], _, _ => []
  | (_, kd, _, _, _, _, n) :: r, k, a => bif Nat.beq kd 0 then lfW2 cA r k a else bif Nat.beq kd 5 then lfW2 cA r k a else (a k, .inl (cA kd, zr kd n)) :: lfW2 cA r (k + 1) a
theorem lfF_2 : ∀ (its : List It) (u : List Nat) (k : Nat) (a : Nat → Nat) (fs : List Value), (∀ j, a (k + j) = ua u j) → lfF its u fs = lfF2 its k a fs
  | [], _, _, _, _, _ => rfl
  | (pc, kd, sl, idx, ins, v, n) :: r, u, k, a, fs, h => by
    unfold lfF lfF2
    cases Nat.beq kd 0 with
    | true => exact lfF_2 r u k a _ h
    | false =>
      cases Nat.beq kd 5 with
      | true => exact lfF_2 r u k a _ h
      | false =>
        have h0 : a k = u.headD 0 := h 0
        simp only [cond_false, h0]
        refine lfF_2 r u.tail (k + 1) a _ (fun j => ?_)
        rw [show k + 1 + j = k + (j + 1) by omega]
        exact h (j + 1)
theorem lfW_2 (cA : Nat → ClassId) : ∀ (its : List It) (u : List Nat) (k : Nat) (a : Nat → Nat), (∀ j, a (k + j) = ua u j) → lfW cA its u = lfW2 cA its k a
  | [], _, _, _, _ => rfl
  | (pc, kd, sl, idx, ins, v, n) :: r, u, k, a, h => by
    unfold lfW lfW2
    cases Nat.beq kd 0 with
    | true => exact lfW_2 cA r u k a h
    | false =>
      cases Nat.beq kd 5 with
      | true => exact lfW_2 cA r u k a h
      | false =>
        have h0 : a k = u.headD 0 := h 0
        simp only [cond_false, h0]
        refine congrArg _ (lfW_2 cA r u.tail (k + 1) a (fun j => ?_))
        rw [show k + 1 + j = k + (j + 1) by omega]
        exact h (j + 1)
theorem lfA_2 (cA : Nat → ClassId) (ci : Nat) (its : List It) (u : List Nat) (q : Nat) : lfA cA ci its u q = (q, .inr (ci, lfF2 its 0 (ua u) (dfl ci))) :: lfW2 cA its 0 (ua u) := by
  unfold lfA
  rw [lfF_2 its u 0 (ua u) _ (fun j => by rw [Nat.zero_add]), lfW_2 cA its u 0 (ua u) (fun j => by rw [Nat.zero_add])]
section LF2
variable {pc sl idx n k : Nat} {ins : Instr} {v : Int32} {r : List It} {a : Nat → Nat} {fs : List Value} {cA : Nat → ClassId}
theorem lfF2_n : lfF2 [] k a fs = fs := rfl
theorem lfF2_0 : lfF2 ((pc, 0, sl, idx, ins, v, n) :: r) k a fs = lfF2 r k a (fs.set sl (.int v)) := rfl
theorem lfW2_n : lfW2 cA [] k a = [] := rfl
theorem lfW2_0 : lfW2 cA ((pc, 0, sl, idx, ins, v, n) :: r) k a = lfW2 cA r k a := rfl
theorem lfF2_1 : lfF2 ((pc, 1, sl, idx, ins, v, n) :: r) k a fs = lfF2 r (k + 1) a (fs.set sl (.ref (a k))) := rfl
theorem lfW2_1 : lfW2 cA ((pc, 1, sl, idx, ins, v, n) :: r) k a = (a k, .inl (cA 1, zr 1 n)) :: lfW2 cA r (k + 1) a := rfl
theorem lfF2_2 : lfF2 ((pc, 2, sl, idx, ins, v, n) :: r) k a fs = lfF2 r (k + 1) a (fs.set sl (.ref (a k))) := rfl
theorem lfW2_2 : lfW2 cA ((pc, 2, sl, idx, ins, v, n) :: r) k a = (a k, .inl (cA 2, zr 2 n)) :: lfW2 cA r (k + 1) a := rfl
theorem lfF2_3 : lfF2 ((pc, 3, sl, idx, ins, v, n) :: r) k a fs = lfF2 r (k + 1) a (fs.set sl (.ref (a k))) := rfl
theorem lfW2_3 : lfW2 cA ((pc, 3, sl, idx, ins, v, n) :: r) k a = (a k, .inl (cA 3, zr 3 n)) :: lfW2 cA r (k + 1) a := rfl
theorem lfF2_4 : lfF2 ((pc, 4, sl, idx, ins, v, n) :: r) k a fs = lfF2 r (k + 1) a (fs.set sl (.ref (a k))) := rfl
theorem lfW2_4 : lfW2 cA ((pc, 4, sl, idx, ins, v, n) :: r) k a = (a k, .inl (cA 4, zr 4 n)) :: lfW2 cA r (k + 1) a := rfl
end LF2
theorem d9 : dfl 9 = [.int 0, .null, .null, .null, .null, .null, .null, .null, .null, .null, .null, .null, .null, .null, .null, .null, .null, .int 0, .int 0, .int 0, .int 0, .int 0, .int 0, .int 0, .int 0, .int 0, .int 0, .null, .null, .null, .null, .null, .null, .null, .null, .null, .null, .null, .null, .null, .null, .null, .null, .null, .null, .null, .int 0, .null, .null, .null, .null, .null, .null, .null, .null, .null, .null, .null, .null, .null, .int 0, .int 0] := rfl
set_option maxRecDepth 100000 in
set_option maxHeartbeats 1000000 in
theorem f9_eq (a : Nat → Nat) : lfF2 its9 0 a (dfl 9) = [.int 0, .ref (a 0), .ref (a 1), .ref (a 2), .ref (a 3), .ref (a 4), .ref (a 5), .ref (a 6), .ref (a 7), .ref (a 8), .ref (a 9), .ref (a 10), .ref (a 11), .ref (a 12), .ref (a 13), .ref (a 14), .ref (a 15), .int 0, .int 0, .int 0, .int 0, .int 0, .int 0, .int 0, .int 0, .int 0, .int 11, .ref (a 16), .ref (a 17), .ref (a 18), .ref (a 19), .ref (a 20), .ref (a 21), .ref (a 22), .ref (a 23), .ref (a 24), .ref (a 25), .ref (a 26), .ref (a 27), .ref (a 28), .ref (a 29), .ref (a 30), .ref (a 31), .ref (a 32), .ref (a 33), .ref (a 34), .int 0, .ref (a 35), .ref (a 36), .ref (a 37), .ref (a 38), .ref (a 39), .ref (a 40), .ref (a 41), .ref (a 42), .ref (a 43), .ref (a 44), .ref (a 45), .ref (a 46), .ref (a 47), .int 0, .int 0] := by
  rw [d9]
  simp only [its9, lfF2_0, lfF2_1, lfF2_2, lfF2_3, lfF2_4, lfF2_n, List.set_cons_zero, List.set_cons_succ, Nat.reduceAdd]
set_option maxRecDepth 100000 in
set_option maxHeartbeats 1000000 in
theorem w9_eq (cA : Nat → ClassId) (a : Nat → Nat) : lfW2 cA its9 0 a = [(a 0, .inl (cA 1, zr 1 6)), (a 1, .inl (cA 1, zr 1 12)), (a 2, .inl (cA 1, zr 1 12)), (a 3, .inl (cA 1, zr 1 12)), (a 4, .inl (cA 1, zr 1 144)), (a 5, .inl (cA 1, zr 1 144)), (a 6, .inl (cA 1, zr 1 144)), (a 7, .inl (cA 1, zr 1 24)), (a 8, .inl (cA 1, zr 1 24)), (a 9, .inl (cA 1, zr 1 24)), (a 10, .inl (cA 1, zr 1 12)), (a 11, .inl (cA 1, zr 1 12)), (a 12, .inl (cA 1, zr 1 12)), (a 13, .inl (cA 1, zr 1 12)), (a 14, .inl (cA 1, zr 1 12)), (a 15, .inl (cA 1, zr 1 12)), (a 16, .inl (cA 3, zr 3 400)), (a 17, .inl (cA 1, zr 1 1800)), (a 18, .inl (cA 1, zr 1 1800)), (a 19, .inl (cA 1, zr 1 6)), (a 20, .inl (cA 1, zr 1 72)), (a 21, .inl (cA 1, zr 1 72)), (a 22, .inl (cA 1, zr 1 72)), (a 23, .inl (cA 1, zr 1 72)), (a 24, .inl (cA 1, zr 1 402)), (a 25, .inl (cA 2, zr 2 11)), (a 26, .inl (cA 2, zr 2 300)), (a 27, .inl (cA 1, zr 1 12)), (a 28, .inl (cA 1, zr 1 12)), (a 29, .inl (cA 1, zr 1 12)), (a 30, .inl (cA 1, zr 1 144)), (a 31, .inl (cA 1, zr 1 144)), (a 32, .inl (cA 1, zr 1 12)), (a 33, .inl (cA 1, zr 1 6)), (a 34, .inl (cA 1, zr 1 12)), (a 35, .inl (cA 4, zr 4 4096)), (a 36, .inl (cA 1, zr 1 4096)), (a 37, .inl (cA 1, zr 1 24)), (a 38, .inl (cA 1, zr 1 24)), (a 39, .inl (cA 1, zr 1 6)), (a 40, .inl (cA 1, zr 1 6)), (a 41, .inl (cA 1, zr 1 24)), (a 42, .inl (cA 1, zr 1 24)), (a 43, .inl (cA 1, zr 1 12)), (a 44, .inl (cA 4, zr 4 12)), (a 45, .inl (cA 1, zr 1 12)), (a 46, .inl (cA 1, zr 1 2480)), (a 47, .inl (cA 4, zr 4 4))] := by
  simp only [its9, lfW2_0, lfW2_1, lfW2_2, lfW2_3, lfW2_4, lfW2_n, Nat.reduceAdd]
