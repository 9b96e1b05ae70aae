/-! the town, abstractly: A f i, all whole numbers. f 0: people, things, works, in row, year, draw; 1 coin; 2 lives; 3 heir + 1; 4 like + 9 (at 12 a + b); 5 quarrel; 6 given; 7, 8 the owners of a thing; 9 use; 10 asker; 11 the set of a work's things; 12 worth; 13 day; 14 done; 15 row -/
abbrev Tn : Type := Nat → Nat → Nat
def al (f : Nat) : Nat := match f with
  | 0 => 6 | 1 => 12 | 2 => 12 | 3 => 12 | 4 => 144 | 5 => 144 | 6 => 144 | 7 => 24 | 8 => 24 | 9 => 24 | _ => 12
def dcA (f n : Nat) : Int32 := match f with
  | 3 => nI n - 1
  | 4 => nI n - 9
  | _ => nI n
/-- the reference's rows hold A -/
def RepM (S : Sto) (A : Tn) : Prop := ∀ f i, f < 16 → i < al f → S.1 (51 + f) 0 i = dcA f (A f i)
def livB (A : Tn) : Nat := bN (fun p => A 2 p == 1) 12
def donB (A : Tn) : Nat := bN (fun w => A 14 w == 1) 12
def foeB (A : Tn) (p : Nat) : Nat := bN (fun o => A 5 (12 * p + o) == 1) 12
/-- a town of the class holds A -/
def RepC (S : Sto) (q : Nat) (A : Tn) : Prop :=
  (S.1 1 q 0 = nI (A 0 0) ∧ S.1 1 q 7 = nI (A 0 1) ∧ S.1 1 q 10 = nI (A 0 2) ∧ S.1 1 q 16 = nI (A 0 3) ∧ S.1 1 q 18 = nI (A 0 4) ∧ S.1 1 q 19 = nI (A 0 5) ∧ S.1 1 q 1 = nI (livB A) ∧ S.1 1 q 11 = nI (donB A)) ∧
  (∀ p, p < 12 → S.1 2 q p = nI (A 1 p) ∧ S.1 3 q p = nI (A 3 p) - 1 ∧ S.1 4 q p = nI (foeB A p)) ∧
  (∀ i, i < 144 → S.1 5 q i = nI (A 4 i) - 9 ∧ S.1 6 q i = nI (A 6 i)) ∧
  (∀ t, t < 24 → S.1 7 q (2 * t) = nI (A 7 t) ∧ S.1 7 q (2 * t + 1) = nI (A 8 t) ∧ S.1 8 q t = nI (A 9 t)) ∧
  (∀ w, w < 12 → S.1 9 q w = nI (A 10 w) ∧ S.1 10 q w = nI (A 11 w) ∧ S.1 11 q w = nI (A 12 w) ∧ S.1 12 q w = nI (A 13 w) ∧ S.1 13 q w = nI (A 15 w))
/-- what is always so of a town -/
def WF (A : Tn) : Prop :=
  (A 0 0 ≤ 12 ∧ A 0 1 ≤ 24 ∧ A 0 2 ≤ 12 ∧ A 0 3 ≤ 12 ∧ True ∧ A 0 5 < 2 ^ 31) ∧
  (∀ p, p < 12 → A 1 p ≤ 99999 ∧ A 2 p ≤ 1 ∧ (A 2 p = 1 → p < A 0 0) ∧ (p < A 0 0 → A 3 p ≤ A 0 0) ∧ A 3 p ≤ 12) ∧
  (∀ i, i < 144 → A 4 i ≤ 18 ∧ A 5 i ≤ 1) ∧
  (∀ a b, a < 12 → b < 12 → A 5 (12 * a + b) = A 5 (12 * b + a) ∧ A 5 (12 * a + a) = 0 ∧ (A 5 (12 * a + b) = 1 → a < A 0 0 ∧ b < A 0 0)) ∧
  (∀ t, t < A 0 1 → A 7 t < A 0 0 ∧ A 8 t < A 0 0 ∧ A 7 t ≠ A 8 t ∧ A 9 t ≤ 999 ∧ A 2 (A 7 t) = 1 ∧ A 2 (A 8 t) = 1) ∧
  (∀ w, w < A 0 2 → A 10 w < A 0 0 ∧ A 11 w < 2 ^ A 0 1 ∧ A 11 w ≠ 0 ∧ ct (fun i => (A 11 w).testBit i) 24 ≤ 4 ∧ A 12 w ≤ 9999 ∧ A 13 w ≤ 99) ∧
  (∀ w, w < 12 → A 14 w ≤ 1 ∧ (A 14 w = 1 → w < A 0 2)) ∧ (∀ k, k < A 0 3 → A 15 k < A 0 2) ∧
  (∀ t, t < 24 → A 7 t < 12 ∧ A 8 t < 12) ∧ (∀ w, w < 12 → A 10 w < 12 ∧ A 11 w < 2 ^ 24 ∧ A 12 w ≤ 9999 ∧ A 13 w ≤ 99 ∧ A 15 w < 12)
theorem livB_bit (A : Tn) {p : Nat} (h : p < 12) : (livB A).testBit p = (A 2 p == 1) := by
  unfold livB
  rw [bN_bit]
  simp [h]
theorem donB_bit (A : Tn) {w : Nat} (h : w < 12) : (donB A).testBit w = (A 14 w == 1) := by
  unfold donB
  rw [bN_bit]
  simp [h]
theorem foeB_bit (A : Tn) {p o : Nat} (h : o < 12) : (foeB A p).testBit o = (A 5 (12 * p + o) == 1) := by
  unfold foeB
  rw [bN_bit]
  simp [h]
theorem livB_lt (A : Tn) : livB A < 2 ^ 31 := Nat.lt_of_lt_of_le (bN_lt _ 12) (by decide)
theorem donB_lt (A : Tn) : donB A < 2 ^ 31 := Nat.lt_of_lt_of_le (bN_lt _ 12) (by decide)
theorem foeB_lt (A : Tn) (p : Nat) : foeB A p < 2 ^ 31 := Nat.lt_of_lt_of_le (bN_lt _ 12) (by decide)
/-- the owner of a half -/
def ow (A : Tn) (i : Nat) : Nat := if i % 2 = 0 then A 7 (i / 2) else A 8 (i / 2)
theorem RepC.own {S : Sto} {q : Nat} {A : Tn} (h : RepC S q A) {i : Nat} (hi : i < 48) : S.1 7 q i = nI (ow A i) := by
  have h1 := h.2.2.2.1 (i / 2) (by omega)
  unfold ow
  by_cases he : i % 2 = 0
  · rw [if_pos he]
    have e : i = 2 * (i / 2) := by omega
    rw [← h1.1]
    exact congrArg _ e
  · rw [if_neg he]
    have e : i = 2 * (i / 2) + 1 := by omega
    rw [← h1.2.1]
    exact congrArg _ e
theorem WF.ow12 {A : Tn} (h : WF A) {i : Nat} (hi : i < 48) : ow A i < 12 := by
  unfold ow
  have h1 := h.2.2.2.2.2.2.2.2.1 (i / 2) (by omega)
  split
  · exact h1.1
  · exact h1.2
theorem nx_xor (a b : Nat) : nI a ^^^ nI b = nI (a ^^^ b) := by
  apply Int32.toBitVec_inj.1
  show BitVec.ofNat 32 a ^^^ BitVec.ofNat 32 b = BitVec.ofNat 32 (a ^^^ b)
  apply BitVec.eq_of_getLsbD_eq
  intro i hi
  simp [hi]
theorem nI_x1 (i : Nat) : nI i ^^^ 1 = nI (i ^^^ 1) := nx_xor i 1
theorem x1_lt {i n : Nat} (h : i < 2 * n) : i ^^^ 1 < 2 * n := by
  have h1 : (i ^^^ 1) / 2 = i / 2 := by
    have := Nat.xor_div_two (a := i) (b := 1)
    simpa using this
  omega
theorem nI_p12 (a b : Nat) : nI a * 12 + nI b = nI (12 * a + b) := by
  have e : nI a * 12 = nI (a * 12) := pk_mul a 12
  rw [e, nI_add, Nat.mul_comm a 12]
/-- sums of ints -/
def smI (f : Nat → Int32) : Nat → Int32
  | 0 => 0
  | n + 1 => smI f n + f n
theorem x_isPerson_A {S : Sto} {q : Nat} {A : Tn} (h : RepC S q A) (n : Int32) : call 69 0 [vR 1 q, vI n] S = some (some (vI (bI (!decide (n < 0) && !decide (nI (A 0 0) ≤ n)))), S) := by
  rw [x_isPerson, h.1.1]
theorem x_ownedBy_A {S : Sto} {q : Nat} {A : Tn} (h : RepC S q A) (hw : WF A) {p : Nat} (hp : p < 2 ^ 31) : call 73 0 [vR 1 q, vI (nI p)] S = some (some (vI (nI (ct (fun i => ow A i == p) (2 * A 0 1)))), S) := by
  rw [x_ownedBy h.1.2.1 hw.1.2.1]
  have e : ∀ n, n ≤ 48 → ct (fun i => decide (S.1 7 q i = nI p)) n = ct (fun i => ow A i == p) n := by
    intro n
    induction n with
    | zero => intro _; rfl
    | succ n ih =>
      intro hn
      have hb := hw.ow12 (i := n) (by omega)
      simp only [ct, ih (by omega), h.own (show n < 48 by omega)]
      have e2 : decide (nI (ow A n) = nI p) = (ow A n == p) := by
        rw [Bool.eq_iff_iff]
        simp [nI_eq (show ow A n < 2 ^ 31 by omega) hp]
      rw [e2]
  rw [e _ (by have := hw.1.2.1; omega)]
theorem x_sharedBy_A {S : Sto} {q : Nat} {A : Tn} (h : RepC S q A) (hw : WF A) {a b : Nat} (ha : a < 2 ^ 31) (hb : b < 2 ^ 31) : call 76 0 [vR 1 q, vI (nI a), vI (nI b)] S = some (some (vI (nI (ct (fun i => ow A i == a && ow A (i ^^^ 1) == b) (2 * A 0 1)))), S) := by
  have hT := hw.1.2.1
  have L : ∀ m i, i + m = 2 * A 0 1 → run 76 0 5 [vR 1 q, vI (nI a), vI (nI b), vI (nI (ct (fun i => ow A i == a && ow A (i ^^^ 1) == b) i)), vI (nI i)] [] S = some (some (vI (nI (ct (fun i => ow A i == a && ow A (i ^^^ 1) == b) (2 * A 0 1)))), S) := by
    intro m
    induction m with
    | zero =>
      intro i hi
      have e : i = 2 * A 0 1 := by omega
      rw [s76_5]
      simp only [s76_0, s76_1, s76_2, s76_3, s76_7, s76_8, s76_9, s76_12, s76_13, s76_16, s76_17, s76_20, s76_22, s76_23, s76_24, s76_27, s76_28, s76_31, s76_33, s76_34, s76_35, s76_36, s76_37, s76_40, s76_43, s76_46, s76_49, s76_50, h.1.2.1, nI_two]
      rw [if_pos (nI_le (by omega) (by omega)), e]
    | succ m ih =>
      intro i hi
      have hx := x1_lt (i := i) (n := A 0 1) (by omega)
      have o1 := hw.ow12 (i := i) (by omega)
      have o2 := hw.ow12 (i := i ^^^ 1) (by omega)
      rw [s76_5]
      simp only [s76_0, s76_1, s76_2, s76_3, s76_7, s76_8, s76_9, s76_12, s76_13, s76_16, s76_17, s76_20, s76_22, s76_23, s76_24, s76_27, s76_28, s76_31, s76_33, s76_34, s76_35, s76_36, s76_37, s76_40, s76_43, s76_46, s76_49, s76_50, h.1.2.1, nI_two, nI_1, nI_x1]
      rw [if_neg (nI_ge (by omega) (by omega)), if_pos (ib_nI (by omega) (by decide)), if_pos (ib_nI (by omega) (by decide)), nI_clamp (by omega), nI_clamp (by omega), h.own (by omega), h.own (by omega)]
      simp only [nI_eq (show ow A i < 2 ^ 31 by omega) ha, nI_eq (show ow A (i ^^^ 1) < 2 ^ 31 by omega) hb]
      have h2 := ih (i + 1) (by omega)
      by_cases h3 : ow A i = a <;> by_cases h4 : ow A (i ^^^ 1) = b <;> simpa [ct, h3, h4] using h2
  show run 76 0 0 [vR 1 q, vI (nI a), vI (nI b), vU, vU] [] S = _
  simp only [s76_0, s76_1, s76_2, s76_3, s76_7, s76_8, s76_9, s76_12, s76_13, s76_16, s76_17, s76_20, s76_22, s76_23, s76_24, s76_27, s76_28, s76_31, s76_33, s76_34, s76_35, s76_36, s76_37, s76_40, s76_43, s76_46, s76_49, s76_50]
  exact L (2 * A 0 1) 0 (by omega)
