/-! more of a town (class) -/
/-- sums -/
def fsN (f : Nat → Nat) : Nat → Nat
  | 0 => 0
  | n + 1 => fsN f n + f n
/-- the or of sets -/
def orN (f : Nat → Nat) : Nat → Nat
  | 0 => 0
  | n + 1 => orN f n ||| f n
theorem orN_bit (f : Nat → Nat) : ∀ n i, (orN f n).testBit i = decide (∃ k, k < n ∧ (f k).testBit i = true)
  | 0, i => by simp [orN]
  | n + 1, i => by
    unfold orN
    rw [Nat.testBit_or, orN_bit f n i]
    rw [Bool.eq_iff_iff]
    simp only [Bool.or_eq_true, decide_eq_true_eq]
    constructor
    · rintro (⟨k, h1, h2⟩ | h)
      · exact ⟨k, by omega, h2⟩
      · exact ⟨n, by omega, h⟩
    · rintro ⟨k, h1, h2⟩
      by_cases hk : k = n
      · subst hk; exact Or.inr h2
      · exact Or.inl ⟨k, by omega, h2⟩
theorem orN_lt {f : Nat → Nat} {b : Nat} : ∀ {n : Nat}, (∀ k, k < n → f k < 2 ^ b) → orN f n < 2 ^ b
  | 0, _ => Nat.two_pow_pos b
  | n + 1, h => Nat.or_lt_two_pow (orN_lt (fun k hk => h k (by omega))) (h n (by omega))
theorem sl_ok : ∀ i, i < 32 → ((nI i &&& 31).toBitVec.smod 32).toNat = i := by decide +kernel
theorem nI_shl1 {i : Nat} (hi : i < 31) : (1 : Int32) <<< (nI i &&& 31) = nI (2 ^ i) := by
  have h := pk_shlN (n := 1) (nI i &&& 31) i (sl_ok i (by omega)) (by
    have : 2 ^ i < 2 ^ 31 := Nat.pow_lt_pow_right (by decide) hi
    omega)
  rw [Nat.one_mul] at h
  exact h
theorem x_atOdds_A {S : Sto} {q : Nat} {A : Tn} (h : RepC S q A) {a b : Nat} (ha : a < 12) (hb : b < 12) : call 71 0 [vR 1 q, vI (nI a), vI (nI b)] S = some (some (vI (bI (A 5 (12 * a + b) == 1))), S) := by
  show run 71 0 0 [vR 1 q, vI (nI a), vI (nI b)] [] S = _
  simp only [s71_0, s71_1, s71_4, s71_5, s71_6, s71_7, s71_10]
  rw [if_pos (ib_nI ha (by decide)), nI_clamp (by omega), (h.2.1 a ha).2.2, x_has S (foeB_lt A a) (by omega), bV_some, foeB_bit A hb]
  simp only [s71_0, s71_1, s71_4, s71_5, s71_6, s71_7, s71_10, bI_nar, if_true]
theorem x_isInWork_A {S : Sto} {q : Nat} {A : Tn} (h : RepC S q A) (hw : WF A) {t w : Nat} (ht : t < A 0 1) (hv : w < A 0 2) : call 79 0 [vR 1 q, vI (nI t), vI (nI w)] S = some (some (vI (bI ((A 11 w).testBit t))), S) := by
  have hT := hw.1.2.1
  have hW := hw.1.2.2.1
  show run 79 0 0 [vR 1 q, vI (nI t), vI (nI w)] [] S = _
  simp only [s79_0, s79_1, s79_2, s79_5, s79_8, s79_9, s79_10, s79_13, s79_16, s79_17, s79_20, s79_21, s79_22, s79_23, s79_26, s79_29, s79_30, s79_33, s79_34, x_isWork, x_isThing, bV_some, h.1.2.1, h.1.2.2.1, bI_0]
  have e1 : (!decide (nI w < 0) && !decide (nI (A 0 2) ≤ nI w)) = true := by
    simp [nI_pos (show w < 2 ^ 31 by omega), nI_ge hv (by omega)]
  have e2 : (!decide (nI t < 0) && !decide (nI (A 0 1) ≤ nI t)) = true := by
    simp [nI_pos (show t < 2 ^ 31 by omega), nI_ge ht (by omega)]
  rw [e1, e2, if_neg (by simp), if_neg (by simp), if_pos (ib_nI (by omega) (by decide)), nI_clamp (by omega), (h.2.2.2.2 w (by omega)).2.1]
  have hk := (hw.2.2.2.2.2.2.2.2.2 w (by omega)).2.1
  rw [x_has S (by omega) (by omega), bV_some]
  simp only [s79_0, s79_1, s79_2, s79_5, s79_8, s79_9, s79_10, s79_13, s79_16, s79_17, s79_20, s79_21, s79_22, s79_23, s79_26, s79_29, s79_30, s79_33, s79_34, bI_0]
  cases (A 11 w).testBit t <;> simp [bI, nar_0, nar_1]
theorem x_contentOf_A {S : Sto} {q : Nat} {A : Tn} (h : RepC S q A) (hw : WF A) {p : Nat} (hp : p < 12) : call 74 0 [vR 1 q, vI (nI p)] S = some (some (vI (smI (fun i => if ow A i = p then nI (A 4 (12 * p + ow A (i ^^^ 1))) - 9 else 0) (2 * A 0 1))), S) := by
  have hT := hw.1.2.1
  have L : ∀ m i, i + m = 2 * A 0 1 → run 74 0 4 [vR 1 q, vI (nI p), vI (smI (fun i => if ow A i = p then nI (A 4 (12 * p + ow A (i ^^^ 1))) - 9 else 0) i), vI (nI i)] [] S = some (some (vI (smI (fun i => if ow A i = p then nI (A 4 (12 * p + ow A (i ^^^ 1))) - 9 else 0) (2 * A 0 1))), S) := by
    intro m
    induction m with
    | zero =>
      intro i hi
      have e : i = 2 * A 0 1 := by omega
      rw [s74_4]
      simp only [s74_0, s74_1, s74_2, s74_3, s74_5, s74_6, s74_7, s74_10, s74_11, s74_14, s74_15, s74_18, s74_19, s74_20, s74_21, s74_24, s74_25, s74_26, s74_29, s74_30, s74_32, s74_33, s74_34, s74_37, s74_38, s74_39, s74_40, s74_41, s74_42, s74_43, s74_44, s74_45, s74_48, s74_51, s74_52, h.1.2.1, nI_two]
      rw [if_pos (nI_le (by omega) (by omega)), e]
    | succ m ih =>
      intro i hi
      have hx := x1_lt (i := i) (n := A 0 1) (by omega)
      have o1 := hw.ow12 (i := i) (by omega)
      have o2 := hw.ow12 (i := i ^^^ 1) (by omega)
      rw [s74_4]
      simp only [s74_0, s74_1, s74_2, s74_3, s74_5, s74_6, s74_7, s74_10, s74_11, s74_14, s74_15, s74_18, s74_19, s74_20, s74_21, s74_24, s74_25, s74_26, s74_29, s74_30, s74_32, s74_33, s74_34, s74_37, s74_38, s74_39, s74_40, s74_41, s74_42, s74_43, s74_44, s74_45, s74_48, s74_51, s74_52, h.1.2.1, nI_two, nI_1, nI_x1]
      rw [if_neg (nI_ge (by omega) (by omega)), if_pos (ib_nI (by omega) (by decide)), if_pos (ib_nI (by omega) (by decide)), nI_clamp (by omega), nI_clamp (by omega), h.own (by omega), h.own (by omega)]
      simp only [nI_eq (show ow A i < 2 ^ 31 by omega) (show p < 2 ^ 31 by omega), nI_p12]
      rw [if_pos (ib_nI (by omega) (by decide)), nI_clamp (by omega), (h.2.2.1 _ (by omega)).1]
      have h2 := ih (i + 1) (by omega)
      by_cases h3 : ow A i = p <;> simpa [smI, h3] using h2
  show run 74 0 0 [vR 1 q, vI (nI p), vU, vU] [] S = _
  simp only [s74_0, s74_1, s74_2, s74_3, s74_5, s74_6, s74_7, s74_10, s74_11, s74_14, s74_15, s74_18, s74_19, s74_20, s74_21, s74_24, s74_25, s74_26, s74_29, s74_30, s74_32, s74_33, s74_34, s74_37, s74_38, s74_39, s74_40, s74_41, s74_42, s74_43, s74_44, s74_45, s74_48, s74_51, s74_52]
  exact L (2 * A 0 1) 0 (by omega)
theorem x_matesOf_A {S : Sto} {q : Nat} {A : Tn} (h : RepC S q A) (hw : WF A) {p : Nat} (hp : p < 12) : call 75 0 [vR 1 q, vI (nI p)] S = some (some (vI (nI (pop (orN (fun i => if ow A i = p then 2 ^ ow A (i ^^^ 1) else 0) (2 * A 0 1))))), S) := by
  have hT := hw.1.2.1
  have hor : ∀ n, n ≤ 48 → orN (fun i => if ow A i = p then 2 ^ ow A (i ^^^ 1) else 0) n < 2 ^ 12 := by
    intro n hn
    apply orN_lt
    intro k hk
    have o2 := hw.ow12 (i := k ^^^ 1) (by have := x1_lt (i := k) (n := 24) (by omega); omega)
    split
    · exact Nat.pow_lt_pow_right (by decide) o2
    · decide
  have L : ∀ m i, i + m = 2 * A 0 1 → run 75 0 4 [vR 1 q, vI (nI p), vI (nI (orN (fun i => if ow A i = p then 2 ^ ow A (i ^^^ 1) else 0) i)), vI (nI i)] [] S = some (some (vI (nI (pop (orN (fun i => if ow A i = p then 2 ^ ow A (i ^^^ 1) else 0) (2 * A 0 1))))), S) := by
    intro m
    induction m with
    | zero =>
      intro i hi
      have e : i = 2 * A 0 1 := by omega
      have hb := hor (2 * A 0 1) (by omega)
      rw [s75_4]
      simp only [s75_0, s75_1, s75_2, s75_3, s75_5, s75_6, s75_7, s75_10, s75_11, s75_14, s75_15, s75_18, s75_19, s75_20, s75_21, s75_24, s75_25, s75_26, s75_27, s75_30, s75_31, s75_32, s75_33, s75_34, s75_35, s75_36, s75_37, s75_40, s75_43, s75_44, s75_47, h.1.2.1, nI_two]
      rw [if_pos (nI_le (by omega) (by omega)), e, x_bitCount S (by omega), bV_some]
      simp only [s75_0, s75_1, s75_2, s75_3, s75_5, s75_6, s75_7, s75_10, s75_11, s75_14, s75_15, s75_18, s75_19, s75_20, s75_21, s75_24, s75_25, s75_26, s75_27, s75_30, s75_31, s75_32, s75_33, s75_34, s75_35, s75_36, s75_37, s75_40, s75_43, s75_44, s75_47]
    | succ m ih =>
      intro i hi
      have hx := x1_lt (i := i) (n := A 0 1) (by omega)
      have o1 := hw.ow12 (i := i) (by omega)
      have o2 := hw.ow12 (i := i ^^^ 1) (by omega)
      rw [s75_4]
      simp only [s75_0, s75_1, s75_2, s75_3, s75_5, s75_6, s75_7, s75_10, s75_11, s75_14, s75_15, s75_18, s75_19, s75_20, s75_21, s75_24, s75_25, s75_26, s75_27, s75_30, s75_31, s75_32, s75_33, s75_34, s75_35, s75_36, s75_37, s75_40, s75_43, s75_47, h.1.2.1, nI_two, nI_1, nI_x1]
      rw [if_neg (nI_ge (by omega) (by omega)), if_pos (ib_nI (by omega) (by decide)), if_pos (ib_nI (by omega) (by decide)), nI_clamp (by omega), nI_clamp (by omega), h.own (by omega), h.own (by omega)]
      simp only [nI_eq (show ow A i < 2 ^ 31 by omega) (show p < 2 ^ 31 by omega), nI_shl1 (show ow A (i ^^^ 1) < 31 by omega), nx_or]
      have h2 := ih (i + 1) (by omega)
      by_cases h3 : ow A i = p <;> simpa [orN, h3] using h2
  show run 75 0 0 [vR 1 q, vI (nI p), vU, vU] [] S = _
  simp only [s75_0, s75_1, s75_2, s75_3, s75_5, s75_6, s75_7, s75_10, s75_11, s75_14, s75_15, s75_18, s75_19, s75_20, s75_21, s75_24, s75_25, s75_26, s75_27, s75_30, s75_31, s75_32, s75_33, s75_34, s75_35, s75_36, s75_37, s75_40, s75_43, s75_47]
  exact L (2 * A 0 1) 0 (by omega)
theorem x_oddsCount_A {S : Sto} {q : Nat} {A : Tn} (h : RepC S q A) (hw : WF A) : call 85 0 [vR 1 q] S = some (some (vI (nI (fsN (fun p => pop (foeB A p)) (A 0 0) / 2))), S) := by
  have hP := hw.1.1
  have hb : ∀ n, fsN (fun p => pop (foeB A p)) n ≤ 32 * n := by
    intro n
    induction n with
    | zero => exact Nat.le_refl _
    | succ n ih =>
      have := pop_le (foeB A n)
      show fsN _ n + pop (foeB A n) ≤ _
      omega
  have L : ∀ m i, i + m = A 0 0 → run 85 0 4 [vR 1 q, vI (nI (fsN (fun p => pop (foeB A p)) i)), vI (nI i)] [] S = some (some (vI (nI (fsN (fun p => pop (foeB A p)) (A 0 0) / 2))), S) := by
    intro m
    induction m with
    | zero =>
      intro i hi
      have e : i = A 0 0 := by omega
      have := hb (A 0 0)
      rw [s85_4]
      simp only [s85_0, s85_1, s85_2, s85_3, s85_5, s85_6, s85_9, s85_12, s85_13, s85_14, s85_17, s85_18, s85_22, s85_23, s85_24, s85_27, s85_30, s85_31, s85_32, s85_33, h.1.1]
      rw [if_pos (nI_le (by omega) (by omega)), if_neg (by decide), e]
      have e2 : nI (fsN (fun p => pop (foeB A p)) (A 0 0)) / 2 = nI (fsN (fun p => pop (foeB A p)) (A 0 0) / 2) := pk_div (by omega) (d := 2) (by decide) (by decide)
      rw [e2]
    | succ m ih =>
      intro i hi
      rw [s85_4]
      simp only [s85_0, s85_1, s85_2, s85_3, s85_5, s85_6, s85_9, s85_12, s85_13, s85_14, s85_17, s85_18, s85_22, s85_23, s85_24, s85_27, s85_30, s85_31, s85_32, s85_33, h.1.1]
      rw [if_neg (nI_ge (by omega) (by omega)), if_pos (ib_nI (by omega) (by decide)), nI_clamp (by omega), (h.2.1 i (by omega)).2.2, s85_19, x_bitCount S (Nat.lt_of_lt_of_le (foeB_lt A i) (by decide)), bV_some]
      simp only [s85_0, s85_1, s85_2, s85_3, s85_5, s85_6, s85_9, s85_12, s85_13, s85_14, s85_17, s85_18, s85_22, s85_23, s85_24, s85_27, s85_30, s85_31, s85_32, s85_33, nI_1, nI_add]
      exact ih (i + 1) (by omega)
  show run 85 0 0 [vR 1 q, vU, vU] [] S = _
  simp only [s85_0, s85_1, s85_2, s85_3, s85_5, s85_6, s85_9, s85_12, s85_13, s85_14, s85_17, s85_18, s85_22, s85_23, s85_24, s85_27, s85_30, s85_31, s85_32, s85_33]
  exact L (A 0 0) 0 (by omega)
