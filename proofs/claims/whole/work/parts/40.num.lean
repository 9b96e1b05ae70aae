/-! numbers, counts -/
theorem ib_nI {i n : Nat} (h : i < n) (hn : n < 2 ^ 31) : ib (nI i) n = true := by
  unfold ib
  rw [nI_clamp (by omega)]
  simp only [Bool.and_eq_true, decide_eq_true_eq]
  exact ⟨nI_pos (by omega), h⟩
/-- how many below n -/
def ct (P : Nat → Bool) : Nat → Nat
  | 0 => 0
  | n + 1 => ct P n + if P n then 1 else 0
theorem ct_le (P : Nat → Bool) : ∀ n, ct P n ≤ n
  | 0 => Nat.le_refl 0
  | n + 1 => by
    have := ct_le P n
    unfold ct
    split <;> omega
def bI (b : Bool) : Int32 := if b then 1 else 0
theorem bI_0 (b : Bool) : (bI b = 0) = (b = false) := by
  cases b <;> simp [bI]
theorem bI_nar (b : Bool) : vp_nar .boolean (bI b) = bI b := by
  cases b <;> rfl
/-- the set of those below n as bits -/
def bN (f : Nat → Bool) : Nat → Nat
  | 0 => 0
  | n + 1 => bN f n + if f n then 2 ^ n else 0
theorem bN_lt (f : Nat → Bool) : ∀ n, bN f n < 2 ^ n
  | 0 => by simp [bN]
  | n + 1 => by
    have := bN_lt f n
    unfold bN
    rw [Nat.pow_succ]
    split <;> omega
theorem bN_bit (f : Nat → Bool) : ∀ n i, (bN f n).testBit i = (decide (i < n) && f i)
  | 0, i => by simp [bN]
  | n + 1, i => by
    have hlt := bN_lt f n
    have ih := bN_bit f n i
    unfold bN
    cases hf : f n with
    | false =>
      simp only [Bool.false_eq_true, if_false, Nat.add_zero]
      rw [ih]
      by_cases h : i < n
      · simp [h, Nat.lt_succ_of_lt h]
      · by_cases h2 : i = n
        · subst h2; simp [hf]
        · have h3 : ¬ i < n + 1 := by omega
          simp [h, h3]
    | true =>
      simp only [if_true]
      have e : bN f n + 2 ^ n = 2 ^ n * 1 + bN f n := by omega
      rw [e, Nat.testBit_two_pow_mul_add 1 hlt i]
      by_cases h : i < n
      · rw [if_pos h, ih]
        simp [h, Nat.lt_succ_of_lt h]
      · rw [if_neg h]
        by_cases h2 : i = n
        · subst h2; simp [hf]
        · have h3 : ¬ i < n + 1 := by omega
          have h4 : i - n = (i - n - 1) + 1 := by omega
          rw [h4, Nat.testBit_succ]
          simp [h3]
theorem nI_bit {m i : Nat} (hm : m < 2 ^ 31) (hi : i < 31) : (nI m >>> (nI i &&& 31)) &&& 1 = bI (m.testBit i) := by
  have hs : ∀ i, i < 32 → ((nI i &&& 31).toBitVec.smod 32).toNat = i := by decide +kernel
  rw [pk_shrN hm (nI i &&& 31) i (hs i (by omega))]
  have h2 := pk_andN (n := m / 2 ^ i) (by have := Nat.div_le_self m (2 ^ i); omega) (m := 1) 1 (by decide)
  rw [h2, Nat.testBit_eq_decide_div_mod_eq]
  have h3 : m / 2 ^ i % 2 ^ 1 = 0 ∨ m / 2 ^ i % 2 ^ 1 = 1 := by omega
  rcases h3 with h3 | h3 <;> rw [h3] <;> simp only [Nat.pow_one] at h3 <;> simp [bI, h3] <;> rfl
theorem nar_0 : (vp_nar .boolean 0 = 0) = True := eq_true rfl
theorem nar_1 : (vp_nar .boolean 1 = 1) = True := eq_true rfl
theorem bI_f : bI false = 0 := rfl
theorem bI_t : bI true = 1 := rfl
theorem nI_two (n : Nat) : (2 : Int32) * nI n = nI (2 * n) := pk_mul 2 n
