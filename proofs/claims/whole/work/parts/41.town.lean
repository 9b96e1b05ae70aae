/-! a town's own readers (class) -/
theorem x_within (S : Sto) (n m : Int32) : call 93 0 [vI n, vI m] S = some (some (vI (bI (!decide (n < 0) && !decide (m < n)))), S) := by
  show run 93 0 0 [vI n, vI m] [] S = _
  simp only [s93_0, s93_1, s93_4, s93_5, s93_6, s93_9, s93_10, s93_13, s93_14]
  by_cases h1 : n < 0 <;> by_cases h2 : m < n <;> simp [h1, h2, bI, nar_0, nar_1]
theorem x_has' (S : Sto) (m n : Int32) : call 96 0 [vI m, vI n] S = some (some (vI (bI (!decide ((m >>> (n &&& 31)) &&& 1 = 0)))), S) := by
  show run 96 0 0 [vI m, vI n] [] S = _
  simp only [s96_0, s96_1, s96_2, s96_3, s96_4, s96_5, s96_8, s96_9, s96_12, s96_13]
  by_cases h1 : (m >>> (n &&& 31)) &&& 1 = 0 <;> simp [h1, bI, nar_0, nar_1]
theorem x_has (S : Sto) {m i : Nat} (hm : m < 2 ^ 31) (hi : i < 31) : call 96 0 [vI (nI m), vI (nI i)] S = some (some (vI (bI (m.testBit i))), S) := by
  rw [x_has', nI_bit hm hi]
  cases m.testBit i <;> rfl
theorem x_isPerson (S : Sto) (q : Nat) (n : Int32) : call 69 0 [vR 1 q, vI n] S = some (some (vI (bI (!decide (n < 0) && !decide (S.1 1 q 0 ≤ n)))), S) := by
  show run 69 0 0 [vR 1 q, vI n] [] S = _
  simp only [s69_0, s69_1, s69_4, s69_5, s69_6, s69_9, s69_12, s69_13, s69_16, s69_17]
  by_cases h1 : n < 0 <;> by_cases h2 : S.1 1 q 0 ≤ n <;> simp [h1, h2, bI, nar_0, nar_1]
theorem x_isThing (S : Sto) (q : Nat) (n : Int32) : call 77 0 [vR 1 q, vI n] S = some (some (vI (bI (!decide (n < 0) && !decide (S.1 1 q 7 ≤ n)))), S) := by
  show run 77 0 0 [vR 1 q, vI n] [] S = _
  simp only [s77_0, s77_1, s77_4, s77_5, s77_6, s77_9, s77_12, s77_13, s77_16, s77_17]
  by_cases h1 : n < 0 <;> by_cases h2 : S.1 1 q 7 ≤ n <;> simp [h1, h2, bI, nar_0, nar_1]
theorem x_isWork (S : Sto) (q : Nat) (n : Int32) : call 78 0 [vR 1 q, vI n] S = some (some (vI (bI (!decide (n < 0) && !decide (S.1 1 q 10 ≤ n)))), S) := by
  show run 78 0 0 [vR 1 q, vI n] [] S = _
  simp only [s78_0, s78_1, s78_4, s78_5, s78_6, s78_9, s78_12, s78_13, s78_16, s78_17]
  by_cases h1 : n < 0 <;> by_cases h2 : S.1 1 q 10 ≤ n <;> simp [h1, h2, bI, nar_0, nar_1]
theorem x_isAlive (S : Sto) (q : Nat) (n : Int32) : call 70 0 [vR 1 q, vI n] S = some (some (vI (bI (!decide (n < 0) && !decide (S.1 1 q 0 ≤ n) && !decide ((S.1 1 q 1 >>> (n &&& 31)) &&& 1 = 0)))), S) := by
  show run 70 0 0 [vR 1 q, vI n] [] S = _
  simp only [s70_0, s70_1, s70_4, s70_5, s70_6, s70_9, s70_12, s70_13, s70_16, s70_17, s70_20, s70_23, s70_24, s70_27, s70_28, x_has', bV_some, bI_0]
  by_cases h1 : n < 0 <;> by_cases h2 : S.1 1 q 0 ≤ n <;> by_cases h3 : (S.1 1 q 1 >>> (n &&& 31)) &&& 1 = 0 <;> simp [h1, h2, h3, bI, nar_0, nar_1]
theorem x_areTwo (S : Sto) (q : Nat) (a b : Int32) : call 68 0 [vR 1 q, vI a, vI b] S = some (some (vI (bI (!decide (a = b) && (!decide (a < 0) && !decide (S.1 1 q 0 ≤ a)) && (!decide (b < 0) && !decide (S.1 1 q 0 ≤ b))))), S) := by
  show run 68 0 0 [vR 1 q, vI a, vI b] [] S = _
  simp only [s68_0, s68_1, s68_2, s68_5, s68_6, s68_7, s68_10, s68_13, s68_14, s68_15, s68_18, s68_21, s68_22, s68_25, s68_26, x_isPerson, bV_some, bI_0]
  cases h1 : (!decide (a < 0) && !decide (S.1 1 q 0 ≤ a)) <;> cases h2 : (!decide (b < 0) && !decide (S.1 1 q 0 ≤ b)) <;> by_cases h3 : a = b <;> simp [h1, h2, h3, bI, nar_0, nar_1]
theorem x_ownedBy {S : Sto} {q n : Nat} {p : Int32} (hT : S.1 1 q 7 = nI n) (hn : n ≤ 24) : call 73 0 [vR 1 q, vI p] S = some (some (vI (nI (ct (fun i => S.1 7 q i = p) (2 * n)))), S) := by
  have L : ∀ m i, i + m = 2 * n → run 73 0 4 [vR 1 q, vI p, vI (nI (ct (fun i => S.1 7 q i = p) i)), vI (nI i)] [] S = some (some (vI (nI (ct (fun i => S.1 7 q i = p) (2 * n)))), S) := by
    intro m
    induction m with
    | zero =>
      intro i hi
      have e : i = 2 * n := by omega
      subst e
      rw [s73_4]
      simp only [s73_0, s73_1, s73_2, s73_3, s73_5, s73_6, s73_7, s73_10, s73_11, s73_14, s73_15, s73_18, s73_19, s73_20, s73_21, s73_24, s73_27, s73_30, s73_33, s73_34, hT, nI_two]
      rw [if_pos (nI_le (Nat.le_refl _) (by omega))]
    | succ m ih =>
      intro i hi
      rw [s73_4]
      simp only [s73_0, s73_1, s73_2, s73_3, s73_5, s73_6, s73_7, s73_10, s73_11, s73_14, s73_15, s73_18, s73_19, s73_20, s73_21, s73_24, s73_27, s73_30, s73_33, s73_34, hT, nI_two, nI_1]
      rw [if_neg (nI_ge (by omega) (by omega)), if_pos (ib_nI (by omega) (by decide)), nI_clamp (by omega)]
      have h2 := ih (i + 1) (by omega)
      by_cases hp : S.1 7 q i = p <;> simpa [ct, hp] using h2
  show run 73 0 0 [vR 1 q, vI p, vU, vU] [] S = _
  simp only [s73_0, s73_1, s73_2, s73_3, s73_5, s73_6, s73_7, s73_10, s73_11, s73_14, s73_15, s73_18, s73_19, s73_20, s73_21, s73_24, s73_27, s73_30, s73_33, s73_34]
  exact L (2 * n) 0 (by omega)
