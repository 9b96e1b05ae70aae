/-! the reference's readers -/
section RM
variable {S : Sto} {A : Tn}
theorem RepM.sc (h : RepM S A) {i : Nat} (hi : i < 6) : S.1 51 0 i = nI (A 0 i) := h 0 i (by decide) hi
theorem RepM.co (h : RepM S A) {i : Nat} (hi : i < 12) : S.1 52 0 i = nI (A 1 i) := h 1 i (by decide) hi
theorem RepM.lv (h : RepM S A) {i : Nat} (hi : i < 12) : S.1 53 0 i = nI (A 2 i) := h 2 i (by decide) hi
theorem RepM.he (h : RepM S A) {i : Nat} (hi : i < 12) : S.1 54 0 i = nI (A 3 i) - 1 := h 3 i (by decide) hi
theorem RepM.li (h : RepM S A) {i : Nat} (hi : i < 144) : S.1 55 0 i = nI (A 4 i) - 9 := h 4 i (by decide) hi
theorem RepM.qu (h : RepM S A) {i : Nat} (hi : i < 144) : S.1 56 0 i = nI (A 5 i) := h 5 i (by decide) hi
theorem RepM.gi (h : RepM S A) {i : Nat} (hi : i < 144) : S.1 57 0 i = nI (A 6 i) := h 6 i (by decide) hi
theorem RepM.o1 (h : RepM S A) {i : Nat} (hi : i < 24) : S.1 58 0 i = nI (A 7 i) := h 7 i (by decide) hi
theorem RepM.o2 (h : RepM S A) {i : Nat} (hi : i < 24) : S.1 59 0 i = nI (A 8 i) := h 8 i (by decide) hi
theorem RepM.us (h : RepM S A) {i : Nat} (hi : i < 24) : S.1 60 0 i = nI (A 9 i) := h 9 i (by decide) hi
theorem RepM.ak (h : RepM S A) {i : Nat} (hi : i < 12) : S.1 61 0 i = nI (A 10 i) := h 10 i (by decide) hi
theorem RepM.se (h : RepM S A) {i : Nat} (hi : i < 12) : S.1 62 0 i = nI (A 11 i) := h 11 i (by decide) hi
theorem RepM.wo (h : RepM S A) {i : Nat} (hi : i < 12) : S.1 63 0 i = nI (A 12 i) := h 12 i (by decide) hi
theorem RepM.da (h : RepM S A) {i : Nat} (hi : i < 12) : S.1 64 0 i = nI (A 13 i) := h 13 i (by decide) hi
theorem RepM.dn (h : RepM S A) {i : Nat} (hi : i < 12) : S.1 65 0 i = nI (A 14 i) := h 14 i (by decide) hi
theorem RepM.ro (h : RepM S A) {i : Nat} (hi : i < 12) : S.1 66 0 i = nI (A 15 i) := h 15 i (by decide) hi
end RM
theorem lc_lt (x y : Int64) : (lg_cmp x y < 0) = (x < y) := by
  unfold lg_cmp
  by_cases h1 : y < x
  · have h2 : ¬ x < y := by rw [Int64.lt_iff_toInt_lt] at h1 ⊢; omega
    simp [h1, h2]
  · by_cases h3 : x = y
    · subst h3
      simp [h1]
    · have h4 : x < y := by
        rw [Int64.lt_iff_toInt_lt] at h1 ⊢
        have : x.toInt ≠ y.toInt := fun e => h3 (Int64.toInt_inj.mp e)
        omega
      simp [h1, h3, h4]
theorem lc_gt (x y : Int64) : (0 < lg_cmp x y) = (y < x) := by
  unfold lg_cmp
  by_cases h1 : y < x
  · simp [h1]
  · by_cases h3 : x = y
    · simp [h1, h3]
    · simp [h1, h3]
theorem lc_le (x y : Int64) : (lg_cmp x y ≤ 0) = ¬ (y < x) := by
  rw [← lc_gt]
  have := Int32.not_lt (a := 0) (b := lg_cmp x y)
  exact propext this.symm
theorem lc_eq (x y : Int64) : (lg_cmp x y = 0) = (x = y) := by
  unfold lg_cmp
  by_cases h1 : y < x
  · have h2 : x ≠ y := fun e => by subst e; rw [Int64.lt_iff_toInt_lt] at h1; omega
    simp [h1, h2]
  · by_cases h3 : x = y
    · simp [h1, h3]
    · simp [h1, h3]
theorem wd_lt (a b : Int32) : (a.toInt64 < b.toInt64) = (a < b) := by
  apply propext
  rw [Int64.lt_iff_toInt_lt, Int32.lt_iff_toInt_lt, Int32.toInt_toInt64, Int32.toInt_toInt64]
theorem m_in (S : Sto) (x lo hi : Int64) : call 137 0 [vL x, vL lo, vL hi] S = some (some (vI (bI (!decide (x < lo) && !decide (hi < x)))), S) := by
  show run 137 0 0 [vL x, vU, vL lo, vU, vL hi, vU] [] S = _
  simp only [s137_0, s137_1, s137_2, s137_3, s137_6, s137_7, s137_9, s137_10, s137_13, s137_14, s137_17, s137_18, lc_lt, lc_gt]
  by_cases h1 : x < lo <;> by_cases h2 : hi < x <;> simp [h1, h2, bI, nar_0, nar_1]
theorem m_inI (S : Sto) (x lo hi : Int32) {a b : Int64} (ha : lo.toInt64 = a) (hb : hi.toInt64 = b) : call 137 0 [vL x.toInt64, vL a, vL b] S = some (some (vI (bI (!decide (x < lo) && !decide (hi < x)))), S) := by
  rw [m_in, ← ha, ← hb]
  simp only [wd_lt]
theorem m_has (S : Sto) {m i : Nat} (hm : m < 2 ^ 31) (hi : i < 31) : call 160 0 [vI (nI m), vI (nI i)] S = some (some (vI (bI (m.testBit i))), S) := by
  show run 160 0 0 [vI (nI m), vI (nI i)] [] S = _
  simp only [s160_0, s160_1, s160_2, s160_3, s160_4, s160_5, s160_6, s160_9, s160_10, s160_13, s160_14]
  rw [nI_bit hm hi]
  cases m.testBit i <;> simp [bI, nar_0, nar_1]
theorem nI_pr {n : Nat} (h : 0 < n) : nI n - 1 = nI (n - 1) := by
  have := nI_pred (n - 1)
  rw [Nat.sub_add_cancel h] at this
  exact this
theorem below_pred (x : Int32) {n : Nat} (hn : n < 2 ^ 31) : (nI n - 1 < x) = (nI n ≤ x) := by
  apply propext
  rw [Int32.lt_iff_toInt_lt, Int32.le_iff_toInt_le, nI_toInt hn]
  by_cases h0 : n = 0
  · subst h0
    have : (nI 0 - 1).toInt = -1 := by decide
    rw [this]
    omega
  · rw [nI_pr (by omega), nI_toInt (by omega)]
    omega
theorem m_isPerson {S : Sto} {A : Tn} (h : RepM S A) (hw : WF A) (p : Int32) : call 140 0 [vR 50 0, vI p] S = some (some (vI (bI (!decide (p < 0) && !decide (nI (A 0 0) ≤ p)))), S) := by
  have := hw.1.1
  show run 140 0 0 [vR 50 0, vI p] [] S = _
  simp only [s140_0, s140_1, s140_2, s140_3, s140_4, s140_7, s140_8, s140_9, s140_10, s140_11, s140_12, s140_15]
  rw [if_pos (by decide)]
  show bV (call 137 0 [vL p.toInt64, vL 0, vL (S.1 51 0 0 - 1).toInt64] S) _ = _
  rw [m_inI S p 0 (S.1 51 0 0 - 1) (a := 0) (by decide) rfl, bV_some, h.sc (by decide)]
  simp only [below_pred p (show A 0 0 < 2 ^ 31 by omega)]
  simp only [s140_0, s140_1, s140_2, s140_3, s140_4, s140_7, s140_8, s140_9, s140_10, s140_11, s140_12, s140_15, bI_nar, if_true]
theorem m_isThing {S : Sto} {A : Tn} (h : RepM S A) (hw : WF A) (p : Int32) : call 162 0 [vR 50 0, vI p] S = some (some (vI (bI (!decide (p < 0) && !decide (nI (A 0 1) ≤ p)))), S) := by
  have := hw.1.2.1
  show run 162 0 0 [vR 50 0, vI p] [] S = _
  simp only [s162_0, s162_1, s162_2, s162_3, s162_4, s162_7, s162_8, s162_9, s162_10, s162_11, s162_12, s162_15]
  rw [if_pos (by decide)]
  show bV (call 137 0 [vL p.toInt64, vL 0, vL (S.1 51 0 1 - 1).toInt64] S) _ = _
  rw [m_inI S p 0 (S.1 51 0 1 - 1) (a := 0) (by decide) rfl, bV_some, h.sc (by decide)]
  simp only [below_pred p (show A 0 1 < 2 ^ 31 by omega)]
  simp only [s162_0, s162_1, s162_2, s162_3, s162_4, s162_7, s162_8, s162_9, s162_10, s162_11, s162_12, s162_15, bI_nar, if_true]
theorem m_isWork {S : Sto} {A : Tn} (h : RepM S A) (hw : WF A) (p : Int32) : call 164 0 [vR 50 0, vI p] S = some (some (vI (bI (!decide (p < 0) && !decide (nI (A 0 2) ≤ p)))), S) := by
  have := hw.1.2.2.1
  show run 164 0 0 [vR 50 0, vI p] [] S = _
  simp only [s164_0, s164_1, s164_2, s164_3, s164_4, s164_7, s164_8, s164_9, s164_10, s164_11, s164_12, s164_15]
  rw [if_pos (by decide)]
  show bV (call 137 0 [vL p.toInt64, vL 0, vL (S.1 51 0 2 - 1).toInt64] S) _ = _
  rw [m_inI S p 0 (S.1 51 0 2 - 1) (a := 0) (by decide) rfl, bV_some, h.sc (by decide)]
  simp only [below_pred p (show A 0 2 < 2 ^ 31 by omega)]
  simp only [s164_0, s164_1, s164_2, s164_3, s164_4, s164_7, s164_8, s164_9, s164_10, s164_11, s164_12, s164_15, bI_nar, if_true]
theorem m_isLiving {S : Sto} {A : Tn} (h : RepM S A) (hw : WF A) (p : Int32) : call 142 0 [vR 50 0, vI p] S = some (some (vI (bI (!decide (p < 0) && !decide (nI (A 0 0) ≤ p) && (A 2 p.toNatClampNeg == 1)))), S) := by
  have hP := hw.1.1
  show run 142 0 0 [vR 50 0, vI p] [] S = _
  simp only [s142_0, s142_1, s142_2, s142_5, s142_8, s142_9, s142_12, s142_13, s142_14, s142_15, s142_18, s142_19, s142_22, s142_23, m_isPerson h hw, bV_some, bI_0]
  cases hb : (!decide (p < 0) && !decide (nI (A 0 0) ≤ p)) with
  | false => simp [bI, nar_0, nar_1]
  | true =>
    simp only [Bool.and_eq_true, Bool.not_eq_true', decide_eq_false_iff_not] at hb
    obtain ⟨j, hj, rfl⟩ : ∃ j : Nat, j < A 0 0 ∧ p = nI j := by
      rcases pk_ix p (n := A 0 0) (by omega) with h1 | h1 | h1
      · exact absurd h1 hb.1
      · exact absurd h1 hb.2
      · exact h1
    rw [if_neg (by simp), if_pos (ib_nI (by omega) (by decide)), nI_clamp (by omega), h.lv (by omega)]
    have h1 := (hw.2.1 j (by omega)).2.1
    have e : (nI (A 2 j) = 1) = (A 2 j = 1) := propext (nI_eq (by omega) (b := 1) (by decide))
    simp only [e]
    by_cases h2 : A 2 j = 1 <;> simp [h2, bI, nar_0, nar_1]
theorem m_areUnlike {S : Sto} {A : Tn} (h : RepM S A) (hw : WF A) (a b : Int32) : call 139 0 [vR 50 0, vI a, vI b] S = some (some (vI (bI ((!decide (a < 0) && !decide (nI (A 0 0) ≤ a)) && (!decide (b < 0) && !decide (nI (A 0 0) ≤ b)) && !decide (a = b)))), S) := by
  show run 139 0 0 [vR 50 0, vI a, vI b] [] S = _
  simp only [s139_0, s139_1, s139_2, s139_5, s139_8, s139_9, s139_10, s139_13, s139_16, s139_17, s139_18, s139_21, s139_22, s139_25, s139_26, m_isPerson h hw, bV_some, bI_0]
  cases h1 : (!decide (a < 0) && !decide (nI (A 0 0) ≤ a)) <;> cases h2 : (!decide (b < 0) && !decide (nI (A 0 0) ≤ b)) <;> by_cases h3 : a = b <;> simp [h1, h2, h3, bI, nar_0, nar_1]
theorem nI_12p (a b : Nat) : 12 * nI a + nI b = nI (12 * a + b) := by
  have e : (12 : Int32) * nI a = nI (12 * a) := pk_mul 12 a
  rw [e, nI_add]
theorem m_areAtOdds {S : Sto} {A : Tn} (h : RepM S A) (hw : WF A) {a b : Nat} (ha : a < 12) (hb : b < 12) : call 143 0 [vR 50 0, vI (nI a), vI (nI b)] S = some (some (vI (bI (A 5 (12 * a + b) == 1))), S) := by
  show run 143 0 0 [vR 50 0, vI (nI a), vI (nI b)] [] S = _
  simp only [s143_0, s143_1, s143_4, s143_6, s143_7, s143_8, s143_9, s143_10, s143_11, s143_12, s143_15, s143_16, s143_19, s143_20, nI_12p]
  rw [if_pos (ib_nI (by omega) (by decide)), nI_clamp (by omega), h.qu (by omega)]
  have h1 := (hw.2.2.1 (12 * a + b) (by omega)).2
  have e : (nI (A 5 (12 * a + b)) = 1) = (A 5 (12 * a + b) = 1) := propext (nI_eq (by omega) (b := 1) (by decide))
  simp only [e]
  by_cases h2 : A 5 (12 * a + b) = 1 <;> simp [h2, bI, nar_0, nar_1]
theorem m_owns {S : Sto} {A : Tn} (h : RepM S A) (hw : WF A) {p t : Nat} (hp : p < 2 ^ 31) (ht : t < 24) : call 151 0 [vR 50 0, vI (nI p), vI (nI t)] S = some (some (vI (bI (A 7 t == p || A 8 t == p))), S) := by
  have h1 := hw.2.2.2.2.2.2.2.2.1 t ht
  show run 151 0 0 [vR 50 0, vI (nI p), vI (nI t)] [] S = _
  simp only [s151_0, s151_1, s151_4, s151_5, s151_6, s151_7, s151_10, s151_11, s151_14, s151_15, s151_16, s151_17, s151_20, s151_21, s151_24, s151_25]
  rw [if_pos (ib_nI ht (by decide)), if_pos (ib_nI ht (by decide)), nI_clamp (by omega), h.o1 ht, h.o2 ht]
  simp only [nI_eq (show A 7 t < 2 ^ 31 by omega) hp, nI_eq (show A 8 t < 2 ^ 31 by omega) hp]
  by_cases h2 : A 7 t = p <;> by_cases h3 : A 8 t = p <;> simp [h2, h3, bI, nar_0, nar_1]
theorem m_otherOf {S : Sto} {A : Tn} (h : RepM S A) (hw : WF A) {p t : Nat} (hp : p < 2 ^ 31) (ht : t < 24) : call 154 0 [vR 50 0, vI (nI t), vI (nI p)] S = some (some (vI (nI (if A 7 t = p then A 8 t else A 7 t))), S) := by
  have h1 := hw.2.2.2.2.2.2.2.2.1 t ht
  show run 154 0 0 [vR 50 0, vI (nI t), vI (nI p)] [] S = _
  simp only [s154_0, s154_1, s154_4, s154_5, s154_6, s154_7, s154_10, s154_11, s154_14, s154_15, s154_16, s154_19, s154_20, s154_23, s154_24, s154_25]
  rw [if_pos (ib_nI ht (by decide)), if_pos (ib_nI ht (by decide)), nI_clamp (by omega), h.o1 ht, h.o2 ht]
  simp only [nI_eq (show A 7 t < 2 ^ 31 by omega) hp]
  by_cases h2 : A 7 t = p
  · simp only [h2, if_true]
  · simp only [h2, if_false]
    rw [if_pos (ib_nI ht (by decide))]
theorem m_ownsMany {S : Sto} {A : Tn} (h : RepM S A) (hw : WF A) {p : Nat} (hp : p < 2 ^ 31) : call 150 0 [vR 50 0, vI (nI p)] S = some (some (vI (nI (ct (fun t => A 7 t == p || A 8 t == p) (A 0 1)))), S) := by
  have hT := hw.1.2.1
  have L : ∀ m i, i + m = A 0 1 → run 150 0 4 [vR 50 0, vI (nI p), vI (nI (ct (fun t => A 7 t == p || A 8 t == p) i)), vI (nI i)] [] S = some (some (vI (nI (ct (fun t => A 7 t == p || A 8 t == p) (A 0 1)))), S) := by
    intro m
    induction m with
    | zero =>
      intro i hi
      have e : i = A 0 1 := by omega
      rw [s150_4]
      simp only [s150_0, s150_1, s150_2, s150_3, s150_5, s150_6, s150_9, s150_10, s150_11, s150_14, s150_15, s150_16, s150_17, s150_18, s150_21, s150_24, s150_25, s150_28, s150_29, s150_30, s150_31, s150_34, s150_37, s150_38, h.sc (show 1 < 6 by decide), show (1 : Int32).toNatClampNeg = 1 from rfl]
      rw [if_pos (by decide), if_pos (nI_le (by omega) (by omega)), e]
    | succ m ih =>
      intro i hi
      rw [s150_4]
      simp only [s150_0, s150_1, s150_2, s150_3, s150_5, s150_6, s150_9, s150_10, s150_11, s150_14, s150_15, s150_16, s150_17, s150_18, s150_21, s150_24, s150_25, s150_28, s150_29, s150_30, s150_31, s150_34, s150_37, s150_38, h.sc (show 1 < 6 by decide), show (1 : Int32).toNatClampNeg = 1 from rfl]
      rw [if_pos (by decide), if_neg (nI_ge (by omega) (by omega)), m_owns h hw hp (by omega), bV_some]
      simp only [s150_0, s150_1, s150_2, s150_3, s150_5, s150_6, s150_9, s150_10, s150_11, s150_14, s150_15, s150_16, s150_17, s150_18, s150_21, s150_24, s150_25, s150_28, s150_29, s150_30, s150_31, s150_34, s150_37, s150_38, bI_0, nI_1]
      have h2 := ih (i + 1) (by omega)
      cases h3 : (A 7 i == p || A 8 i == p) with
      | false =>
        rw [if_pos rfl]
        have e : nI (ct (fun t => A 7 t == p || A 8 t == p) i) + 0 = nI (ct (fun t => A 7 t == p || A 8 t == p) (i + 1)) := by
          simp [ct, h3]
        rw [e]
        exact h2
      | true =>
        rw [if_neg (by simp)]
        have e : ct (fun t => A 7 t == p || A 8 t == p) i + 1 = ct (fun t => A 7 t == p || A 8 t == p) (i + 1) := by
          simp [ct, h3]
        rw [e]
        exact h2
  show run 150 0 0 [vR 50 0, vI (nI p), vU, vU] [] S = _
  simp only [s150_0, s150_1, s150_2, s150_3, s150_5, s150_6, s150_9, s150_10, s150_11, s150_14, s150_15, s150_16, s150_17, s150_18, s150_21, s150_24, s150_25, s150_28, s150_29, s150_30, s150_31, s150_34, s150_37, s150_38]
  exact L (A 0 1) 0 (by omega)
