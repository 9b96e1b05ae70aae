/-! more readers of the reference, and how they agree with the class's -/
theorem cl1 : (1 : Int32).toNatClampNeg = 1 := rfl
theorem cl0 : (0 : Int32).toNatClampNeg = 0 := rfl
theorem cl2 : (2 : Int32).toNatClampNeg = 2 := rfl
theorem ct_s (P : Nat → Bool) (i : Nat) : nI (ct P i) + bI (P i) = nI (ct P (i + 1)) := by
  show _ = nI (ct P i + if P i then 1 else 0)
  cases P i
  · simp [bI]
  · simp only [bI, if_true, nI_1]
theorem ct_t {P : Nat → Bool} {i : Nat} (h : P i = true) : nI (ct P i) + 1 = nI (ct P (i + 1)) := by
  have := ct_s P i
  rw [h] at this
  exact this
theorem ct_f {P : Nat → Bool} {i : Nat} (h : P i = false) : nI (ct P i) + 0 = nI (ct P (i + 1)) := by
  have := ct_s P i
  rw [h] at this
  exact this
/-- who owns a thing -/
def owB (A : Tn) (p t : Nat) : Bool := A 7 t == p || A 8 t == p
theorem m_shared {S : Sto} {A : Tn} (h : RepM S A) (hw : WF A) {a b : Nat} (ha : a < 2 ^ 31) (hb : b < 2 ^ 31) : call 156 0 [vR 50 0, vI (nI a), vI (nI b)] S = some (some (vI (nI (ct (fun t => owB A a t && owB A b t) (A 0 1)))), S) := by
  have hT := hw.1.2.1
  have L : ∀ m i, i + m = A 0 1 → run 156 0 5 [vR 50 0, vI (nI a), vI (nI b), vI (nI (ct (fun t => owB A a t && owB A b t) i)), vI (nI i)] [] S = some (some (vI (nI (ct (fun t => owB A a t && owB A b t) (A 0 1)))), S) := by
    intro m
    induction m with
    | zero =>
      intro i hi
      have e : i = A 0 1 := by omega
      rw [s156_5]
      simp only [s156_0, s156_1, s156_2, s156_3, s156_7, s156_8, s156_11, s156_12, s156_13, s156_16, s156_17, s156_18, s156_19, s156_21, s156_24, s156_27, s156_28, s156_29, s156_31, s156_34, s156_37, s156_38, s156_41, s156_42, s156_43, s156_44, s156_47, s156_50, s156_51, h.sc (show 1 < 6 by decide), cl1]
      rw [if_pos (by decide), if_pos (nI_le (by omega) (by omega)), e]
    | succ m ih =>
      intro i hi
      have h2 := ih (i + 1) (by omega)
      rw [s156_5]
      simp only [s156_0, s156_1, s156_2, s156_3, s156_7, s156_8, s156_11, s156_12, s156_13, s156_16, s156_17, s156_18, s156_19, s156_21, s156_24, s156_27, s156_28, s156_29, s156_31, s156_34, s156_37, s156_38, s156_41, s156_42, s156_43, s156_44, s156_47, s156_50, s156_51, h.sc (show 1 < 6 by decide), cl1]
      rw [if_pos (by decide), if_neg (nI_ge (by omega) (by omega)), m_owns h hw ha (by omega), bV_some]
      simp only [s156_0, s156_1, s156_2, s156_3, s156_7, s156_8, s156_11, s156_12, s156_13, s156_16, s156_17, s156_18, s156_19, s156_21, s156_24, s156_27, s156_28, s156_29, s156_31, s156_34, s156_37, s156_38, s156_41, s156_42, s156_43, s156_44, s156_47, s156_50, s156_51, bI_0]
      cases h3 : (A 7 i == a || A 8 i == a) with
      | false =>
        rw [if_pos rfl, ct_f (P := fun t => owB A a t && owB A b t) (by simp [owB, h3]), nI_1]
        exact h2
      | true =>
        rw [if_neg (by simp), m_owns h hw hb (by omega), bV_some]
        simp only [s156_0, s156_1, s156_2, s156_3, s156_7, s156_8, s156_11, s156_12, s156_13, s156_16, s156_17, s156_18, s156_19, s156_21, s156_24, s156_27, s156_28, s156_29, s156_31, s156_34, s156_37, s156_38, s156_41, s156_42, s156_43, s156_44, s156_47, s156_50, s156_51, bI_0]
        cases h4 : (A 7 i == b || A 8 i == b) with
        | false =>
          rw [if_pos rfl, ct_f (P := fun t => owB A a t && owB A b t) (by simp [owB, h4]), nI_1]
          exact h2
        | true =>
          rw [if_neg (by simp), ct_t (P := fun t => owB A a t && owB A b t) (by simp [owB, h3, h4]), nI_1]
          exact h2
  show run 156 0 0 [vR 50 0, vI (nI a), vI (nI b), vU, vU] [] S = _
  simp only [s156_0, s156_1, s156_2, s156_3, s156_7, s156_8, s156_11, s156_12, s156_13, s156_16, s156_17, s156_18, s156_19, s156_21, s156_24, s156_27, s156_28, s156_29, s156_31, s156_34, s156_37, s156_38, s156_41, s156_42, s156_43, s156_44, s156_47, s156_50, s156_51]
  exact L (A 0 1) 0 (by omega)
theorem m_near {S : Sto} {A : Tn} (h : RepM S A) (hw : WF A) {p : Nat} (hp : p < 12) : call 152 0 [vR 50 0, vI (nI p)] S = some (some (vI (nI (fsN (fun o => A 5 (12 * p + o)) 12))), S) := by
  have L : ∀ m i, i + m = 12 → run 152 0 4 [vR 50 0, vI (nI p), vI (nI (fsN (fun o => A 5 (12 * p + o)) i)), vI (nI i)] [] S = some (some (vI (nI (fsN (fun o => A 5 (12 * p + o)) 12))), S) := by
    intro m
    induction m with
    | zero =>
      intro i hi
      have e : i = 12 := by omega
      subst e
      rw [s152_4]
      simp only [s152_0, s152_1, s152_2, s152_3, s152_5, s152_7, s152_10, s152_11, s152_12, s152_15, s152_17, s152_18, s152_19, s152_20, s152_21, s152_22, s152_23, s152_24, s152_27, s152_30, s152_31]
      rw [if_pos (by decide)]
    | succ m ih =>
      intro i hi
      have h2 := ih (i + 1) (by omega)
      have h12 : ¬ (12 : Int32) ≤ nI i := nI_ge (b := 12) (by omega) (by decide)
      rw [s152_4]
      simp only [s152_0, s152_1, s152_2, s152_3, s152_5, s152_7, s152_10, s152_11, s152_12, s152_15, s152_17, s152_18, s152_19, s152_20, s152_21, s152_22, s152_23, s152_24, s152_27, s152_30, s152_31, nI_12p]
      rw [if_neg h12, if_pos (ib_nI (by omega) (by decide)), nI_clamp (by omega), h.qu (by omega), nI_add, nI_1]
      exact h2
  show run 152 0 0 [vR 50 0, vI (nI p), vU, vU] [] S = _
  simp only [s152_0, s152_1, s152_2, s152_3, s152_5, s152_7, s152_10, s152_11, s152_12, s152_15, s152_17, s152_18, s152_19, s152_20, s152_21, s152_22, s152_23, s152_24, s152_27, s152_30, s152_31]
  exact L 12 0 (by omega)
theorem m_content {S : Sto} {A : Tn} (h : RepM S A) (hw : WF A) {p : Nat} (hp : p < 12) : call 153 0 [vR 50 0, vI (nI p)] S = some (some (vI (smI (fun t => if owB A p t = true then nI (A 4 (12 * p + if A 7 t = p then A 8 t else A 7 t)) - 9 else 0) (A 0 1))), S) := by
  have hT := hw.1.2.1
  have L : ∀ m i, i + m = A 0 1 → run 153 0 4 [vR 50 0, vI (nI p), vI (smI (fun t => if owB A p t = true then nI (A 4 (12 * p + if A 7 t = p then A 8 t else A 7 t)) - 9 else 0) i), vI (nI i)] [] S = some (some (vI (smI (fun t => if owB A p t = true then nI (A 4 (12 * p + if A 7 t = p then A 8 t else A 7 t)) - 9 else 0) (A 0 1))), S) := by
    intro m
    induction m with
    | zero =>
      intro i hi
      have e : i = A 0 1 := by omega
      rw [s153_4]
      simp only [s153_0, s153_1, s153_2, s153_3, s153_5, s153_6, s153_9, s153_10, s153_11, s153_14, s153_15, s153_16, s153_17, s153_18, s153_21, s153_24, s153_25, s153_28, s153_30, s153_31, s153_32, s153_33, s153_34, s153_35, s153_38, s153_39, s153_40, s153_43, s153_44, s153_45, s153_46, s153_49, s153_52, s153_53, h.sc (show 1 < 6 by decide), cl1]
      rw [if_pos (by decide), if_pos (nI_le (by omega) (by omega)), e]
    | succ m ih =>
      intro i hi
      have h2 := ih (i + 1) (by omega)
      have h12 := hw.2.2.2.2.2.2.2.2.1 i (by omega)
      rw [s153_4]
      simp only [s153_0, s153_1, s153_2, s153_3, s153_5, s153_6, s153_9, s153_10, s153_11, s153_14, s153_15, s153_16, s153_17, s153_18, s153_21, s153_24, s153_25, s153_28, s153_30, s153_31, s153_32, s153_33, s153_34, s153_35, s153_38, s153_39, s153_40, s153_43, s153_44, s153_45, s153_46, s153_49, s153_52, s153_53, h.sc (show 1 < 6 by decide), cl1]
      rw [if_pos (by decide), if_neg (nI_ge (by omega) (by omega)), m_owns h hw (by omega) (by omega), bV_some]
      simp only [s153_0, s153_1, s153_2, s153_3, s153_5, s153_6, s153_9, s153_10, s153_11, s153_14, s153_15, s153_16, s153_17, s153_18, s153_21, s153_24, s153_25, s153_28, s153_30, s153_31, s153_32, s153_33, s153_34, s153_35, s153_38, s153_39, s153_40, s153_43, s153_44, s153_45, s153_46, s153_49, s153_52, s153_53, bI_0]
      cases h3 : (A 7 i == p || A 8 i == p) with
      | false =>
        rw [if_pos rfl, nI_1]
        have e : ∀ x : Int32, x + 0 = x := fun x => by simp
        have e2 : owB A p i = false := h3
        simpa [smI, e2] using h2
      | true =>
        have e2 : owB A p i = true := h3
        have hlt : (if A 7 i = p then A 8 i else A 7 i) < 12 := by split <;> omega
        rw [if_neg (by simp), m_otherOf h hw (by omega) (by omega), bV_some]
        simp only [s153_0, s153_1, s153_2, s153_3, s153_5, s153_6, s153_9, s153_10, s153_11, s153_14, s153_15, s153_16, s153_17, s153_18, s153_21, s153_24, s153_25, s153_28, s153_30, s153_31, s153_32, s153_33, s153_34, s153_35, s153_38, s153_39, s153_40, s153_43, s153_44, s153_45, s153_46, s153_49, s153_52, s153_53, nI_12p, nI_1]
        rw [if_pos (ib_nI (by omega) (by decide)), nI_clamp (by omega), h.li (by omega)]
        simpa [smI, e2] using h2
  show run 153 0 0 [vR 50 0, vI (nI p), vU, vU] [] S = _
  simp only [s153_0, s153_1, s153_2, s153_3, s153_5, s153_6, s153_9, s153_10, s153_11, s153_14, s153_15, s153_16, s153_17, s153_18, s153_21, s153_24, s153_25, s153_28, s153_30, s153_31, s153_32, s153_33, s153_34, s153_35, s153_38, s153_39, s153_40, s153_43, s153_44, s153_45, s153_46, s153_49, s153_52, s153_53]
  exact L (A 0 1) 0 (by omega)
theorem m_mates {S : Sto} {A : Tn} (h : RepM S A) (hw : WF A) {p : Nat} (hp : p < 12) : call 155 0 [vR 50 0, vI (nI p)] S = some (some (vI (nI (ct (fun o => !(o == p) && decide (0 < ct (fun t => owB A p t && owB A o t) (A 0 1))) 12))), S) := by
  have hT := hw.1.2.1
  have L : ∀ m i, i + m = 12 → run 155 0 4 [vR 50 0, vI (nI p), vI (nI (ct (fun o => !(o == p) && decide (0 < ct (fun t => owB A p t && owB A o t) (A 0 1))) i)), vI (nI i)] [] S = some (some (vI (nI (ct (fun o => !(o == p) && decide (0 < ct (fun t => owB A p t && owB A o t) (A 0 1))) 12))), S) := by
    intro m
    induction m with
    | zero =>
      intro i hi
      have e : i = 12 := by omega
      subst e
      rw [s155_4]
      simp only [s155_0, s155_1, s155_2, s155_3, s155_5, s155_7, s155_10, s155_11, s155_12, s155_13, s155_16, s155_17, s155_18, s155_19, s155_22, s155_25, s155_26, s155_29, s155_30, s155_31, s155_32, s155_35, s155_38, s155_39]
      rw [if_pos (by decide)]
    | succ m ih =>
      intro i hi
      have h2 := ih (i + 1) (by omega)
      have hb := ct_le (fun t => owB A p t && owB A i t) (A 0 1)
      have h12 : ¬ (12 : Int32) ≤ nI i := nI_ge (b := 12) (by omega) (by decide)
      rw [s155_4]
      simp only [s155_0, s155_1, s155_2, s155_3, s155_5, s155_7, s155_10, s155_11, s155_12, s155_13, s155_16, s155_17, s155_18, s155_19, s155_22, s155_25, s155_26, s155_29, s155_30, s155_31, s155_32, s155_35, s155_38, s155_39]
      rw [if_neg h12, m_shared h hw (by omega) (by omega), bV_some]
      simp only [s155_0, s155_1, s155_2, s155_3, s155_5, s155_7, s155_10, s155_11, s155_12, s155_13, s155_16, s155_17, s155_18, s155_19, s155_22, s155_25, s155_26, s155_29, s155_30, s155_31, s155_32, s155_35, s155_38, s155_39, nI_eq (show i < 2 ^ 31 by omega) (show p < 2 ^ 31 by omega)]
      by_cases h3 : i = p
      · rw [if_pos h3, ct_f (P := fun o => !(o == p) && decide (0 < ct (fun t => owB A p t && owB A o t) (A 0 1))) (by simp [h3]), nI_1]
        exact h2
      · rw [if_neg h3]
        by_cases h4 : 0 < ct (fun t => owB A p t && owB A i t) (A 0 1)
        · rw [if_neg (nI_nle h4 (by omega)), ct_t (P := fun o => !(o == p) && decide (0 < ct (fun t => owB A p t && owB A o t) (A 0 1))) (by simp [h3, h4]), nI_1]
          exact h2
        · have h5 : ct (fun t => owB A p t && owB A i t) (A 0 1) = 0 := by omega
          rw [h5, if_pos (by decide), ct_f (P := fun o => !(o == p) && decide (0 < ct (fun t => owB A p t && owB A o t) (A 0 1))) (by simp [h5]), nI_1]
          exact h2
  show run 155 0 0 [vR 50 0, vI (nI p), vU, vU] [] S = _
  simp only [s155_0, s155_1, s155_2, s155_3, s155_5, s155_7, s155_10, s155_11, s155_12, s155_13, s155_16, s155_17, s155_18, s155_19, s155_22, s155_25, s155_26, s155_29, s155_30, s155_31, s155_32, s155_35, s155_38, s155_39]
  exact L 12 0 (by omega)
