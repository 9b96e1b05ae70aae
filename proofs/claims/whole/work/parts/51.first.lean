/-! the first calls: who and what there is -/
theorem min_1 (S : Sto) (x : Int32) : call 137 0 [vL x.toInt64, vL 0, vL 1] S = some (some (vI (bI (lsB x 2))), S) := m_inN S x (m := 1) (by decide) (by decide)
theorem min_2 (S : Sto) (x : Int32) : call 137 0 [vL x.toInt64, vL 0, vL 2] S = some (some (vI (bI (lsB x 3))), S) := m_inN S x (m := 2) (by decide) (by decide)
theorem min_3 (S : Sto) (x : Int32) : call 137 0 [vL x.toInt64, vL 0, vL 3] S = some (some (vI (bI (lsB x 4))), S) := m_inN S x (m := 3) (by decide) (by decide)
theorem min_20 (S : Sto) (x : Int32) : call 137 0 [vL x.toInt64, vL 0, vL 20] S = some (some (vI (bI (lsB x 21))), S) := m_inN S x (m := 20) (by decide) (by decide)
theorem min_60 (S : Sto) (x : Int32) : call 137 0 [vL x.toInt64, vL 0, vL 60] S = some (some (vI (bI (lsB x 61))), S) := m_inN S x (m := 60) (by decide) (by decide)
theorem min_99 (S : Sto) (x : Int32) : call 137 0 [vL x.toInt64, vL 0, vL 99] S = some (some (vI (bI (lsB x 100))), S) := m_inN S x (m := 99) (by decide) (by decide)
theorem min_999 (S : Sto) (x : Int32) : call 137 0 [vL x.toInt64, vL 0, vL 999] S = some (some (vI (bI (lsB x 1000))), S) := m_inN S x (m := 999) (by decide) (by decide)
theorem min_9999 (S : Sto) (x : Int32) : call 137 0 [vL x.toInt64, vL 0, vL 9999] S = some (some (vI (bI (lsB x 10000))), S) := m_inN S x (m := 9999) (by decide) (by decide)
theorem min_99999 (S : Sto) (x : Int32) : call 137 0 [vL x.toInt64, vL 0, vL 99999] S = some (some (vI (bI (lsB x 100000))), S) := m_inN S x (m := 99999) (by decide) (by decide)
theorem WF.s_co {A : Tn} (h : WF A) {i v : Nat} (hv : v ≤ 99999) : WF (uT A 1 i v) := by
  refine ⟨h.1, fun p hp => ?_, h.2.2⟩
  have h1 := h.2.1 p hp
  refine ⟨?_, h1.2⟩
  rw [uT_r]
  split
  · exact hv
  · exact h1.1
theorem WF.s_he {A : Tn} (h : WF A) {i v : Nat} (hv : v ≤ A 0 0) : WF (uT A 3 i v) := by
  have hP := h.pe
  refine ⟨h.1, fun p hp => ?_, h.2.2⟩
  have h1 := h.2.1 p hp
  refine ⟨h1.1, h1.2.1, h1.2.2.1, ?_, ?_⟩
  · intro hq
    rw [uT_r]
    split
    · exact hv
    · exact h1.2.2.2.1 hq
  · rw [uT_r]
    split
    · omega
    · exact h1.2.2.2.2
theorem WF.s_li {A : Tn} (h : WF A) {i v : Nat} (hv : v ≤ 18) : WF (uT A 4 i v) := by
  refine ⟨h.1, h.2.1, fun p hp => ?_, h.2.2.2⟩
  have h1 := h.2.2.1 p hp
  refine ⟨?_, h1.2⟩
  rw [uT_r]
  split
  · exact hv
  · exact h1.1
theorem WF.s_gi {A : Tn} (h : WF A) {i v : Nat} : WF (uT A 6 i v) := h
theorem WF.s_ye {A : Tn} (h : WF A) {v : Nat} : WF (uT A 0 4 v) := h
theorem WF.s_dr {A : Tn} (h : WF A) {v : Nat} (hv : v < 2 ^ 31) : WF (uT A 0 5 v) := ⟨⟨h.1.1, h.1.2.1, h.1.2.2.1, h.1.2.2.2.1, trivial, hv⟩, h.2⟩
theorem WF.s_dn {A : Tn} (h : WF A) {w : Nat} (hv : w < A 0 2) : WF (uT A 14 w 1) := by
  refine ⟨h.1, h.2.1, h.2.2.1, h.2.2.2.1, h.2.2.2.2.1, h.2.2.2.2.2.1, fun v hw => ⟨?_, ?_⟩, h.2.2.2.2.2.2.2⟩
  · rw [uT_r]
    split
    · decide
    · exact h.dn hw
  · rw [uT_r]
    split
    · rename_i e
      intro _
      rw [e.2]
      exact hv
    · exact h.dnw hw
theorem WF.s_qu {A : Tn} (h : WF A) {a b v : Nat} (ha : a < A 0 0) (hb : b < A 0 0) (hab : a ≠ b) (hv : v ≤ 1) : WF (uQ A a b v) := by
  have hP := h.pe
  refine ⟨h.1, h.2.1, fun i hi => ?_, fun c d hc hd => ?_, h.2.2.2.2⟩
  · refine ⟨h.li hi, ?_⟩
    rw [uQ_r]
    split
    · exact hv
    · split
      · exact hv
      · exact h.qu hi
  · refine ⟨?_, ?_, ?_⟩
    · rw [uQ_r, uQ_r]
      by_cases e1 : c = a ∧ d = b
      · rw [if_pos (show 5 = 5 ∧ 12 * d + c = 12 * b + a by omega)]
        by_cases e2 : 12 * c + d = 12 * b + a
        · rw [if_pos ⟨rfl, e2⟩]
        · rw [if_neg (by omega), if_pos (by omega)]
      · by_cases e2 : c = b ∧ d = a
        · rw [if_pos (show 5 = 5 ∧ 12 * c + d = 12 * b + a by omega)]
          by_cases e3 : 12 * d + c = 12 * b + a
          · rw [if_pos ⟨rfl, e3⟩]
          · rw [if_neg (by omega), if_pos (by omega)]
        · rw [if_neg (by omega), if_neg (by omega), if_neg (by omega), if_neg (by omega)]
          exact h.qs hc hd
    · rw [uQ_r, if_neg (by omega), if_neg (by omega)]
      exact h.qd hc
    · rw [uQ_r]
      split
      · intro _; show c < A 0 0 ∧ d < A 0 0; omega
      · split
        · intro _; show c < A 0 0 ∧ d < A 0 0; omega
        · exact h.qp hc hd
def o_person (A : Tn) (x : Int32) : Int32 × Tn := if A 0 0 < 12 ∧ lsB x 100000 = true then (nI (A 0 0), uT (uT (uT (uT A 1 (A 0 0) x.toNatClampNeg) 2 (A 0 0) 1) 3 (A 0 0) 0) 0 0 (A 0 0 + 1)) else (-1, A)
theorem w_person {A : Tn} (h : WF A) (x : Int32) : WF (o_person A x).2 := by
  have hP := h.pe
  unfold o_person
  by_cases e1 : A 0 0 < 12 ∧ lsB x 100000 = true
  · rw [if_pos e1]
    obtain ⟨j, hj, rfl⟩ := lsB_t e1.2 (by decide)
    rw [nI_clamp (by omega)]
    show WF (uT (uT (uT (uT A 1 (A 0 0) j) 2 (A 0 0) 1) 3 (A 0 0) 0) 0 0 (A 0 0 + 1))
    refine ⟨⟨?_, h.1.2⟩, fun p hp => ?_, h.2.2.1, fun a b ha hb => ?_, fun t ht => ?_, fun w hw => ?_, h.2.2.2.2.2.2⟩
    · simp (disch := omega) only [uT_r, uQ_r, and_self, and_true, true_and, and_false, false_and, if_true, if_false, if_pos, if_neg]; omega
    · have h1 := h.2.1 p hp
      by_cases e : p = A 0 0
      · subst e
        simp (disch := omega) only [uT_r, uQ_r, and_self, and_true, true_and, and_false, false_and, if_true, if_false, if_pos, if_neg]
        omega
      · simp (disch := omega) only [uT_r, uQ_r, and_self, and_true, true_and, and_false, false_and, if_true, if_false, if_pos, if_neg]
        refine ⟨h1.1, h1.2.1, fun q => ?_, fun q => ?_, h1.2.2.2.2⟩
        · have := h1.2.2.1 q; omega
        · have := h1.2.2.2.1 (by omega); omega
    · have h1 := h.2.2.2.1 a b ha hb
      simp (disch := omega) only [uT_r, uQ_r, and_self, and_true, true_and, and_false, false_and, if_true, if_false, if_pos, if_neg]
      refine ⟨h1.1, h1.2.1, fun q => ?_⟩
      have := h1.2.2 q
      omega
    · have h1 := h.2.2.2.2.1 t ht
      simp (disch := omega) only [uT_r, uQ_r, and_self, and_true, true_and, and_false, false_and, if_true, if_false, if_pos, if_neg]
      refine ⟨by omega, by omega, h1.2.2.1, h1.2.2.2.1, h1.2.2.2.2.1, h1.2.2.2.2.2⟩
    · have h1 := h.2.2.2.2.2.1 w hw
      simp (disch := omega) only [uT_r, uQ_r, and_self, and_true, true_and, and_false, false_and, if_true, if_false, if_pos, if_neg]
      exact ⟨by omega, h1.2⟩
  · rw [if_neg e1]
    exact h
theorem c_person {S : Sto} {A : Tn} (h : RepC S 0 A) (hw : WF A) (x : Int32) : ∃ S1, call 92 0 [vR 0 0, vI x] S = some (some (vI (o_person A x).1), S1) ∧ FC S S1 ∧ RepC S1 0 (o_person A x).2 := by
  have hP := hw.pe
  show ∃ S1, run 92 0 0 [vR 0 0, vI x, vU] [] S = _ ∧ _
  unfold o_person
  by_cases e1 : A 0 0 < 12
  · cases e2 : lsB x 100000 with
    | false =>
      simp (disch := omega) only [s92_0, s92_1, s92_4, s92_7, s92_9, s92_12, s92_13, s92_15, s92_18, s92_21, s92_22, s92_23, s92_24, s92_27, s92_28, s92_31, s92_32, s92_33, s92_34, s92_37, s92_38, s92_39, s92_42, s92_45, s92_46, s92_47, s92_48, s92_49, s92_52, s92_55, s92_56, s92_57, s92_58, s92_59, s92_62, s92_63, s92_66, s92_67, s92_68, s92_69, s92_70, s92_73, s92_74, q_0, q_1, q_2, q_3, q_4, q_5, q_6, q_7, q_8, q_9, q_10, q_11, q_12, q_13, q_14, q_16, q_20, q_23, q_24, q_32, q_42, q_43, q_45, q_47, q_48, q_50, q_57, q_59, q_60, q_61, q_62, q_63, q_64, q_66, q_91, q_93, q_97, q_99, q_122, q_144, q_255, q_256, q_300, q_380, q_400, q_620, q_999, q_1000, q_4095, q_4096, q_9999, q_65536, q_99999, q_31, nI_add, pk_mul, nE, nL, nT, nM31, nShl, ib_nI, nI_clamp, bI_n0, bI_n1, bI_nar, uI_r, uI_l, uL_r, uL_i, uL_p, uA_r, uA_l, bV_some, bU_some, nar_n0, nar_n1, and_self, and_true, true_and, and_false, false_and, if_true, if_false, eq_self, Bool.false_eq_true, Bool.true_eq_false, not_true_eq_false, not_false_eq_true, ↓reduceIte, nlT, nlF, ntT, ntF, neT, neF, ieT, ieF, h.pe, x_in, e2]
      exact ⟨_, rfl, FC.rf, h⟩
    | true =>
      obtain ⟨j, hj, rfl⟩ := lsB_t e2 (by decide)
      simp (disch := omega) only [s92_0, s92_1, s92_4, s92_7, s92_9, s92_12, s92_13, s92_15, s92_18, s92_21, s92_22, s92_23, s92_24, s92_27, s92_28, s92_31, s92_32, s92_33, s92_34, s92_37, s92_38, s92_39, s92_42, s92_45, s92_46, s92_47, s92_48, s92_49, s92_52, s92_55, s92_56, s92_57, s92_58, s92_59, s92_62, s92_63, s92_66, s92_67, s92_68, s92_69, s92_70, s92_73, s92_74, q_0, q_1, q_2, q_3, q_4, q_5, q_6, q_7, q_8, q_9, q_10, q_11, q_12, q_13, q_14, q_16, q_20, q_23, q_24, q_32, q_42, q_43, q_45, q_47, q_48, q_50, q_57, q_59, q_60, q_61, q_62, q_63, q_64, q_66, q_91, q_93, q_97, q_99, q_122, q_144, q_255, q_256, q_300, q_380, q_400, q_620, q_999, q_1000, q_4095, q_4096, q_9999, q_65536, q_99999, q_31, nI_add, pk_mul, nE, nL, nT, nM31, nShl, ib_nI, nI_clamp, bI_n0, bI_n1, bI_nar, uI_r, uI_l, uL_r, uL_i, uL_p, uA_r, uA_l, bV_some, bU_some, nar_n0, nar_n1, and_self, and_true, true_and, and_false, false_and, if_true, if_false, eq_self, Bool.false_eq_true, Bool.true_eq_false, not_true_eq_false, not_false_eq_true, ↓reduceIte, nlT, nlF, ntT, ntF, neT, neF, ieT, ieF, h.pe, x_in, e2, h.lvb, e1, livB_1]
      refine ⟨_, rfl, ?_, ?_⟩
      · repeat' (first | exact FC.rf | refine FC.uI ?_ rfl (by decide))
      · refine RepC.ext ((((h.s_pe _ rfl).s_co _ _ rfl).s_he _ 0 (by decide)).s_lv _ _ rfl) ?_
        (funext g k; simp only [uT_r, uQ_r]; repeat' split) <;> first | rfl | omega
  · simp (disch := omega) only [s92_0, s92_1, s92_4, s92_7, s92_9, s92_12, s92_13, s92_15, s92_18, s92_21, s92_22, s92_23, s92_24, s92_27, s92_28, s92_31, s92_32, s92_33, s92_34, s92_37, s92_38, s92_39, s92_42, s92_45, s92_46, s92_47, s92_48, s92_49, s92_52, s92_55, s92_56, s92_57, s92_58, s92_59, s92_62, s92_63, s92_66, s92_67, s92_68, s92_69, s92_70, s92_73, s92_74, q_0, q_1, q_2, q_3, q_4, q_5, q_6, q_7, q_8, q_9, q_10, q_11, q_12, q_13, q_14, q_16, q_20, q_23, q_24, q_32, q_42, q_43, q_45, q_47, q_48, q_50, q_57, q_59, q_60, q_61, q_62, q_63, q_64, q_66, q_91, q_93, q_97, q_99, q_122, q_144, q_255, q_256, q_300, q_380, q_400, q_620, q_999, q_1000, q_4095, q_4096, q_9999, q_65536, q_99999, q_31, nI_add, pk_mul, nE, nL, nT, nM31, nShl, ib_nI, nI_clamp, bI_n0, bI_n1, bI_nar, uI_r, uI_l, uL_r, uL_i, uL_p, uA_r, uA_l, bV_some, bU_some, nar_n0, nar_n1, and_self, and_true, true_and, and_false, false_and, if_true, if_false, eq_self, Bool.false_eq_true, Bool.true_eq_false, not_true_eq_false, not_false_eq_true, ↓reduceIte, nlT, nlF, ntT, ntF, neT, neF, ieT, ieF, h.pe, x_in, e1]
    exact ⟨_, rfl, FC.rf, h⟩
theorem r_person {S : Sto} {A : Tn} (h : RepM S A) (hw : WF A) (x : Int32) : ∃ S1, call 136 0 [vR 50 0, vI x] S = some (some (vI (o_person A x).1), S1) ∧ FM S S1 ∧ RepM S1 (o_person A x).2 := by
  have hP := hw.pe
  show ∃ S1, run 136 0 0 [vR 50 0, vI x, vU] [] S = _ ∧ _
  unfold o_person
  by_cases e1 : A 0 0 < 12
  · cases e2 : lsB x 100000 with
    | false =>
      simp (disch := omega) only [s136_0, s136_1, s136_4, s136_5, s136_6, s136_7, s136_8, s136_10, s136_13, s136_14, s136_15, s136_16, s136_19, s136_22, s136_25, s136_26, s136_27, s136_28, s136_31, s136_32, s136_33, s136_34, s136_35, s136_38, s136_39, s136_40, s136_41, s136_42, s136_45, s136_46, s136_47, s136_48, s136_49, s136_52, s136_53, s136_54, s136_55, s136_56, s136_57, s136_58, s136_59, q_0, q_1, q_2, q_3, q_4, q_5, q_6, q_7, q_8, q_9, q_10, q_11, q_12, q_13, q_14, q_16, q_20, q_23, q_24, q_32, q_42, q_43, q_45, q_47, q_48, q_50, q_57, q_59, q_60, q_61, q_62, q_63, q_64, q_66, q_91, q_93, q_97, q_99, q_122, q_144, q_255, q_256, q_300, q_380, q_400, q_620, q_999, q_1000, q_4095, q_4096, q_9999, q_65536, q_99999, q_31, nI_add, pk_mul, nE, nL, nT, nM31, nShl, ib_nI, nI_clamp, bI_n0, bI_n1, bI_nar, uI_r, uI_l, uL_r, uL_i, uL_p, uA_r, uA_l, bV_some, bU_some, nar_n0, nar_n1, and_self, and_true, true_and, and_false, false_and, if_true, if_false, eq_self, Bool.false_eq_true, Bool.true_eq_false, not_true_eq_false, not_false_eq_true, ↓reduceIte, nlT, nlF, ntT, ntF, neT, neF, ieT, ieF, h.sc, min_1, min_2, min_3, min_20, min_60, min_99, min_999, min_9999, min_99999, e2]
      exact ⟨_, rfl, FM.rf, h⟩
    | true =>
      obtain ⟨j, hj, rfl⟩ := lsB_t e2 (by decide)
      simp (disch := omega) only [s136_0, s136_1, s136_4, s136_5, s136_6, s136_7, s136_8, s136_10, s136_13, s136_14, s136_15, s136_16, s136_19, s136_22, s136_25, s136_26, s136_27, s136_28, s136_31, s136_32, s136_33, s136_34, s136_35, s136_38, s136_39, s136_40, s136_41, s136_42, s136_45, s136_46, s136_47, s136_48, s136_49, s136_52, s136_53, s136_54, s136_55, s136_56, s136_57, s136_58, s136_59, q_0, q_1, q_2, q_3, q_4, q_5, q_6, q_7, q_8, q_9, q_10, q_11, q_12, q_13, q_14, q_16, q_20, q_23, q_24, q_32, q_42, q_43, q_45, q_47, q_48, q_50, q_57, q_59, q_60, q_61, q_62, q_63, q_64, q_66, q_91, q_93, q_97, q_99, q_122, q_144, q_255, q_256, q_300, q_380, q_400, q_620, q_999, q_1000, q_4095, q_4096, q_9999, q_65536, q_99999, q_31, nI_add, pk_mul, nE, nL, nT, nM31, nShl, ib_nI, nI_clamp, bI_n0, bI_n1, bI_nar, uI_r, uI_l, uL_r, uL_i, uL_p, uA_r, uA_l, bV_some, bU_some, nar_n0, nar_n1, and_self, and_true, true_and, and_false, false_and, if_true, if_false, eq_self, Bool.false_eq_true, Bool.true_eq_false, not_true_eq_false, not_false_eq_true, ↓reduceIte, nlT, nlF, ntT, ntF, neT, neF, ieT, ieF, h.sc, min_1, min_2, min_3, min_20, min_60, min_99, min_999, min_9999, min_99999, e2, e1]
      refine ⟨_, rfl, ?_, ?_⟩
      · repeat' (first | exact FM.rf | refine FM.uI ?_ rfl (by decide))
      · exact (((h.set (f := 1) _ rfl rfl).set (f := 2) _ rfl rfl).set (f := 3) 0 rfl (by decide)).set (f := 0) _ rfl rfl
  · simp (disch := omega) only [s136_0, s136_1, s136_4, s136_5, s136_6, s136_7, s136_8, s136_10, s136_13, s136_14, s136_15, s136_16, s136_19, s136_22, s136_25, s136_26, s136_27, s136_28, s136_31, s136_32, s136_33, s136_34, s136_35, s136_38, s136_39, s136_40, s136_41, s136_42, s136_45, s136_46, s136_47, s136_48, s136_49, s136_52, s136_53, s136_54, s136_55, s136_56, s136_57, s136_58, s136_59, q_0, q_1, q_2, q_3, q_4, q_5, q_6, q_7, q_8, q_9, q_10, q_11, q_12, q_13, q_14, q_16, q_20, q_23, q_24, q_32, q_42, q_43, q_45, q_47, q_48, q_50, q_57, q_59, q_60, q_61, q_62, q_63, q_64, q_66, q_91, q_93, q_97, q_99, q_122, q_144, q_255, q_256, q_300, q_380, q_400, q_620, q_999, q_1000, q_4095, q_4096, q_9999, q_65536, q_99999, q_31, nI_add, pk_mul, nE, nL, nT, nM31, nShl, ib_nI, nI_clamp, bI_n0, bI_n1, bI_nar, uI_r, uI_l, uL_r, uL_i, uL_p, uA_r, uA_l, bV_some, bU_some, nar_n0, nar_n1, and_self, and_true, true_and, and_false, false_and, if_true, if_false, eq_self, Bool.false_eq_true, Bool.true_eq_false, not_true_eq_false, not_false_eq_true, ↓reduceIte, nlT, nlF, ntT, ntF, neT, neF, ieT, ieF, h.sc, min_1, min_2, min_3, min_20, min_60, min_99, min_999, min_9999, min_99999, e1]
    exact ⟨_, rfl, FM.rf, h⟩
