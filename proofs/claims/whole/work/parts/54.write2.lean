/-! heir, thing, seed, row, work -/
def o_heir (A : Tn) (a b : Int32) : Int32 × Tn := if lsB a (A 0 0) = true ∧ (b = -nI 1 ∨ (!decide (a = b) && lsB a (A 0 0) && lsB b (A 0 0)) = true) then (nI (A 3 a.toNatClampNeg) - nI 1, uT A 3 a.toNatClampNeg (b + 1).toNatClampNeg) else (-nI 2, A)
theorem heir_v {A : Tn} (hw : WF A) {a b : Int32} (h : b = -nI 1 ∨ (!decide (a = b) && lsB a (A 0 0) && lsB b (A 0 0)) = true) : ∃ v, v ≤ A 0 0 ∧ b = nI v - 1 ∧ (b + 1).toNatClampNeg = v := by
  have hP := hw.pe
  rcases h with rfl | h
  · exact ⟨0, by omega, by decide, by decide⟩
  · simp only [Bool.and_eq_true] at h
    obtain ⟨j, hj, rfl⟩ := lsB_t h.2 (by omega)
    refine ⟨j + 1, by omega, (nI_pred j).symm, ?_⟩
    rw [nI_1, nI_clamp (by omega)]
theorem w_heir {A : Tn} (h : WF A) (a b : Int32) : WF (o_heir A a b).2 := by
  unfold o_heir
  split
  · rename_i e
    obtain ⟨v, h1, h2, h3⟩ := heir_v h e.2
    rw [h3]
    exact h.s_he h1
  · exact h
theorem c_heir {S : Sto} {A : Tn} (h : RepC S 0 A) (hw : WF A) (a b : Int32) : ∃ S1, call 97 0 [vR 0 0, vI a, vI b] S = some (some (vI (o_heir A a b).1), S1) ∧ FC S S1 ∧ RepC S1 0 (o_heir A a b).2 := by
  have hP := hw.pe
  show ∃ S1, run 97 0 0 [vR 0 0, vI a, vI b, vU] [] S = _ ∧ _
  unfold o_heir
  cases e1 : lsB a (A 0 0) with
  | false =>
    simp (disch := omega) only [s97_0, s97_1, s97_4, s97_5, s97_8, s97_11, s97_12, s97_13, s97_16, s97_17, s97_20, s97_21, s97_22, s97_25, s97_28, s97_30, s97_31, s97_32, s97_35, s97_38, s97_39, s97_40, s97_41, s97_42, s97_45, s97_48, s97_49, s97_50, s97_51, s97_52, q_0, q_1, q_2, q_3, q_4, q_5, q_6, q_7, q_8, q_9, q_10, q_11, q_12, q_13, q_14, q_16, q_20, q_23, q_24, q_32, q_42, q_43, q_45, q_47, q_48, q_50, q_57, q_59, q_60, q_61, q_62, q_63, q_64, q_66, q_91, q_93, q_97, q_99, q_122, q_144, q_255, q_256, q_300, q_380, q_400, q_620, q_999, q_1000, q_4095, q_4096, q_9999, q_65536, q_99999, q_31, nI_add, pk_mul, nE, nL, nT, nM31, nShl, ib_nI, nI_clamp, bI_n0, bI_n1, bI_nar, uI_r, uI_l, uL_r, uL_i, uL_p, uA_r, uA_l, bV_some, bU_some, nar_n0, nar_n1, and_self, and_true, true_and, and_false, false_and, if_true, if_false, eq_self, Bool.false_eq_true, Bool.true_eq_false, not_true_eq_false, not_false_eq_true, ↓reduceIte, nlT, nlF, ntT, ntF, neT, neF, ieT, ieF, decide_true, decide_false, Bool.not_true, Bool.not_false, Bool.and_true, Bool.true_and, Bool.and_false, Bool.false_and, Bool.or_true, Bool.true_or, Bool.or_false, Bool.false_or, x_isP h, e1]
    exact ⟨_, rfl, FC.rf, h⟩
  | true =>
    have e1' := e1
    obtain ⟨i, hi, rfl⟩ := lsB_t e1 (by omega)
    by_cases f1 : b = -nI 1 ∨ (!decide (nI i = b) && lsB (nI i) (A 0 0) && lsB b (A 0 0)) = true
    · obtain ⟨v, h1, h2, h3⟩ := heir_v hw f1
      rw [e1] at f1
      have f1' := eq_true f1
      rw [h3, nI_clamp (by omega)]
      by_cases f2 : b = -nI 1
      · simp (disch := omega) only [s97_0, s97_1, s97_4, s97_5, s97_8, s97_11, s97_12, s97_13, s97_16, s97_17, s97_20, s97_21, s97_22, s97_25, s97_28, s97_30, s97_31, s97_32, s97_35, s97_38, s97_39, s97_40, s97_41, s97_42, s97_45, s97_48, s97_49, s97_50, s97_51, s97_52, q_0, q_1, q_2, q_3, q_4, q_5, q_6, q_7, q_8, q_9, q_10, q_11, q_12, q_13, q_14, q_16, q_20, q_23, q_24, q_32, q_42, q_43, q_45, q_47, q_48, q_50, q_57, q_59, q_60, q_61, q_62, q_63, q_64, q_66, q_91, q_93, q_97, q_99, q_122, q_144, q_255, q_256, q_300, q_380, q_400, q_620, q_999, q_1000, q_4095, q_4096, q_9999, q_65536, q_99999, q_31, nI_add, pk_mul, nE, nL, nT, nM31, nShl, ib_nI, nI_clamp, bI_n0, bI_n1, bI_nar, uI_r, uI_l, uL_r, uL_i, uL_p, uA_r, uA_l, bV_some, bU_some, nar_n0, nar_n1, and_self, and_true, true_and, and_false, false_and, if_true, if_false, eq_self, Bool.false_eq_true, Bool.true_eq_false, not_true_eq_false, not_false_eq_true, ↓reduceIte, nlT, nlF, ntT, ntF, neT, neF, ieT, ieF, decide_true, decide_false, Bool.not_true, Bool.not_false, Bool.and_true, Bool.true_and, Bool.and_false, Bool.false_and, Bool.or_true, Bool.true_or, Bool.or_false, Bool.false_or, x_isP h, e1', x_2 h, f2, true_or, h.he]
        refine ⟨_, rfl, ?_, ?_⟩
        · repeat' (first | exact FC.rf | refine FC.uI ?_ rfl (by decide))
        · exact h.s_he _ _ (f2 ▸ h2)
      · have f3 := f1.resolve_left f2
        simp only [Bool.and_true] at f3
        simp (disch := omega) only [s97_0, s97_1, s97_4, s97_5, s97_8, s97_11, s97_12, s97_13, s97_16, s97_17, s97_20, s97_21, s97_22, s97_25, s97_28, s97_30, s97_31, s97_32, s97_35, s97_38, s97_39, s97_40, s97_41, s97_42, s97_45, s97_48, s97_49, s97_50, s97_51, s97_52, q_0, q_1, q_2, q_3, q_4, q_5, q_6, q_7, q_8, q_9, q_10, q_11, q_12, q_13, q_14, q_16, q_20, q_23, q_24, q_32, q_42, q_43, q_45, q_47, q_48, q_50, q_57, q_59, q_60, q_61, q_62, q_63, q_64, q_66, q_91, q_93, q_97, q_99, q_122, q_144, q_255, q_256, q_300, q_380, q_400, q_620, q_999, q_1000, q_4095, q_4096, q_9999, q_65536, q_99999, q_31, nI_add, pk_mul, nE, nL, nT, nM31, nShl, ib_nI, nI_clamp, bI_n0, bI_n1, bI_nar, uI_r, uI_l, uL_r, uL_i, uL_p, uA_r, uA_l, bV_some, bU_some, nar_n0, nar_n1, and_self, and_true, true_and, and_false, false_and, if_true, if_false, eq_self, Bool.false_eq_true, Bool.true_eq_false, not_true_eq_false, not_false_eq_true, ↓reduceIte, nlT, nlF, ntT, ntF, neT, neF, ieT, ieF, decide_true, decide_false, Bool.not_true, Bool.not_false, Bool.and_true, Bool.true_and, Bool.and_false, Bool.false_and, Bool.or_true, Bool.true_or, Bool.or_false, Bool.false_or, x_isP h, e1', x_2 h, f2, f3, false_or, h.he]
        refine ⟨_, rfl, ?_, ?_⟩
        · repeat' (first | exact FC.rf | refine FC.uI ?_ rfl (by decide))
        · exact h.s_he _ _ h2
    · have f2 : ¬ b = -nI 1 := fun q => f1 (Or.inl q)
      have f3 : (!decide (nI i = b) && lsB (nI i) (A 0 0) && lsB b (A 0 0)) = false := by
        cases q : (!decide (nI i = b) && lsB (nI i) (A 0 0) && lsB b (A 0 0)) with
        | false => rfl
        | true => exact absurd (Or.inr q) f1
      rw [e1] at f3
      simp (disch := omega) only [s97_0, s97_1, s97_4, s97_5, s97_8, s97_11, s97_12, s97_13, s97_16, s97_17, s97_20, s97_21, s97_22, s97_25, s97_28, s97_30, s97_31, s97_32, s97_35, s97_38, s97_39, s97_40, s97_41, s97_42, s97_45, s97_48, s97_49, s97_50, s97_51, s97_52, q_0, q_1, q_2, q_3, q_4, q_5, q_6, q_7, q_8, q_9, q_10, q_11, q_12, q_13, q_14, q_16, q_20, q_23, q_24, q_32, q_42, q_43, q_45, q_47, q_48, q_50, q_57, q_59, q_60, q_61, q_62, q_63, q_64, q_66, q_91, q_93, q_97, q_99, q_122, q_144, q_255, q_256, q_300, q_380, q_400, q_620, q_999, q_1000, q_4095, q_4096, q_9999, q_65536, q_99999, q_31, nI_add, pk_mul, nE, nL, nT, nM31, nShl, ib_nI, nI_clamp, bI_n0, bI_n1, bI_nar, uI_r, uI_l, uL_r, uL_i, uL_p, uA_r, uA_l, bV_some, bU_some, nar_n0, nar_n1, and_self, and_true, true_and, and_false, false_and, if_true, if_false, eq_self, Bool.false_eq_true, Bool.true_eq_false, not_true_eq_false, not_false_eq_true, ↓reduceIte, nlT, nlF, ntT, ntF, neT, neF, ieT, ieF, decide_true, decide_false, Bool.not_true, Bool.not_false, Bool.and_true, Bool.true_and, Bool.and_false, Bool.false_and, Bool.or_true, Bool.true_or, Bool.or_false, Bool.false_or, x_isP h, e1', x_2 h, f2, f3, false_or] at f3 ⊢
      simp (disch := omega) only [q_0, q_1, q_2, q_3, q_4, q_5, q_6, q_7, q_8, q_9, q_10, q_11, q_12, q_13, q_14, q_16, q_20, q_23, q_24, q_32, q_42, q_43, q_45, q_47, q_48, q_50, q_57, q_59, q_60, q_61, q_62, q_63, q_64, q_66, q_91, q_93, q_97, q_99, q_122, q_144, q_255, q_256, q_300, q_380, q_400, q_620, q_999, q_1000, q_4095, q_4096, q_9999, q_65536, q_99999, q_31, nI_add, pk_mul, nE, nL, nT, nM31, nShl, ib_nI, nI_clamp, bI_n0, bI_n1, bI_nar, uI_r, uI_l, uL_r, uL_i, uL_p, uA_r, uA_l, bV_some, bU_some, nar_n0, nar_n1, and_self, and_true, true_and, and_false, false_and, if_true, if_false, eq_self, Bool.false_eq_true, Bool.true_eq_false, not_true_eq_false, not_false_eq_true, ↓reduceIte, nlT, nlF, ntT, ntF, neT, neF, ieT, ieF, decide_true, decide_false, Bool.not_true, Bool.not_false, Bool.and_true, Bool.true_and, Bool.and_false, Bool.false_and, Bool.or_true, Bool.true_or, Bool.or_false, Bool.false_or, f3]
      exact ⟨_, rfl, FC.rf, h⟩
theorem r_heir {S : Sto} {A : Tn} (h : RepM S A) (hw : WF A) (a b : Int32) : ∃ S1, call 145 0 [vR 50 0, vI a, vI b] S = some (some (vI (o_heir A a b).1), S1) ∧ FM S S1 ∧ RepM S1 (o_heir A a b).2 := by
  have hP := hw.pe
  show ∃ S1, run 145 0 0 [vR 50 0, vI a, vI b, vU] [] S = _ ∧ _
  unfold o_heir
  cases e1 : lsB a (A 0 0) with
  | false =>
    simp (disch := omega) only [s145_0, s145_1, s145_2, s145_5, s145_8, s145_9, s145_10, s145_13, s145_14, s145_15, s145_16, s145_19, s145_22, s145_24, s145_25, s145_26, s145_29, s145_30, s145_31, s145_32, s145_33, s145_36, s145_37, s145_38, s145_39, s145_40, q_0, q_1, q_2, q_3, q_4, q_5, q_6, q_7, q_8, q_9, q_10, q_11, q_12, q_13, q_14, q_16, q_20, q_23, q_24, q_32, q_42, q_43, q_45, q_47, q_48, q_50, q_57, q_59, q_60, q_61, q_62, q_63, q_64, q_66, q_91, q_93, q_97, q_99, q_122, q_144, q_255, q_256, q_300, q_380, q_400, q_620, q_999, q_1000, q_4095, q_4096, q_9999, q_65536, q_99999, q_31, nI_add, pk_mul, nE, nL, nT, nM31, nShl, ib_nI, nI_clamp, bI_n0, bI_n1, bI_nar, uI_r, uI_l, uL_r, uL_i, uL_p, uA_r, uA_l, bV_some, bU_some, nar_n0, nar_n1, and_self, and_true, true_and, and_false, false_and, if_true, if_false, eq_self, Bool.false_eq_true, Bool.true_eq_false, not_true_eq_false, not_false_eq_true, ↓reduceIte, nlT, nlF, ntT, ntF, neT, neF, ieT, ieF, decide_true, decide_false, Bool.not_true, Bool.not_false, Bool.and_true, Bool.true_and, Bool.and_false, Bool.false_and, Bool.or_true, Bool.true_or, Bool.or_false, Bool.false_or, m_isP h hw, e1]
    exact ⟨_, rfl, FM.rf, h⟩
  | true =>
    have e1' := e1
    obtain ⟨i, hi, rfl⟩ := lsB_t e1 (by omega)
    by_cases f1 : b = -nI 1 ∨ (!decide (nI i = b) && lsB (nI i) (A 0 0) && lsB b (A 0 0)) = true
    · obtain ⟨v, h1, h2, h3⟩ := heir_v hw f1
      rw [e1] at f1
      rw [h3, nI_clamp (by omega)]
      by_cases f2 : b = -nI 1
      · simp (disch := omega) only [s145_0, s145_1, s145_2, s145_5, s145_8, s145_9, s145_10, s145_13, s145_14, s145_15, s145_16, s145_19, s145_22, s145_24, s145_25, s145_26, s145_29, s145_30, s145_31, s145_32, s145_33, s145_36, s145_37, s145_38, s145_39, s145_40, q_0, q_1, q_2, q_3, q_4, q_5, q_6, q_7, q_8, q_9, q_10, q_11, q_12, q_13, q_14, q_16, q_20, q_23, q_24, q_32, q_42, q_43, q_45, q_47, q_48, q_50, q_57, q_59, q_60, q_61, q_62, q_63, q_64, q_66, q_91, q_93, q_97, q_99, q_122, q_144, q_255, q_256, q_300, q_380, q_400, q_620, q_999, q_1000, q_4095, q_4096, q_9999, q_65536, q_99999, q_31, nI_add, pk_mul, nE, nL, nT, nM31, nShl, ib_nI, nI_clamp, bI_n0, bI_n1, bI_nar, uI_r, uI_l, uL_r, uL_i, uL_p, uA_r, uA_l, bV_some, bU_some, nar_n0, nar_n1, and_self, and_true, true_and, and_false, false_and, if_true, if_false, eq_self, Bool.false_eq_true, Bool.true_eq_false, not_true_eq_false, not_false_eq_true, ↓reduceIte, nlT, nlF, ntT, ntF, neT, neF, ieT, ieF, decide_true, decide_false, Bool.not_true, Bool.not_false, Bool.and_true, Bool.true_and, Bool.and_false, Bool.false_and, Bool.or_true, Bool.true_or, Bool.or_false, Bool.false_or, m_isP h hw, e1', m_2 h hw, f2, true_or, h.he]
        refine ⟨_, rfl, ?_, ?_⟩
        · repeat' (first | exact FM.rf | refine FM.uI ?_ rfl (by decide))
        · exact h.set (f := 3) _ rfl (f2 ▸ h2)
      · have f3 := f1.resolve_left f2
        simp only [Bool.and_true] at f3
        simp (disch := omega) only [s145_0, s145_1, s145_2, s145_5, s145_8, s145_9, s145_10, s145_13, s145_14, s145_15, s145_16, s145_19, s145_22, s145_24, s145_25, s145_26, s145_29, s145_30, s145_31, s145_32, s145_33, s145_36, s145_37, s145_38, s145_39, s145_40, q_0, q_1, q_2, q_3, q_4, q_5, q_6, q_7, q_8, q_9, q_10, q_11, q_12, q_13, q_14, q_16, q_20, q_23, q_24, q_32, q_42, q_43, q_45, q_47, q_48, q_50, q_57, q_59, q_60, q_61, q_62, q_63, q_64, q_66, q_91, q_93, q_97, q_99, q_122, q_144, q_255, q_256, q_300, q_380, q_400, q_620, q_999, q_1000, q_4095, q_4096, q_9999, q_65536, q_99999, q_31, nI_add, pk_mul, nE, nL, nT, nM31, nShl, ib_nI, nI_clamp, bI_n0, bI_n1, bI_nar, uI_r, uI_l, uL_r, uL_i, uL_p, uA_r, uA_l, bV_some, bU_some, nar_n0, nar_n1, and_self, and_true, true_and, and_false, false_and, if_true, if_false, eq_self, Bool.false_eq_true, Bool.true_eq_false, not_true_eq_false, not_false_eq_true, ↓reduceIte, nlT, nlF, ntT, ntF, neT, neF, ieT, ieF, decide_true, decide_false, Bool.not_true, Bool.not_false, Bool.and_true, Bool.true_and, Bool.and_false, Bool.false_and, Bool.or_true, Bool.true_or, Bool.or_false, Bool.false_or, m_isP h hw, e1', m_2 h hw, f2, f3, false_or, h.he]
        refine ⟨_, rfl, ?_, ?_⟩
        · repeat' (first | exact FM.rf | refine FM.uI ?_ rfl (by decide))
        · exact h.set (f := 3) _ rfl h2
    · have f2 : ¬ b = -nI 1 := fun q => f1 (Or.inl q)
      have f3 : (!decide (nI i = b) && lsB (nI i) (A 0 0) && lsB b (A 0 0)) = false := by
        cases q : (!decide (nI i = b) && lsB (nI i) (A 0 0) && lsB b (A 0 0)) with
        | false => rfl
        | true => exact absurd (Or.inr q) f1
      rw [e1] at f3
      simp (disch := omega) only [s145_0, s145_1, s145_2, s145_5, s145_8, s145_9, s145_10, s145_13, s145_14, s145_15, s145_16, s145_19, s145_22, s145_24, s145_25, s145_26, s145_29, s145_30, s145_31, s145_32, s145_33, s145_36, s145_37, s145_38, s145_39, s145_40, q_0, q_1, q_2, q_3, q_4, q_5, q_6, q_7, q_8, q_9, q_10, q_11, q_12, q_13, q_14, q_16, q_20, q_23, q_24, q_32, q_42, q_43, q_45, q_47, q_48, q_50, q_57, q_59, q_60, q_61, q_62, q_63, q_64, q_66, q_91, q_93, q_97, q_99, q_122, q_144, q_255, q_256, q_300, q_380, q_400, q_620, q_999, q_1000, q_4095, q_4096, q_9999, q_65536, q_99999, q_31, nI_add, pk_mul, nE, nL, nT, nM31, nShl, ib_nI, nI_clamp, bI_n0, bI_n1, bI_nar, uI_r, uI_l, uL_r, uL_i, uL_p, uA_r, uA_l, bV_some, bU_some, nar_n0, nar_n1, and_self, and_true, true_and, and_false, false_and, if_true, if_false, eq_self, Bool.false_eq_true, Bool.true_eq_false, not_true_eq_false, not_false_eq_true, ↓reduceIte, nlT, nlF, ntT, ntF, neT, neF, ieT, ieF, decide_true, decide_false, Bool.not_true, Bool.not_false, Bool.and_true, Bool.true_and, Bool.and_false, Bool.false_and, Bool.or_true, Bool.true_or, Bool.or_false, Bool.false_or, m_isP h hw, e1', m_2 h hw, f2, f3, false_or] at f3 ⊢
      simp (disch := omega) only [q_0, q_1, q_2, q_3, q_4, q_5, q_6, q_7, q_8, q_9, q_10, q_11, q_12, q_13, q_14, q_16, q_20, q_23, q_24, q_32, q_42, q_43, q_45, q_47, q_48, q_50, q_57, q_59, q_60, q_61, q_62, q_63, q_64, q_66, q_91, q_93, q_97, q_99, q_122, q_144, q_255, q_256, q_300, q_380, q_400, q_620, q_999, q_1000, q_4095, q_4096, q_9999, q_65536, q_99999, q_31, nI_add, pk_mul, nE, nL, nT, nM31, nShl, ib_nI, nI_clamp, bI_n0, bI_n1, bI_nar, uI_r, uI_l, uL_r, uL_i, uL_p, uA_r, uA_l, bV_some, bU_some, nar_n0, nar_n1, and_self, and_true, true_and, and_false, false_and, if_true, if_false, eq_self, Bool.false_eq_true, Bool.true_eq_false, not_true_eq_false, not_false_eq_true, ↓reduceIte, nlT, nlF, ntT, ntF, neT, neF, ieT, ieF, decide_true, decide_false, Bool.not_true, Bool.not_false, Bool.and_true, Bool.true_and, Bool.and_false, Bool.false_and, Bool.or_true, Bool.true_or, Bool.or_false, Bool.false_or, f3]
      exact ⟨_, rfl, FM.rf, h⟩
def o_thing (A : Tn) (a b u : Int32) : Int32 × Tn := if A 0 1 < 24 ∧ lsB u 1000 = true ∧ a ≠ b ∧ alB A a = true ∧ alB A b = true then (nI (A 0 1), uT (uT (uT (uT A 7 (A 0 1) a.toNatClampNeg) 8 (A 0 1) b.toNatClampNeg) 9 (A 0 1) u.toNatClampNeg) 0 1 (A 0 1 + 1)) else (-nI 1, A)
theorem w_thing {A : Tn} (h : WF A) (a b u : Int32) : WF (o_thing A a b u).2 := by
  have hP := h.pe
  have hT := h.th
  unfold o_thing
  split
  · rename_i e
    obtain ⟨i, hi, rfl, l1⟩ := alB_t h e.2.2.2.1
    obtain ⟨j, hj, rfl, l2⟩ := alB_t h e.2.2.2.2
    obtain ⟨v, hv, rfl⟩ := lsB_t e.2.1 (by decide)
    have hij : i ≠ j := fun q => e.2.2.1 (by rw [q])
    rw [nI_clamp (by omega), nI_clamp (by omega), nI_clamp (by omega)]
    show WF (uT (uT (uT (uT A 7 (A 0 1) i) 8 (A 0 1) j) 9 (A 0 1) v) 0 1 (A 0 1 + 1))
    refine ⟨⟨h.1.1, ?_, h.1.2.2⟩, h.2.1, h.2.2.1, h.2.2.2.1, fun t ht => ?_, fun w hw => ?_, h.2.2.2.2.2.2.1, h.2.2.2.2.2.2.2.1, fun t ht => ?_, h.2.2.2.2.2.2.2.2.2⟩
    · simp (disch := omega) only [uT_r, uQ_r, and_self, and_true, true_and, and_false, false_and, if_true, if_false, if_pos, if_neg]; omega
    · by_cases e1 : t = A 0 1
      · subst e1
        simp (disch := omega) only [uT_r, uQ_r, and_self, and_true, true_and, and_false, false_and, if_true, if_false, if_pos, if_neg]
        exact ⟨hi, hj, hij, by omega, l1, l2⟩
      · have ht' : t < A 0 1 := by
          have : uT (uT (uT (uT A 7 (A 0 1) i) 8 (A 0 1) j) 9 (A 0 1) v) 0 1 (A 0 1 + 1) 0 1 = A 0 1 + 1 := rfl
          omega
        have h1 := h.t ht'
        simp (disch := omega) only [uT_r, uQ_r, and_self, and_true, true_and, and_false, false_and, if_true, if_false, if_pos, if_neg]
        exact h1
    · have h1 := h.w (w := w) hw
      simp (disch := omega) only [uT_r, uQ_r, and_self, and_true, true_and, and_false, false_and, if_true, if_false, if_pos, if_neg]
      refine ⟨h1.1, ?_, h1.2.2⟩
      exact Nat.lt_of_lt_of_le h1.2.1 (Nat.pow_le_pow_right (by decide) (by omega))
    · by_cases e1 : t = A 0 1
      · subst e1
        simp (disch := omega) only [uT_r, uQ_r, and_self, and_true, true_and, and_false, false_and, if_true, if_false, if_pos, if_neg]
        omega
      · simp (disch := omega) only [uT_r, uQ_r, and_self, and_true, true_and, and_false, false_and, if_true, if_false, if_pos, if_neg]
        exact h.o ht
  · exact h
theorem c_thing {S : Sto} {A : Tn} (h : RepC S 0 A) (hw : WF A) (a b u : Int32) : ∃ S1, call 98 0 [vR 0 0, vI a, vI b, vI u] S = some (some (vI (o_thing A a b u).1), S1) ∧ FC S S1 ∧ RepC S1 0 (o_thing A a b u).2 := by
  have hP := hw.pe
  have hT := hw.th
  show ∃ S1, run 98 0 0 [vR 0 0, vI a, vI b, vI u, vU] [] S = _ ∧ _
  unfold o_thing
  by_cases e0 : A 0 1 < 24
  · cases e3 : lsB u 1000 with
    | false =>
      simp (disch := omega) only [s98_0, s98_1, s98_4, s98_7, s98_9, s98_12, s98_13, s98_16, s98_19, s98_22, s98_23, s98_24, s98_25, s98_26, s98_29, s98_30, s98_33, s98_34, s98_37, s98_40, s98_41, s98_44, s98_45, s98_48, s98_51, s98_52, s98_53, s98_54, s98_57, s98_58, s98_61, s98_62, s98_63, s98_64, s98_67, s98_69, s98_70, s98_73, s98_76, s98_77, s98_79, s98_80, s98_81, s98_82, s98_83, s98_86, s98_89, s98_90, s98_92, s98_93, s98_94, s98_95, s98_96, s98_97, s98_98, s98_101, s98_104, s98_106, s98_107, s98_108, s98_110, q_0, q_1, q_2, q_3, q_4, q_5, q_6, q_7, q_8, q_9, q_10, q_11, q_12, q_13, q_14, q_16, q_20, q_23, q_24, q_32, q_42, q_43, q_45, q_47, q_48, q_50, q_57, q_59, q_60, q_61, q_62, q_63, q_64, q_66, q_91, q_93, q_97, q_99, q_122, q_144, q_255, q_256, q_300, q_380, q_400, q_620, q_999, q_1000, q_4095, q_4096, q_9999, q_65536, q_99999, q_31, nI_add, pk_mul, nE, nL, nT, nM31, nShl, ib_nI, nI_clamp, bI_n0, bI_n1, bI_nar, uI_r, uI_l, uL_r, uL_i, uL_p, uA_r, uA_l, bV_some, bU_some, nar_n0, nar_n1, and_self, and_true, true_and, and_false, false_and, if_true, if_false, eq_self, Bool.false_eq_true, Bool.true_eq_false, not_true_eq_false, not_false_eq_true, ↓reduceIte, nlT, nlF, ntT, ntF, neT, neF, ieT, ieF, decide_true, decide_false, Bool.not_true, Bool.not_false, Bool.and_true, Bool.true_and, Bool.and_false, Bool.false_and, Bool.or_true, Bool.true_or, Bool.or_false, Bool.false_or, h.th, x_in, e3]
      exact ⟨_, rfl, FC.rf, h⟩
    | true =>
      have e3' := e3
      obtain ⟨v, hv, rfl⟩ := lsB_t e3 (by decide)
      by_cases e4 : a = b
      · simp (disch := omega) only [s98_0, s98_1, s98_4, s98_7, s98_9, s98_12, s98_13, s98_16, s98_19, s98_22, s98_23, s98_24, s98_25, s98_26, s98_29, s98_30, s98_33, s98_34, s98_37, s98_40, s98_41, s98_44, s98_45, s98_48, s98_51, s98_52, s98_53, s98_54, s98_57, s98_58, s98_61, s98_62, s98_63, s98_64, s98_67, s98_69, s98_70, s98_73, s98_76, s98_77, s98_79, s98_80, s98_81, s98_82, s98_83, s98_86, s98_89, s98_90, s98_92, s98_93, s98_94, s98_95, s98_96, s98_97, s98_98, s98_101, s98_104, s98_106, s98_107, s98_108, s98_110, q_0, q_1, q_2, q_3, q_4, q_5, q_6, q_7, q_8, q_9, q_10, q_11, q_12, q_13, q_14, q_16, q_20, q_23, q_24, q_32, q_42, q_43, q_45, q_47, q_48, q_50, q_57, q_59, q_60, q_61, q_62, q_63, q_64, q_66, q_91, q_93, q_97, q_99, q_122, q_144, q_255, q_256, q_300, q_380, q_400, q_620, q_999, q_1000, q_4095, q_4096, q_9999, q_65536, q_99999, q_31, nI_add, pk_mul, nE, nL, nT, nM31, nShl, ib_nI, nI_clamp, bI_n0, bI_n1, bI_nar, uI_r, uI_l, uL_r, uL_i, uL_p, uA_r, uA_l, bV_some, bU_some, nar_n0, nar_n1, and_self, and_true, true_and, and_false, false_and, if_true, if_false, eq_self, Bool.false_eq_true, Bool.true_eq_false, not_true_eq_false, not_false_eq_true, ↓reduceIte, nlT, nlF, ntT, ntF, neT, neF, ieT, ieF, decide_true, decide_false, Bool.not_true, Bool.not_false, Bool.and_true, Bool.true_and, Bool.and_false, Bool.false_and, Bool.or_true, Bool.true_or, Bool.or_false, Bool.false_or, h.th, x_in, e3', e4, ne_eq]
        exact ⟨_, rfl, FC.rf, h⟩
      · cases e1 : alB A a with
        | false =>
          simp (disch := omega) only [s98_0, s98_1, s98_4, s98_7, s98_9, s98_12, s98_13, s98_16, s98_19, s98_22, s98_23, s98_24, s98_25, s98_26, s98_29, s98_30, s98_33, s98_34, s98_37, s98_40, s98_41, s98_44, s98_45, s98_48, s98_51, s98_52, s98_53, s98_54, s98_57, s98_58, s98_61, s98_62, s98_63, s98_64, s98_67, s98_69, s98_70, s98_73, s98_76, s98_77, s98_79, s98_80, s98_81, s98_82, s98_83, s98_86, s98_89, s98_90, s98_92, s98_93, s98_94, s98_95, s98_96, s98_97, s98_98, s98_101, s98_104, s98_106, s98_107, s98_108, s98_110, q_0, q_1, q_2, q_3, q_4, q_5, q_6, q_7, q_8, q_9, q_10, q_11, q_12, q_13, q_14, q_16, q_20, q_23, q_24, q_32, q_42, q_43, q_45, q_47, q_48, q_50, q_57, q_59, q_60, q_61, q_62, q_63, q_64, q_66, q_91, q_93, q_97, q_99, q_122, q_144, q_255, q_256, q_300, q_380, q_400, q_620, q_999, q_1000, q_4095, q_4096, q_9999, q_65536, q_99999, q_31, nI_add, pk_mul, nE, nL, nT, nM31, nShl, ib_nI, nI_clamp, bI_n0, bI_n1, bI_nar, uI_r, uI_l, uL_r, uL_i, uL_p, uA_r, uA_l, bV_some, bU_some, nar_n0, nar_n1, and_self, and_true, true_and, and_false, false_and, if_true, if_false, eq_self, Bool.false_eq_true, Bool.true_eq_false, not_true_eq_false, not_false_eq_true, ↓reduceIte, nlT, nlF, ntT, ntF, neT, neF, ieT, ieF, decide_true, decide_false, Bool.not_true, Bool.not_false, Bool.and_true, Bool.true_and, Bool.and_false, Bool.false_and, Bool.or_true, Bool.true_or, Bool.or_false, Bool.false_or, h.th, x_in, e3', e4, ne_eq, x_isAl h hw, e1]
          exact ⟨_, rfl, FC.rf, h⟩
        | true =>
          cases e2 : alB A b with
          | false =>
            simp (disch := omega) only [s98_0, s98_1, s98_4, s98_7, s98_9, s98_12, s98_13, s98_16, s98_19, s98_22, s98_23, s98_24, s98_25, s98_26, s98_29, s98_30, s98_33, s98_34, s98_37, s98_40, s98_41, s98_44, s98_45, s98_48, s98_51, s98_52, s98_53, s98_54, s98_57, s98_58, s98_61, s98_62, s98_63, s98_64, s98_67, s98_69, s98_70, s98_73, s98_76, s98_77, s98_79, s98_80, s98_81, s98_82, s98_83, s98_86, s98_89, s98_90, s98_92, s98_93, s98_94, s98_95, s98_96, s98_97, s98_98, s98_101, s98_104, s98_106, s98_107, s98_108, s98_110, q_0, q_1, q_2, q_3, q_4, q_5, q_6, q_7, q_8, q_9, q_10, q_11, q_12, q_13, q_14, q_16, q_20, q_23, q_24, q_32, q_42, q_43, q_45, q_47, q_48, q_50, q_57, q_59, q_60, q_61, q_62, q_63, q_64, q_66, q_91, q_93, q_97, q_99, q_122, q_144, q_255, q_256, q_300, q_380, q_400, q_620, q_999, q_1000, q_4095, q_4096, q_9999, q_65536, q_99999, q_31, nI_add, pk_mul, nE, nL, nT, nM31, nShl, ib_nI, nI_clamp, bI_n0, bI_n1, bI_nar, uI_r, uI_l, uL_r, uL_i, uL_p, uA_r, uA_l, bV_some, bU_some, nar_n0, nar_n1, and_self, and_true, true_and, and_false, false_and, if_true, if_false, eq_self, Bool.false_eq_true, Bool.true_eq_false, not_true_eq_false, not_false_eq_true, ↓reduceIte, nlT, nlF, ntT, ntF, neT, neF, ieT, ieF, decide_true, decide_false, Bool.not_true, Bool.not_false, Bool.and_true, Bool.true_and, Bool.and_false, Bool.false_and, Bool.or_true, Bool.true_or, Bool.or_false, Bool.false_or, h.th, x_in, e3', e4, ne_eq, x_isAl h hw, e1, e2]
            exact ⟨_, rfl, FC.rf, h⟩
          | true =>
            obtain ⟨i, hi, rfl, l1⟩ := alB_t hw e1
            obtain ⟨j, hj, rfl, l2⟩ := alB_t hw e2
            have hij : i ≠ j := fun q => e4 (by rw [q])
            simp (disch := omega) only [s98_0, s98_1, s98_4, s98_7, s98_9, s98_12, s98_13, s98_16, s98_19, s98_22, s98_23, s98_24, s98_25, s98_26, s98_29, s98_30, s98_33, s98_34, s98_37, s98_40, s98_41, s98_44, s98_45, s98_48, s98_51, s98_52, s98_53, s98_54, s98_57, s98_58, s98_61, s98_62, s98_63, s98_64, s98_67, s98_69, s98_70, s98_73, s98_76, s98_77, s98_79, s98_80, s98_81, s98_82, s98_83, s98_86, s98_89, s98_90, s98_92, s98_93, s98_94, s98_95, s98_96, s98_97, s98_98, s98_101, s98_104, s98_106, s98_107, s98_108, s98_110, q_0, q_1, q_2, q_3, q_4, q_5, q_6, q_7, q_8, q_9, q_10, q_11, q_12, q_13, q_14, q_16, q_20, q_23, q_24, q_32, q_42, q_43, q_45, q_47, q_48, q_50, q_57, q_59, q_60, q_61, q_62, q_63, q_64, q_66, q_91, q_93, q_97, q_99, q_122, q_144, q_255, q_256, q_300, q_380, q_400, q_620, q_999, q_1000, q_4095, q_4096, q_9999, q_65536, q_99999, q_31, nI_add, pk_mul, nE, nL, nT, nM31, nShl, ib_nI, nI_clamp, bI_n0, bI_n1, bI_nar, uI_r, uI_l, uL_r, uL_i, uL_p, uA_r, uA_l, bV_some, bU_some, nar_n0, nar_n1, and_self, and_true, true_and, and_false, false_and, if_true, if_false, eq_self, Bool.false_eq_true, Bool.true_eq_false, not_true_eq_false, not_false_eq_true, ↓reduceIte, nlT, nlF, ntT, ntF, neT, neF, ieT, ieF, decide_true, decide_false, Bool.not_true, Bool.not_false, Bool.and_true, Bool.true_and, Bool.and_false, Bool.false_and, Bool.or_true, Bool.true_or, Bool.or_false, Bool.false_or, h.th, x_in, e3', ne_eq, x_isAl h hw, e1, e2]
            refine ⟨_, rfl, ?_, ?_⟩
            · repeat' (first | exact FC.rf | refine FC.uI ?_ rfl (by decide))
            · refine RepC.ext ((((h.s_th _ rfl).s_o1 _ _ rfl).s_o2 _ _ rfl).s_us _ _ rfl) ?_
              (funext g k; simp only [uT_r, uQ_r]; repeat' split) <;> first | rfl | omega
  · simp (disch := omega) only [s98_0, s98_1, s98_4, s98_7, s98_9, s98_12, s98_13, s98_16, s98_19, s98_22, s98_23, s98_24, s98_25, s98_26, s98_29, s98_30, s98_33, s98_34, s98_37, s98_40, s98_41, s98_44, s98_45, s98_48, s98_51, s98_52, s98_53, s98_54, s98_57, s98_58, s98_61, s98_62, s98_63, s98_64, s98_67, s98_69, s98_70, s98_73, s98_76, s98_77, s98_79, s98_80, s98_81, s98_82, s98_83, s98_86, s98_89, s98_90, s98_92, s98_93, s98_94, s98_95, s98_96, s98_97, s98_98, s98_101, s98_104, s98_106, s98_107, s98_108, s98_110, q_0, q_1, q_2, q_3, q_4, q_5, q_6, q_7, q_8, q_9, q_10, q_11, q_12, q_13, q_14, q_16, q_20, q_23, q_24, q_32, q_42, q_43, q_45, q_47, q_48, q_50, q_57, q_59, q_60, q_61, q_62, q_63, q_64, q_66, q_91, q_93, q_97, q_99, q_122, q_144, q_255, q_256, q_300, q_380, q_400, q_620, q_999, q_1000, q_4095, q_4096, q_9999, q_65536, q_99999, q_31, nI_add, pk_mul, nE, nL, nT, nM31, nShl, ib_nI, nI_clamp, bI_n0, bI_n1, bI_nar, uI_r, uI_l, uL_r, uL_i, uL_p, uA_r, uA_l, bV_some, bU_some, nar_n0, nar_n1, and_self, and_true, true_and, and_false, false_and, if_true, if_false, eq_self, Bool.false_eq_true, Bool.true_eq_false, not_true_eq_false, not_false_eq_true, ↓reduceIte, nlT, nlF, ntT, ntF, neT, neF, ieT, ieF, decide_true, decide_false, Bool.not_true, Bool.not_false, Bool.and_true, Bool.true_and, Bool.and_false, Bool.false_and, Bool.or_true, Bool.true_or, Bool.or_false, Bool.false_or, h.th, e0]
    exact ⟨_, rfl, FC.rf, h⟩
theorem r_thing {S : Sto} {A : Tn} (h : RepM S A) (hw : WF A) (a b u : Int32) : ∃ S1, call 146 0 [vR 50 0, vI a, vI b, vI u] S = some (some (vI (o_thing A a b u).1), S1) ∧ FM S S1 ∧ RepM S1 (o_thing A a b u).2 := by
  have hP := hw.pe
  have hT := hw.th
  show ∃ S1, run 146 0 0 [vR 50 0, vI a, vI b, vI u, vU] [] S = _ ∧ _
  unfold o_thing
  by_cases e0 : A 0 1 < 24
  · cases e1 : alB A a with
    | false =>
      simp (disch := omega) only [s146_0, s146_1, s146_4, s146_5, s146_6, s146_8, s146_10, s146_12, s146_15, s146_16, s146_17, s146_20, s146_23, s146_24, s146_25, s146_28, s146_31, s146_32, s146_33, s146_36, s146_37, s146_38, s146_39, s146_42, s146_45, s146_48, s146_49, s146_50, s146_51, s146_54, s146_56, s146_57, s146_58, s146_59, s146_62, s146_64, s146_65, s146_66, s146_67, s146_70, s146_72, s146_73, s146_74, s146_75, s146_78, s146_79, s146_80, s146_81, s146_82, s146_83, s146_84, s146_86, q_0, q_1, q_2, q_3, q_4, q_5, q_6, q_7, q_8, q_9, q_10, q_11, q_12, q_13, q_14, q_16, q_20, q_23, q_24, q_32, q_42, q_43, q_45, q_47, q_48, q_50, q_57, q_59, q_60, q_61, q_62, q_63, q_64, q_66, q_91, q_93, q_97, q_99, q_122, q_144, q_255, q_256, q_300, q_380, q_400, q_620, q_999, q_1000, q_4095, q_4096, q_9999, q_65536, q_99999, q_31, nI_add, pk_mul, nE, nL, nT, nM31, nShl, ib_nI, nI_clamp, bI_n0, bI_n1, bI_nar, uI_r, uI_l, uL_r, uL_i, uL_p, uA_r, uA_l, bV_some, bU_some, nar_n0, nar_n1, and_self, and_true, true_and, and_false, false_and, if_true, if_false, eq_self, Bool.false_eq_true, Bool.true_eq_false, not_true_eq_false, not_false_eq_true, ↓reduceIte, nlT, nlF, ntT, ntF, neT, neF, ieT, ieF, decide_true, decide_false, Bool.not_true, Bool.not_false, Bool.and_true, Bool.true_and, Bool.and_false, Bool.false_and, Bool.or_true, Bool.true_or, Bool.or_false, Bool.false_or, h.sc, m_isAl h hw, e1]
      exact ⟨_, rfl, FM.rf, h⟩
    | true =>
      cases e2 : alB A b with
      | false =>
        simp (disch := omega) only [s146_0, s146_1, s146_4, s146_5, s146_6, s146_8, s146_10, s146_12, s146_15, s146_16, s146_17, s146_20, s146_23, s146_24, s146_25, s146_28, s146_31, s146_32, s146_33, s146_36, s146_37, s146_38, s146_39, s146_42, s146_45, s146_48, s146_49, s146_50, s146_51, s146_54, s146_56, s146_57, s146_58, s146_59, s146_62, s146_64, s146_65, s146_66, s146_67, s146_70, s146_72, s146_73, s146_74, s146_75, s146_78, s146_79, s146_80, s146_81, s146_82, s146_83, s146_84, s146_86, q_0, q_1, q_2, q_3, q_4, q_5, q_6, q_7, q_8, q_9, q_10, q_11, q_12, q_13, q_14, q_16, q_20, q_23, q_24, q_32, q_42, q_43, q_45, q_47, q_48, q_50, q_57, q_59, q_60, q_61, q_62, q_63, q_64, q_66, q_91, q_93, q_97, q_99, q_122, q_144, q_255, q_256, q_300, q_380, q_400, q_620, q_999, q_1000, q_4095, q_4096, q_9999, q_65536, q_99999, q_31, nI_add, pk_mul, nE, nL, nT, nM31, nShl, ib_nI, nI_clamp, bI_n0, bI_n1, bI_nar, uI_r, uI_l, uL_r, uL_i, uL_p, uA_r, uA_l, bV_some, bU_some, nar_n0, nar_n1, and_self, and_true, true_and, and_false, false_and, if_true, if_false, eq_self, Bool.false_eq_true, Bool.true_eq_false, not_true_eq_false, not_false_eq_true, ↓reduceIte, nlT, nlF, ntT, ntF, neT, neF, ieT, ieF, decide_true, decide_false, Bool.not_true, Bool.not_false, Bool.and_true, Bool.true_and, Bool.and_false, Bool.false_and, Bool.or_true, Bool.true_or, Bool.or_false, Bool.false_or, h.sc, m_isAl h hw, e1, e2]
        exact ⟨_, rfl, FM.rf, h⟩
      | true =>
        by_cases e4 : a = b
        · simp (disch := omega) only [s146_0, s146_1, s146_4, s146_5, s146_6, s146_8, s146_10, s146_12, s146_15, s146_16, s146_17, s146_20, s146_23, s146_24, s146_25, s146_28, s146_31, s146_32, s146_33, s146_36, s146_37, s146_38, s146_39, s146_42, s146_45, s146_48, s146_49, s146_50, s146_51, s146_54, s146_56, s146_57, s146_58, s146_59, s146_62, s146_64, s146_65, s146_66, s146_67, s146_70, s146_72, s146_73, s146_74, s146_75, s146_78, s146_79, s146_80, s146_81, s146_82, s146_83, s146_84, s146_86, q_0, q_1, q_2, q_3, q_4, q_5, q_6, q_7, q_8, q_9, q_10, q_11, q_12, q_13, q_14, q_16, q_20, q_23, q_24, q_32, q_42, q_43, q_45, q_47, q_48, q_50, q_57, q_59, q_60, q_61, q_62, q_63, q_64, q_66, q_91, q_93, q_97, q_99, q_122, q_144, q_255, q_256, q_300, q_380, q_400, q_620, q_999, q_1000, q_4095, q_4096, q_9999, q_65536, q_99999, q_31, nI_add, pk_mul, nE, nL, nT, nM31, nShl, ib_nI, nI_clamp, bI_n0, bI_n1, bI_nar, uI_r, uI_l, uL_r, uL_i, uL_p, uA_r, uA_l, bV_some, bU_some, nar_n0, nar_n1, and_self, and_true, true_and, and_false, false_and, if_true, if_false, eq_self, Bool.false_eq_true, Bool.true_eq_false, not_true_eq_false, not_false_eq_true, ↓reduceIte, nlT, nlF, ntT, ntF, neT, neF, ieT, ieF, decide_true, decide_false, Bool.not_true, Bool.not_false, Bool.and_true, Bool.true_and, Bool.and_false, Bool.false_and, Bool.or_true, Bool.true_or, Bool.or_false, Bool.false_or, h.sc, m_isAl h hw, e1, e2, e4, ne_eq]
          exact ⟨_, rfl, FM.rf, h⟩
        · cases e3 : lsB u 1000 with
          | false =>
            simp (disch := omega) only [s146_0, s146_1, s146_4, s146_5, s146_6, s146_8, s146_10, s146_12, s146_15, s146_16, s146_17, s146_20, s146_23, s146_24, s146_25, s146_28, s146_31, s146_32, s146_33, s146_36, s146_37, s146_38, s146_39, s146_42, s146_45, s146_48, s146_49, s146_50, s146_51, s146_54, s146_56, s146_57, s146_58, s146_59, s146_62, s146_64, s146_65, s146_66, s146_67, s146_70, s146_72, s146_73, s146_74, s146_75, s146_78, s146_79, s146_80, s146_81, s146_82, s146_83, s146_84, s146_86, q_0, q_1, q_2, q_3, q_4, q_5, q_6, q_7, q_8, q_9, q_10, q_11, q_12, q_13, q_14, q_16, q_20, q_23, q_24, q_32, q_42, q_43, q_45, q_47, q_48, q_50, q_57, q_59, q_60, q_61, q_62, q_63, q_64, q_66, q_91, q_93, q_97, q_99, q_122, q_144, q_255, q_256, q_300, q_380, q_400, q_620, q_999, q_1000, q_4095, q_4096, q_9999, q_65536, q_99999, q_31, nI_add, pk_mul, nE, nL, nT, nM31, nShl, ib_nI, nI_clamp, bI_n0, bI_n1, bI_nar, uI_r, uI_l, uL_r, uL_i, uL_p, uA_r, uA_l, bV_some, bU_some, nar_n0, nar_n1, and_self, and_true, true_and, and_false, false_and, if_true, if_false, eq_self, Bool.false_eq_true, Bool.true_eq_false, not_true_eq_false, not_false_eq_true, ↓reduceIte, nlT, nlF, ntT, ntF, neT, neF, ieT, ieF, decide_true, decide_false, Bool.not_true, Bool.not_false, Bool.and_true, Bool.true_and, Bool.and_false, Bool.false_and, Bool.or_true, Bool.true_or, Bool.or_false, Bool.false_or, h.sc, m_isAl h hw, e1, e2, e4, ne_eq, min_1, min_2, min_3, min_20, min_60, min_99, min_999, min_9999, min_99999, e3]
            exact ⟨_, rfl, FM.rf, h⟩
          | true =>
            have e3' := e3
            obtain ⟨v, hv, rfl⟩ := lsB_t e3 (by decide)
            obtain ⟨i, hi, rfl, l1⟩ := alB_t hw e1
            obtain ⟨j, hj, rfl, l2⟩ := alB_t hw e2
            have hij : i ≠ j := fun q => e4 (by rw [q])
            simp (disch := omega) only [s146_0, s146_1, s146_4, s146_5, s146_6, s146_8, s146_10, s146_12, s146_15, s146_16, s146_17, s146_20, s146_23, s146_24, s146_25, s146_28, s146_31, s146_32, s146_33, s146_36, s146_37, s146_38, s146_39, s146_42, s146_45, s146_48, s146_49, s146_50, s146_51, s146_54, s146_56, s146_57, s146_58, s146_59, s146_62, s146_64, s146_65, s146_66, s146_67, s146_70, s146_72, s146_73, s146_74, s146_75, s146_78, s146_79, s146_80, s146_81, s146_82, s146_83, s146_84, s146_86, q_0, q_1, q_2, q_3, q_4, q_5, q_6, q_7, q_8, q_9, q_10, q_11, q_12, q_13, q_14, q_16, q_20, q_23, q_24, q_32, q_42, q_43, q_45, q_47, q_48, q_50, q_57, q_59, q_60, q_61, q_62, q_63, q_64, q_66, q_91, q_93, q_97, q_99, q_122, q_144, q_255, q_256, q_300, q_380, q_400, q_620, q_999, q_1000, q_4095, q_4096, q_9999, q_65536, q_99999, q_31, nI_add, pk_mul, nE, nL, nT, nM31, nShl, ib_nI, nI_clamp, bI_n0, bI_n1, bI_nar, uI_r, uI_l, uL_r, uL_i, uL_p, uA_r, uA_l, bV_some, bU_some, nar_n0, nar_n1, and_self, and_true, true_and, and_false, false_and, if_true, if_false, eq_self, Bool.false_eq_true, Bool.true_eq_false, not_true_eq_false, not_false_eq_true, ↓reduceIte, nlT, nlF, ntT, ntF, neT, neF, ieT, ieF, decide_true, decide_false, Bool.not_true, Bool.not_false, Bool.and_true, Bool.true_and, Bool.and_false, Bool.false_and, Bool.or_true, Bool.true_or, Bool.or_false, Bool.false_or, h.sc, m_isAl h hw, e1, e2, ne_eq, min_1, min_2, min_3, min_20, min_60, min_99, min_999, min_9999, min_99999, e3']
            refine ⟨_, rfl, ?_, ?_⟩
            · repeat' (first | exact FM.rf | refine FM.uI ?_ rfl (by decide))
            · exact (((h.set (f := 7) _ rfl rfl).set (f := 8) _ rfl rfl).set (f := 9) _ rfl rfl).set (f := 0) _ rfl rfl
  · simp (disch := omega) only [s146_0, s146_1, s146_4, s146_5, s146_6, s146_8, s146_10, s146_12, s146_15, s146_16, s146_17, s146_20, s146_23, s146_24, s146_25, s146_28, s146_31, s146_32, s146_33, s146_36, s146_37, s146_38, s146_39, s146_42, s146_45, s146_48, s146_49, s146_50, s146_51, s146_54, s146_56, s146_57, s146_58, s146_59, s146_62, s146_64, s146_65, s146_66, s146_67, s146_70, s146_72, s146_73, s146_74, s146_75, s146_78, s146_79, s146_80, s146_81, s146_82, s146_83, s146_84, s146_86, q_0, q_1, q_2, q_3, q_4, q_5, q_6, q_7, q_8, q_9, q_10, q_11, q_12, q_13, q_14, q_16, q_20, q_23, q_24, q_32, q_42, q_43, q_45, q_47, q_48, q_50, q_57, q_59, q_60, q_61, q_62, q_63, q_64, q_66, q_91, q_93, q_97, q_99, q_122, q_144, q_255, q_256, q_300, q_380, q_400, q_620, q_999, q_1000, q_4095, q_4096, q_9999, q_65536, q_99999, q_31, nI_add, pk_mul, nE, nL, nT, nM31, nShl, ib_nI, nI_clamp, bI_n0, bI_n1, bI_nar, uI_r, uI_l, uL_r, uL_i, uL_p, uA_r, uA_l, bV_some, bU_some, nar_n0, nar_n1, and_self, and_true, true_and, and_false, false_and, if_true, if_false, eq_self, Bool.false_eq_true, Bool.true_eq_false, not_true_eq_false, not_false_eq_true, ↓reduceIte, nlT, nlF, ntT, ntF, neT, neF, ieT, ieF, decide_true, decide_false, Bool.not_true, Bool.not_false, Bool.and_true, Bool.true_and, Bool.and_false, Bool.false_and, Bool.or_true, Bool.true_or, Bool.or_false, Bool.false_or, h.sc, e0]
    exact ⟨_, rfl, FM.rf, h⟩
def o_seed (A : Tn) (x : Int32) : Int32 × Tn := if x < nI 0 then (-nI 1, A) else (nI (A 0 5), uT A 0 5 x.toNatClampNeg)
theorem w_seed {A : Tn} (h : WF A) (x : Int32) : WF (o_seed A x).2 := by
  unfold o_seed
  split
  · exact h
  · rename_i e
    obtain ⟨j, hj, rfl⟩ := nI_of e
    rw [nI_clamp hj]
    exact h.s_dr hj
theorem c_seed {S : Sto} {A : Tn} (h : RepC S 0 A) (hw : WF A) (x : Int32) : ∃ S1, call 129 0 [vR 0 0, vI x] S = some (some (vI (o_seed A x).1), S1) ∧ FC S S1 ∧ RepC S1 0 (o_seed A x).2 := by
  show ∃ S1, run 129 0 0 [vR 0 0, vI x, vU] [] S = _ ∧ _
  unfold o_seed
  by_cases e : x < nI 0
  · have e2 : ¬ nI 0 ≤ x := Int32.not_le.mpr e
    simp (disch := omega) only [s129_0, s129_1, s129_4, s129_5, s129_6, s129_7, s129_10, s129_13, s129_14, s129_15, s129_18, s129_19, s129_22, s129_23, q_0, q_1, q_2, q_3, q_4, q_5, q_6, q_7, q_8, q_9, q_10, q_11, q_12, q_13, q_14, q_16, q_20, q_23, q_24, q_32, q_42, q_43, q_45, q_47, q_48, q_50, q_57, q_59, q_60, q_61, q_62, q_63, q_64, q_66, q_91, q_93, q_97, q_99, q_122, q_144, q_255, q_256, q_300, q_380, q_400, q_620, q_999, q_1000, q_4095, q_4096, q_9999, q_65536, q_99999, q_31, nI_add, pk_mul, nE, nL, nT, nM31, nShl, ib_nI, nI_clamp, bI_n0, bI_n1, bI_nar, uI_r, uI_l, uL_r, uL_i, uL_p, uA_r, uA_l, bV_some, bU_some, nar_n0, nar_n1, and_self, and_true, true_and, and_false, false_and, if_true, if_false, eq_self, Bool.false_eq_true, Bool.true_eq_false, not_true_eq_false, not_false_eq_true, ↓reduceIte, nlT, nlF, ntT, ntF, neT, neF, ieT, ieF, decide_true, decide_false, Bool.not_true, Bool.not_false, Bool.and_true, Bool.true_and, Bool.and_false, Bool.false_and, Bool.or_true, Bool.true_or, Bool.or_false, Bool.false_or, e, e2]
    exact ⟨_, rfl, FC.rf, h⟩
  · obtain ⟨j, hj, rfl⟩ := nI_of e
    simp (disch := omega) only [s129_0, s129_1, s129_4, s129_5, s129_6, s129_7, s129_10, s129_13, s129_14, s129_15, s129_18, s129_19, s129_22, s129_23, q_0, q_1, q_2, q_3, q_4, q_5, q_6, q_7, q_8, q_9, q_10, q_11, q_12, q_13, q_14, q_16, q_20, q_23, q_24, q_32, q_42, q_43, q_45, q_47, q_48, q_50, q_57, q_59, q_60, q_61, q_62, q_63, q_64, q_66, q_91, q_93, q_97, q_99, q_122, q_144, q_255, q_256, q_300, q_380, q_400, q_620, q_999, q_1000, q_4095, q_4096, q_9999, q_65536, q_99999, q_31, nI_add, pk_mul, nE, nL, nT, nM31, nShl, ib_nI, nI_clamp, bI_n0, bI_n1, bI_nar, uI_r, uI_l, uL_r, uL_i, uL_p, uA_r, uA_l, bV_some, bU_some, nar_n0, nar_n1, and_self, and_true, true_and, and_false, false_and, if_true, if_false, eq_self, Bool.false_eq_true, Bool.true_eq_false, not_true_eq_false, not_false_eq_true, ↓reduceIte, nlT, nlF, ntT, ntF, neT, neF, ieT, ieF, decide_true, decide_false, Bool.not_true, Bool.not_false, Bool.and_true, Bool.true_and, Bool.and_false, Bool.false_and, Bool.or_true, Bool.true_or, Bool.or_false, Bool.false_or, h.dr]
    refine ⟨_, rfl, ?_, ?_⟩
    · repeat' (first | exact FC.rf | refine FC.uI ?_ rfl (by decide))
    · exact h.s_dr _ rfl
theorem r_seed {S : Sto} {A : Tn} (h : RepM S A) (hw : WF A) (x : Int32) : ∃ S1, call 254 0 [vR 50 0, vI x] S = some (some (vI (o_seed A x).1), S1) ∧ FM S S1 ∧ RepM S1 (o_seed A x).2 := by
  show ∃ S1, run 254 0 0 [vR 50 0, vI x, vU] [] S = _ ∧ _
  unfold o_seed
  by_cases e : x < nI 0
  · have e2 : ¬ nI 0 ≤ x := Int32.not_le.mpr e
    simp (disch := omega) only [s254_0, s254_1, s254_4, s254_5, s254_6, s254_7, s254_10, s254_11, s254_12, s254_13, s254_14, s254_17, s254_18, s254_19, s254_20, s254_21, q_0, q_1, q_2, q_3, q_4, q_5, q_6, q_7, q_8, q_9, q_10, q_11, q_12, q_13, q_14, q_16, q_20, q_23, q_24, q_32, q_42, q_43, q_45, q_47, q_48, q_50, q_57, q_59, q_60, q_61, q_62, q_63, q_64, q_66, q_91, q_93, q_97, q_99, q_122, q_144, q_255, q_256, q_300, q_380, q_400, q_620, q_999, q_1000, q_4095, q_4096, q_9999, q_65536, q_99999, q_31, nI_add, pk_mul, nE, nL, nT, nM31, nShl, ib_nI, nI_clamp, bI_n0, bI_n1, bI_nar, uI_r, uI_l, uL_r, uL_i, uL_p, uA_r, uA_l, bV_some, bU_some, nar_n0, nar_n1, and_self, and_true, true_and, and_false, false_and, if_true, if_false, eq_self, Bool.false_eq_true, Bool.true_eq_false, not_true_eq_false, not_false_eq_true, ↓reduceIte, nlT, nlF, ntT, ntF, neT, neF, ieT, ieF, decide_true, decide_false, Bool.not_true, Bool.not_false, Bool.and_true, Bool.true_and, Bool.and_false, Bool.false_and, Bool.or_true, Bool.true_or, Bool.or_false, Bool.false_or, e, e2]
    exact ⟨_, rfl, FM.rf, h⟩
  · obtain ⟨j, hj, rfl⟩ := nI_of e
    simp (disch := omega) only [s254_0, s254_1, s254_4, s254_5, s254_6, s254_7, s254_10, s254_11, s254_12, s254_13, s254_14, s254_17, s254_18, s254_19, s254_20, s254_21, q_0, q_1, q_2, q_3, q_4, q_5, q_6, q_7, q_8, q_9, q_10, q_11, q_12, q_13, q_14, q_16, q_20, q_23, q_24, q_32, q_42, q_43, q_45, q_47, q_48, q_50, q_57, q_59, q_60, q_61, q_62, q_63, q_64, q_66, q_91, q_93, q_97, q_99, q_122, q_144, q_255, q_256, q_300, q_380, q_400, q_620, q_999, q_1000, q_4095, q_4096, q_9999, q_65536, q_99999, q_31, nI_add, pk_mul, nE, nL, nT, nM31, nShl, ib_nI, nI_clamp, bI_n0, bI_n1, bI_nar, uI_r, uI_l, uL_r, uL_i, uL_p, uA_r, uA_l, bV_some, bU_some, nar_n0, nar_n1, and_self, and_true, true_and, and_false, false_and, if_true, if_false, eq_self, Bool.false_eq_true, Bool.true_eq_false, not_true_eq_false, not_false_eq_true, ↓reduceIte, nlT, nlF, ntT, ntF, neT, neF, ieT, ieF, decide_true, decide_false, Bool.not_true, Bool.not_false, Bool.and_true, Bool.true_and, Bool.and_false, Bool.false_and, Bool.or_true, Bool.true_or, Bool.or_false, Bool.false_or, h.sc]
    refine ⟨_, rfl, ?_, ?_⟩
    · repeat' (first | exact FM.rf | refine FM.uI ?_ rfl (by decide))
    · exact h.set (f := 0) _ rfl rfl
def o_row (A : Tn) (x : Int32) : Int32 × Tn := if x = -nI 1 then (nI 0, uT A 0 3 0) else if lsB x (A 0 2) = true ∧ A 0 3 < 12 then (nI (A 0 3 + 1), uT (uT A 15 (A 0 3) x.toNatClampNeg) 0 3 (A 0 3 + 1)) else (-nI 2, A)
theorem w_row {A : Tn} (h : WF A) (x : Int32) : WF (o_row A x).2 := by
  have hW := h.wk
  have hR := h.nr
  unfold o_row
  split
  · show WF (uT A 0 3 0)
    refine ⟨⟨h.1.1, h.1.2.1, h.1.2.2.1, ?_, h.1.2.2.2.2⟩, h.2.1, h.2.2.1, h.2.2.2.1, h.2.2.2.2.1, h.2.2.2.2.2.1, h.2.2.2.2.2.2.1, fun k hk => ?_, h.2.2.2.2.2.2.2.2⟩
    · simp (disch := omega) only [uT_r, uQ_r, and_self, and_true, true_and, and_false, false_and, if_true, if_false, if_pos, if_neg]; omega
    · have : uT A 0 3 0 0 3 = 0 := rfl
      omega
  · split
    · rename_i e
      obtain ⟨j, hj, rfl⟩ := lsB_t e.1 (by omega)
      rw [nI_clamp (by omega)]
      show WF (uT (uT A 15 (A 0 3) j) 0 3 (A 0 3 + 1))
      have e3 : uT (uT A 15 (A 0 3) j) 0 3 (A 0 3 + 1) 0 3 = A 0 3 + 1 := rfl
      refine ⟨⟨h.1.1, h.1.2.1, h.1.2.2.1, ?_, h.1.2.2.2.2⟩, h.2.1, h.2.2.1, h.2.2.2.1, h.2.2.2.2.1, h.2.2.2.2.2.1, h.2.2.2.2.2.2.1, fun k hk => ?_, h.2.2.2.2.2.2.2.2.1, fun w hw => ?_⟩
      · simp (disch := omega) only [uT_r, uQ_r, and_self, and_true, true_and, and_false, false_and, if_true, if_false, if_pos, if_neg]; omega
      · by_cases e1 : k = A 0 3
        · subst e1
          simp (disch := omega) only [uT_r, uQ_r, and_self, and_true, true_and, and_false, false_and, if_true, if_false, if_pos, if_neg]
          exact hj
        · have := h.ro (k := k) (by omega)
          simp (disch := omega) only [uT_r, uQ_r, and_self, and_true, true_and, and_false, false_and, if_true, if_false, if_pos, if_neg]
          exact this
      · have h1 := h.W hw
        by_cases e1 : w = A 0 3
        · subst e1
          simp (disch := omega) only [uT_r, uQ_r, and_self, and_true, true_and, and_false, false_and, if_true, if_false, if_pos, if_neg]
          omega
        · simp (disch := omega) only [uT_r, uQ_r, and_self, and_true, true_and, and_false, false_and, if_true, if_false, if_pos, if_neg]
          exact h1
    · exact h
theorem c_row {S : Sto} {A : Tn} (h : RepC S 0 A) (hw : WF A) (x : Int32) : ∃ S1, call 115 0 [vR 0 0, vI x] S = some (some (vI (o_row A x).1), S1) ∧ FC S S1 ∧ RepC S1 0 (o_row A x).2 := by
  have hW := hw.wk
  have hR := hw.nr
  show ∃ S1, run 115 0 0 [vR 0 0, vI x] [] S = _ ∧ _
  unfold o_row
  by_cases e0 : x = -nI 1
  · simp (disch := omega) only [s115_0, s115_1, s115_2, s115_5, s115_6, s115_9, s115_10, s115_13, s115_14, s115_15, s115_16, s115_19, s115_20, s115_23, s115_26, s115_27, s115_30, s115_33, s115_35, s115_38, s115_40, s115_41, s115_42, s115_45, s115_48, s115_49, s115_52, s115_53, s115_56, s115_57, s115_58, s115_59, s115_62, s115_63, s115_64, s115_65, s115_68, s115_71, q_0, q_1, q_2, q_3, q_4, q_5, q_6, q_7, q_8, q_9, q_10, q_11, q_12, q_13, q_14, q_16, q_20, q_23, q_24, q_32, q_42, q_43, q_45, q_47, q_48, q_50, q_57, q_59, q_60, q_61, q_62, q_63, q_64, q_66, q_91, q_93, q_97, q_99, q_122, q_144, q_255, q_256, q_300, q_380, q_400, q_620, q_999, q_1000, q_4095, q_4096, q_9999, q_65536, q_99999, q_31, nI_add, pk_mul, nE, nL, nT, nM31, nShl, ib_nI, nI_clamp, bI_n0, bI_n1, bI_nar, uI_r, uI_l, uL_r, uL_i, uL_p, uA_r, uA_l, bV_some, bU_some, nar_n0, nar_n1, and_self, and_true, true_and, and_false, false_and, if_true, if_false, eq_self, Bool.false_eq_true, Bool.true_eq_false, not_true_eq_false, not_false_eq_true, ↓reduceIte, nlT, nlF, ntT, ntF, neT, neF, ieT, ieF, decide_true, decide_false, Bool.not_true, Bool.not_false, Bool.and_true, Bool.true_and, Bool.and_false, Bool.false_and, Bool.or_true, Bool.true_or, Bool.or_false, Bool.false_or, e0]
    refine ⟨_, rfl, ?_, ?_⟩
    · repeat' (first | exact FC.rf | refine FC.uI ?_ rfl (by decide))
    · exact h.s_nr _ rfl
  · cases e1 : lsB x (A 0 2) with
    | false =>
      simp (disch := omega) only [s115_0, s115_1, s115_2, s115_5, s115_6, s115_9, s115_10, s115_13, s115_14, s115_15, s115_16, s115_19, s115_20, s115_23, s115_26, s115_27, s115_30, s115_33, s115_35, s115_38, s115_40, s115_41, s115_42, s115_45, s115_48, s115_49, s115_52, s115_53, s115_56, s115_57, s115_58, s115_59, s115_62, s115_63, s115_64, s115_65, s115_68, s115_71, q_0, q_1, q_2, q_3, q_4, q_5, q_6, q_7, q_8, q_9, q_10, q_11, q_12, q_13, q_14, q_16, q_20, q_23, q_24, q_32, q_42, q_43, q_45, q_47, q_48, q_50, q_57, q_59, q_60, q_61, q_62, q_63, q_64, q_66, q_91, q_93, q_97, q_99, q_122, q_144, q_255, q_256, q_300, q_380, q_400, q_620, q_999, q_1000, q_4095, q_4096, q_9999, q_65536, q_99999, q_31, nI_add, pk_mul, nE, nL, nT, nM31, nShl, ib_nI, nI_clamp, bI_n0, bI_n1, bI_nar, uI_r, uI_l, uL_r, uL_i, uL_p, uA_r, uA_l, bV_some, bU_some, nar_n0, nar_n1, and_self, and_true, true_and, and_false, false_and, if_true, if_false, eq_self, Bool.false_eq_true, Bool.true_eq_false, not_true_eq_false, not_false_eq_true, ↓reduceIte, nlT, nlF, ntT, ntF, neT, neF, ieT, ieF, decide_true, decide_false, Bool.not_true, Bool.not_false, Bool.and_true, Bool.true_and, Bool.and_false, Bool.false_and, Bool.or_true, Bool.true_or, Bool.or_false, Bool.false_or, e0, x_isW h, e1]
      exact ⟨_, rfl, FC.rf, h⟩
    | true =>
      have e1' := e1
      obtain ⟨j, hj, rfl⟩ := lsB_t e1 (by omega)
      by_cases e2 : A 0 3 < 12
      · simp (disch := omega) only [s115_0, s115_1, s115_2, s115_5, s115_6, s115_9, s115_10, s115_13, s115_14, s115_15, s115_16, s115_19, s115_20, s115_23, s115_26, s115_27, s115_30, s115_33, s115_35, s115_38, s115_40, s115_41, s115_42, s115_45, s115_48, s115_49, s115_52, s115_53, s115_56, s115_57, s115_58, s115_59, s115_62, s115_63, s115_64, s115_65, s115_68, s115_71, q_0, q_1, q_2, q_3, q_4, q_5, q_6, q_7, q_8, q_9, q_10, q_11, q_12, q_13, q_14, q_16, q_20, q_23, q_24, q_32, q_42, q_43, q_45, q_47, q_48, q_50, q_57, q_59, q_60, q_61, q_62, q_63, q_64, q_66, q_91, q_93, q_97, q_99, q_122, q_144, q_255, q_256, q_300, q_380, q_400, q_620, q_999, q_1000, q_4095, q_4096, q_9999, q_65536, q_99999, q_31, nI_add, pk_mul, nE, nL, nT, nM31, nShl, ib_nI, nI_clamp, bI_n0, bI_n1, bI_nar, uI_r, uI_l, uL_r, uL_i, uL_p, uA_r, uA_l, bV_some, bU_some, nar_n0, nar_n1, and_self, and_true, true_and, and_false, false_and, if_true, if_false, eq_self, Bool.false_eq_true, Bool.true_eq_false, not_true_eq_false, not_false_eq_true, ↓reduceIte, nlT, nlF, ntT, ntF, neT, neF, ieT, ieF, decide_true, decide_false, Bool.not_true, Bool.not_false, Bool.and_true, Bool.true_and, Bool.and_false, Bool.false_and, Bool.or_true, Bool.true_or, Bool.or_false, Bool.false_or, e0, x_isW h, e1', h.nr]
        refine ⟨_, rfl, ?_, ?_⟩
        · repeat' (first | exact FC.rf | refine FC.uI ?_ rfl (by decide))
        · refine RepC.ext ((h.s_nr _ rfl).s_ro _ _ rfl) ?_
          (funext g k; simp only [uT_r, uQ_r]; repeat' split) <;> first | rfl | omega
      · simp (disch := omega) only [s115_0, s115_1, s115_2, s115_5, s115_6, s115_9, s115_10, s115_13, s115_14, s115_15, s115_16, s115_19, s115_20, s115_23, s115_26, s115_27, s115_30, s115_33, s115_35, s115_38, s115_40, s115_41, s115_42, s115_45, s115_48, s115_49, s115_52, s115_53, s115_56, s115_57, s115_58, s115_59, s115_62, s115_63, s115_64, s115_65, s115_68, s115_71, q_0, q_1, q_2, q_3, q_4, q_5, q_6, q_7, q_8, q_9, q_10, q_11, q_12, q_13, q_14, q_16, q_20, q_23, q_24, q_32, q_42, q_43, q_45, q_47, q_48, q_50, q_57, q_59, q_60, q_61, q_62, q_63, q_64, q_66, q_91, q_93, q_97, q_99, q_122, q_144, q_255, q_256, q_300, q_380, q_400, q_620, q_999, q_1000, q_4095, q_4096, q_9999, q_65536, q_99999, q_31, nI_add, pk_mul, nE, nL, nT, nM31, nShl, ib_nI, nI_clamp, bI_n0, bI_n1, bI_nar, uI_r, uI_l, uL_r, uL_i, uL_p, uA_r, uA_l, bV_some, bU_some, nar_n0, nar_n1, and_self, and_true, true_and, and_false, false_and, if_true, if_false, eq_self, Bool.false_eq_true, Bool.true_eq_false, not_true_eq_false, not_false_eq_true, ↓reduceIte, nlT, nlF, ntT, ntF, neT, neF, ieT, ieF, decide_true, decide_false, Bool.not_true, Bool.not_false, Bool.and_true, Bool.true_and, Bool.and_false, Bool.false_and, Bool.or_true, Bool.true_or, Bool.or_false, Bool.false_or, e0, x_isW h, e1', h.nr]
        exact ⟨_, rfl, FC.rf, h⟩
theorem r_row {S : Sto} {A : Tn} (h : RepM S A) (hw : WF A) (x : Int32) : ∃ S1, call 213 0 [vR 50 0, vI x] S = some (some (vI (o_row A x).1), S1) ∧ FM S S1 ∧ RepM S1 (o_row A x).2 := by
  have hW := hw.wk
  have hR := hw.nr
  show ∃ S1, run 213 0 0 [vR 50 0, vI x] [] S = _ ∧ _
  unfold o_row
  by_cases e0 : x = -nI 1
  · simp (disch := omega) only [s213_0, s213_1, s213_2, s213_5, s213_6, s213_9, s213_10, s213_11, s213_12, s213_13, s213_14, s213_15, s213_16, s213_19, s213_22, s213_23, s213_26, s213_27, s213_28, s213_30, s213_33, s213_35, s213_36, s213_37, s213_40, s213_41, s213_44, s213_45, s213_46, s213_47, s213_48, s213_49, s213_52, s213_53, s213_54, s213_55, s213_56, s213_57, s213_58, s213_59, s213_62, s213_63, s213_64, q_0, q_1, q_2, q_3, q_4, q_5, q_6, q_7, q_8, q_9, q_10, q_11, q_12, q_13, q_14, q_16, q_20, q_23, q_24, q_32, q_42, q_43, q_45, q_47, q_48, q_50, q_57, q_59, q_60, q_61, q_62, q_63, q_64, q_66, q_91, q_93, q_97, q_99, q_122, q_144, q_255, q_256, q_300, q_380, q_400, q_620, q_999, q_1000, q_4095, q_4096, q_9999, q_65536, q_99999, q_31, nI_add, pk_mul, nE, nL, nT, nM31, nShl, ib_nI, nI_clamp, bI_n0, bI_n1, bI_nar, uI_r, uI_l, uL_r, uL_i, uL_p, uA_r, uA_l, bV_some, bU_some, nar_n0, nar_n1, and_self, and_true, true_and, and_false, false_and, if_true, if_false, eq_self, Bool.false_eq_true, Bool.true_eq_false, not_true_eq_false, not_false_eq_true, ↓reduceIte, nlT, nlF, ntT, ntF, neT, neF, ieT, ieF, decide_true, decide_false, Bool.not_true, Bool.not_false, Bool.and_true, Bool.true_and, Bool.and_false, Bool.false_and, Bool.or_true, Bool.true_or, Bool.or_false, Bool.false_or, e0]
    refine ⟨_, rfl, ?_, ?_⟩
    · repeat' (first | exact FM.rf | refine FM.uI ?_ rfl (by decide))
    · exact h.set (f := 0) _ rfl rfl
  · cases e1 : lsB x (A 0 2) with
    | false =>
      simp (disch := omega) only [s213_0, s213_1, s213_2, s213_5, s213_6, s213_9, s213_10, s213_11, s213_12, s213_13, s213_14, s213_15, s213_16, s213_19, s213_22, s213_23, s213_26, s213_27, s213_28, s213_30, s213_33, s213_35, s213_36, s213_37, s213_40, s213_41, s213_44, s213_45, s213_46, s213_47, s213_48, s213_49, s213_52, s213_53, s213_54, s213_55, s213_56, s213_57, s213_58, s213_59, s213_62, s213_63, s213_64, q_0, q_1, q_2, q_3, q_4, q_5, q_6, q_7, q_8, q_9, q_10, q_11, q_12, q_13, q_14, q_16, q_20, q_23, q_24, q_32, q_42, q_43, q_45, q_47, q_48, q_50, q_57, q_59, q_60, q_61, q_62, q_63, q_64, q_66, q_91, q_93, q_97, q_99, q_122, q_144, q_255, q_256, q_300, q_380, q_400, q_620, q_999, q_1000, q_4095, q_4096, q_9999, q_65536, q_99999, q_31, nI_add, pk_mul, nE, nL, nT, nM31, nShl, ib_nI, nI_clamp, bI_n0, bI_n1, bI_nar, uI_r, uI_l, uL_r, uL_i, uL_p, uA_r, uA_l, bV_some, bU_some, nar_n0, nar_n1, and_self, and_true, true_and, and_false, false_and, if_true, if_false, eq_self, Bool.false_eq_true, Bool.true_eq_false, not_true_eq_false, not_false_eq_true, ↓reduceIte, nlT, nlF, ntT, ntF, neT, neF, ieT, ieF, decide_true, decide_false, Bool.not_true, Bool.not_false, Bool.and_true, Bool.true_and, Bool.and_false, Bool.false_and, Bool.or_true, Bool.true_or, Bool.or_false, Bool.false_or, e0, m_isW h hw, e1]
      exact ⟨_, rfl, FM.rf, h⟩
    | true =>
      have e1' := e1
      obtain ⟨j, hj, rfl⟩ := lsB_t e1 (by omega)
      by_cases e2 : A 0 3 < 12
      · simp (disch := omega) only [s213_0, s213_1, s213_2, s213_5, s213_6, s213_9, s213_10, s213_11, s213_12, s213_13, s213_14, s213_15, s213_16, s213_19, s213_22, s213_23, s213_26, s213_27, s213_28, s213_30, s213_33, s213_35, s213_36, s213_37, s213_40, s213_41, s213_44, s213_45, s213_46, s213_47, s213_48, s213_49, s213_52, s213_53, s213_54, s213_55, s213_56, s213_57, s213_58, s213_59, s213_62, s213_63, s213_64, q_0, q_1, q_2, q_3, q_4, q_5, q_6, q_7, q_8, q_9, q_10, q_11, q_12, q_13, q_14, q_16, q_20, q_23, q_24, q_32, q_42, q_43, q_45, q_47, q_48, q_50, q_57, q_59, q_60, q_61, q_62, q_63, q_64, q_66, q_91, q_93, q_97, q_99, q_122, q_144, q_255, q_256, q_300, q_380, q_400, q_620, q_999, q_1000, q_4095, q_4096, q_9999, q_65536, q_99999, q_31, nI_add, pk_mul, nE, nL, nT, nM31, nShl, ib_nI, nI_clamp, bI_n0, bI_n1, bI_nar, uI_r, uI_l, uL_r, uL_i, uL_p, uA_r, uA_l, bV_some, bU_some, nar_n0, nar_n1, and_self, and_true, true_and, and_false, false_and, if_true, if_false, eq_self, Bool.false_eq_true, Bool.true_eq_false, not_true_eq_false, not_false_eq_true, ↓reduceIte, nlT, nlF, ntT, ntF, neT, neF, ieT, ieF, decide_true, decide_false, Bool.not_true, Bool.not_false, Bool.and_true, Bool.true_and, Bool.and_false, Bool.false_and, Bool.or_true, Bool.true_or, Bool.or_false, Bool.false_or, e0, m_isW h hw, e1', h.sc]
        refine ⟨_, rfl, ?_, ?_⟩
        · repeat' (first | exact FM.rf | refine FM.uI ?_ rfl (by decide))
        · exact (h.set (f := 15) _ rfl rfl).set (f := 0) _ rfl rfl
      · simp (disch := omega) only [s213_0, s213_1, s213_2, s213_5, s213_6, s213_9, s213_10, s213_11, s213_12, s213_13, s213_14, s213_15, s213_16, s213_19, s213_22, s213_23, s213_26, s213_27, s213_28, s213_30, s213_33, s213_35, s213_36, s213_37, s213_40, s213_41, s213_44, s213_45, s213_46, s213_47, s213_48, s213_49, s213_52, s213_53, s213_54, s213_55, s213_56, s213_57, s213_58, s213_59, s213_62, s213_63, s213_64, q_0, q_1, q_2, q_3, q_4, q_5, q_6, q_7, q_8, q_9, q_10, q_11, q_12, q_13, q_14, q_16, q_20, q_23, q_24, q_32, q_42, q_43, q_45, q_47, q_48, q_50, q_57, q_59, q_60, q_61, q_62, q_63, q_64, q_66, q_91, q_93, q_97, q_99, q_122, q_144, q_255, q_256, q_300, q_380, q_400, q_620, q_999, q_1000, q_4095, q_4096, q_9999, q_65536, q_99999, q_31, nI_add, pk_mul, nE, nL, nT, nM31, nShl, ib_nI, nI_clamp, bI_n0, bI_n1, bI_nar, uI_r, uI_l, uL_r, uL_i, uL_p, uA_r, uA_l, bV_some, bU_some, nar_n0, nar_n1, and_self, and_true, true_and, and_false, false_and, if_true, if_false, eq_self, Bool.false_eq_true, Bool.true_eq_false, not_true_eq_false, not_false_eq_true, ↓reduceIte, nlT, nlF, ntT, ntF, neT, neF, ieT, ieF, decide_true, decide_false, Bool.not_true, Bool.not_false, Bool.and_true, Bool.true_and, Bool.and_false, Bool.false_and, Bool.or_true, Bool.true_or, Bool.or_false, Bool.false_or, e0, m_isW h hw, e1', h.sc]
        exact ⟨_, rfl, FM.rf, h⟩
