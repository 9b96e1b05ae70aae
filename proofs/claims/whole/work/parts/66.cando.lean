/-! can, bars, does -/
theorem FC.pt {S S' : Sto} {q : Nat} (hq : q ≤ 1) (h : Fr (pT q) S S') : FC S S' := FC.of h (by
  intro t i hp
  unfold pT at hp
  unfold pcP
  simp only [Bool.or_eq_true, Bool.and_eq_true, decide_eq_true_eq, beq_iff_eq] at hp ⊢
  omega) (pT_f (by omega))
def o_can (A : Tn) (R : Rs) (l w : Int32) : Int32 := if (lsB l R.2.1.1 && lsB w (A 0 2)) = true then bI (caB A (R.2.1.2 l.toNatClampNeg) w.toNatClampNeg) else -nI 1
theorem c_can {S : Sto} {A : Tn} {R : Rs} (h : RepC S 0 A) (hr : ResC S R) (hw : WF A) (hR : WFR R) (l w : Int32) : ∃ S1, call 112 0 [vR 0 0, vI l, vI w] S = some (some (vI (o_can A R l w)), S1) ∧ FC S S1 ∧ RepC S1 0 A := by
  have hWk := hw.wk
  have hR6 := hR.2.1.1
  show ∃ S1, run 112 0 0 [vR 0 0, vI l, vI w] [] S = _ ∧ _
  unfold o_can
  cases e1 : lsB l R.2.1.1 with
  | false =>
    simp (disch := omega) only [s112_0, s112_1, s112_2, s112_5, s112_8, s112_9, s112_12, s112_13, s112_16, s112_19, s112_20, s112_21, s112_22, s112_25, s112_26, s112_29, s112_30, s112_33, s112_34, s112_35, s112_36, s112_39, s112_42, s112_43, s112_46, s112_47, q_0, q_1, q_2, q_3, q_4, q_5, q_6, q_7, q_8, q_9, q_10, q_11, q_12, q_13, q_14, q_16, q_20, q_23, q_24, q_32, q_42, q_43, q_45, q_47, q_48, q_50, q_57, q_59, q_60, q_61, q_62, q_63, q_64, q_66, q_91, q_93, q_97, q_99, q_122, q_144, q_255, q_256, q_300, q_380, q_400, q_620, q_999, q_1000, q_4095, q_4096, q_9999, q_65536, q_99999, q_31, nI_add, pk_mul, nE, nL, nT, nM31, nShl, ib_nI, nI_clamp, bI_n0, bI_n1, bI_nar, uI_r, uI_l, uL_r, uL_i, uL_p, uA_r, uA_l, bV_some, bU_some, nar_n0, nar_n1, and_self, and_true, true_and, and_false, false_and, if_true, if_false, eq_self, Bool.false_eq_true, Bool.true_eq_false, not_true_eq_false, not_false_eq_true, ↓reduceIte, nlT, nlF, ntT, ntF, neT, neF, ieT, ieF, decide_true, decide_false, Bool.not_true, Bool.not_false, Bool.and_true, Bool.true_and, Bool.and_false, Bool.false_and, Bool.or_true, Bool.true_or, Bool.or_false, Bool.false_or, x_isLw hr, e1]
    exact ⟨_, rfl, FC.rf, h⟩
  | true =>
    have e1' := e1
    obtain ⟨r, hr', rfl⟩ := lsB_t e1 (by omega)
    cases e2 : lsB w (A 0 2) with
    | false =>
      simp (disch := omega) only [s112_0, s112_1, s112_2, s112_5, s112_8, s112_9, s112_12, s112_13, s112_16, s112_19, s112_20, s112_21, s112_22, s112_25, s112_26, s112_29, s112_30, s112_33, s112_34, s112_35, s112_36, s112_39, s112_42, s112_43, s112_46, s112_47, q_0, q_1, q_2, q_3, q_4, q_5, q_6, q_7, q_8, q_9, q_10, q_11, q_12, q_13, q_14, q_16, q_20, q_23, q_24, q_32, q_42, q_43, q_45, q_47, q_48, q_50, q_57, q_59, q_60, q_61, q_62, q_63, q_64, q_66, q_91, q_93, q_97, q_99, q_122, q_144, q_255, q_256, q_300, q_380, q_400, q_620, q_999, q_1000, q_4095, q_4096, q_9999, q_65536, q_99999, q_31, nI_add, pk_mul, nE, nL, nT, nM31, nShl, ib_nI, nI_clamp, bI_n0, bI_n1, bI_nar, uI_r, uI_l, uL_r, uL_i, uL_p, uA_r, uA_l, bV_some, bU_some, nar_n0, nar_n1, and_self, and_true, true_and, and_false, false_and, if_true, if_false, eq_self, Bool.false_eq_true, Bool.true_eq_false, not_true_eq_false, not_false_eq_true, ↓reduceIte, nlT, nlF, ntT, ntF, neT, neF, ieT, ieF, decide_true, decide_false, Bool.not_true, Bool.not_false, Bool.and_true, Bool.true_and, Bool.and_false, Bool.false_and, Bool.or_true, Bool.true_or, Bool.or_false, Bool.false_or, x_isLw hr, e1', x_isW h, e2]
      exact ⟨_, rfl, FC.rf, h⟩
    | true =>
      have e2' := e2
      obtain ⟨j, hj, rfl⟩ := lsB_t e2 (by omega)
      obtain ⟨S1, a1, a2, _⟩ := x_canBe h hw (hr.2.1.2 r hr') (hR.2.1.2 r hr') hj
      cases e3 : caB A (R.2.1.2 r) j with
      | false =>
        rw [e3] at a1
        simp (disch := omega) only [s112_0, s112_1, s112_2, s112_5, s112_8, s112_9, s112_12, s112_13, s112_16, s112_19, s112_20, s112_21, s112_22, s112_25, s112_26, s112_29, s112_30, s112_33, s112_34, s112_35, s112_36, s112_39, s112_42, s112_43, s112_46, s112_47, q_0, q_1, q_2, q_3, q_4, q_5, q_6, q_7, q_8, q_9, q_10, q_11, q_12, q_13, q_14, q_16, q_20, q_23, q_24, q_32, q_42, q_43, q_45, q_47, q_48, q_50, q_57, q_59, q_60, q_61, q_62, q_63, q_64, q_66, q_91, q_93, q_97, q_99, q_122, q_144, q_255, q_256, q_300, q_380, q_400, q_620, q_999, q_1000, q_4095, q_4096, q_9999, q_65536, q_99999, q_31, nI_add, pk_mul, nE, nL, nT, nM31, nShl, ib_nI, nI_clamp, bI_n0, bI_n1, bI_nar, uI_r, uI_l, uL_r, uL_i, uL_p, uA_r, uA_l, bV_some, bU_some, nar_n0, nar_n1, and_self, and_true, true_and, and_false, false_and, if_true, if_false, eq_self, Bool.false_eq_true, Bool.true_eq_false, not_true_eq_false, not_false_eq_true, ↓reduceIte, nlT, nlF, ntT, ntF, neT, neF, ieT, ieF, decide_true, decide_false, Bool.not_true, Bool.not_false, Bool.and_true, Bool.true_and, Bool.and_false, Bool.false_and, Bool.or_true, Bool.true_or, Bool.or_false, Bool.false_or, x_isLw hr, e1', x_isW h, e2', a1, Nat.zero_add, e3]
        exact ⟨_, rfl, FC.pl a2 (by decide), h.pl a2 (by decide)⟩
      | true =>
        rw [e3] at a1
        simp (disch := omega) only [s112_0, s112_1, s112_2, s112_5, s112_8, s112_9, s112_12, s112_13, s112_16, s112_19, s112_20, s112_21, s112_22, s112_25, s112_26, s112_29, s112_30, s112_33, s112_34, s112_35, s112_36, s112_39, s112_42, s112_43, s112_46, s112_47, q_0, q_1, q_2, q_3, q_4, q_5, q_6, q_7, q_8, q_9, q_10, q_11, q_12, q_13, q_14, q_16, q_20, q_23, q_24, q_32, q_42, q_43, q_45, q_47, q_48, q_50, q_57, q_59, q_60, q_61, q_62, q_63, q_64, q_66, q_91, q_93, q_97, q_99, q_122, q_144, q_255, q_256, q_300, q_380, q_400, q_620, q_999, q_1000, q_4095, q_4096, q_9999, q_65536, q_99999, q_31, nI_add, pk_mul, nE, nL, nT, nM31, nShl, ib_nI, nI_clamp, bI_n0, bI_n1, bI_nar, uI_r, uI_l, uL_r, uL_i, uL_p, uA_r, uA_l, bV_some, bU_some, nar_n0, nar_n1, and_self, and_true, true_and, and_false, false_and, if_true, if_false, eq_self, Bool.false_eq_true, Bool.true_eq_false, not_true_eq_false, not_false_eq_true, ↓reduceIte, nlT, nlF, ntT, ntF, neT, neF, ieT, ieF, decide_true, decide_false, Bool.not_true, Bool.not_false, Bool.and_true, Bool.true_and, Bool.and_false, Bool.false_and, Bool.or_true, Bool.true_or, Bool.or_false, Bool.false_or, x_isLw hr, e1', x_isW h, e2', a1, Nat.zero_add, e3]
        exact ⟨_, rfl, FC.pl a2 (by decide), h.pl a2 (by decide)⟩
theorem r_can {S : Sto} {A : Tn} {R : Rs} (h : RepM S A) (hr : ResM S R) (hw : WF A) (hR : WFR R) (l w : Int32) : ∃ S1, call 204 0 [vR 50 0, vI l, vI w] S = some (some (vI (o_can A R l w)), S1) ∧ FM S S1 ∧ RepM S1 A := by
  have hWk := hw.wk
  have hR6 := hR.2.1.1
  show ∃ S1, run 204 0 0 [vR 50 0, vI l, vI w] [] S = _ ∧ _
  unfold o_can
  cases e1 : lsB l R.2.1.1 with
  | false =>
    simp (disch := omega) only [s204_0, s204_1, s204_2, s204_5, s204_8, s204_9, s204_10, s204_13, s204_16, s204_17, s204_20, s204_21, s204_22, s204_23, s204_26, s204_29, s204_30, s204_33, s204_34, q_0, q_1, q_2, q_3, q_4, q_5, q_6, q_7, q_8, q_9, q_10, q_11, q_12, q_13, q_14, q_16, q_20, q_23, q_24, q_32, q_42, q_43, q_45, q_47, q_48, q_50, q_57, q_59, q_60, q_61, q_62, q_63, q_64, q_66, q_91, q_93, q_97, q_99, q_122, q_144, q_255, q_256, q_300, q_380, q_400, q_620, q_999, q_1000, q_4095, q_4096, q_9999, q_65536, q_99999, q_31, nI_add, pk_mul, nE, nL, nT, nM31, nShl, ib_nI, nI_clamp, bI_n0, bI_n1, bI_nar, uI_r, uI_l, uL_r, uL_i, uL_p, uA_r, uA_l, bV_some, bU_some, nar_n0, nar_n1, and_self, and_true, true_and, and_false, false_and, if_true, if_false, eq_self, Bool.false_eq_true, Bool.true_eq_false, not_true_eq_false, not_false_eq_true, ↓reduceIte, nlT, nlF, ntT, ntF, neT, neF, ieT, ieF, decide_true, decide_false, Bool.not_true, Bool.not_false, Bool.and_true, Bool.true_and, Bool.and_false, Bool.false_and, Bool.or_true, Bool.true_or, Bool.or_false, Bool.false_or, m_isLw hr hR6, e1]
    exact ⟨_, rfl, FM.rf, h⟩
  | true =>
    have e1' := e1
    obtain ⟨r, hr', rfl⟩ := lsB_t e1 (by omega)
    cases e2 : lsB w (A 0 2) with
    | false =>
      simp (disch := omega) only [s204_0, s204_1, s204_2, s204_5, s204_8, s204_9, s204_10, s204_13, s204_16, s204_17, s204_20, s204_21, s204_22, s204_23, s204_26, s204_29, s204_30, s204_33, s204_34, q_0, q_1, q_2, q_3, q_4, q_5, q_6, q_7, q_8, q_9, q_10, q_11, q_12, q_13, q_14, q_16, q_20, q_23, q_24, q_32, q_42, q_43, q_45, q_47, q_48, q_50, q_57, q_59, q_60, q_61, q_62, q_63, q_64, q_66, q_91, q_93, q_97, q_99, q_122, q_144, q_255, q_256, q_300, q_380, q_400, q_620, q_999, q_1000, q_4095, q_4096, q_9999, q_65536, q_99999, q_31, nI_add, pk_mul, nE, nL, nT, nM31, nShl, ib_nI, nI_clamp, bI_n0, bI_n1, bI_nar, uI_r, uI_l, uL_r, uL_i, uL_p, uA_r, uA_l, bV_some, bU_some, nar_n0, nar_n1, and_self, and_true, true_and, and_false, false_and, if_true, if_false, eq_self, Bool.false_eq_true, Bool.true_eq_false, not_true_eq_false, not_false_eq_true, ↓reduceIte, nlT, nlF, ntT, ntF, neT, neF, ieT, ieF, decide_true, decide_false, Bool.not_true, Bool.not_false, Bool.and_true, Bool.true_and, Bool.and_false, Bool.false_and, Bool.or_true, Bool.true_or, Bool.or_false, Bool.false_or, m_isLw hr hR6, e1', m_isW h hw, e2]
      exact ⟨_, rfl, FM.rf, h⟩
    | true =>
      have e2' := e2
      obtain ⟨j, hj, rfl⟩ := lsB_t e2 (by omega)
      obtain ⟨S1, a1, a2⟩ := m_canBe h hw (r := r) (by omega) (hr.2.1.2 r hr') (hR.2.1.2 r hr') hj
      cases e3 : caB A (R.2.1.2 r) j with
      | false =>
        rw [e3] at a1
        simp (disch := omega) only [s204_0, s204_1, s204_2, s204_5, s204_8, s204_9, s204_10, s204_13, s204_16, s204_17, s204_20, s204_21, s204_22, s204_23, s204_26, s204_29, s204_30, s204_33, s204_34, q_0, q_1, q_2, q_3, q_4, q_5, q_6, q_7, q_8, q_9, q_10, q_11, q_12, q_13, q_14, q_16, q_20, q_23, q_24, q_32, q_42, q_43, q_45, q_47, q_48, q_50, q_57, q_59, q_60, q_61, q_62, q_63, q_64, q_66, q_91, q_93, q_97, q_99, q_122, q_144, q_255, q_256, q_300, q_380, q_400, q_620, q_999, q_1000, q_4095, q_4096, q_9999, q_65536, q_99999, q_31, nI_add, pk_mul, nE, nL, nT, nM31, nShl, ib_nI, nI_clamp, bI_n0, bI_n1, bI_nar, uI_r, uI_l, uL_r, uL_i, uL_p, uA_r, uA_l, bV_some, bU_some, nar_n0, nar_n1, and_self, and_true, true_and, and_false, false_and, if_true, if_false, eq_self, Bool.false_eq_true, Bool.true_eq_false, not_true_eq_false, not_false_eq_true, ↓reduceIte, nlT, nlF, ntT, ntF, neT, neF, ieT, ieF, decide_true, decide_false, Bool.not_true, Bool.not_false, Bool.and_true, Bool.true_and, Bool.and_false, Bool.false_and, Bool.or_true, Bool.true_or, Bool.or_false, Bool.false_or, m_isLw hr hR6, e1', m_isW h hw, e2', a1, e3]
        exact ⟨_, rfl, FM.pl a2 (by decide), h.pl a2 (by decide)⟩
      | true =>
        rw [e3] at a1
        simp (disch := omega) only [s204_0, s204_1, s204_2, s204_5, s204_8, s204_9, s204_10, s204_13, s204_16, s204_17, s204_20, s204_21, s204_22, s204_23, s204_26, s204_29, s204_30, s204_33, s204_34, q_0, q_1, q_2, q_3, q_4, q_5, q_6, q_7, q_8, q_9, q_10, q_11, q_12, q_13, q_14, q_16, q_20, q_23, q_24, q_32, q_42, q_43, q_45, q_47, q_48, q_50, q_57, q_59, q_60, q_61, q_62, q_63, q_64, q_66, q_91, q_93, q_97, q_99, q_122, q_144, q_255, q_256, q_300, q_380, q_400, q_620, q_999, q_1000, q_4095, q_4096, q_9999, q_65536, q_99999, q_31, nI_add, pk_mul, nE, nL, nT, nM31, nShl, ib_nI, nI_clamp, bI_n0, bI_n1, bI_nar, uI_r, uI_l, uL_r, uL_i, uL_p, uA_r, uA_l, bV_some, bU_some, nar_n0, nar_n1, and_self, and_true, true_and, and_false, false_and, if_true, if_false, eq_self, Bool.false_eq_true, Bool.true_eq_false, not_true_eq_false, not_false_eq_true, ↓reduceIte, nlT, nlF, ntT, ntF, neT, neF, ieT, ieF, decide_true, decide_false, Bool.not_true, Bool.not_false, Bool.and_true, Bool.true_and, Bool.and_false, Bool.false_and, Bool.or_true, Bool.true_or, Bool.or_false, Bool.false_or, m_isLw hr hR6, e1', m_isW h hw, e2', a1, e3]
        exact ⟨_, rfl, FM.pl a2 (by decide), h.pl a2 (by decide)⟩
def o_does (A : Tn) (R : Rs) (l w : Int32) : Int32 × Tn := if (lsB l R.2.1.1 && lsB w (A 0 2)) = true then (if caB A (R.2.1.2 l.toNatClampNeg) w.toNatClampNeg = true then (nI ((psF A (R.2.1.2 l.toNatClampNeg) w.toNatClampNeg (A 0 1)).getD 0), doT A (R.2.1.2 l.toNatClampNeg) w.toNatClampNeg) else (-nI 2, A)) else (-nI 1, A)
theorem w_does {A : Tn} {R : Rs} (hw : WF A) (l w : Int32) : WF (o_does A R l w).2 := by
  have hWk := hw.wk
  unfold o_does
  split
  · rename_i e
    simp only [Bool.and_eq_true] at e
    obtain ⟨j, hj, rfl⟩ := lsB_t e.2 (by omega)
    split
    · rw [nI_clamp (show j < 2 ^ 31 by omega)]
      exact doT_W hw hj
    · exact hw
  · exact hw
theorem c_does {S : Sto} {A : Tn} {R : Rs} (h : RepC S 0 A) (hr : ResC S R) (hw : WF A) (hR : WFR R) (l w : Int32) : ∃ S1, call 114 0 [vR 0 0, vI l, vI w] S = some (some (vI (o_does A R l w).1), S1) ∧ FC S S1 ∧ RepC S1 0 (o_does A R l w).2 := by
  have hWk := hw.wk
  have hR6 := hR.2.1.1
  show ∃ S1, run 114 0 0 [vR 0 0, vI l, vI w] [] S = _ ∧ _
  unfold o_does
  cases e1 : lsB l R.2.1.1 with
  | false =>
    simp (disch := omega) only [s114_0, s114_1, s114_2, s114_5, s114_8, s114_9, s114_12, s114_13, s114_16, s114_19, s114_20, s114_21, s114_22, s114_25, s114_26, s114_29, s114_30, s114_33, s114_34, s114_35, s114_36, s114_39, s114_42, s114_44, s114_45, s114_46, s114_49, s114_50, s114_53, s114_54, s114_57, q_0, q_1, q_2, q_3, q_4, q_5, q_6, q_7, q_8, q_9, q_10, q_11, q_12, q_13, q_14, q_16, q_20, q_23, q_24, q_32, q_42, q_43, q_45, q_47, q_48, q_50, q_57, q_59, q_60, q_61, q_62, q_63, q_64, q_66, q_91, q_93, q_97, q_99, q_122, q_144, q_255, q_256, q_300, q_380, q_400, q_620, q_999, q_1000, q_4095, q_4096, q_9999, q_65536, q_99999, q_31, nI_add, pk_mul, nE, nL, nT, nM31, nShl, ib_nI, nI_clamp, bI_n0, bI_n1, bI_nar, uI_r, uI_l, uL_r, uL_i, uL_p, uA_r, uA_l, bV_some, bU_some, nar_n0, nar_n1, and_self, and_true, true_and, and_false, false_and, if_true, if_false, eq_self, Bool.false_eq_true, Bool.true_eq_false, not_true_eq_false, not_false_eq_true, ↓reduceIte, nlT, nlF, ntT, ntF, neT, neF, ieT, ieF, decide_true, decide_false, Bool.not_true, Bool.not_false, Bool.and_true, Bool.true_and, Bool.and_false, Bool.false_and, Bool.or_true, Bool.true_or, Bool.or_false, Bool.false_or, x_isLw hr, e1]
    exact ⟨_, rfl, FC.rf, h⟩
  | true =>
    have e1' := e1
    obtain ⟨r, hr', rfl⟩ := lsB_t e1 (by omega)
    cases e2 : lsB w (A 0 2) with
    | false =>
      simp (disch := omega) only [s114_0, s114_1, s114_2, s114_5, s114_8, s114_9, s114_12, s114_13, s114_16, s114_19, s114_20, s114_21, s114_22, s114_25, s114_26, s114_29, s114_30, s114_33, s114_34, s114_35, s114_36, s114_39, s114_42, s114_44, s114_45, s114_46, s114_49, s114_50, s114_53, s114_54, s114_57, q_0, q_1, q_2, q_3, q_4, q_5, q_6, q_7, q_8, q_9, q_10, q_11, q_12, q_13, q_14, q_16, q_20, q_23, q_24, q_32, q_42, q_43, q_45, q_47, q_48, q_50, q_57, q_59, q_60, q_61, q_62, q_63, q_64, q_66, q_91, q_93, q_97, q_99, q_122, q_144, q_255, q_256, q_300, q_380, q_400, q_620, q_999, q_1000, q_4095, q_4096, q_9999, q_65536, q_99999, q_31, nI_add, pk_mul, nE, nL, nT, nM31, nShl, ib_nI, nI_clamp, bI_n0, bI_n1, bI_nar, uI_r, uI_l, uL_r, uL_i, uL_p, uA_r, uA_l, bV_some, bU_some, nar_n0, nar_n1, and_self, and_true, true_and, and_false, false_and, if_true, if_false, eq_self, Bool.false_eq_true, Bool.true_eq_false, not_true_eq_false, not_false_eq_true, ↓reduceIte, nlT, nlF, ntT, ntF, neT, neF, ieT, ieF, decide_true, decide_false, Bool.not_true, Bool.not_false, Bool.and_true, Bool.true_and, Bool.and_false, Bool.false_and, Bool.or_true, Bool.true_or, Bool.or_false, Bool.false_or, x_isLw hr, e1', x_isW h, e2]
      exact ⟨_, rfl, FC.rf, h⟩
    | true =>
      have e2' := e2
      obtain ⟨j, hj, rfl⟩ := lsB_t e2 (by omega)
      obtain ⟨S1, a1, a2, a3⟩ := x_canBe h hw (hr.2.1.2 r hr') (hR.2.1.2 r hr') hj
      rw [nI_clamp (by omega), nI_clamp (by omega)]
      cases e3 : caB A (R.2.1.2 r) j with
      | false =>
        rw [e3] at a1
        simp (disch := omega) only [s114_0, s114_1, s114_2, s114_5, s114_8, s114_9, s114_12, s114_13, s114_16, s114_19, s114_20, s114_21, s114_22, s114_25, s114_26, s114_29, s114_30, s114_33, s114_34, s114_35, s114_36, s114_39, s114_42, s114_44, s114_45, s114_46, s114_49, s114_50, s114_53, s114_54, s114_57, q_0, q_1, q_2, q_3, q_4, q_5, q_6, q_7, q_8, q_9, q_10, q_11, q_12, q_13, q_14, q_16, q_20, q_23, q_24, q_32, q_42, q_43, q_45, q_47, q_48, q_50, q_57, q_59, q_60, q_61, q_62, q_63, q_64, q_66, q_91, q_93, q_97, q_99, q_122, q_144, q_255, q_256, q_300, q_380, q_400, q_620, q_999, q_1000, q_4095, q_4096, q_9999, q_65536, q_99999, q_31, nI_add, pk_mul, nE, nL, nT, nM31, nShl, ib_nI, nI_clamp, bI_n0, bI_n1, bI_nar, uI_r, uI_l, uL_r, uL_i, uL_p, uA_r, uA_l, bV_some, bU_some, nar_n0, nar_n1, and_self, and_true, true_and, and_false, false_and, if_true, if_false, eq_self, Bool.false_eq_true, Bool.true_eq_false, not_true_eq_false, not_false_eq_true, ↓reduceIte, nlT, nlF, ntT, ntF, neT, neF, ieT, ieF, decide_true, decide_false, Bool.not_true, Bool.not_false, Bool.and_true, Bool.true_and, Bool.and_false, Bool.false_and, Bool.or_true, Bool.true_or, Bool.or_false, Bool.false_or, x_isLw hr, e1', x_isW h, e2', a1, Nat.zero_add]
        exact ⟨_, rfl, FC.pl a2 (by decide), h.pl a2 (by decide)⟩
      | true =>
        obtain ⟨f1, f2⟩ := a3 e3
        obtain ⟨S2, b1, b2, b3⟩ := x_carryOut (h.pl a2 (by decide)) hw hj e3 f1 f2
        rw [e3] at a1
        simp (disch := omega) only [s114_0, s114_1, s114_2, s114_5, s114_8, s114_9, s114_12, s114_13, s114_16, s114_19, s114_20, s114_21, s114_22, s114_25, s114_26, s114_29, s114_30, s114_33, s114_34, s114_35, s114_36, s114_39, s114_42, s114_44, s114_45, s114_46, s114_49, s114_50, s114_53, s114_54, s114_57, q_0, q_1, q_2, q_3, q_4, q_5, q_6, q_7, q_8, q_9, q_10, q_11, q_12, q_13, q_14, q_16, q_20, q_23, q_24, q_32, q_42, q_43, q_45, q_47, q_48, q_50, q_57, q_59, q_60, q_61, q_62, q_63, q_64, q_66, q_91, q_93, q_97, q_99, q_122, q_144, q_255, q_256, q_300, q_380, q_400, q_620, q_999, q_1000, q_4095, q_4096, q_9999, q_65536, q_99999, q_31, nI_add, pk_mul, nE, nL, nT, nM31, nShl, ib_nI, nI_clamp, bI_n0, bI_n1, bI_nar, uI_r, uI_l, uL_r, uL_i, uL_p, uA_r, uA_l, bV_some, bU_some, nar_n0, nar_n1, and_self, and_true, true_and, and_false, false_and, if_true, if_false, eq_self, Bool.false_eq_true, Bool.true_eq_false, not_true_eq_false, not_false_eq_true, ↓reduceIte, nlT, nlF, ntT, ntF, neT, neF, ieT, ieF, decide_true, decide_false, Bool.not_true, Bool.not_false, Bool.and_true, Bool.true_and, Bool.and_false, Bool.false_and, Bool.or_true, Bool.true_or, Bool.or_false, Bool.false_or, x_isLw hr, e1', x_isW h, e2', a1, Nat.zero_add, b1]
        exact ⟨_, rfl, (FC.pl a2 (by decide)).tr (FC.pt (by decide) b2), b3⟩
theorem r_does {S : Sto} {A : Tn} {R : Rs} (h : RepM S A) (hr : ResM S R) (hw : WF A) (hR : WFR R) (l w : Int32) : ∃ S1, call 209 0 [vR 50 0, vI l, vI w] S = some (some (vI (o_does A R l w).1), S1) ∧ FM S S1 ∧ RepM S1 (o_does A R l w).2 := by
  have hWk := hw.wk
  have hR6 := hR.2.1.1
  show ∃ S1, run 209 0 0 [vR 50 0, vI l, vI w] [] S = _ ∧ _
  unfold o_does
  cases e1 : lsB l R.2.1.1 with
  | false =>
    simp (disch := omega) only [s209_0, s209_1, s209_2, s209_5, s209_8, s209_9, s209_10, s209_13, s209_16, s209_17, s209_20, s209_21, s209_22, s209_23, s209_26, s209_29, s209_30, s209_31, s209_32, s209_35, s209_38, s209_40, q_0, q_1, q_2, q_3, q_4, q_5, q_6, q_7, q_8, q_9, q_10, q_11, q_12, q_13, q_14, q_16, q_20, q_23, q_24, q_32, q_42, q_43, q_45, q_47, q_48, q_50, q_57, q_59, q_60, q_61, q_62, q_63, q_64, q_66, q_91, q_93, q_97, q_99, q_122, q_144, q_255, q_256, q_300, q_380, q_400, q_620, q_999, q_1000, q_4095, q_4096, q_9999, q_65536, q_99999, q_31, nI_add, pk_mul, nE, nL, nT, nM31, nShl, ib_nI, nI_clamp, bI_n0, bI_n1, bI_nar, uI_r, uI_l, uL_r, uL_i, uL_p, uA_r, uA_l, bV_some, bU_some, nar_n0, nar_n1, and_self, and_true, true_and, and_false, false_and, if_true, if_false, eq_self, Bool.false_eq_true, Bool.true_eq_false, not_true_eq_false, not_false_eq_true, ↓reduceIte, nlT, nlF, ntT, ntF, neT, neF, ieT, ieF, decide_true, decide_false, Bool.not_true, Bool.not_false, Bool.and_true, Bool.true_and, Bool.and_false, Bool.false_and, Bool.or_true, Bool.true_or, Bool.or_false, Bool.false_or, m_isLw hr hR6, e1]
    exact ⟨_, rfl, FM.rf, h⟩
  | true =>
    have e1' := e1
    obtain ⟨r, hr', rfl⟩ := lsB_t e1 (by omega)
    cases e2 : lsB w (A 0 2) with
    | false =>
      simp (disch := omega) only [s209_0, s209_1, s209_2, s209_5, s209_8, s209_9, s209_10, s209_13, s209_16, s209_17, s209_20, s209_21, s209_22, s209_23, s209_26, s209_29, s209_30, s209_31, s209_32, s209_35, s209_38, s209_40, q_0, q_1, q_2, q_3, q_4, q_5, q_6, q_7, q_8, q_9, q_10, q_11, q_12, q_13, q_14, q_16, q_20, q_23, q_24, q_32, q_42, q_43, q_45, q_47, q_48, q_50, q_57, q_59, q_60, q_61, q_62, q_63, q_64, q_66, q_91, q_93, q_97, q_99, q_122, q_144, q_255, q_256, q_300, q_380, q_400, q_620, q_999, q_1000, q_4095, q_4096, q_9999, q_65536, q_99999, q_31, nI_add, pk_mul, nE, nL, nT, nM31, nShl, ib_nI, nI_clamp, bI_n0, bI_n1, bI_nar, uI_r, uI_l, uL_r, uL_i, uL_p, uA_r, uA_l, bV_some, bU_some, nar_n0, nar_n1, and_self, and_true, true_and, and_false, false_and, if_true, if_false, eq_self, Bool.false_eq_true, Bool.true_eq_false, not_true_eq_false, not_false_eq_true, ↓reduceIte, nlT, nlF, ntT, ntF, neT, neF, ieT, ieF, decide_true, decide_false, Bool.not_true, Bool.not_false, Bool.and_true, Bool.true_and, Bool.and_false, Bool.false_and, Bool.or_true, Bool.true_or, Bool.or_false, Bool.false_or, m_isLw hr hR6, e1', m_isW h hw, e2]
      exact ⟨_, rfl, FM.rf, h⟩
    | true =>
      have e2' := e2
      obtain ⟨j, hj, rfl⟩ := lsB_t e2 (by omega)
      obtain ⟨S1, a1, a2⟩ := m_canBe h hw (r := r) (by omega) (hr.2.1.2 r hr') (hR.2.1.2 r hr') hj
      rw [nI_clamp (by omega), nI_clamp (by omega)]
      cases e3 : caB A (R.2.1.2 r) j with
      | false =>
        rw [e3] at a1
        simp (disch := omega) only [s209_0, s209_1, s209_2, s209_5, s209_8, s209_9, s209_10, s209_13, s209_16, s209_17, s209_20, s209_21, s209_22, s209_23, s209_26, s209_29, s209_30, s209_31, s209_32, s209_35, s209_38, s209_40, q_0, q_1, q_2, q_3, q_4, q_5, q_6, q_7, q_8, q_9, q_10, q_11, q_12, q_13, q_14, q_16, q_20, q_23, q_24, q_32, q_42, q_43, q_45, q_47, q_48, q_50, q_57, q_59, q_60, q_61, q_62, q_63, q_64, q_66, q_91, q_93, q_97, q_99, q_122, q_144, q_255, q_256, q_300, q_380, q_400, q_620, q_999, q_1000, q_4095, q_4096, q_9999, q_65536, q_99999, q_31, nI_add, pk_mul, nE, nL, nT, nM31, nShl, ib_nI, nI_clamp, bI_n0, bI_n1, bI_nar, uI_r, uI_l, uL_r, uL_i, uL_p, uA_r, uA_l, bV_some, bU_some, nar_n0, nar_n1, and_self, and_true, true_and, and_false, false_and, if_true, if_false, eq_self, Bool.false_eq_true, Bool.true_eq_false, not_true_eq_false, not_false_eq_true, ↓reduceIte, nlT, nlF, ntT, ntF, neT, neF, ieT, ieF, decide_true, decide_false, Bool.not_true, Bool.not_false, Bool.and_true, Bool.true_and, Bool.and_false, Bool.false_and, Bool.or_true, Bool.true_or, Bool.or_false, Bool.false_or, m_isLw hr hR6, e1', m_isW h hw, e2', a1]
        exact ⟨_, rfl, FM.pl a2 (by decide), h.pl a2 (by decide)⟩
      | true =>
        obtain ⟨S2, b1, b2, b3⟩ := m_isDone (h.pl a2 (by decide)) hw (r := r) (by omega) ((hr.2.1.2 r hr').pl a2 (by decide)) (hR.2.1.2 r hr') hj e3
        rw [e3] at a1
        simp (disch := omega) only [s209_0, s209_1, s209_2, s209_5, s209_8, s209_9, s209_10, s209_13, s209_16, s209_17, s209_20, s209_21, s209_22, s209_23, s209_26, s209_29, s209_30, s209_31, s209_32, s209_35, s209_38, s209_40, q_0, q_1, q_2, q_3, q_4, q_5, q_6, q_7, q_8, q_9, q_10, q_11, q_12, q_13, q_14, q_16, q_20, q_23, q_24, q_32, q_42, q_43, q_45, q_47, q_48, q_50, q_57, q_59, q_60, q_61, q_62, q_63, q_64, q_66, q_91, q_93, q_97, q_99, q_122, q_144, q_255, q_256, q_300, q_380, q_400, q_620, q_999, q_1000, q_4095, q_4096, q_9999, q_65536, q_99999, q_31, nI_add, pk_mul, nE, nL, nT, nM31, nShl, ib_nI, nI_clamp, bI_n0, bI_n1, bI_nar, uI_r, uI_l, uL_r, uL_i, uL_p, uA_r, uA_l, bV_some, bU_some, nar_n0, nar_n1, and_self, and_true, true_and, and_false, false_and, if_true, if_false, eq_self, Bool.false_eq_true, Bool.true_eq_false, not_true_eq_false, not_false_eq_true, ↓reduceIte, nlT, nlF, ntT, ntF, neT, neF, ieT, ieF, decide_true, decide_false, Bool.not_true, Bool.not_false, Bool.and_true, Bool.true_and, Bool.and_false, Bool.false_and, Bool.or_true, Bool.true_or, Bool.or_false, Bool.false_or, m_isLw hr hR6, e1', m_isW h hw, e2', a1, b1]
        exact ⟨_, rfl, (FM.pl a2 (by decide)).tr (FM.pl b2 (by decide)), b3⟩
/-- who bars -/
def brV (A : Tn) (L : Lw) (w t : Nat) : Nat := if (ndO A L w t (A 7 t)).isSome = true ∧ (ndO A L w t (A 8 t)).isSome = false then A 8 t else A 7 t
def brF (A : Tn) (L : Lw) (w : Nat) : Nat → Nat → Int32
  | 0, _ => -nI 2
  | m + 1, t => if (A 11 w).testBit t = true ∧ haO A L w t = none then nI (brV A L w t) else brF A L w m (t + 1)
theorem brF_s (A : Tn) (L : Lw) (w m t : Nat) : brF A L w (m + 1) t = if (A 11 w).testBit t = true ∧ haO A L w t = none then nI (brV A L w t) else brF A L w m (t + 1) := rfl
theorem k_none {A : Tn} {L : Lw} {w t : Nat} (h : haO A L w t = none) : k1O A L w t = ndO A L w t (A 7 t) ∧ k2O A L w t = ndO A L w t (A 8 t) := by
  unfold haO hdO at h
  unfold k1O k2O kp1 kp2
  by_cases c : muN A L w t = 2
  · simp [c]
  · rw [if_neg c] at h
    rw [if_neg c, if_neg c]
    cases hx : ndO A L w t (A 7 t) with
    | none => cases hy : ndO A L w t (A 8 t) <;> simp
    | some a =>
      rw [hx] at h
      cases hy : ndO A L w t (A 8 t) with
      | none => rw [hy] at h; cases h
      | some b => rw [hy] at h; cases h
theorem x_bars {S : Sto} {q : Nat} {A : Tn} {r : Nat} {L : Lw} {w : Nat} (h : RepC S q A) (hw : WF A) (hL : RepLC S r L) (hl : WFL L) (hv : w < A 0 2) : ∃ S', call 24 0 [vR 26 0, vR 1 q, vR 17 r, vI (nI w)] S = some (some (vI (brF A L w (A 0 1) 0)), S') ∧ Fr (pL [23, 26, 27]) S S' := by
  have hT := hw.th
  have hWk := hw.wk
  have hW := hw.W (w := w) (by omega)
  show ∃ S', run 24 0 0 [vR 26 0, vR 1 q, vR 17 r, vI (nI w), vU, vU] [] S = _ ∧ _
  simp only [s24_0, s24_1]
  have key := upS (σ := Sto) (I := fun i S1 => brF A L w (A 0 1 - i) i = brF A L w (A 0 1) 0 ∧ Fr (pL [23, 26, 27]) S S1) (F := fun i S1 => run 24 0 3 [vR 26 0, vR 1 q, vR 17 r, vI (nI w), vI (nI i), vU] [] S1) (Q := fun x => ∃ S', x = some (some (vI (brF A L w (A 0 1) 0)), S') ∧ Fr (pL [23, 26, 27]) S S') (N := A 0 1) ?_ ?_ 0 S (by omega) ⟨rfl, Fr.rfl'⟩
  · exact key
  · intro i S1 hi hI
    obtain ⟨i1, i2⟩ := hI
    have h1 := h.pl i2 (by decide)
    have hO := hw.o (t := i) (by omega)
    have em : A 0 1 - i = (A 0 1 - (i + 1)) + 1 := by omega
    rw [em, brF_s] at i1
    show (∃ S', run 24 0 3 _ _ _ = _ ∧ _) ∨ ∃ s', _ ∧ run 24 0 3 _ _ _ = run 24 0 3 _ _ _
    rw [s24_3]
    cases c1 : (A 11 w).testBit i with
    | false =>
      rw [c1, if_neg (by simp)] at i1
      refine Or.inr ⟨S1, ⟨i1, i2⟩, ?_⟩
      simp (disch := omega) only [s24_0, s24_1, s24_5, s24_6, s24_9, s24_12, s24_13, s24_16, s24_17, s24_18, s24_20, s24_23, s24_26, s24_27, s24_28, s24_29, s24_30, s24_32, s24_35, s24_38, s24_39, s24_42, s24_45, s24_46, s24_49, s24_52, s24_53, s24_56, s24_57, s24_59, s24_60, s24_63, s24_65, s24_68, s24_69, s24_71, s24_72, s24_73, s24_74, s24_77, s24_78, s24_80, s24_81, s24_82, s24_83, s24_86, s24_89, s24_91, q_0, q_1, q_2, q_3, q_4, q_5, q_6, q_7, q_8, q_9, q_10, q_11, q_12, q_13, q_14, q_16, q_20, q_23, q_24, q_32, q_42, q_43, q_45, q_47, q_48, q_50, q_57, q_59, q_60, q_61, q_62, q_63, q_64, q_66, q_91, q_93, q_97, q_99, q_122, q_144, q_255, q_256, q_300, q_380, q_400, q_620, q_999, q_1000, q_4095, q_4096, q_9999, q_65536, q_99999, q_31, nI_add, pk_mul, nE, nL, nT, nM31, nShl, ib_nI, nI_clamp, bI_n0, bI_n1, bI_nar, uI_r, uI_l, uL_r, uL_i, uL_p, uA_r, uA_l, bV_some, bU_some, nar_n0, nar_n1, and_self, and_true, true_and, and_false, false_and, if_true, if_false, eq_self, Bool.false_eq_true, Bool.true_eq_false, not_true_eq_false, not_false_eq_true, ↓reduceIte, nlT, nlF, ntT, ntF, neT, neF, ieT, ieF, decide_true, decide_false, Bool.not_true, Bool.not_false, Bool.and_true, Bool.true_and, Bool.and_false, Bool.false_and, Bool.or_true, Bool.true_or, Bool.or_false, Bool.false_or, h1.th, h1.ki, x_has, c1]
    | true =>
      obtain ⟨S2, d1, d2, d3, d4, d5⟩ := x_hadFor h1 hw (hL.pl i2 (by decide)) hl hv hi
      have h2 := h1.pl d2 (by decide)
      cases c2 : haO A L w i with
      | some p =>
        have hp := haO_le c2
        rw [c1, c2, if_neg (by simp)] at i1
        rw [c2] at d1
        simp only [nV] at d1
        refine Or.inr ⟨S2, ⟨i1, i2.tr d2⟩, ?_⟩
        simp (disch := omega) only [s24_0, s24_1, s24_5, s24_6, s24_9, s24_12, s24_13, s24_16, s24_17, s24_18, s24_20, s24_23, s24_26, s24_27, s24_28, s24_29, s24_30, s24_32, s24_35, s24_38, s24_39, s24_42, s24_45, s24_46, s24_49, s24_52, s24_53, s24_56, s24_57, s24_59, s24_60, s24_63, s24_65, s24_68, s24_69, s24_71, s24_72, s24_73, s24_74, s24_77, s24_78, s24_80, s24_81, s24_82, s24_83, s24_86, s24_89, s24_91, q_0, q_1, q_2, q_3, q_4, q_5, q_6, q_7, q_8, q_9, q_10, q_11, q_12, q_13, q_14, q_16, q_20, q_23, q_24, q_32, q_42, q_43, q_45, q_47, q_48, q_50, q_57, q_59, q_60, q_61, q_62, q_63, q_64, q_66, q_91, q_93, q_97, q_99, q_122, q_144, q_255, q_256, q_300, q_380, q_400, q_620, q_999, q_1000, q_4095, q_4096, q_9999, q_65536, q_99999, q_31, nI_add, pk_mul, nE, nL, nT, nM31, nShl, ib_nI, nI_clamp, bI_n0, bI_n1, bI_nar, uI_r, uI_l, uL_r, uL_i, uL_p, uA_r, uA_l, bV_some, bU_some, nar_n0, nar_n1, and_self, and_true, true_and, and_false, false_and, if_true, if_false, eq_self, Bool.false_eq_true, Bool.true_eq_false, not_true_eq_false, not_false_eq_true, ↓reduceIte, nlT, nlF, ntT, ntF, neT, neF, ieT, ieF, decide_true, decide_false, Bool.not_true, Bool.not_false, Bool.and_true, Bool.true_and, Bool.and_false, Bool.false_and, Bool.or_true, Bool.true_or, Bool.or_false, Bool.false_or, h1.th, h1.ki, x_has, c1, d1]
      | none =>
        rw [c1, c2, if_pos ⟨rfl, rfl⟩] at i1
        rw [c2] at d1
        obtain ⟨k1, k2⟩ := k_none c2
        rw [k1] at d4
        rw [k2] at d5
        have w1 := h2.own (i := 2 * i) (by omega)
        have w2 := h2.own (i := 2 * i + 1) (by omega)
        rw [ow_0] at w1
        rw [ow_1] at w2
        refine Or.inl ?_
        rw [← i1]
        unfold brV
        cases hx : ndO A L w i (A 7 i) with
        | none =>
          rw [hx] at d4
          simp only [nV] at d1 d4
          simp (disch := omega) only [s24_0, s24_1, s24_5, s24_6, s24_9, s24_12, s24_13, s24_16, s24_17, s24_18, s24_20, s24_23, s24_26, s24_27, s24_28, s24_29, s24_30, s24_32, s24_35, s24_38, s24_39, s24_42, s24_45, s24_46, s24_49, s24_52, s24_53, s24_56, s24_57, s24_59, s24_60, s24_63, s24_65, s24_68, s24_69, s24_71, s24_72, s24_73, s24_74, s24_77, s24_78, s24_80, s24_81, s24_82, s24_83, s24_86, s24_89, s24_91, q_0, q_1, q_2, q_3, q_4, q_5, q_6, q_7, q_8, q_9, q_10, q_11, q_12, q_13, q_14, q_16, q_20, q_23, q_24, q_32, q_42, q_43, q_45, q_47, q_48, q_50, q_57, q_59, q_60, q_61, q_62, q_63, q_64, q_66, q_91, q_93, q_97, q_99, q_122, q_144, q_255, q_256, q_300, q_380, q_400, q_620, q_999, q_1000, q_4095, q_4096, q_9999, q_65536, q_99999, q_31, nI_add, pk_mul, nE, nL, nT, nM31, nShl, ib_nI, nI_clamp, bI_n0, bI_n1, bI_nar, uI_r, uI_l, uL_r, uL_i, uL_p, uA_r, uA_l, bV_some, bU_some, nar_n0, nar_n1, and_self, and_true, true_and, and_false, false_and, if_true, if_false, eq_self, Bool.false_eq_true, Bool.true_eq_false, not_true_eq_false, not_false_eq_true, ↓reduceIte, nlT, nlF, ntT, ntF, neT, neF, ieT, ieF, decide_true, decide_false, Bool.not_true, Bool.not_false, Bool.and_true, Bool.true_and, Bool.and_false, Bool.false_and, Bool.or_true, Bool.true_or, Bool.or_false, Bool.false_or, h1.th, h1.ki, x_has, c1, d1, d4, n2_lt, n2_ge, w1, Option.isSome_none]
          exact ⟨_, rfl, i2.tr d2⟩
        | some a =>
          have ha := ndO_le hx
          rw [hx] at d4
          cases hy : ndO A L w i (A 8 i) with
          | none =>
            rw [hy] at d5
            simp only [nV] at d1 d4 d5
            simp (disch := omega) only [s24_0, s24_1, s24_5, s24_6, s24_9, s24_12, s24_13, s24_16, s24_17, s24_18, s24_20, s24_23, s24_26, s24_27, s24_28, s24_29, s24_30, s24_32, s24_35, s24_38, s24_39, s24_42, s24_45, s24_46, s24_49, s24_52, s24_53, s24_56, s24_57, s24_59, s24_60, s24_63, s24_65, s24_68, s24_69, s24_71, s24_72, s24_73, s24_74, s24_77, s24_78, s24_80, s24_81, s24_82, s24_83, s24_86, s24_89, s24_91, q_0, q_1, q_2, q_3, q_4, q_5, q_6, q_7, q_8, q_9, q_10, q_11, q_12, q_13, q_14, q_16, q_20, q_23, q_24, q_32, q_42, q_43, q_45, q_47, q_48, q_50, q_57, q_59, q_60, q_61, q_62, q_63, q_64, q_66, q_91, q_93, q_97, q_99, q_122, q_144, q_255, q_256, q_300, q_380, q_400, q_620, q_999, q_1000, q_4095, q_4096, q_9999, q_65536, q_99999, q_31, nI_add, pk_mul, nE, nL, nT, nM31, nShl, ib_nI, nI_clamp, bI_n0, bI_n1, bI_nar, uI_r, uI_l, uL_r, uL_i, uL_p, uA_r, uA_l, bV_some, bU_some, nar_n0, nar_n1, and_self, and_true, true_and, and_false, false_and, if_true, if_false, eq_self, Bool.false_eq_true, Bool.true_eq_false, not_true_eq_false, not_false_eq_true, ↓reduceIte, nlT, nlF, ntT, ntF, neT, neF, ieT, ieF, decide_true, decide_false, Bool.not_true, Bool.not_false, Bool.and_true, Bool.true_and, Bool.and_false, Bool.false_and, Bool.or_true, Bool.true_or, Bool.or_false, Bool.false_or, h1.th, h1.ki, x_has, c1, d1, d4, d5, n2_lt, n2_ge, w2, Option.isSome_none, Option.isSome_some]
            exact ⟨_, rfl, i2.tr d2⟩
          | some b =>
            have hb := ndO_le hy
            rw [hy] at d5
            simp only [nV] at d1 d4 d5
            simp (disch := omega) only [s24_0, s24_1, s24_5, s24_6, s24_9, s24_12, s24_13, s24_16, s24_17, s24_18, s24_20, s24_23, s24_26, s24_27, s24_28, s24_29, s24_30, s24_32, s24_35, s24_38, s24_39, s24_42, s24_45, s24_46, s24_49, s24_52, s24_53, s24_56, s24_57, s24_59, s24_60, s24_63, s24_65, s24_68, s24_69, s24_71, s24_72, s24_73, s24_74, s24_77, s24_78, s24_80, s24_81, s24_82, s24_83, s24_86, s24_89, s24_91, q_0, q_1, q_2, q_3, q_4, q_5, q_6, q_7, q_8, q_9, q_10, q_11, q_12, q_13, q_14, q_16, q_20, q_23, q_24, q_32, q_42, q_43, q_45, q_47, q_48, q_50, q_57, q_59, q_60, q_61, q_62, q_63, q_64, q_66, q_91, q_93, q_97, q_99, q_122, q_144, q_255, q_256, q_300, q_380, q_400, q_620, q_999, q_1000, q_4095, q_4096, q_9999, q_65536, q_99999, q_31, nI_add, pk_mul, nE, nL, nT, nM31, nShl, ib_nI, nI_clamp, bI_n0, bI_n1, bI_nar, uI_r, uI_l, uL_r, uL_i, uL_p, uA_r, uA_l, bV_some, bU_some, nar_n0, nar_n1, and_self, and_true, true_and, and_false, false_and, if_true, if_false, eq_self, Bool.false_eq_true, Bool.true_eq_false, not_true_eq_false, not_false_eq_true, ↓reduceIte, nlT, nlF, ntT, ntF, neT, neF, ieT, ieF, decide_true, decide_false, Bool.not_true, Bool.not_false, Bool.and_true, Bool.true_and, Bool.and_false, Bool.false_and, Bool.or_true, Bool.true_or, Bool.or_false, Bool.false_or, h1.th, h1.ki, x_has, c1, d1, d4, d5, n2_lt, n2_ge, w1, Option.isSome_none, Option.isSome_some]
            exact ⟨_, rfl, i2.tr d2⟩
  · intro S1 hI
    obtain ⟨i1, i2⟩ := hI
    have h1 := h.pl i2 (by decide)
    rw [Nat.sub_self] at i1
    show ∃ S', run 24 0 3 _ _ _ = _ ∧ _
    rw [s24_3, ← i1]
    simp (disch := omega) only [s24_0, s24_1, s24_5, s24_6, s24_9, s24_12, s24_13, s24_16, s24_17, s24_18, s24_20, s24_23, s24_26, s24_27, s24_28, s24_29, s24_30, s24_32, s24_35, s24_38, s24_39, s24_42, s24_45, s24_46, s24_49, s24_52, s24_53, s24_56, s24_57, s24_59, s24_60, s24_63, s24_65, s24_68, s24_69, s24_71, s24_72, s24_73, s24_74, s24_77, s24_78, s24_80, s24_81, s24_82, s24_83, s24_86, s24_89, s24_91, q_0, q_1, q_2, q_3, q_4, q_5, q_6, q_7, q_8, q_9, q_10, q_11, q_12, q_13, q_14, q_16, q_20, q_23, q_24, q_32, q_42, q_43, q_45, q_47, q_48, q_50, q_57, q_59, q_60, q_61, q_62, q_63, q_64, q_66, q_91, q_93, q_97, q_99, q_122, q_144, q_255, q_256, q_300, q_380, q_400, q_620, q_999, q_1000, q_4095, q_4096, q_9999, q_65536, q_99999, q_31, nI_add, pk_mul, nE, nL, nT, nM31, nShl, ib_nI, nI_clamp, bI_n0, bI_n1, bI_nar, uI_r, uI_l, uL_r, uL_i, uL_p, uA_r, uA_l, bV_some, bU_some, nar_n0, nar_n1, and_self, and_true, true_and, and_false, false_and, if_true, if_false, eq_self, Bool.false_eq_true, Bool.true_eq_false, not_true_eq_false, not_false_eq_true, ↓reduceIte, nlT, nlF, ntT, ntF, neT, neF, ieT, ieF, decide_true, decide_false, Bool.not_true, Bool.not_false, Bool.and_true, Bool.true_and, Bool.and_false, Bool.false_and, Bool.or_true, Bool.true_or, Bool.or_false, Bool.false_or, h1.th, brF]
    exact ⟨_, rfl, i2⟩
def o_bars (A : Tn) (R : Rs) (l w : Int32) : Int32 := if (lsB l R.2.1.1 && lsB w (A 0 2)) = true then brF A (R.2.1.2 l.toNatClampNeg) w.toNatClampNeg (A 0 1) 0 else -nI 1
theorem c_bars {S : Sto} {A : Tn} {R : Rs} (h : RepC S 0 A) (hr : ResC S R) (hw : WF A) (hR : WFR R) (l w : Int32) : ∃ S1, call 113 0 [vR 0 0, vI l, vI w] S = some (some (vI (o_bars A R l w)), S1) ∧ FC S S1 ∧ RepC S1 0 A := by
  have hWk := hw.wk
  have hR6 := hR.2.1.1
  show ∃ S1, run 113 0 0 [vR 0 0, vI l, vI w] [] S = _ ∧ _
  unfold o_bars
  cases e1 : lsB l R.2.1.1 with
  | false =>
    simp (disch := omega) only [s113_0, s113_1, s113_2, s113_5, s113_8, s113_9, s113_12, s113_13, s113_16, s113_19, s113_20, s113_21, s113_22, s113_25, s113_26, s113_29, s113_30, s113_33, s113_34, s113_35, s113_36, s113_39, q_0, q_1, q_2, q_3, q_4, q_5, q_6, q_7, q_8, q_9, q_10, q_11, q_12, q_13, q_14, q_16, q_20, q_23, q_24, q_32, q_42, q_43, q_45, q_47, q_48, q_50, q_57, q_59, q_60, q_61, q_62, q_63, q_64, q_66, q_91, q_93, q_97, q_99, q_122, q_144, q_255, q_256, q_300, q_380, q_400, q_620, q_999, q_1000, q_4095, q_4096, q_9999, q_65536, q_99999, q_31, nI_add, pk_mul, nE, nL, nT, nM31, nShl, ib_nI, nI_clamp, bI_n0, bI_n1, bI_nar, uI_r, uI_l, uL_r, uL_i, uL_p, uA_r, uA_l, bV_some, bU_some, nar_n0, nar_n1, and_self, and_true, true_and, and_false, false_and, if_true, if_false, eq_self, Bool.false_eq_true, Bool.true_eq_false, not_true_eq_false, not_false_eq_true, ↓reduceIte, nlT, nlF, ntT, ntF, neT, neF, ieT, ieF, decide_true, decide_false, Bool.not_true, Bool.not_false, Bool.and_true, Bool.true_and, Bool.and_false, Bool.false_and, Bool.or_true, Bool.true_or, Bool.or_false, Bool.false_or, x_isLw hr, e1]
    exact ⟨_, rfl, FC.rf, h⟩
  | true =>
    have e1' := e1
    obtain ⟨r, hr', rfl⟩ := lsB_t e1 (by omega)
    cases e2 : lsB w (A 0 2) with
    | false =>
      simp (disch := omega) only [s113_0, s113_1, s113_2, s113_5, s113_8, s113_9, s113_12, s113_13, s113_16, s113_19, s113_20, s113_21, s113_22, s113_25, s113_26, s113_29, s113_30, s113_33, s113_34, s113_35, s113_36, s113_39, q_0, q_1, q_2, q_3, q_4, q_5, q_6, q_7, q_8, q_9, q_10, q_11, q_12, q_13, q_14, q_16, q_20, q_23, q_24, q_32, q_42, q_43, q_45, q_47, q_48, q_50, q_57, q_59, q_60, q_61, q_62, q_63, q_64, q_66, q_91, q_93, q_97, q_99, q_122, q_144, q_255, q_256, q_300, q_380, q_400, q_620, q_999, q_1000, q_4095, q_4096, q_9999, q_65536, q_99999, q_31, nI_add, pk_mul, nE, nL, nT, nM31, nShl, ib_nI, nI_clamp, bI_n0, bI_n1, bI_nar, uI_r, uI_l, uL_r, uL_i, uL_p, uA_r, uA_l, bV_some, bU_some, nar_n0, nar_n1, and_self, and_true, true_and, and_false, false_and, if_true, if_false, eq_self, Bool.false_eq_true, Bool.true_eq_false, not_true_eq_false, not_false_eq_true, ↓reduceIte, nlT, nlF, ntT, ntF, neT, neF, ieT, ieF, decide_true, decide_false, Bool.not_true, Bool.not_false, Bool.and_true, Bool.true_and, Bool.and_false, Bool.false_and, Bool.or_true, Bool.true_or, Bool.or_false, Bool.false_or, x_isLw hr, e1', x_isW h, e2]
      exact ⟨_, rfl, FC.rf, h⟩
    | true =>
      have e2' := e2
      obtain ⟨j, hj, rfl⟩ := lsB_t e2 (by omega)
      obtain ⟨S1, a1, a2⟩ := x_bars h hw (hr.2.1.2 r hr') (hR.2.1.2 r hr') hj
      simp (disch := omega) only [s113_0, s113_1, s113_2, s113_5, s113_8, s113_9, s113_12, s113_13, s113_16, s113_19, s113_20, s113_21, s113_22, s113_25, s113_26, s113_29, s113_30, s113_33, s113_34, s113_35, s113_36, s113_39, q_0, q_1, q_2, q_3, q_4, q_5, q_6, q_7, q_8, q_9, q_10, q_11, q_12, q_13, q_14, q_16, q_20, q_23, q_24, q_32, q_42, q_43, q_45, q_47, q_48, q_50, q_57, q_59, q_60, q_61, q_62, q_63, q_64, q_66, q_91, q_93, q_97, q_99, q_122, q_144, q_255, q_256, q_300, q_380, q_400, q_620, q_999, q_1000, q_4095, q_4096, q_9999, q_65536, q_99999, q_31, nI_add, pk_mul, nE, nL, nT, nM31, nShl, ib_nI, nI_clamp, bI_n0, bI_n1, bI_nar, uI_r, uI_l, uL_r, uL_i, uL_p, uA_r, uA_l, bV_some, bU_some, nar_n0, nar_n1, and_self, and_true, true_and, and_false, false_and, if_true, if_false, eq_self, Bool.false_eq_true, Bool.true_eq_false, not_true_eq_false, not_false_eq_true, ↓reduceIte, nlT, nlF, ntT, ntF, neT, neF, ieT, ieF, decide_true, decide_false, Bool.not_true, Bool.not_false, Bool.and_true, Bool.true_and, Bool.and_false, Bool.false_and, Bool.or_true, Bool.true_or, Bool.or_false, Bool.false_or, x_isLw hr, e1', x_isW h, e2', a1, Nat.zero_add]
      exact ⟨_, rfl, FC.pl a2 (by decide), h.pl a2 (by decide)⟩
theorem r_bars {S : Sto} {A : Tn} {R : Rs} (h : RepM S A) (hr : ResM S R) (hw : WF A) (hR : WFR R) (l w : Int32) : ∃ S1, call 208 0 [vR 50 0, vI l, vI w] S = some (some (vI (o_bars A R l w)), S1) ∧ FM S S1 ∧ RepM S1 A := by
  have hWk := hw.wk
  have hT := hw.th
  have hR6 := hR.2.1.1
  show ∃ S1, run 208 0 0 [vR 50 0, vI l, vI w, vU, vU] [] S = _ ∧ _
  unfold o_bars
  cases e1 : lsB l R.2.1.1 with
  | false =>
    simp (disch := omega) only [s208_0, s208_1, s208_2, s208_5, s208_8, s208_9, s208_10, s208_13, s208_16, s208_17, s208_18, s208_19, s208_21, s208_22, s208_25, s208_26, s208_27, s208_30, s208_31, s208_34, s208_35, s208_36, s208_37, s208_40, s208_43, s208_44, s208_45, s208_46, s208_47, s208_50, s208_53, s208_54, s208_55, s208_56, s208_57, s208_58, s208_61, s208_62, s208_63, s208_66, s208_69, s208_70, s208_71, s208_72, s208_73, s208_74, s208_77, s208_78, s208_79, s208_82, s208_85, s208_86, s208_89, s208_90, s208_92, s208_94, s208_97, s208_98, s208_101, s208_102, s208_103, s208_106, s208_107, s208_110, s208_111, s208_112, s208_113, s208_116, s208_119, s208_121, q_0, q_1, q_2, q_3, q_4, q_5, q_6, q_7, q_8, q_9, q_10, q_11, q_12, q_13, q_14, q_16, q_20, q_23, q_24, q_32, q_42, q_43, q_45, q_47, q_48, q_50, q_57, q_59, q_60, q_61, q_62, q_63, q_64, q_66, q_91, q_93, q_97, q_99, q_122, q_144, q_255, q_256, q_300, q_380, q_400, q_620, q_999, q_1000, q_4095, q_4096, q_9999, q_65536, q_99999, q_31, nI_add, pk_mul, nE, nL, nT, nM31, nShl, ib_nI, nI_clamp, bI_n0, bI_n1, bI_nar, uI_r, uI_l, uL_r, uL_i, uL_p, uA_r, uA_l, bV_some, bU_some, nar_n0, nar_n1, and_self, and_true, true_and, and_false, false_and, if_true, if_false, eq_self, Bool.false_eq_true, Bool.true_eq_false, not_true_eq_false, not_false_eq_true, ↓reduceIte, nlT, nlF, ntT, ntF, neT, neF, ieT, ieF, decide_true, decide_false, Bool.not_true, Bool.not_false, Bool.and_true, Bool.true_and, Bool.and_false, Bool.false_and, Bool.or_true, Bool.true_or, Bool.or_false, Bool.false_or, m_isLw hr hR6, e1]
    exact ⟨_, rfl, FM.rf, h⟩
  | true =>
    have e1' := e1
    obtain ⟨r, hr', rfl⟩ := lsB_t e1 (by omega)
    cases e2 : lsB w (A 0 2) with
    | false =>
      simp (disch := omega) only [s208_0, s208_1, s208_2, s208_5, s208_8, s208_9, s208_10, s208_13, s208_16, s208_17, s208_18, s208_19, s208_21, s208_22, s208_25, s208_26, s208_27, s208_30, s208_31, s208_34, s208_35, s208_36, s208_37, s208_40, s208_43, s208_44, s208_45, s208_46, s208_47, s208_50, s208_53, s208_54, s208_55, s208_56, s208_57, s208_58, s208_61, s208_62, s208_63, s208_66, s208_69, s208_70, s208_71, s208_72, s208_73, s208_74, s208_77, s208_78, s208_79, s208_82, s208_85, s208_86, s208_89, s208_90, s208_92, s208_94, s208_97, s208_98, s208_101, s208_102, s208_103, s208_106, s208_107, s208_110, s208_111, s208_112, s208_113, s208_116, s208_119, s208_121, q_0, q_1, q_2, q_3, q_4, q_5, q_6, q_7, q_8, q_9, q_10, q_11, q_12, q_13, q_14, q_16, q_20, q_23, q_24, q_32, q_42, q_43, q_45, q_47, q_48, q_50, q_57, q_59, q_60, q_61, q_62, q_63, q_64, q_66, q_91, q_93, q_97, q_99, q_122, q_144, q_255, q_256, q_300, q_380, q_400, q_620, q_999, q_1000, q_4095, q_4096, q_9999, q_65536, q_99999, q_31, nI_add, pk_mul, nE, nL, nT, nM31, nShl, ib_nI, nI_clamp, bI_n0, bI_n1, bI_nar, uI_r, uI_l, uL_r, uL_i, uL_p, uA_r, uA_l, bV_some, bU_some, nar_n0, nar_n1, and_self, and_true, true_and, and_false, false_and, if_true, if_false, eq_self, Bool.false_eq_true, Bool.true_eq_false, not_true_eq_false, not_false_eq_true, ↓reduceIte, nlT, nlF, ntT, ntF, neT, neF, ieT, ieF, decide_true, decide_false, Bool.not_true, Bool.not_false, Bool.and_true, Bool.true_and, Bool.and_false, Bool.false_and, Bool.or_true, Bool.true_or, Bool.or_false, Bool.false_or, m_isLw hr hR6, e1', m_isW h hw, e2]
      exact ⟨_, rfl, FM.rf, h⟩
    | true =>
      have e2' := e2
      obtain ⟨w, hv, rfl⟩ := lsB_t e2 (by omega)
      have hW := hw.W (w := w) (by omega)
      have hL := hr.2.1.2 r hr'
      have hl := hR.2.1.2 r hr'
      rw [nI_clamp (by omega), nI_clamp (by omega)]
      generalize R.2.1.2 r = L at hL hl ⊢
      simp (disch := omega) only [s208_0, s208_1, s208_2, s208_5, s208_8, s208_9, s208_10, s208_13, s208_16, s208_17, s208_18, s208_19, s208_21, s208_22, s208_25, s208_26, s208_27, s208_30, s208_31, s208_34, s208_35, s208_36, s208_37, s208_40, s208_43, s208_44, s208_45, s208_46, s208_47, s208_50, s208_53, s208_54, s208_55, s208_56, s208_57, s208_58, s208_61, s208_62, s208_63, s208_66, s208_69, s208_70, s208_71, s208_72, s208_73, s208_74, s208_77, s208_78, s208_79, s208_82, s208_85, s208_86, s208_89, s208_90, s208_92, s208_94, s208_97, s208_98, s208_101, s208_102, s208_103, s208_106, s208_107, s208_110, s208_111, s208_112, s208_113, s208_116, s208_119, s208_121, q_0, q_1, q_2, q_3, q_4, q_5, q_6, q_7, q_8, q_9, q_10, q_11, q_12, q_13, q_14, q_16, q_20, q_23, q_24, q_32, q_42, q_43, q_45, q_47, q_48, q_50, q_57, q_59, q_60, q_61, q_62, q_63, q_64, q_66, q_91, q_93, q_97, q_99, q_122, q_144, q_255, q_256, q_300, q_380, q_400, q_620, q_999, q_1000, q_4095, q_4096, q_9999, q_65536, q_99999, q_31, nI_add, pk_mul, nE, nL, nT, nM31, nShl, ib_nI, nI_clamp, bI_n0, bI_n1, bI_nar, uI_r, uI_l, uL_r, uL_i, uL_p, uA_r, uA_l, bV_some, bU_some, nar_n0, nar_n1, and_self, and_true, true_and, and_false, false_and, if_true, if_false, eq_self, Bool.false_eq_true, Bool.true_eq_false, not_true_eq_false, not_false_eq_true, ↓reduceIte, nlT, nlF, ntT, ntF, neT, neF, ieT, ieF, decide_true, decide_false, Bool.not_true, Bool.not_false, Bool.and_true, Bool.true_and, Bool.and_false, Bool.false_and, Bool.or_true, Bool.true_or, Bool.or_false, Bool.false_or, m_isLw hr hR6, e1', m_isW h hw, e2']
      have key := upS (σ := Sto) (I := fun i S1 => brF A L w (A 0 1 - i) i = brF A L w (A 0 1) 0 ∧ Fr (pL [76, 77]) S S1) (F := fun i S1 => run 208 0 20 [vR 50 0, vI (nI r), vI (nI w), vI (nI i), vU] [] S1) (Q := fun x => ∃ S', x = some (some (vI (brF A L w (A 0 1) 0)), S') ∧ FM S S' ∧ RepM S' A) (N := A 0 1) ?_ ?_ 0 S (by omega) ⟨rfl, Fr.rfl'⟩
      · exact key
      · intro i S1 hi hI
        obtain ⟨i1, i2⟩ := hI
        have h1 := h.pl i2 (by decide)
        have hL1 := hL.pl i2 (by decide)
        have hO := hw.o (t := i) (by omega)
        have em : A 0 1 - i = (A 0 1 - (i + 1)) + 1 := by omega
        rw [em, brF_s] at i1
        show (∃ S', run 208 0 20 _ _ _ = _ ∧ _) ∨ ∃ s', _ ∧ run 208 0 20 _ _ _ = run 208 0 20 _ _ _
        rw [s208_20]
        cases c1 : (A 11 w).testBit i with
        | false =>
          rw [c1, if_neg (by simp)] at i1
          refine Or.inr ⟨S1, ⟨i1, i2⟩, ?_⟩
          simp (disch := omega) only [s208_0, s208_1, s208_2, s208_5, s208_8, s208_9, s208_10, s208_13, s208_16, s208_17, s208_18, s208_19, s208_21, s208_22, s208_25, s208_26, s208_27, s208_30, s208_31, s208_34, s208_35, s208_36, s208_37, s208_40, s208_43, s208_44, s208_45, s208_46, s208_47, s208_50, s208_53, s208_54, s208_55, s208_56, s208_57, s208_58, s208_61, s208_62, s208_63, s208_66, s208_69, s208_70, s208_71, s208_72, s208_73, s208_74, s208_77, s208_78, s208_79, s208_82, s208_85, s208_86, s208_89, s208_90, s208_92, s208_94, s208_97, s208_98, s208_101, s208_102, s208_103, s208_106, s208_107, s208_110, s208_111, s208_112, s208_113, s208_116, s208_119, s208_121, q_0, q_1, q_2, q_3, q_4, q_5, q_6, q_7, q_8, q_9, q_10, q_11, q_12, q_13, q_14, q_16, q_20, q_23, q_24, q_32, q_42, q_43, q_45, q_47, q_48, q_50, q_57, q_59, q_60, q_61, q_62, q_63, q_64, q_66, q_91, q_93, q_97, q_99, q_122, q_144, q_255, q_256, q_300, q_380, q_400, q_620, q_999, q_1000, q_4095, q_4096, q_9999, q_65536, q_99999, q_31, nI_add, pk_mul, nE, nL, nT, nM31, nShl, ib_nI, nI_clamp, bI_n0, bI_n1, bI_nar, uI_r, uI_l, uL_r, uL_i, uL_p, uA_r, uA_l, bV_some, bU_some, nar_n0, nar_n1, and_self, and_true, true_and, and_false, false_and, if_true, if_false, eq_self, Bool.false_eq_true, Bool.true_eq_false, not_true_eq_false, not_false_eq_true, ↓reduceIte, nlT, nlF, ntT, ntF, neT, neF, ieT, ieF, decide_true, decide_false, Bool.not_true, Bool.not_false, Bool.and_true, Bool.true_and, Bool.and_false, Bool.false_and, Bool.or_true, Bool.true_or, Bool.or_false, Bool.false_or, h1.sc, h1.se, m_has, c1]
        | true =>
          obtain ⟨S2, d1, d2⟩ := m_hadFor h1 hw (r := r) (by omega) hL1 hl (w := w) (t := i) (by omega) (by omega)
          have h2 := h1.pl d2 (by decide)
          have hL2 := hL1.pl d2 (by decide)
          cases c2 : haO A L w i with
          | some p =>
            have hp := haO_le c2
            rw [c1, c2, if_neg (by simp)] at i1
            rw [c2] at d1
            simp only [nV] at d1
            refine Or.inr ⟨S2, ⟨i1, i2.tr d2⟩, ?_⟩
            simp (disch := omega) only [s208_0, s208_1, s208_2, s208_5, s208_8, s208_9, s208_10, s208_13, s208_16, s208_17, s208_18, s208_19, s208_21, s208_22, s208_25, s208_26, s208_27, s208_30, s208_31, s208_34, s208_35, s208_36, s208_37, s208_40, s208_43, s208_44, s208_45, s208_46, s208_47, s208_50, s208_53, s208_54, s208_55, s208_56, s208_57, s208_58, s208_61, s208_62, s208_63, s208_66, s208_69, s208_70, s208_71, s208_72, s208_73, s208_74, s208_77, s208_78, s208_79, s208_82, s208_85, s208_86, s208_89, s208_90, s208_92, s208_94, s208_97, s208_98, s208_101, s208_102, s208_103, s208_106, s208_107, s208_110, s208_111, s208_112, s208_113, s208_116, s208_119, s208_121, q_0, q_1, q_2, q_3, q_4, q_5, q_6, q_7, q_8, q_9, q_10, q_11, q_12, q_13, q_14, q_16, q_20, q_23, q_24, q_32, q_42, q_43, q_45, q_47, q_48, q_50, q_57, q_59, q_60, q_61, q_62, q_63, q_64, q_66, q_91, q_93, q_97, q_99, q_122, q_144, q_255, q_256, q_300, q_380, q_400, q_620, q_999, q_1000, q_4095, q_4096, q_9999, q_65536, q_99999, q_31, nI_add, pk_mul, nE, nL, nT, nM31, nShl, ib_nI, nI_clamp, bI_n0, bI_n1, bI_nar, uI_r, uI_l, uL_r, uL_i, uL_p, uA_r, uA_l, bV_some, bU_some, nar_n0, nar_n1, and_self, and_true, true_and, and_false, false_and, if_true, if_false, eq_self, Bool.false_eq_true, Bool.true_eq_false, not_true_eq_false, not_false_eq_true, ↓reduceIte, nlT, nlF, ntT, ntF, neT, neF, ieT, ieF, decide_true, decide_false, Bool.not_true, Bool.not_false, Bool.and_true, Bool.true_and, Bool.and_false, Bool.false_and, Bool.or_true, Bool.true_or, Bool.or_false, Bool.false_or, h1.sc, h1.se, m_has, c1, d1]
          | none =>
            rw [c1, c2, if_pos ⟨rfl, rfl⟩] at i1
            rw [c2] at d1
            obtain ⟨S3, f1, f2⟩ := m_nodOf h2 hw (r := r) (by omega) hL2 hl (w := w) (t := i) (o := A 7 i) (by omega) (by omega) hO.1
            have h3 := h2.pl f2 (by decide)
            have hL3 := hL2.pl f2 (by decide)
            obtain ⟨S4, g1, g2⟩ := m_nodOf h3 hw (r := r) (by omega) hL3 hl (w := w) (t := i) (o := A 8 i) (by omega) (by omega) hO.2
            have h4 := h3.pl g2 (by decide)
            have fr3 := (i2.tr d2).tr f2
            have fr4 := fr3.tr g2
            refine Or.inl ?_
            rw [← i1]
            unfold brV
            cases hx : ndO A L w i (A 7 i) with
            | none =>
              rw [hx] at f1
              simp only [nV] at d1 f1
              simp (disch := omega) only [s208_0, s208_1, s208_2, s208_5, s208_8, s208_9, s208_10, s208_13, s208_16, s208_17, s208_18, s208_19, s208_21, s208_22, s208_25, s208_26, s208_27, s208_30, s208_31, s208_34, s208_35, s208_36, s208_37, s208_40, s208_43, s208_44, s208_45, s208_46, s208_47, s208_50, s208_53, s208_54, s208_55, s208_56, s208_57, s208_58, s208_61, s208_62, s208_63, s208_66, s208_69, s208_70, s208_71, s208_72, s208_73, s208_74, s208_77, s208_78, s208_79, s208_82, s208_85, s208_86, s208_89, s208_90, s208_92, s208_94, s208_97, s208_98, s208_101, s208_102, s208_103, s208_106, s208_107, s208_110, s208_111, s208_112, s208_113, s208_116, s208_119, s208_121, q_0, q_1, q_2, q_3, q_4, q_5, q_6, q_7, q_8, q_9, q_10, q_11, q_12, q_13, q_14, q_16, q_20, q_23, q_24, q_32, q_42, q_43, q_45, q_47, q_48, q_50, q_57, q_59, q_60, q_61, q_62, q_63, q_64, q_66, q_91, q_93, q_97, q_99, q_122, q_144, q_255, q_256, q_300, q_380, q_400, q_620, q_999, q_1000, q_4095, q_4096, q_9999, q_65536, q_99999, q_31, nI_add, pk_mul, nE, nL, nT, nM31, nShl, ib_nI, nI_clamp, bI_n0, bI_n1, bI_nar, uI_r, uI_l, uL_r, uL_i, uL_p, uA_r, uA_l, bV_some, bU_some, nar_n0, nar_n1, and_self, and_true, true_and, and_false, false_and, if_true, if_false, eq_self, Bool.false_eq_true, Bool.true_eq_false, not_true_eq_false, not_false_eq_true, ↓reduceIte, nlT, nlF, ntT, ntF, neT, neF, ieT, ieF, decide_true, decide_false, Bool.not_true, Bool.not_false, Bool.and_true, Bool.true_and, Bool.and_false, Bool.false_and, Bool.or_true, Bool.true_or, Bool.or_false, Bool.false_or, h1.sc, h1.se, m_has, c1, d1, f1, n2_lt, n2_ge, h2.o1, h3.o1, Option.isSome_none]
              exact ⟨_, rfl, FM.pl fr3 (by decide), h3⟩
            | some a =>
              have ha := ndO_le hx
              rw [hx] at f1
              cases hy : ndO A L w i (A 8 i) with
              | none =>
                rw [hy] at g1
                simp only [nV] at d1 f1 g1
                simp (disch := omega) only [s208_0, s208_1, s208_2, s208_5, s208_8, s208_9, s208_10, s208_13, s208_16, s208_17, s208_18, s208_19, s208_21, s208_22, s208_25, s208_26, s208_27, s208_30, s208_31, s208_34, s208_35, s208_36, s208_37, s208_40, s208_43, s208_44, s208_45, s208_46, s208_47, s208_50, s208_53, s208_54, s208_55, s208_56, s208_57, s208_58, s208_61, s208_62, s208_63, s208_66, s208_69, s208_70, s208_71, s208_72, s208_73, s208_74, s208_77, s208_78, s208_79, s208_82, s208_85, s208_86, s208_89, s208_90, s208_92, s208_94, s208_97, s208_98, s208_101, s208_102, s208_103, s208_106, s208_107, s208_110, s208_111, s208_112, s208_113, s208_116, s208_119, s208_121, q_0, q_1, q_2, q_3, q_4, q_5, q_6, q_7, q_8, q_9, q_10, q_11, q_12, q_13, q_14, q_16, q_20, q_23, q_24, q_32, q_42, q_43, q_45, q_47, q_48, q_50, q_57, q_59, q_60, q_61, q_62, q_63, q_64, q_66, q_91, q_93, q_97, q_99, q_122, q_144, q_255, q_256, q_300, q_380, q_400, q_620, q_999, q_1000, q_4095, q_4096, q_9999, q_65536, q_99999, q_31, nI_add, pk_mul, nE, nL, nT, nM31, nShl, ib_nI, nI_clamp, bI_n0, bI_n1, bI_nar, uI_r, uI_l, uL_r, uL_i, uL_p, uA_r, uA_l, bV_some, bU_some, nar_n0, nar_n1, and_self, and_true, true_and, and_false, false_and, if_true, if_false, eq_self, Bool.false_eq_true, Bool.true_eq_false, not_true_eq_false, not_false_eq_true, ↓reduceIte, nlT, nlF, ntT, ntF, neT, neF, ieT, ieF, decide_true, decide_false, Bool.not_true, Bool.not_false, Bool.and_true, Bool.true_and, Bool.and_false, Bool.false_and, Bool.or_true, Bool.true_or, Bool.or_false, Bool.false_or, h1.sc, h1.se, m_has, c1, d1, f1, g1, n2_lt, n2_ge, h2.o1, h3.o2, h4.o2, Option.isSome_none, Option.isSome_some]
                exact ⟨_, rfl, FM.pl fr4 (by decide), h4⟩
              | some b =>
                have hb := ndO_le hy
                rw [hy] at g1
                simp only [nV] at d1 f1 g1
                simp (disch := omega) only [s208_0, s208_1, s208_2, s208_5, s208_8, s208_9, s208_10, s208_13, s208_16, s208_17, s208_18, s208_19, s208_21, s208_22, s208_25, s208_26, s208_27, s208_30, s208_31, s208_34, s208_35, s208_36, s208_37, s208_40, s208_43, s208_44, s208_45, s208_46, s208_47, s208_50, s208_53, s208_54, s208_55, s208_56, s208_57, s208_58, s208_61, s208_62, s208_63, s208_66, s208_69, s208_70, s208_71, s208_72, s208_73, s208_74, s208_77, s208_78, s208_79, s208_82, s208_85, s208_86, s208_89, s208_90, s208_92, s208_94, s208_97, s208_98, s208_101, s208_102, s208_103, s208_106, s208_107, s208_110, s208_111, s208_112, s208_113, s208_116, s208_119, s208_121, q_0, q_1, q_2, q_3, q_4, q_5, q_6, q_7, q_8, q_9, q_10, q_11, q_12, q_13, q_14, q_16, q_20, q_23, q_24, q_32, q_42, q_43, q_45, q_47, q_48, q_50, q_57, q_59, q_60, q_61, q_62, q_63, q_64, q_66, q_91, q_93, q_97, q_99, q_122, q_144, q_255, q_256, q_300, q_380, q_400, q_620, q_999, q_1000, q_4095, q_4096, q_9999, q_65536, q_99999, q_31, nI_add, pk_mul, nE, nL, nT, nM31, nShl, ib_nI, nI_clamp, bI_n0, bI_n1, bI_nar, uI_r, uI_l, uL_r, uL_i, uL_p, uA_r, uA_l, bV_some, bU_some, nar_n0, nar_n1, and_self, and_true, true_and, and_false, false_and, if_true, if_false, eq_self, Bool.false_eq_true, Bool.true_eq_false, not_true_eq_false, not_false_eq_true, ↓reduceIte, nlT, nlF, ntT, ntF, neT, neF, ieT, ieF, decide_true, decide_false, Bool.not_true, Bool.not_false, Bool.and_true, Bool.true_and, Bool.and_false, Bool.false_and, Bool.or_true, Bool.true_or, Bool.or_false, Bool.false_or, h1.sc, h1.se, m_has, c1, d1, f1, g1, n2_lt, n2_ge, h2.o1, h3.o2, h4.o1, Option.isSome_none, Option.isSome_some]
                exact ⟨_, rfl, FM.pl fr4 (by decide), h4⟩
      · intro S1 hI
        obtain ⟨i1, i2⟩ := hI
        have h1 := h.pl i2 (by decide)
        rw [Nat.sub_self] at i1
        show ∃ S', run 208 0 20 _ _ _ = _ ∧ _
        rw [s208_20, ← i1]
        simp (disch := omega) only [s208_0, s208_1, s208_2, s208_5, s208_8, s208_9, s208_10, s208_13, s208_16, s208_17, s208_18, s208_19, s208_21, s208_22, s208_25, s208_26, s208_27, s208_30, s208_31, s208_34, s208_35, s208_36, s208_37, s208_40, s208_43, s208_44, s208_45, s208_46, s208_47, s208_50, s208_53, s208_54, s208_55, s208_56, s208_57, s208_58, s208_61, s208_62, s208_63, s208_66, s208_69, s208_70, s208_71, s208_72, s208_73, s208_74, s208_77, s208_78, s208_79, s208_82, s208_85, s208_86, s208_89, s208_90, s208_92, s208_94, s208_97, s208_98, s208_101, s208_102, s208_103, s208_106, s208_107, s208_110, s208_111, s208_112, s208_113, s208_116, s208_119, s208_121, q_0, q_1, q_2, q_3, q_4, q_5, q_6, q_7, q_8, q_9, q_10, q_11, q_12, q_13, q_14, q_16, q_20, q_23, q_24, q_32, q_42, q_43, q_45, q_47, q_48, q_50, q_57, q_59, q_60, q_61, q_62, q_63, q_64, q_66, q_91, q_93, q_97, q_99, q_122, q_144, q_255, q_256, q_300, q_380, q_400, q_620, q_999, q_1000, q_4095, q_4096, q_9999, q_65536, q_99999, q_31, nI_add, pk_mul, nE, nL, nT, nM31, nShl, ib_nI, nI_clamp, bI_n0, bI_n1, bI_nar, uI_r, uI_l, uL_r, uL_i, uL_p, uA_r, uA_l, bV_some, bU_some, nar_n0, nar_n1, and_self, and_true, true_and, and_false, false_and, if_true, if_false, eq_self, Bool.false_eq_true, Bool.true_eq_false, not_true_eq_false, not_false_eq_true, ↓reduceIte, nlT, nlF, ntT, ntF, neT, neF, ieT, ieF, decide_true, decide_false, Bool.not_true, Bool.not_false, Bool.and_true, Bool.true_and, Bool.and_false, Bool.false_and, Bool.or_true, Bool.true_or, Bool.or_false, Bool.false_or, h1.sc, brF]
        exact ⟨_, rfl, FM.pl i2 (by decide), h1⟩
