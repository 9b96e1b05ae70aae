/-! calls that write a few cells -/
theorem q_n9 : (-9 : Int32) = -nI 9 := rfl
def o_like (A : Tn) (a b n : Int32) : Int32 × Tn := if (!decide (a = b) && lsB a (A 0 0) && lsB b (A 0 0)) = true ∧ ¬ n < -nI 9 ∧ ¬ nI 9 < n then (nI (A 4 (12 * a.toNatClampNeg + b.toNatClampNeg)) - nI 9, uT A 4 (12 * a.toNatClampNeg + b.toNatClampNeg) (n + 9).toNatClampNeg) else (-nI 100, A)
theorem like_v {n : Int32} (h1 : ¬ n < -nI 9) (h2 : ¬ nI 9 < n) : ∃ v, v ≤ 18 ∧ n = nI v - nI 9 ∧ (n + 9).toNatClampNeg = v := by
  have e9 : (-nI 9 : Int32).toInt = -9 := by decide
  have e99 : (nI 9 : Int32).toInt = 9 := by decide
  rw [Int32.lt_iff_toInt_lt, e9] at h1
  rw [Int32.lt_iff_toInt_lt, e99] at h2
  have e : n = nI (n.toInt + 9).toNat - nI 9 := by
    apply Int32.toInt_inj.mp
    rw [pk_sub_toInt (by omega) (by decide)]
    omega
  refine ⟨(n.toInt + 9).toNat, by omega, e, ?_⟩
  have e2 : n + 9 = nI (n.toInt + 9).toNat := by
    rw [show (9 : Int32) = nI 9 from rfl]
    apply Int32.toInt_inj.mp
    rw [nI_toInt (by omega)]
    have h3 : (n + nI 9).toInt = n.toInt + 9 := by
      rw [Int32.toInt_add, e99]
      apply Int.bmod_eq_of_le
      all_goals omega
    rw [h3]
    omega
  rw [e2, nI_clamp (by omega)]
theorem w_like {A : Tn} (h : WF A) (a b n : Int32) : WF (o_like A a b n).2 := by
  unfold o_like
  split
  · rename_i e
    obtain ⟨v, h1, h2, h3⟩ := like_v e.2.1 e.2.2
    rw [h3]
    exact h.s_li h1
  · exact h
theorem c_like {S : Sto} {A : Tn} (h : RepC S 0 A) (hw : WF A) (a b n : Int32) : ∃ S1, call 94 0 [vR 0 0, vI a, vI b, vI n] S = some (some (vI (o_like A a b n).1), S1) ∧ FC S S1 ∧ RepC S1 0 (o_like A a b n).2 := by
  have hP := hw.pe
  show ∃ S1, run 94 0 0 [vR 0 0, vI a, vI b, vI n, vU] [] S = _ ∧ _
  unfold o_like
  cases e1 : (!decide (a = b) && lsB a (A 0 0) && lsB b (A 0 0)) with
  | false =>
    simp (disch := omega) only [s94_0, s94_1, s94_4, s94_5, s94_6, s94_9, s94_12, s94_13, s94_15, s94_18, s94_19, s94_21, s94_24, s94_26, s94_27, s94_28, s94_31, s94_34, s94_35, s94_37, s94_38, s94_39, s94_40, s94_41, s94_43, s94_44, s94_47, s94_50, s94_51, s94_53, s94_54, s94_55, s94_56, s94_57, s94_58, s94_60, q_0, q_1, q_2, q_3, q_4, q_5, q_6, q_7, q_8, q_9, q_10, q_11, q_12, q_13, q_14, q_16, q_20, q_23, q_24, q_32, q_42, q_43, q_45, q_47, q_48, q_50, q_57, q_59, q_60, q_61, q_62, q_63, q_64, q_66, q_91, q_93, q_97, q_99, q_122, q_144, q_255, q_256, q_300, q_380, q_400, q_620, q_999, q_1000, q_4095, q_4096, q_9999, q_65536, q_99999, q_31, nI_add, pk_mul, nE, nL, nT, nM31, nShl, ib_nI, nI_clamp, bI_n0, bI_n1, bI_nar, uI_r, uI_l, uL_r, uL_i, uL_p, uA_r, uA_l, bV_some, bU_some, nar_n0, nar_n1, and_self, and_true, true_and, and_false, false_and, if_true, if_false, eq_self, Bool.false_eq_true, Bool.true_eq_false, not_true_eq_false, not_false_eq_true, ↓reduceIte, nlT, nlF, ntT, ntF, neT, neF, ieT, ieF, decide_true, decide_false, Bool.not_true, Bool.not_false, Bool.and_true, Bool.true_and, Bool.and_false, Bool.false_and, Bool.or_true, Bool.true_or, Bool.or_false, Bool.false_or, x_2 h, e1, q_100]
    exact ⟨_, rfl, FC.rf, h⟩
  | true =>
    have e1' := e1
    simp only [Bool.and_eq_true] at e1
    obtain ⟨i, hi, rfl⟩ := lsB_t e1.1.2 (by omega)
    obtain ⟨j, hj, rfl⟩ := lsB_t e1.2 (by omega)
    have l1 := e1.1.2
    have l2 := e1.2
    have hij : i ≠ j := by
      intro q
      subst q
      simp at e1
    by_cases f1 : n < -nI 9
    · simp (disch := omega) only [s94_0, s94_1, s94_4, s94_5, s94_6, s94_9, s94_12, s94_13, s94_15, s94_18, s94_19, s94_21, s94_24, s94_26, s94_27, s94_28, s94_31, s94_34, s94_35, s94_37, s94_38, s94_39, s94_40, s94_41, s94_43, s94_44, s94_47, s94_50, s94_51, s94_53, s94_54, s94_55, s94_56, s94_57, s94_58, s94_60, q_0, q_1, q_2, q_3, q_4, q_5, q_6, q_7, q_8, q_9, q_10, q_11, q_12, q_13, q_14, q_16, q_20, q_23, q_24, q_32, q_42, q_43, q_45, q_47, q_48, q_50, q_57, q_59, q_60, q_61, q_62, q_63, q_64, q_66, q_91, q_93, q_97, q_99, q_122, q_144, q_255, q_256, q_300, q_380, q_400, q_620, q_999, q_1000, q_4095, q_4096, q_9999, q_65536, q_99999, q_31, nI_add, pk_mul, nE, nL, nT, nM31, nShl, ib_nI, nI_clamp, bI_n0, bI_n1, bI_nar, uI_r, uI_l, uL_r, uL_i, uL_p, uA_r, uA_l, bV_some, bU_some, nar_n0, nar_n1, and_self, and_true, true_and, and_false, false_and, if_true, if_false, eq_self, Bool.false_eq_true, Bool.true_eq_false, not_true_eq_false, not_false_eq_true, ↓reduceIte, nlT, nlF, ntT, ntF, neT, neF, ieT, ieF, decide_true, decide_false, Bool.not_true, Bool.not_false, Bool.and_true, Bool.true_and, Bool.and_false, Bool.false_and, Bool.or_true, Bool.true_or, Bool.or_false, Bool.false_or, x_2 h, l1, l2, q_100, f1]
      exact ⟨_, rfl, FC.rf, h⟩
    · by_cases f2 : nI 9 < n
      · have f3 : ¬ n ≤ nI 9 := Int32.not_le.mpr f2
        simp (disch := omega) only [s94_0, s94_1, s94_4, s94_5, s94_6, s94_9, s94_12, s94_13, s94_15, s94_18, s94_19, s94_21, s94_24, s94_26, s94_27, s94_28, s94_31, s94_34, s94_35, s94_37, s94_38, s94_39, s94_40, s94_41, s94_43, s94_44, s94_47, s94_50, s94_51, s94_53, s94_54, s94_55, s94_56, s94_57, s94_58, s94_60, q_0, q_1, q_2, q_3, q_4, q_5, q_6, q_7, q_8, q_9, q_10, q_11, q_12, q_13, q_14, q_16, q_20, q_23, q_24, q_32, q_42, q_43, q_45, q_47, q_48, q_50, q_57, q_59, q_60, q_61, q_62, q_63, q_64, q_66, q_91, q_93, q_97, q_99, q_122, q_144, q_255, q_256, q_300, q_380, q_400, q_620, q_999, q_1000, q_4095, q_4096, q_9999, q_65536, q_99999, q_31, nI_add, pk_mul, nE, nL, nT, nM31, nShl, ib_nI, nI_clamp, bI_n0, bI_n1, bI_nar, uI_r, uI_l, uL_r, uL_i, uL_p, uA_r, uA_l, bV_some, bU_some, nar_n0, nar_n1, and_self, and_true, true_and, and_false, false_and, if_true, if_false, eq_self, Bool.false_eq_true, Bool.true_eq_false, not_true_eq_false, not_false_eq_true, ↓reduceIte, nlT, nlF, ntT, ntF, neT, neF, ieT, ieF, decide_true, decide_false, Bool.not_true, Bool.not_false, Bool.and_true, Bool.true_and, Bool.and_false, Bool.false_and, Bool.or_true, Bool.true_or, Bool.or_false, Bool.false_or, x_2 h, l1, l2, q_100, f1, f2, f3]
        exact ⟨_, rfl, FC.rf, h⟩
      · have f3 : n ≤ nI 9 := Int32.not_lt.mp f2
        obtain ⟨v, h1, h2, h3⟩ := like_v f1 f2
        have e12 := nI_p12 i j
        rw [show (12 : Int32) = nI 12 from rfl, pk_mul] at e12
        rw [h3, nI_clamp (by omega), nI_clamp (by omega)]
        simp (disch := omega) only [s94_0, s94_1, s94_4, s94_5, s94_6, s94_9, s94_12, s94_13, s94_15, s94_18, s94_19, s94_21, s94_24, s94_26, s94_27, s94_28, s94_31, s94_34, s94_35, s94_37, s94_38, s94_39, s94_40, s94_41, s94_43, s94_44, s94_47, s94_50, s94_51, s94_53, s94_54, s94_55, s94_56, s94_57, s94_58, s94_60, q_0, q_1, q_2, q_3, q_4, q_5, q_6, q_7, q_8, q_9, q_10, q_11, q_12, q_13, q_14, q_16, q_20, q_23, q_24, q_32, q_42, q_43, q_45, q_47, q_48, q_50, q_57, q_59, q_60, q_61, q_62, q_63, q_64, q_66, q_91, q_93, q_97, q_99, q_122, q_144, q_255, q_256, q_300, q_380, q_400, q_620, q_999, q_1000, q_4095, q_4096, q_9999, q_65536, q_99999, q_31, nI_add, pk_mul, nE, nL, nT, nM31, nShl, ib_nI, nI_clamp, bI_n0, bI_n1, bI_nar, uI_r, uI_l, uL_r, uL_i, uL_p, uA_r, uA_l, bV_some, bU_some, nar_n0, nar_n1, and_self, and_true, true_and, and_false, false_and, if_true, if_false, eq_self, Bool.false_eq_true, Bool.true_eq_false, not_true_eq_false, not_false_eq_true, ↓reduceIte, nlT, nlF, ntT, ntF, neT, neF, ieT, ieF, decide_true, decide_false, Bool.not_true, Bool.not_false, Bool.and_true, Bool.true_and, Bool.and_false, Bool.false_and, Bool.or_true, Bool.true_or, Bool.or_false, Bool.false_or, x_2 h, l1, l2, q_100, f1, f2, f3, h.li, Nat.mul_comm i 12]
        refine ⟨_, rfl, ?_, ?_⟩
        · repeat' (first | exact FC.rf | refine FC.uI ?_ rfl (by decide))
        · exact h.s_li _ _ h2
theorem r_like {S : Sto} {A : Tn} (h : RepM S A) (hw : WF A) (a b n : Int32) : ∃ S1, call 138 0 [vR 50 0, vI a, vI b, vI n] S = some (some (vI (o_like A a b n).1), S1) ∧ FM S S1 ∧ RepM S1 (o_like A a b n).2 := by
  have hP := hw.pe
  show ∃ S1, run 138 0 0 [vR 50 0, vI a, vI b, vI n, vU] [] S = _ ∧ _
  unfold o_like
  have e0 : ∀ S, call 137 0 [vL n.toInt64, vL (-9), vL 9] S = some (some (vI (bI (!decide (n < -nI 9) && !decide (nI 9 < n)))), S) := fun S => m_inI S n (-9) 9 (by decide) (by decide)
  cases e1 : (!decide (a = b) && lsB a (A 0 0) && lsB b (A 0 0)) with
  | false =>
    simp (disch := omega) only [s138_0, s138_1, s138_2, s138_3, s138_6, s138_9, s138_10, s138_11, s138_14, s138_17, s138_20, s138_23, s138_25, s138_26, s138_27, s138_30, s138_32, s138_33, s138_34, s138_35, s138_36, s138_37, s138_39, s138_40, s138_43, s138_45, s138_46, s138_47, s138_48, s138_49, s138_50, s138_51, s138_53, q_0, q_1, q_2, q_3, q_4, q_5, q_6, q_7, q_8, q_9, q_10, q_11, q_12, q_13, q_14, q_16, q_20, q_23, q_24, q_32, q_42, q_43, q_45, q_47, q_48, q_50, q_57, q_59, q_60, q_61, q_62, q_63, q_64, q_66, q_91, q_93, q_97, q_99, q_122, q_144, q_255, q_256, q_300, q_380, q_400, q_620, q_999, q_1000, q_4095, q_4096, q_9999, q_65536, q_99999, q_31, nI_add, pk_mul, nE, nL, nT, nM31, nShl, ib_nI, nI_clamp, bI_n0, bI_n1, bI_nar, uI_r, uI_l, uL_r, uL_i, uL_p, uA_r, uA_l, bV_some, bU_some, nar_n0, nar_n1, and_self, and_true, true_and, and_false, false_and, if_true, if_false, eq_self, Bool.false_eq_true, Bool.true_eq_false, not_true_eq_false, not_false_eq_true, ↓reduceIte, nlT, nlF, ntT, ntF, neT, neF, ieT, ieF, decide_true, decide_false, Bool.not_true, Bool.not_false, Bool.and_true, Bool.true_and, Bool.and_false, Bool.false_and, Bool.or_true, Bool.true_or, Bool.or_false, Bool.false_or, m_2 h hw, e1, q_100]
    exact ⟨_, rfl, FM.rf, h⟩
  | true =>
    have e1' := e1
    simp only [Bool.and_eq_true] at e1
    obtain ⟨i, hi, rfl⟩ := lsB_t e1.1.2 (by omega)
    obtain ⟨j, hj, rfl⟩ := lsB_t e1.2 (by omega)
    have l1 := e1.1.2
    have l2 := e1.2
    have hij : i ≠ j := by
      intro q
      subst q
      simp at e1
    by_cases f1 : n < -nI 9
    · simp (disch := omega) only [s138_0, s138_1, s138_2, s138_3, s138_6, s138_9, s138_10, s138_11, s138_14, s138_17, s138_20, s138_23, s138_25, s138_26, s138_27, s138_30, s138_32, s138_33, s138_34, s138_35, s138_36, s138_37, s138_39, s138_40, s138_43, s138_45, s138_46, s138_47, s138_48, s138_49, s138_50, s138_51, s138_53, q_0, q_1, q_2, q_3, q_4, q_5, q_6, q_7, q_8, q_9, q_10, q_11, q_12, q_13, q_14, q_16, q_20, q_23, q_24, q_32, q_42, q_43, q_45, q_47, q_48, q_50, q_57, q_59, q_60, q_61, q_62, q_63, q_64, q_66, q_91, q_93, q_97, q_99, q_122, q_144, q_255, q_256, q_300, q_380, q_400, q_620, q_999, q_1000, q_4095, q_4096, q_9999, q_65536, q_99999, q_31, nI_add, pk_mul, nE, nL, nT, nM31, nShl, ib_nI, nI_clamp, bI_n0, bI_n1, bI_nar, uI_r, uI_l, uL_r, uL_i, uL_p, uA_r, uA_l, bV_some, bU_some, nar_n0, nar_n1, and_self, and_true, true_and, and_false, false_and, if_true, if_false, eq_self, Bool.false_eq_true, Bool.true_eq_false, not_true_eq_false, not_false_eq_true, ↓reduceIte, nlT, nlF, ntT, ntF, neT, neF, ieT, ieF, decide_true, decide_false, Bool.not_true, Bool.not_false, Bool.and_true, Bool.true_and, Bool.and_false, Bool.false_and, Bool.or_true, Bool.true_or, Bool.or_false, Bool.false_or, m_2 h hw, l1, l2, q_100, f1, e0]
      exact ⟨_, rfl, FM.rf, h⟩
    · by_cases f2 : nI 9 < n
      · have f3 : ¬ n ≤ nI 9 := Int32.not_le.mpr f2
        simp (disch := omega) only [s138_0, s138_1, s138_2, s138_3, s138_6, s138_9, s138_10, s138_11, s138_14, s138_17, s138_20, s138_23, s138_25, s138_26, s138_27, s138_30, s138_32, s138_33, s138_34, s138_35, s138_36, s138_37, s138_39, s138_40, s138_43, s138_45, s138_46, s138_47, s138_48, s138_49, s138_50, s138_51, s138_53, q_0, q_1, q_2, q_3, q_4, q_5, q_6, q_7, q_8, q_9, q_10, q_11, q_12, q_13, q_14, q_16, q_20, q_23, q_24, q_32, q_42, q_43, q_45, q_47, q_48, q_50, q_57, q_59, q_60, q_61, q_62, q_63, q_64, q_66, q_91, q_93, q_97, q_99, q_122, q_144, q_255, q_256, q_300, q_380, q_400, q_620, q_999, q_1000, q_4095, q_4096, q_9999, q_65536, q_99999, q_31, nI_add, pk_mul, nE, nL, nT, nM31, nShl, ib_nI, nI_clamp, bI_n0, bI_n1, bI_nar, uI_r, uI_l, uL_r, uL_i, uL_p, uA_r, uA_l, bV_some, bU_some, nar_n0, nar_n1, and_self, and_true, true_and, and_false, false_and, if_true, if_false, eq_self, Bool.false_eq_true, Bool.true_eq_false, not_true_eq_false, not_false_eq_true, ↓reduceIte, nlT, nlF, ntT, ntF, neT, neF, ieT, ieF, decide_true, decide_false, Bool.not_true, Bool.not_false, Bool.and_true, Bool.true_and, Bool.and_false, Bool.false_and, Bool.or_true, Bool.true_or, Bool.or_false, Bool.false_or, m_2 h hw, l1, l2, q_100, f1, f2, f3, e0]
        exact ⟨_, rfl, FM.rf, h⟩
      · have f3 : n ≤ nI 9 := Int32.not_lt.mp f2
        obtain ⟨v, h1, h2, h3⟩ := like_v f1 f2
        rw [h3, nI_clamp (by omega), nI_clamp (by omega)]
        simp (disch := omega) only [s138_0, s138_1, s138_2, s138_3, s138_6, s138_9, s138_10, s138_11, s138_14, s138_17, s138_20, s138_23, s138_25, s138_26, s138_27, s138_30, s138_32, s138_33, s138_34, s138_35, s138_36, s138_37, s138_39, s138_40, s138_43, s138_45, s138_46, s138_47, s138_48, s138_49, s138_50, s138_51, s138_53, q_0, q_1, q_2, q_3, q_4, q_5, q_6, q_7, q_8, q_9, q_10, q_11, q_12, q_13, q_14, q_16, q_20, q_23, q_24, q_32, q_42, q_43, q_45, q_47, q_48, q_50, q_57, q_59, q_60, q_61, q_62, q_63, q_64, q_66, q_91, q_93, q_97, q_99, q_122, q_144, q_255, q_256, q_300, q_380, q_400, q_620, q_999, q_1000, q_4095, q_4096, q_9999, q_65536, q_99999, q_31, nI_add, pk_mul, nE, nL, nT, nM31, nShl, ib_nI, nI_clamp, bI_n0, bI_n1, bI_nar, uI_r, uI_l, uL_r, uL_i, uL_p, uA_r, uA_l, bV_some, bU_some, nar_n0, nar_n1, and_self, and_true, true_and, and_false, false_and, if_true, if_false, eq_self, Bool.false_eq_true, Bool.true_eq_false, not_true_eq_false, not_false_eq_true, ↓reduceIte, nlT, nlF, ntT, ntF, neT, neF, ieT, ieF, decide_true, decide_false, Bool.not_true, Bool.not_false, Bool.and_true, Bool.true_and, Bool.and_false, Bool.false_and, Bool.or_true, Bool.true_or, Bool.or_false, Bool.false_or, m_2 h hw, l1, l2, q_100, f1, f2, f3, e0, h.li]
        refine ⟨_, rfl, ?_, ?_⟩
        · repeat' (first | exact FM.rf | refine FM.uI ?_ rfl (by decide))
        · exact h.set (f := 4) _ rfl h2
theorem foeB_0n (A : Tn) {a b : Nat} (ha : a < 12) (hb : b < 12) : nI (foeB A a) &&& (nI (2 ^ b) ^^^ (-nI 1)) = nI (foeB (uQ A a b 0) a) := foeB_0 A ha hb
theorem livB_0n (A : Tn) (i : Nat) : nI (livB A) &&& (nI (2 ^ i) ^^^ (-nI 1)) = nI (livB (uT A 2 i 0)) := livB_0 A i
theorem uQ_ii (A : Tn) (a v : Nat) : uQ (uQ A a a v) a a v = uQ A a a v := by
  (funext g k; simp only [uT_r, uQ_r]; repeat' split) <;> first | rfl | omega
theorem x_setOdds {S : Sto} {q : Nat} {A : Tn} (h : RepC S q A) {a b : Nat} (z : Bool) (ha : a < 12) (hb : b < 12) (hab : z = true → a ≠ b) : ∃ S', call 72 0 [vR 1 q, vI (nI a), vI (nI b), vI (bI z)] S = some (none, S') ∧ Fr (fun t i => t == 4 && i == q) S S' ∧ RepC S' q (uQ A a b (if z = true then 1 else 0)) := by
  show ∃ S', run 72 0 0 [vR 1 q, vI (nI a), vI (nI b), vI (bI z)] [] S = _ ∧ _
  cases z with
  | true =>
    have hne := hab rfl
    have e1 := foeB_1 A ha hb hne
    have e2 := foeB_1 A hb ha (Ne.symm hne)
    rw [uQ_sw A b a] at e2
    simp (disch := omega) only [s72_0, s72_1, s72_4, s72_5, s72_8, s72_9, s72_10, s72_11, s72_12, s72_13, s72_14, s72_15, s72_16, s72_17, s72_20, s72_21, s72_22, s72_23, s72_24, s72_25, s72_26, s72_27, s72_28, s72_31, s72_32, s72_35, s72_36, s72_37, s72_38, s72_39, s72_40, s72_41, s72_42, s72_43, s72_44, s72_45, s72_46, s72_49, s72_50, s72_51, s72_52, s72_53, s72_54, s72_55, s72_56, s72_57, s72_58, s72_59, q_0, q_1, q_2, q_3, q_4, q_5, q_6, q_7, q_8, q_9, q_10, q_11, q_12, q_13, q_14, q_16, q_20, q_23, q_24, q_32, q_42, q_43, q_45, q_47, q_48, q_50, q_57, q_59, q_60, q_61, q_62, q_63, q_64, q_66, q_91, q_93, q_97, q_99, q_122, q_144, q_255, q_256, q_300, q_380, q_400, q_620, q_999, q_1000, q_4095, q_4096, q_9999, q_65536, q_99999, q_31, nI_add, pk_mul, nE, nL, nT, nM31, nShl, ib_nI, nI_clamp, bI_n0, bI_n1, bI_nar, uI_r, uI_l, uL_r, uL_i, uL_p, uA_r, uA_l, bV_some, bU_some, nar_n0, nar_n1, and_self, and_true, true_and, and_false, false_and, if_true, if_false, eq_self, Bool.false_eq_true, Bool.true_eq_false, not_true_eq_false, not_false_eq_true, ↓reduceIte, nlT, nlF, ntT, ntF, neT, neF, ieT, ieF, decide_true, decide_false, Bool.not_true, Bool.not_false, Bool.and_true, Bool.true_and, Bool.and_false, Bool.false_and, Bool.or_true, Bool.true_or, Bool.or_false, Bool.false_or, h.fo, e1, e2]
    refine ⟨_, rfl, (Fr.rfl'.uI (by simp)).uI (by simp), h.s_qu 1 ha hb _ ?_⟩
    intro t k
    simp only [uI_r]
    by_cases e3 : t = 4 ∧ k = b
    · rw [if_pos ⟨e3.1, trivial, e3.2⟩, if_pos ⟨e3.1, Or.inr e3.2⟩, e3.2]
    · by_cases e4 : t = 4 ∧ k = a
      · rw [if_neg (by omega), if_pos ⟨e4.1, trivial, e4.2⟩, if_pos ⟨e4.1, Or.inl e4.2⟩, e4.2]
      · rw [if_neg (by omega), if_neg (by omega), if_neg (by omega)]
  | false =>
    have e1 := foeB_0n A ha hb
    by_cases hne : a = b
    · subst hne
      have e2 := foeB_0n (uQ A a a 0) ha ha
      rw [uQ_ii] at e2
      simp (disch := omega) only [s72_0, s72_1, s72_4, s72_5, s72_8, s72_9, s72_10, s72_11, s72_12, s72_13, s72_14, s72_15, s72_16, s72_17, s72_20, s72_21, s72_22, s72_23, s72_24, s72_25, s72_26, s72_27, s72_28, s72_31, s72_32, s72_35, s72_36, s72_37, s72_38, s72_39, s72_40, s72_41, s72_42, s72_43, s72_44, s72_45, s72_46, s72_49, s72_50, s72_51, s72_52, s72_53, s72_54, s72_55, s72_56, s72_57, s72_58, s72_59, q_0, q_1, q_2, q_3, q_4, q_5, q_6, q_7, q_8, q_9, q_10, q_11, q_12, q_13, q_14, q_16, q_20, q_23, q_24, q_32, q_42, q_43, q_45, q_47, q_48, q_50, q_57, q_59, q_60, q_61, q_62, q_63, q_64, q_66, q_91, q_93, q_97, q_99, q_122, q_144, q_255, q_256, q_300, q_380, q_400, q_620, q_999, q_1000, q_4095, q_4096, q_9999, q_65536, q_99999, q_31, nI_add, pk_mul, nE, nL, nT, nM31, nShl, ib_nI, nI_clamp, bI_n0, bI_n1, bI_nar, uI_r, uI_l, uL_r, uL_i, uL_p, uA_r, uA_l, bV_some, bU_some, nar_n0, nar_n1, and_self, and_true, true_and, and_false, false_and, if_true, if_false, eq_self, Bool.false_eq_true, Bool.true_eq_false, not_true_eq_false, not_false_eq_true, ↓reduceIte, nlT, nlF, ntT, ntF, neT, neF, ieT, ieF, decide_true, decide_false, Bool.not_true, Bool.not_false, Bool.and_true, Bool.true_and, Bool.and_false, Bool.false_and, Bool.or_true, Bool.true_or, Bool.or_false, Bool.false_or, h.fo, e1, e2]
      refine ⟨_, rfl, (Fr.rfl'.uI (by simp)).uI (by simp), h.s_qu 0 ha ha _ ?_⟩
      intro t k
      simp only [uI_r]
      by_cases e3 : t = 4 ∧ k = a
      · rw [if_pos ⟨e3.1, trivial, e3.2⟩, if_pos ⟨e3.1, Or.inr e3.2⟩, e3.2]
      · rw [if_neg (by omega), if_neg (by omega), if_neg (by omega)]
    · have e2 := foeB_0n A hb ha
      rw [uQ_sw A b a] at e2
      simp (disch := omega) only [s72_0, s72_1, s72_4, s72_5, s72_8, s72_9, s72_10, s72_11, s72_12, s72_13, s72_14, s72_15, s72_16, s72_17, s72_20, s72_21, s72_22, s72_23, s72_24, s72_25, s72_26, s72_27, s72_28, s72_31, s72_32, s72_35, s72_36, s72_37, s72_38, s72_39, s72_40, s72_41, s72_42, s72_43, s72_44, s72_45, s72_46, s72_49, s72_50, s72_51, s72_52, s72_53, s72_54, s72_55, s72_56, s72_57, s72_58, s72_59, q_0, q_1, q_2, q_3, q_4, q_5, q_6, q_7, q_8, q_9, q_10, q_11, q_12, q_13, q_14, q_16, q_20, q_23, q_24, q_32, q_42, q_43, q_45, q_47, q_48, q_50, q_57, q_59, q_60, q_61, q_62, q_63, q_64, q_66, q_91, q_93, q_97, q_99, q_122, q_144, q_255, q_256, q_300, q_380, q_400, q_620, q_999, q_1000, q_4095, q_4096, q_9999, q_65536, q_99999, q_31, nI_add, pk_mul, nE, nL, nT, nM31, nShl, ib_nI, nI_clamp, bI_n0, bI_n1, bI_nar, uI_r, uI_l, uL_r, uL_i, uL_p, uA_r, uA_l, bV_some, bU_some, nar_n0, nar_n1, and_self, and_true, true_and, and_false, false_and, if_true, if_false, eq_self, Bool.false_eq_true, Bool.true_eq_false, not_true_eq_false, not_false_eq_true, ↓reduceIte, nlT, nlF, ntT, ntF, neT, neF, ieT, ieF, decide_true, decide_false, Bool.not_true, Bool.not_false, Bool.and_true, Bool.true_and, Bool.and_false, Bool.false_and, Bool.or_true, Bool.true_or, Bool.or_false, Bool.false_or, h.fo, e1, e2]
      refine ⟨_, rfl, (Fr.rfl'.uI (by simp)).uI (by simp), h.s_qu 0 ha hb _ ?_⟩
      intro t k
      simp only [uI_r]
      by_cases e3 : t = 4 ∧ k = b
      · rw [if_pos ⟨e3.1, trivial, e3.2⟩, if_pos ⟨e3.1, Or.inr e3.2⟩, e3.2]
      · by_cases e4 : t = 4 ∧ k = a
        · rw [if_neg (by omega), if_pos ⟨e4.1, trivial, e4.2⟩, if_pos ⟨e4.1, Or.inl e4.2⟩, e4.2]
        · rw [if_neg (by omega), if_neg (by omega), if_neg (by omega)]
theorem m_sets {S : Sto} {A : Tn} (h : RepM S A) {a b v : Nat} (ha : a < 12) (hb : b < 12) : ∃ S', call 144 0 [vR 50 0, vI (nI a), vI (nI b), vI (nI v)] S = some (none, S') ∧ Fr (pL [56]) S S' ∧ RepM S' (uQ A a b v) := by
  show ∃ S', run 144 0 0 [vR 50 0, vI (nI a), vI (nI b), vI (nI v)] [] S = _ ∧ _
  simp (disch := omega) only [s144_0, s144_1, s144_4, s144_6, s144_7, s144_8, s144_9, s144_10, s144_11, s144_12, s144_13, s144_16, s144_18, s144_19, s144_20, s144_21, s144_22, s144_23, s144_24, q_0, q_1, q_2, q_3, q_4, q_5, q_6, q_7, q_8, q_9, q_10, q_11, q_12, q_13, q_14, q_16, q_20, q_23, q_24, q_32, q_42, q_43, q_45, q_47, q_48, q_50, q_57, q_59, q_60, q_61, q_62, q_63, q_64, q_66, q_91, q_93, q_97, q_99, q_122, q_144, q_255, q_256, q_300, q_380, q_400, q_620, q_999, q_1000, q_4095, q_4096, q_9999, q_65536, q_99999, q_31, nI_add, pk_mul, nE, nL, nT, nM31, nShl, ib_nI, nI_clamp, bI_n0, bI_n1, bI_nar, uI_r, uI_l, uL_r, uL_i, uL_p, uA_r, uA_l, bV_some, bU_some, nar_n0, nar_n1, and_self, and_true, true_and, and_false, false_and, if_true, if_false, eq_self, Bool.false_eq_true, Bool.true_eq_false, not_true_eq_false, not_false_eq_true, ↓reduceIte, nlT, nlF, ntT, ntF, neT, neF, ieT, ieF, decide_true, decide_false, Bool.not_true, Bool.not_false, Bool.and_true, Bool.true_and, Bool.and_false, Bool.false_and, Bool.or_true, Bool.true_or, Bool.or_false, Bool.false_or]
  exact ⟨_, rfl, (Fr.rfl'.uI rfl).uI rfl, (h.set (f := 5) v rfl rfl).set (f := 5) v rfl rfl⟩
def o_quar (A : Tn) (a b : Int32) (z : Bool) : Int32 × Tn := if a ≠ b ∧ alB A a = true ∧ alB A b = true ∧ (A 5 (12 * a.toNatClampNeg + b.toNatClampNeg) == 1) ≠ z then (nI 1, uQ A a.toNatClampNeg b.toNatClampNeg (if z = true then 1 else 0)) else (nI 0, A)
theorem alB_t {A : Tn} {x : Int32} (hw : WF A) (h : alB A x = true) : ∃ j, j < A 0 0 ∧ x = nI j ∧ A 2 j = 1 := by
  unfold alB at h
  have hP := hw.pe
  simp only [Bool.and_eq_true, beq_iff_eq] at h
  obtain ⟨j, hj, rfl⟩ := lsB_t h.1 (by omega)
  rw [nI_clamp (by omega)] at h
  exact ⟨j, hj, rfl, h.2⟩
theorem w_quar {A : Tn} (h : WF A) (a b : Int32) (z : Bool) : WF (o_quar A a b z).2 := by
  have hP := h.pe
  unfold o_quar
  split
  · rename_i e
    obtain ⟨i, hi, rfl, _⟩ := alB_t h e.2.1
    obtain ⟨j, hj, rfl, _⟩ := alB_t h e.2.2.1
    show WF (uQ A _ _ _)
    rw [nI_clamp (by omega), nI_clamp (by omega)]
    exact h.s_qu hi hj (fun q => e.1 (by rw [q])) (by split <;> decide)
  · exact h
theorem bIne (x y : Bool) : (bI x = bI y) = (x = y) := by
  cases x <;> cases y <;> simp [bI]
theorem c_quar {S : Sto} {A : Tn} (h : RepC S 0 A) (hw : WF A) (a b : Int32) (z : Bool) : ∃ S1, call 95 0 [vR 0 0, vI a, vI b, vI (bI z)] S = some (some (vI (o_quar A a b z).1), S1) ∧ FC S S1 ∧ RepC S1 0 (o_quar A a b z).2 := by
  have hP := hw.pe
  show ∃ S1, run 95 0 0 [vR 0 0, vI a, vI b, vI (bI z)] [] S = _ ∧ _
  unfold o_quar
  by_cases e0 : a = b
  · simp (disch := omega) only [s95_0, s95_1, s95_2, s95_5, s95_6, s95_9, s95_10, s95_13, s95_16, s95_17, s95_20, s95_21, s95_24, s95_27, s95_28, s95_29, s95_30, s95_33, s95_34, s95_35, s95_38, s95_39, s95_42, s95_43, s95_44, s95_45, s95_48, s95_49, s95_50, s95_51, s95_54, s95_55, q_0, q_1, q_2, q_3, q_4, q_5, q_6, q_7, q_8, q_9, q_10, q_11, q_12, q_13, q_14, q_16, q_20, q_23, q_24, q_32, q_42, q_43, q_45, q_47, q_48, q_50, q_57, q_59, q_60, q_61, q_62, q_63, q_64, q_66, q_91, q_93, q_97, q_99, q_122, q_144, q_255, q_256, q_300, q_380, q_400, q_620, q_999, q_1000, q_4095, q_4096, q_9999, q_65536, q_99999, q_31, nI_add, pk_mul, nE, nL, nT, nM31, nShl, ib_nI, nI_clamp, bI_n0, bI_n1, bI_nar, uI_r, uI_l, uL_r, uL_i, uL_p, uA_r, uA_l, bV_some, bU_some, nar_n0, nar_n1, and_self, and_true, true_and, and_false, false_and, if_true, if_false, eq_self, Bool.false_eq_true, Bool.true_eq_false, not_true_eq_false, not_false_eq_true, ↓reduceIte, nlT, nlF, ntT, ntF, neT, neF, ieT, ieF, decide_true, decide_false, Bool.not_true, Bool.not_false, Bool.and_true, Bool.true_and, Bool.and_false, Bool.false_and, Bool.or_true, Bool.true_or, Bool.or_false, Bool.false_or, e0, ne_eq]
    exact ⟨_, rfl, FC.rf, h⟩
  · cases e1 : alB A a with
    | false =>
      simp (disch := omega) only [s95_0, s95_1, s95_2, s95_5, s95_6, s95_9, s95_10, s95_13, s95_16, s95_17, s95_20, s95_21, s95_24, s95_27, s95_28, s95_29, s95_30, s95_33, s95_34, s95_35, s95_38, s95_39, s95_42, s95_43, s95_44, s95_45, s95_48, s95_49, s95_50, s95_51, s95_54, s95_55, q_0, q_1, q_2, q_3, q_4, q_5, q_6, q_7, q_8, q_9, q_10, q_11, q_12, q_13, q_14, q_16, q_20, q_23, q_24, q_32, q_42, q_43, q_45, q_47, q_48, q_50, q_57, q_59, q_60, q_61, q_62, q_63, q_64, q_66, q_91, q_93, q_97, q_99, q_122, q_144, q_255, q_256, q_300, q_380, q_400, q_620, q_999, q_1000, q_4095, q_4096, q_9999, q_65536, q_99999, q_31, nI_add, pk_mul, nE, nL, nT, nM31, nShl, ib_nI, nI_clamp, bI_n0, bI_n1, bI_nar, uI_r, uI_l, uL_r, uL_i, uL_p, uA_r, uA_l, bV_some, bU_some, nar_n0, nar_n1, and_self, and_true, true_and, and_false, false_and, if_true, if_false, eq_self, Bool.false_eq_true, Bool.true_eq_false, not_true_eq_false, not_false_eq_true, ↓reduceIte, nlT, nlF, ntT, ntF, neT, neF, ieT, ieF, decide_true, decide_false, Bool.not_true, Bool.not_false, Bool.and_true, Bool.true_and, Bool.and_false, Bool.false_and, Bool.or_true, Bool.true_or, Bool.or_false, Bool.false_or, e0, x_isAl h hw, e1]
      exact ⟨_, rfl, FC.rf, h⟩
    | true =>
      cases e2 : alB A b with
      | false =>
        simp (disch := omega) only [s95_0, s95_1, s95_2, s95_5, s95_6, s95_9, s95_10, s95_13, s95_16, s95_17, s95_20, s95_21, s95_24, s95_27, s95_28, s95_29, s95_30, s95_33, s95_34, s95_35, s95_38, s95_39, s95_42, s95_43, s95_44, s95_45, s95_48, s95_49, s95_50, s95_51, s95_54, s95_55, q_0, q_1, q_2, q_3, q_4, q_5, q_6, q_7, q_8, q_9, q_10, q_11, q_12, q_13, q_14, q_16, q_20, q_23, q_24, q_32, q_42, q_43, q_45, q_47, q_48, q_50, q_57, q_59, q_60, q_61, q_62, q_63, q_64, q_66, q_91, q_93, q_97, q_99, q_122, q_144, q_255, q_256, q_300, q_380, q_400, q_620, q_999, q_1000, q_4095, q_4096, q_9999, q_65536, q_99999, q_31, nI_add, pk_mul, nE, nL, nT, nM31, nShl, ib_nI, nI_clamp, bI_n0, bI_n1, bI_nar, uI_r, uI_l, uL_r, uL_i, uL_p, uA_r, uA_l, bV_some, bU_some, nar_n0, nar_n1, and_self, and_true, true_and, and_false, false_and, if_true, if_false, eq_self, Bool.false_eq_true, Bool.true_eq_false, not_true_eq_false, not_false_eq_true, ↓reduceIte, nlT, nlF, ntT, ntF, neT, neF, ieT, ieF, decide_true, decide_false, Bool.not_true, Bool.not_false, Bool.and_true, Bool.true_and, Bool.and_false, Bool.false_and, Bool.or_true, Bool.true_or, Bool.or_false, Bool.false_or, e0, x_isAl h hw, e1, e2]
        exact ⟨_, rfl, FC.rf, h⟩
      | true =>
        obtain ⟨i, hi, rfl, _⟩ := alB_t hw e1
        obtain ⟨j, hj, rfl, _⟩ := alB_t hw e2
        have hij : i ≠ j := fun q => e0 (by rw [q])
        rw [nI_clamp (by omega), nI_clamp (by omega)]
        by_cases e3 : (A 5 (12 * i + j) == 1) = z
        · simp (disch := omega) only [s95_0, s95_1, s95_2, s95_5, s95_6, s95_9, s95_10, s95_13, s95_16, s95_17, s95_20, s95_21, s95_24, s95_27, s95_28, s95_29, s95_30, s95_33, s95_34, s95_35, s95_38, s95_39, s95_42, s95_43, s95_44, s95_45, s95_48, s95_49, s95_50, s95_51, s95_54, s95_55, q_0, q_1, q_2, q_3, q_4, q_5, q_6, q_7, q_8, q_9, q_10, q_11, q_12, q_13, q_14, q_16, q_20, q_23, q_24, q_32, q_42, q_43, q_45, q_47, q_48, q_50, q_57, q_59, q_60, q_61, q_62, q_63, q_64, q_66, q_91, q_93, q_97, q_99, q_122, q_144, q_255, q_256, q_300, q_380, q_400, q_620, q_999, q_1000, q_4095, q_4096, q_9999, q_65536, q_99999, q_31, nI_add, pk_mul, nE, nL, nT, nM31, nShl, ib_nI, nI_clamp, bI_n0, bI_n1, bI_nar, uI_r, uI_l, uL_r, uL_i, uL_p, uA_r, uA_l, bV_some, bU_some, nar_n0, nar_n1, and_self, and_true, true_and, and_false, false_and, if_true, if_false, eq_self, Bool.false_eq_true, Bool.true_eq_false, not_true_eq_false, not_false_eq_true, ↓reduceIte, nlT, nlF, ntT, ntF, neT, neF, ieT, ieF, decide_true, decide_false, Bool.not_true, Bool.not_false, Bool.and_true, Bool.true_and, Bool.and_false, Bool.false_and, Bool.or_true, Bool.true_or, Bool.or_false, Bool.false_or, e0, x_isAl h hw, e1, e2, x_atOdds_A h, e3, bIne, ne_eq]
          exact ⟨_, rfl, FC.rf, h⟩
        · obtain ⟨S', g1, g2, g3⟩ := x_setOdds h z (a := i) (b := j) (by omega) (by omega) (fun _ => hij)
          simp (disch := omega) only [s95_0, s95_1, s95_2, s95_5, s95_6, s95_9, s95_10, s95_13, s95_16, s95_17, s95_20, s95_21, s95_24, s95_27, s95_28, s95_29, s95_30, s95_33, s95_34, s95_35, s95_38, s95_39, s95_42, s95_43, s95_44, s95_45, s95_48, s95_49, s95_50, s95_51, s95_54, s95_55, q_0, q_1, q_2, q_3, q_4, q_5, q_6, q_7, q_8, q_9, q_10, q_11, q_12, q_13, q_14, q_16, q_20, q_23, q_24, q_32, q_42, q_43, q_45, q_47, q_48, q_50, q_57, q_59, q_60, q_61, q_62, q_63, q_64, q_66, q_91, q_93, q_97, q_99, q_122, q_144, q_255, q_256, q_300, q_380, q_400, q_620, q_999, q_1000, q_4095, q_4096, q_9999, q_65536, q_99999, q_31, nI_add, pk_mul, nE, nL, nT, nM31, nShl, ib_nI, nI_clamp, bI_n0, bI_n1, bI_nar, uI_r, uI_l, uL_r, uL_i, uL_p, uA_r, uA_l, bV_some, bU_some, nar_n0, nar_n1, and_self, and_true, true_and, and_false, false_and, if_true, if_false, eq_self, Bool.false_eq_true, Bool.true_eq_false, not_true_eq_false, not_false_eq_true, ↓reduceIte, nlT, nlF, ntT, ntF, neT, neF, ieT, ieF, decide_true, decide_false, Bool.not_true, Bool.not_false, Bool.and_true, Bool.true_and, Bool.and_false, Bool.false_and, Bool.or_true, Bool.true_or, Bool.or_false, Bool.false_or, e0, x_isAl h hw, e1, e2, x_atOdds_A h, e3, bIne, ne_eq, g1]
          exact ⟨_, rfl, FC.of g2 (by intro t i; simp only [Bool.and_eq_true, beq_iff_eq, pcP]; rintro ⟨rfl, rfl⟩; rfl) rfl, g3⟩
theorem r_quar {S : Sto} {A : Tn} (h : RepM S A) (hw : WF A) (a b : Int32) (z : Bool) : ∃ S1, call 141 0 [vR 50 0, vI a, vI b, vI (bI z)] S = some (some (vI (o_quar A a b z).1), S1) ∧ FM S S1 ∧ RepM S1 (o_quar A a b z).2 := by
  have hP := hw.pe
  show ∃ S1, run 141 0 0 [vR 50 0, vI a, vI b, vI (bI z)] [] S = _ ∧ _
  unfold o_quar
  cases e1 : alB A a with
  | false =>
    simp (disch := omega) only [s141_0, s141_1, s141_2, s141_5, s141_8, s141_9, s141_10, s141_13, s141_16, s141_17, s141_18, s141_21, s141_22, s141_23, s141_24, s141_27, s141_28, s141_31, s141_32, s141_33, s141_34, s141_35, s141_36, s141_37, s141_40, s141_41, s141_44, s141_45, s141_48, s141_49, q_0, q_1, q_2, q_3, q_4, q_5, q_6, q_7, q_8, q_9, q_10, q_11, q_12, q_13, q_14, q_16, q_20, q_23, q_24, q_32, q_42, q_43, q_45, q_47, q_48, q_50, q_57, q_59, q_60, q_61, q_62, q_63, q_64, q_66, q_91, q_93, q_97, q_99, q_122, q_144, q_255, q_256, q_300, q_380, q_400, q_620, q_999, q_1000, q_4095, q_4096, q_9999, q_65536, q_99999, q_31, nI_add, pk_mul, nE, nL, nT, nM31, nShl, ib_nI, nI_clamp, bI_n0, bI_n1, bI_nar, uI_r, uI_l, uL_r, uL_i, uL_p, uA_r, uA_l, bV_some, bU_some, nar_n0, nar_n1, and_self, and_true, true_and, and_false, false_and, if_true, if_false, eq_self, Bool.false_eq_true, Bool.true_eq_false, not_true_eq_false, not_false_eq_true, ↓reduceIte, nlT, nlF, ntT, ntF, neT, neF, ieT, ieF, decide_true, decide_false, Bool.not_true, Bool.not_false, Bool.and_true, Bool.true_and, Bool.and_false, Bool.false_and, Bool.or_true, Bool.true_or, Bool.or_false, Bool.false_or, m_isAl h hw, e1]
    exact ⟨_, rfl, FM.rf, h⟩
  | true =>
    cases e2 : alB A b with
    | false =>
      simp (disch := omega) only [s141_0, s141_1, s141_2, s141_5, s141_8, s141_9, s141_10, s141_13, s141_16, s141_17, s141_18, s141_21, s141_22, s141_23, s141_24, s141_27, s141_28, s141_31, s141_32, s141_33, s141_34, s141_35, s141_36, s141_37, s141_40, s141_41, s141_44, s141_45, s141_48, s141_49, q_0, q_1, q_2, q_3, q_4, q_5, q_6, q_7, q_8, q_9, q_10, q_11, q_12, q_13, q_14, q_16, q_20, q_23, q_24, q_32, q_42, q_43, q_45, q_47, q_48, q_50, q_57, q_59, q_60, q_61, q_62, q_63, q_64, q_66, q_91, q_93, q_97, q_99, q_122, q_144, q_255, q_256, q_300, q_380, q_400, q_620, q_999, q_1000, q_4095, q_4096, q_9999, q_65536, q_99999, q_31, nI_add, pk_mul, nE, nL, nT, nM31, nShl, ib_nI, nI_clamp, bI_n0, bI_n1, bI_nar, uI_r, uI_l, uL_r, uL_i, uL_p, uA_r, uA_l, bV_some, bU_some, nar_n0, nar_n1, and_self, and_true, true_and, and_false, false_and, if_true, if_false, eq_self, Bool.false_eq_true, Bool.true_eq_false, not_true_eq_false, not_false_eq_true, ↓reduceIte, nlT, nlF, ntT, ntF, neT, neF, ieT, ieF, decide_true, decide_false, Bool.not_true, Bool.not_false, Bool.and_true, Bool.true_and, Bool.and_false, Bool.false_and, Bool.or_true, Bool.true_or, Bool.or_false, Bool.false_or, m_isAl h hw, e1, e2]
      exact ⟨_, rfl, FM.rf, h⟩
    | true =>
      by_cases e0 : a = b
      · simp (disch := omega) only [s141_0, s141_1, s141_2, s141_5, s141_8, s141_9, s141_10, s141_13, s141_16, s141_17, s141_18, s141_21, s141_22, s141_23, s141_24, s141_27, s141_28, s141_31, s141_32, s141_33, s141_34, s141_35, s141_36, s141_37, s141_40, s141_41, s141_44, s141_45, s141_48, s141_49, q_0, q_1, q_2, q_3, q_4, q_5, q_6, q_7, q_8, q_9, q_10, q_11, q_12, q_13, q_14, q_16, q_20, q_23, q_24, q_32, q_42, q_43, q_45, q_47, q_48, q_50, q_57, q_59, q_60, q_61, q_62, q_63, q_64, q_66, q_91, q_93, q_97, q_99, q_122, q_144, q_255, q_256, q_300, q_380, q_400, q_620, q_999, q_1000, q_4095, q_4096, q_9999, q_65536, q_99999, q_31, nI_add, pk_mul, nE, nL, nT, nM31, nShl, ib_nI, nI_clamp, bI_n0, bI_n1, bI_nar, uI_r, uI_l, uL_r, uL_i, uL_p, uA_r, uA_l, bV_some, bU_some, nar_n0, nar_n1, and_self, and_true, true_and, and_false, false_and, if_true, if_false, eq_self, Bool.false_eq_true, Bool.true_eq_false, not_true_eq_false, not_false_eq_true, ↓reduceIte, nlT, nlF, ntT, ntF, neT, neF, ieT, ieF, decide_true, decide_false, Bool.not_true, Bool.not_false, Bool.and_true, Bool.true_and, Bool.and_false, Bool.false_and, Bool.or_true, Bool.true_or, Bool.or_false, Bool.false_or, m_isAl h hw, e1, e2, e0, ne_eq]
        exact ⟨_, rfl, FM.rf, h⟩
      · obtain ⟨i, hi, rfl, _⟩ := alB_t hw e1
        obtain ⟨j, hj, rfl, _⟩ := alB_t hw e2
        rw [nI_clamp (by omega), nI_clamp (by omega)]
        by_cases e3 : (A 5 (12 * i + j) == 1) = z
        · simp (disch := omega) only [s141_0, s141_1, s141_2, s141_5, s141_8, s141_9, s141_10, s141_13, s141_16, s141_17, s141_18, s141_21, s141_22, s141_23, s141_24, s141_27, s141_28, s141_31, s141_32, s141_33, s141_34, s141_35, s141_36, s141_37, s141_40, s141_41, s141_44, s141_45, s141_48, s141_49, q_0, q_1, q_2, q_3, q_4, q_5, q_6, q_7, q_8, q_9, q_10, q_11, q_12, q_13, q_14, q_16, q_20, q_23, q_24, q_32, q_42, q_43, q_45, q_47, q_48, q_50, q_57, q_59, q_60, q_61, q_62, q_63, q_64, q_66, q_91, q_93, q_97, q_99, q_122, q_144, q_255, q_256, q_300, q_380, q_400, q_620, q_999, q_1000, q_4095, q_4096, q_9999, q_65536, q_99999, q_31, nI_add, pk_mul, nE, nL, nT, nM31, nShl, ib_nI, nI_clamp, bI_n0, bI_n1, bI_nar, uI_r, uI_l, uL_r, uL_i, uL_p, uA_r, uA_l, bV_some, bU_some, nar_n0, nar_n1, and_self, and_true, true_and, and_false, false_and, if_true, if_false, eq_self, Bool.false_eq_true, Bool.true_eq_false, not_true_eq_false, not_false_eq_true, ↓reduceIte, nlT, nlF, ntT, ntF, neT, neF, ieT, ieF, decide_true, decide_false, Bool.not_true, Bool.not_false, Bool.and_true, Bool.true_and, Bool.and_false, Bool.false_and, Bool.or_true, Bool.true_or, Bool.or_false, Bool.false_or, e0, m_isAl h hw, e1, e2, m_areAtOdds h hw, e3, bIne, ne_eq]
          exact ⟨_, rfl, FM.rf, h⟩
        · obtain ⟨S', g1, g2, g3⟩ := m_sets h (a := i) (b := j) (v := if z = true then 1 else 0) (by omega) (by omega)
          cases z with
          | true =>
            simp only [if_true] at g1 g3
            simp (disch := omega) only [s141_0, s141_1, s141_2, s141_5, s141_8, s141_9, s141_10, s141_13, s141_16, s141_17, s141_18, s141_21, s141_22, s141_23, s141_24, s141_27, s141_28, s141_31, s141_32, s141_33, s141_34, s141_35, s141_36, s141_37, s141_40, s141_41, s141_44, s141_45, s141_48, s141_49, q_0, q_1, q_2, q_3, q_4, q_5, q_6, q_7, q_8, q_9, q_10, q_11, q_12, q_13, q_14, q_16, q_20, q_23, q_24, q_32, q_42, q_43, q_45, q_47, q_48, q_50, q_57, q_59, q_60, q_61, q_62, q_63, q_64, q_66, q_91, q_93, q_97, q_99, q_122, q_144, q_255, q_256, q_300, q_380, q_400, q_620, q_999, q_1000, q_4095, q_4096, q_9999, q_65536, q_99999, q_31, nI_add, pk_mul, nE, nL, nT, nM31, nShl, ib_nI, nI_clamp, bI_n0, bI_n1, bI_nar, uI_r, uI_l, uL_r, uL_i, uL_p, uA_r, uA_l, bV_some, bU_some, nar_n0, nar_n1, and_self, and_true, true_and, and_false, false_and, if_true, if_false, eq_self, Bool.false_eq_true, Bool.true_eq_false, not_true_eq_false, not_false_eq_true, ↓reduceIte, nlT, nlF, ntT, ntF, neT, neF, ieT, ieF, decide_true, decide_false, Bool.not_true, Bool.not_false, Bool.and_true, Bool.true_and, Bool.and_false, Bool.false_and, Bool.or_true, Bool.true_or, Bool.or_false, Bool.false_or, e0, m_isAl h hw, e1, e2, m_areAtOdds h hw, e3, bIne, ne_eq, g1]
            exact ⟨_, rfl, FM.of g2 (by intro t i; simp only [pL, pmP]; intro q; simp at q; subst q; rfl) rfl, g3⟩
          | false =>
            simp only [Bool.false_eq_true, if_false] at g1 g3
            simp (disch := omega) only [s141_0, s141_1, s141_2, s141_5, s141_8, s141_9, s141_10, s141_13, s141_16, s141_17, s141_18, s141_21, s141_22, s141_23, s141_24, s141_27, s141_28, s141_31, s141_32, s141_33, s141_34, s141_35, s141_36, s141_37, s141_40, s141_41, s141_44, s141_45, s141_48, s141_49, q_0, q_1, q_2, q_3, q_4, q_5, q_6, q_7, q_8, q_9, q_10, q_11, q_12, q_13, q_14, q_16, q_20, q_23, q_24, q_32, q_42, q_43, q_45, q_47, q_48, q_50, q_57, q_59, q_60, q_61, q_62, q_63, q_64, q_66, q_91, q_93, q_97, q_99, q_122, q_144, q_255, q_256, q_300, q_380, q_400, q_620, q_999, q_1000, q_4095, q_4096, q_9999, q_65536, q_99999, q_31, nI_add, pk_mul, nE, nL, nT, nM31, nShl, ib_nI, nI_clamp, bI_n0, bI_n1, bI_nar, uI_r, uI_l, uL_r, uL_i, uL_p, uA_r, uA_l, bV_some, bU_some, nar_n0, nar_n1, and_self, and_true, true_and, and_false, false_and, if_true, if_false, eq_self, Bool.false_eq_true, Bool.true_eq_false, not_true_eq_false, not_false_eq_true, ↓reduceIte, nlT, nlF, ntT, ntF, neT, neF, ieT, ieF, decide_true, decide_false, Bool.not_true, Bool.not_false, Bool.and_true, Bool.true_and, Bool.and_false, Bool.false_and, Bool.or_true, Bool.true_or, Bool.or_false, Bool.false_or, e0, m_isAl h hw, e1, e2, m_areAtOdds h hw, e3, bIne, ne_eq, g1]
            exact ⟨_, rfl, FM.of g2 (by intro t i; simp only [pL, pmP]; intro q; simp at q; subst q; rfl) rfl, g3⟩
