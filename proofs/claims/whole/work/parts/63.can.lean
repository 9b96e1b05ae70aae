/-! laws and works named by calls; nod, had, can, bars -/
theorem FC.pl {S S' : Sto} {L : List Nat} (h : Fr (pL L) S S') (hL : ∀ t, t ∈ L → t = 23 ∨ (26 ≤ t ∧ t ≤ 42) ∨ t = 45 ∨ t = 46) : FC S S' := FC.of h (by
  intro t i hp
  have := hL t (by simpa [pL] using hp)
  unfold pcP
  simp only [Bool.or_eq_true, Bool.and_eq_true, decide_eq_true_eq, beq_iff_eq]
  omega) (by
  cases hq : pL L 0 0 with
  | false => rfl
  | true => have := hL 0 (by simpa [pL] using hq); omega)
theorem FM.pl {S S' : Sto} {L : List Nat} (h : Fr (pL L) S S') (hL : ∀ t, t ∈ L → (51 ≤ t ∧ t ≤ 66) ∨ (75 ≤ t ∧ t ≤ 96)) : FM S S' := FM.of h (by
  intro t i hp
  have := hL t (by simpa [pL] using hp)
  unfold pmP
  simp only [Bool.or_eq_true, Bool.and_eq_true, decide_eq_true_eq]
  omega) (by
  cases hq : pL L 50 0 with
  | false => rfl
  | true => have := hL 50 (by simpa [pL] using hq); omega)
theorem x_isLw {S : Sto} {R : Rs} (hr : ResC S R) (x : Int32) : call 109 0 [vR 0 0, vI x] S = some (some (vI (bI (lsB x R.2.1.1))), S) := by
  have g := hr.2.1.1
  show run 109 0 0 [vR 0 0, vI x] [] S = _
  simp only [s109_0, s109_1, s109_4, s109_5, s109_6, s109_9, s109_12, s109_13, s109_16, s109_17, g]
  unfold lsB
  by_cases h1 : x < 0 <;> by_cases h2 : nI R.2.1.1 ≤ x <;> simp [h1, h2, bI, nar_0, nar_1]
theorem m_isLw {S : Sto} {R : Rs} (hr : ResM S R) (hR : R.2.1.1 ≤ 6) (x : Int32) : call 191 0 [vR 50 0, vI x] S = some (some (vI (bI (lsB x R.2.1.1))), S) := by
  have g := hr.2.1.1
  show run 191 0 0 [vR 50 0, vI x] [] S = _
  simp only [s191_0, s191_1, s191_2, s191_3, s191_4, s191_7, s191_8, s191_9, s191_10, s191_13, g]
  show bV (call 137 0 [vL x.toInt64, vL 0, vL (nI R.2.1.1 - 1).toInt64] S) _ = _
  rw [m_inI S x 0 (nI R.2.1.1 - 1) (a := 0) (by decide) rfl, bV_some]
  simp only [below_pred x (show R.2.1.1 < 2 ^ 31 by omega), s191_0, s191_1, s191_2, s191_3, s191_4, s191_7, s191_8, s191_9, s191_10, s191_13, bI_nar, if_true]
  rfl
def iwB (A : Tn) (t w : Int32) : Bool := lsB w (A 0 2) && lsB t (A 0 1) && (A 11 w.toNatClampNeg).testBit t.toNatClampNeg
theorem iwB_t {A : Tn} {t w : Int32} (hw : WF A) (h : iwB A t w = true) : ∃ i j, i < A 0 1 ∧ t = nI i ∧ j < A 0 2 ∧ w = nI j ∧ (A 11 j).testBit i = true := by
  have hT := hw.th
  have hW := hw.wk
  unfold iwB at h
  simp only [Bool.and_eq_true] at h
  obtain ⟨j, hj, rfl⟩ := lsB_t h.1.1 (by omega)
  obtain ⟨i, hi, rfl⟩ := lsB_t h.1.2 (by omega)
  rw [nI_clamp (by omega), nI_clamp (by omega)] at h
  exact ⟨i, j, hi, rfl, hj, rfl, h.2⟩
theorem x_isIn {S : Sto} {q : Nat} {A : Tn} (h : RepC S q A) (hw : WF A) (t w : Int32) : call 79 0 [vR 1 q, vI t, vI w] S = some (some (vI (bI (iwB A t w))), S) := by
  have hT := hw.th
  have hW := hw.wk
  cases e1 : lsB w (A 0 2) with
  | false =>
    show run 79 0 0 [vR 1 q, vI t, vI w] [] S = _
    unfold iwB
    simp (disch := omega) only [s79_0, s79_1, s79_2, s79_5, s79_8, s79_9, s79_10, s79_13, s79_16, s79_17, s79_20, s79_21, s79_22, s79_23, s79_26, s79_29, s79_30, s79_33, s79_34, q_0, q_1, q_2, q_3, q_4, q_5, q_6, q_7, q_8, q_9, q_10, q_11, q_12, q_13, q_14, q_16, q_20, q_23, q_24, q_32, q_42, q_43, q_45, q_47, q_48, q_50, q_57, q_59, q_60, q_61, q_62, q_63, q_64, q_66, q_91, q_93, q_97, q_99, q_122, q_144, q_255, q_256, q_300, q_380, q_400, q_620, q_999, q_1000, q_4095, q_4096, q_9999, q_65536, q_99999, q_31, nI_add, pk_mul, nE, nL, nT, nM31, nShl, ib_nI, nI_clamp, bI_n0, bI_n1, bI_nar, uI_r, uI_l, uL_r, uL_i, uL_p, uA_r, uA_l, bV_some, bU_some, nar_n0, nar_n1, and_self, and_true, true_and, and_false, false_and, if_true, if_false, eq_self, Bool.false_eq_true, Bool.true_eq_false, not_true_eq_false, not_false_eq_true, ↓reduceIte, nlT, nlF, ntT, ntF, neT, neF, ieT, ieF, decide_true, decide_false, Bool.not_true, Bool.not_false, Bool.and_true, Bool.true_and, Bool.and_false, Bool.false_and, Bool.or_true, Bool.true_or, Bool.or_false, Bool.false_or, x_isW h, e1]
    rfl
  | true =>
    cases e2 : lsB t (A 0 1) with
    | false =>
      show run 79 0 0 [vR 1 q, vI t, vI w] [] S = _
      unfold iwB
      simp (disch := omega) only [s79_0, s79_1, s79_2, s79_5, s79_8, s79_9, s79_10, s79_13, s79_16, s79_17, s79_20, s79_21, s79_22, s79_23, s79_26, s79_29, s79_30, s79_33, s79_34, q_0, q_1, q_2, q_3, q_4, q_5, q_6, q_7, q_8, q_9, q_10, q_11, q_12, q_13, q_14, q_16, q_20, q_23, q_24, q_32, q_42, q_43, q_45, q_47, q_48, q_50, q_57, q_59, q_60, q_61, q_62, q_63, q_64, q_66, q_91, q_93, q_97, q_99, q_122, q_144, q_255, q_256, q_300, q_380, q_400, q_620, q_999, q_1000, q_4095, q_4096, q_9999, q_65536, q_99999, q_31, nI_add, pk_mul, nE, nL, nT, nM31, nShl, ib_nI, nI_clamp, bI_n0, bI_n1, bI_nar, uI_r, uI_l, uL_r, uL_i, uL_p, uA_r, uA_l, bV_some, bU_some, nar_n0, nar_n1, and_self, and_true, true_and, and_false, false_and, if_true, if_false, eq_self, Bool.false_eq_true, Bool.true_eq_false, not_true_eq_false, not_false_eq_true, ↓reduceIte, nlT, nlF, ntT, ntF, neT, neF, ieT, ieF, decide_true, decide_false, Bool.not_true, Bool.not_false, Bool.and_true, Bool.true_and, Bool.and_false, Bool.false_and, Bool.or_true, Bool.true_or, Bool.or_false, Bool.false_or, x_isW h, x_isT h, e1, e2]
      rfl
    | true =>
      have e1' := e1
      have e2' := e2
      obtain ⟨j, hj, rfl⟩ := lsB_t e1 (by omega)
      obtain ⟨i, hi, rfl⟩ := lsB_t e2 (by omega)
      rw [x_isInWork_A h hw hi hj]
      unfold iwB
      rw [e1', e2', nI_clamp (by omega), nI_clamp (by omega)]
      simp
theorem m_isOf {S : Sto} {A : Tn} (h : RepM S A) (hw : WF A) (t w : Int32) : call 192 0 [vR 50 0, vI w, vI t] S = some (some (vI (bI (iwB A t w))), S) := by
  have hT := hw.th
  have hW := hw.wk
  show run 192 0 0 [vR 50 0, vI w, vI t] [] S = _
  unfold iwB
  cases e1 : lsB w (A 0 2) with
  | false =>
    simp (disch := omega) only [s192_0, s192_1, s192_2, s192_5, s192_8, s192_9, s192_10, s192_13, s192_16, s192_17, s192_20, s192_21, s192_22, s192_23, s192_26, s192_29, s192_30, s192_33, s192_34, q_0, q_1, q_2, q_3, q_4, q_5, q_6, q_7, q_8, q_9, q_10, q_11, q_12, q_13, q_14, q_16, q_20, q_23, q_24, q_32, q_42, q_43, q_45, q_47, q_48, q_50, q_57, q_59, q_60, q_61, q_62, q_63, q_64, q_66, q_91, q_93, q_97, q_99, q_122, q_144, q_255, q_256, q_300, q_380, q_400, q_620, q_999, q_1000, q_4095, q_4096, q_9999, q_65536, q_99999, q_31, nI_add, pk_mul, nE, nL, nT, nM31, nShl, ib_nI, nI_clamp, bI_n0, bI_n1, bI_nar, uI_r, uI_l, uL_r, uL_i, uL_p, uA_r, uA_l, bV_some, bU_some, nar_n0, nar_n1, and_self, and_true, true_and, and_false, false_and, if_true, if_false, eq_self, Bool.false_eq_true, Bool.true_eq_false, not_true_eq_false, not_false_eq_true, ↓reduceIte, nlT, nlF, ntT, ntF, neT, neF, ieT, ieF, decide_true, decide_false, Bool.not_true, Bool.not_false, Bool.and_true, Bool.true_and, Bool.and_false, Bool.false_and, Bool.or_true, Bool.true_or, Bool.or_false, Bool.false_or, m_isW h hw, e1]
    rfl
  | true =>
    cases e2 : lsB t (A 0 1) with
    | false =>
      simp (disch := omega) only [s192_0, s192_1, s192_2, s192_5, s192_8, s192_9, s192_10, s192_13, s192_16, s192_17, s192_20, s192_21, s192_22, s192_23, s192_26, s192_29, s192_30, s192_33, s192_34, q_0, q_1, q_2, q_3, q_4, q_5, q_6, q_7, q_8, q_9, q_10, q_11, q_12, q_13, q_14, q_16, q_20, q_23, q_24, q_32, q_42, q_43, q_45, q_47, q_48, q_50, q_57, q_59, q_60, q_61, q_62, q_63, q_64, q_66, q_91, q_93, q_97, q_99, q_122, q_144, q_255, q_256, q_300, q_380, q_400, q_620, q_999, q_1000, q_4095, q_4096, q_9999, q_65536, q_99999, q_31, nI_add, pk_mul, nE, nL, nT, nM31, nShl, ib_nI, nI_clamp, bI_n0, bI_n1, bI_nar, uI_r, uI_l, uL_r, uL_i, uL_p, uA_r, uA_l, bV_some, bU_some, nar_n0, nar_n1, and_self, and_true, true_and, and_false, false_and, if_true, if_false, eq_self, Bool.false_eq_true, Bool.true_eq_false, not_true_eq_false, not_false_eq_true, ↓reduceIte, nlT, nlF, ntT, ntF, neT, neF, ieT, ieF, decide_true, decide_false, Bool.not_true, Bool.not_false, Bool.and_true, Bool.true_and, Bool.and_false, Bool.false_and, Bool.or_true, Bool.true_or, Bool.or_false, Bool.false_or, m_isW h hw, m_isT h hw, e1, e2]
      rfl
    | true =>
      have e1' := e1
      have e2' := e2
      obtain ⟨j, hj, rfl⟩ := lsB_t e1 (by omega)
      obtain ⟨i, hi, rfl⟩ := lsB_t e2 (by omega)
      have hk := (hw.W (w := j) (by omega)).2.1
      rw [nI_clamp (by omega), nI_clamp (by omega)]
      simp (disch := omega) only [s192_0, s192_1, s192_2, s192_5, s192_8, s192_9, s192_10, s192_13, s192_16, s192_17, s192_20, s192_21, s192_22, s192_23, s192_26, s192_29, s192_30, s192_33, s192_34, q_0, q_1, q_2, q_3, q_4, q_5, q_6, q_7, q_8, q_9, q_10, q_11, q_12, q_13, q_14, q_16, q_20, q_23, q_24, q_32, q_42, q_43, q_45, q_47, q_48, q_50, q_57, q_59, q_60, q_61, q_62, q_63, q_64, q_66, q_91, q_93, q_97, q_99, q_122, q_144, q_255, q_256, q_300, q_380, q_400, q_620, q_999, q_1000, q_4095, q_4096, q_9999, q_65536, q_99999, q_31, nI_add, pk_mul, nE, nL, nT, nM31, nShl, ib_nI, nI_clamp, bI_n0, bI_n1, bI_nar, uI_r, uI_l, uL_r, uL_i, uL_p, uA_r, uA_l, bV_some, bU_some, nar_n0, nar_n1, and_self, and_true, true_and, and_false, false_and, if_true, if_false, eq_self, Bool.false_eq_true, Bool.true_eq_false, not_true_eq_false, not_false_eq_true, ↓reduceIte, nlT, nlF, ntT, ntF, neT, neF, ieT, ieF, decide_true, decide_false, Bool.not_true, Bool.not_false, Bool.and_true, Bool.true_and, Bool.and_false, Bool.false_and, Bool.or_true, Bool.true_or, Bool.or_false, Bool.false_or, m_isW h hw, m_isT h hw, e1', e2', h.se, m_has]
      cases (A 11 j).testBit i <;> simp [bI, nar_0, nar_1, nI_0, nI_one]
def o_nod (A : Tn) (R : Rs) (l w t o : Int32) : Int32 := if (lsB l R.2.1.1 && iwB A t w && lsB o (A 0 0) && owB A o.toNatClampNeg t.toNatClampNeg) = true then nV (ndO A (R.2.1.2 l.toNatClampNeg) w.toNatClampNeg t.toNatClampNeg o.toNatClampNeg) else -nI 1
theorem c_nod {S : Sto} {A : Tn} {R : Rs} (h : RepC S 0 A) (hr : ResC S R) (hw : WF A) (hR : WFR R) (l w t o : Int32) : ∃ S1, call 108 0 [vR 0 0, vI l, vI w, vI t, vI o] S = some (some (vI (o_nod A R l w t o)), S1) ∧ FC S S1 ∧ RepC S1 0 A := by
  have hP := hw.pe
  have hT := hw.th
  have hWk := hw.wk
  have hR6 := hR.2.1.1
  show ∃ S1, run 108 0 0 [vR 0 0, vI l, vI w, vI t, vI o, vU] [] S = _ ∧ _
  unfold o_nod
  cases e1 : lsB l R.2.1.1 with
  | false =>
    simp (disch := omega) only [s108_0, s108_1, s108_2, s108_5, s108_8, s108_9, s108_12, s108_13, s108_14, s108_17, s108_20, s108_21, s108_22, s108_23, s108_27, s108_28, s108_31, s108_32, s108_35, s108_38, s108_39, s108_40, s108_41, s108_43, s108_44, s108_45, s108_47, s108_50, s108_51, s108_54, s108_55, s108_58, s108_59, s108_62, s108_63, s108_64, s108_65, s108_66, s108_68, s108_71, s108_72, s108_75, s108_78, s108_79, q_0, q_1, q_2, q_3, q_4, q_5, q_6, q_7, q_8, q_9, q_10, q_11, q_12, q_13, q_14, q_16, q_20, q_23, q_24, q_32, q_42, q_43, q_45, q_47, q_48, q_50, q_57, q_59, q_60, q_61, q_62, q_63, q_64, q_66, q_91, q_93, q_97, q_99, q_122, q_144, q_255, q_256, q_300, q_380, q_400, q_620, q_999, q_1000, q_4095, q_4096, q_9999, q_65536, q_99999, q_31, nI_add, pk_mul, nE, nL, nT, nM31, nShl, ib_nI, nI_clamp, bI_n0, bI_n1, bI_nar, uI_r, uI_l, uL_r, uL_i, uL_p, uA_r, uA_l, bV_some, bU_some, nar_n0, nar_n1, and_self, and_true, true_and, and_false, false_and, if_true, if_false, eq_self, Bool.false_eq_true, Bool.true_eq_false, not_true_eq_false, not_false_eq_true, ↓reduceIte, nlT, nlF, ntT, ntF, neT, neF, ieT, ieF, decide_true, decide_false, Bool.not_true, Bool.not_false, Bool.and_true, Bool.true_and, Bool.and_false, Bool.false_and, Bool.or_true, Bool.true_or, Bool.or_false, Bool.false_or, x_isLw hr, e1]
    exact ⟨_, rfl, FC.rf, h⟩
  | true =>
    have e1' := e1
    obtain ⟨r, hr', rfl⟩ := lsB_t e1 (by omega)
    cases e2 : iwB A t w with
    | false =>
      simp (disch := omega) only [s108_0, s108_1, s108_2, s108_5, s108_8, s108_9, s108_12, s108_13, s108_14, s108_17, s108_20, s108_21, s108_22, s108_23, s108_27, s108_28, s108_31, s108_32, s108_35, s108_38, s108_39, s108_40, s108_41, s108_43, s108_44, s108_45, s108_47, s108_50, s108_51, s108_54, s108_55, s108_58, s108_59, s108_62, s108_63, s108_64, s108_65, s108_66, s108_68, s108_71, s108_72, s108_75, s108_78, s108_79, q_0, q_1, q_2, q_3, q_4, q_5, q_6, q_7, q_8, q_9, q_10, q_11, q_12, q_13, q_14, q_16, q_20, q_23, q_24, q_32, q_42, q_43, q_45, q_47, q_48, q_50, q_57, q_59, q_60, q_61, q_62, q_63, q_64, q_66, q_91, q_93, q_97, q_99, q_122, q_144, q_255, q_256, q_300, q_380, q_400, q_620, q_999, q_1000, q_4095, q_4096, q_9999, q_65536, q_99999, q_31, nI_add, pk_mul, nE, nL, nT, nM31, nShl, ib_nI, nI_clamp, bI_n0, bI_n1, bI_nar, uI_r, uI_l, uL_r, uL_i, uL_p, uA_r, uA_l, bV_some, bU_some, nar_n0, nar_n1, and_self, and_true, true_and, and_false, false_and, if_true, if_false, eq_self, Bool.false_eq_true, Bool.true_eq_false, not_true_eq_false, not_false_eq_true, ↓reduceIte, nlT, nlF, ntT, ntF, neT, neF, ieT, ieF, decide_true, decide_false, Bool.not_true, Bool.not_false, Bool.and_true, Bool.true_and, Bool.and_false, Bool.false_and, Bool.or_true, Bool.true_or, Bool.or_false, Bool.false_or, x_isLw hr, e1', x_isIn h hw, e2]
      exact ⟨_, rfl, FC.rf, h⟩
    | true =>
      have e2' := e2
      obtain ⟨i, j, hi, rfl, hj, rfl, hb⟩ := iwB_t hw e2
      have ht := hw.t hi
      have w1 := h.own (i := 2 * i) (by omega)
      have w2 := h.own (i := 2 * i + 1) (by omega)
      rw [ow_0] at w1
      rw [ow_1] at w2
      simp (disch := omega) only [s108_0, s108_1, s108_2, s108_5, s108_8, s108_9, s108_12, s108_13, s108_14, s108_17, s108_20, s108_21, s108_22, s108_23, s108_27, s108_28, s108_31, s108_32, s108_35, s108_38, s108_39, s108_40, s108_41, s108_43, s108_44, s108_45, s108_47, s108_50, s108_51, s108_54, s108_55, s108_58, s108_59, s108_62, s108_63, s108_64, s108_65, s108_66, s108_68, s108_71, s108_72, s108_75, s108_78, s108_79, q_0, q_1, q_2, q_3, q_4, q_5, q_6, q_7, q_8, q_9, q_10, q_11, q_12, q_13, q_14, q_16, q_20, q_23, q_24, q_32, q_42, q_43, q_45, q_47, q_48, q_50, q_57, q_59, q_60, q_61, q_62, q_63, q_64, q_66, q_91, q_93, q_97, q_99, q_122, q_144, q_255, q_256, q_300, q_380, q_400, q_620, q_999, q_1000, q_4095, q_4096, q_9999, q_65536, q_99999, q_31, nI_add, pk_mul, nE, nL, nT, nM31, nShl, ib_nI, nI_clamp, bI_n0, bI_n1, bI_nar, uI_r, uI_l, uL_r, uL_i, uL_p, uA_r, uA_l, bV_some, bU_some, nar_n0, nar_n1, and_self, and_true, true_and, and_false, false_and, if_true, if_false, eq_self, Bool.false_eq_true, Bool.true_eq_false, not_true_eq_false, not_false_eq_true, ↓reduceIte, nlT, nlF, ntT, ntF, neT, neF, ieT, ieF, decide_true, decide_false, Bool.not_true, Bool.not_false, Bool.and_true, Bool.true_and, Bool.and_false, Bool.false_and, Bool.or_true, Bool.true_or, Bool.or_false, Bool.false_or, x_isLw hr, e1', x_isIn h hw, e2']
      rw [s108_25]
      by_cases g1 : o = nI (A 7 i)
      · subst g1
        obtain ⟨S1, a1, a2⟩ := x_nodOf (f := 0) h hw (hr.2.1.2 r hr') (hR.2.1.2 r hr') hj hi (by decide)
        rw [Nat.add_zero, ow_0] at a1
        have l1 : lsB (nI (A 7 i)) (A 0 0) = true := by rw [lsB_n (by omega) (by omega)]; simp [ht.1]
        have l2 : owB A (A 7 i) i = true := by simp [owB]
        simp (disch := omega) only [s108_0, s108_1, s108_2, s108_5, s108_8, s108_9, s108_12, s108_13, s108_14, s108_17, s108_20, s108_21, s108_22, s108_23, s108_27, s108_28, s108_31, s108_32, s108_35, s108_38, s108_39, s108_40, s108_41, s108_43, s108_44, s108_45, s108_47, s108_50, s108_51, s108_54, s108_55, s108_58, s108_59, s108_62, s108_63, s108_64, s108_65, s108_66, s108_68, s108_71, s108_72, s108_75, s108_78, s108_79, q_0, q_1, q_2, q_3, q_4, q_5, q_6, q_7, q_8, q_9, q_10, q_11, q_12, q_13, q_14, q_16, q_20, q_23, q_24, q_32, q_42, q_43, q_45, q_47, q_48, q_50, q_57, q_59, q_60, q_61, q_62, q_63, q_64, q_66, q_91, q_93, q_97, q_99, q_122, q_144, q_255, q_256, q_300, q_380, q_400, q_620, q_999, q_1000, q_4095, q_4096, q_9999, q_65536, q_99999, q_31, nI_add, pk_mul, nE, nL, nT, nM31, nShl, ib_nI, nI_clamp, bI_n0, bI_n1, bI_nar, uI_r, uI_l, uL_r, uL_i, uL_p, uA_r, uA_l, bV_some, bU_some, nar_n0, nar_n1, and_self, and_true, true_and, and_false, false_and, if_true, if_false, eq_self, Bool.false_eq_true, Bool.true_eq_false, not_true_eq_false, not_false_eq_true, ↓reduceIte, nlT, nlF, ntT, ntF, neT, neF, ieT, ieF, decide_true, decide_false, Bool.not_true, Bool.not_false, Bool.and_true, Bool.true_and, Bool.and_false, Bool.false_and, Bool.or_true, Bool.true_or, Bool.or_false, Bool.false_or, Nat.add_zero, w1, a1, l1, l2, Nat.zero_add]
        exact ⟨_, rfl, FC.pl a2 (by decide), h.pl a2 (by decide)⟩
      · have g1' : (nI (A 7 i) = o) = False := eq_false (fun q => g1 q.symm)
        simp (disch := omega) only [s108_0, s108_1, s108_2, s108_5, s108_8, s108_9, s108_12, s108_13, s108_14, s108_17, s108_20, s108_21, s108_22, s108_23, s108_27, s108_28, s108_31, s108_32, s108_35, s108_38, s108_39, s108_40, s108_41, s108_43, s108_44, s108_45, s108_47, s108_50, s108_51, s108_54, s108_55, s108_58, s108_59, s108_62, s108_63, s108_64, s108_65, s108_66, s108_68, s108_71, s108_72, s108_75, s108_78, s108_79, q_0, q_1, q_2, q_3, q_4, q_5, q_6, q_7, q_8, q_9, q_10, q_11, q_12, q_13, q_14, q_16, q_20, q_23, q_24, q_32, q_42, q_43, q_45, q_47, q_48, q_50, q_57, q_59, q_60, q_61, q_62, q_63, q_64, q_66, q_91, q_93, q_97, q_99, q_122, q_144, q_255, q_256, q_300, q_380, q_400, q_620, q_999, q_1000, q_4095, q_4096, q_9999, q_65536, q_99999, q_31, nI_add, pk_mul, nE, nL, nT, nM31, nShl, ib_nI, nI_clamp, bI_n0, bI_n1, bI_nar, uI_r, uI_l, uL_r, uL_i, uL_p, uA_r, uA_l, bV_some, bU_some, nar_n0, nar_n1, and_self, and_true, true_and, and_false, false_and, if_true, if_false, eq_self, Bool.false_eq_true, Bool.true_eq_false, not_true_eq_false, not_false_eq_true, ↓reduceIte, nlT, nlF, ntT, ntF, neT, neF, ieT, ieF, decide_true, decide_false, Bool.not_true, Bool.not_false, Bool.and_true, Bool.true_and, Bool.and_false, Bool.false_and, Bool.or_true, Bool.true_or, Bool.or_false, Bool.false_or, Nat.add_zero, w1, g1', Nat.zero_add]
        rw [s108_25]
        by_cases g2 : o = nI (A 8 i)
        · subst g2
          obtain ⟨S1, a1, a2⟩ := x_nodOf (f := 1) h hw (hr.2.1.2 r hr') (hR.2.1.2 r hr') hj hi (by decide)
          rw [ow_1] at a1
          have l1 : lsB (nI (A 8 i)) (A 0 0) = true := by rw [lsB_n (by omega) (by omega)]; simp [ht.2.1]
          have l2 : owB A (A 8 i) i = true := by simp [owB]
          simp (disch := omega) only [s108_0, s108_1, s108_2, s108_5, s108_8, s108_9, s108_12, s108_13, s108_14, s108_17, s108_20, s108_21, s108_22, s108_23, s108_27, s108_28, s108_31, s108_32, s108_35, s108_38, s108_39, s108_40, s108_41, s108_43, s108_44, s108_45, s108_47, s108_50, s108_51, s108_54, s108_55, s108_58, s108_59, s108_62, s108_63, s108_64, s108_65, s108_66, s108_68, s108_71, s108_72, s108_75, s108_78, s108_79, q_0, q_1, q_2, q_3, q_4, q_5, q_6, q_7, q_8, q_9, q_10, q_11, q_12, q_13, q_14, q_16, q_20, q_23, q_24, q_32, q_42, q_43, q_45, q_47, q_48, q_50, q_57, q_59, q_60, q_61, q_62, q_63, q_64, q_66, q_91, q_93, q_97, q_99, q_122, q_144, q_255, q_256, q_300, q_380, q_400, q_620, q_999, q_1000, q_4095, q_4096, q_9999, q_65536, q_99999, q_31, nI_add, pk_mul, nE, nL, nT, nM31, nShl, ib_nI, nI_clamp, bI_n0, bI_n1, bI_nar, uI_r, uI_l, uL_r, uL_i, uL_p, uA_r, uA_l, bV_some, bU_some, nar_n0, nar_n1, and_self, and_true, true_and, and_false, false_and, if_true, if_false, eq_self, Bool.false_eq_true, Bool.true_eq_false, not_true_eq_false, not_false_eq_true, ↓reduceIte, nlT, nlF, ntT, ntF, neT, neF, ieT, ieF, decide_true, decide_false, Bool.not_true, Bool.not_false, Bool.and_true, Bool.true_and, Bool.and_false, Bool.false_and, Bool.or_true, Bool.true_or, Bool.or_false, Bool.false_or, w2, a1, l1, l2, Nat.zero_add]
          exact ⟨_, rfl, FC.pl a2 (by decide), h.pl a2 (by decide)⟩
        · have g2' : (nI (A 8 i) = o) = False := eq_false (fun q => g2 q.symm)
          have l3 : (lsB o (A 0 0) && owB A o.toNatClampNeg i) = false := by
            cases l1 : lsB o (A 0 0) with
            | false => rfl
            | true =>
              obtain ⟨p, hp, rfl⟩ := lsB_t l1 (by omega)
              rw [nI_clamp (by omega)]
              rw [nE (by omega) (by omega)] at g1 g2
              simp [owB, Ne.symm g1, Ne.symm g2]
          simp (disch := omega) only [s108_0, s108_1, s108_2, s108_5, s108_8, s108_9, s108_12, s108_13, s108_14, s108_17, s108_20, s108_21, s108_22, s108_23, s108_27, s108_28, s108_31, s108_32, s108_35, s108_38, s108_39, s108_40, s108_41, s108_43, s108_44, s108_45, s108_47, s108_50, s108_51, s108_54, s108_55, s108_58, s108_59, s108_62, s108_63, s108_64, s108_65, s108_66, s108_68, s108_71, s108_72, s108_75, s108_78, s108_79, q_0, q_1, q_2, q_3, q_4, q_5, q_6, q_7, q_8, q_9, q_10, q_11, q_12, q_13, q_14, q_16, q_20, q_23, q_24, q_32, q_42, q_43, q_45, q_47, q_48, q_50, q_57, q_59, q_60, q_61, q_62, q_63, q_64, q_66, q_91, q_93, q_97, q_99, q_122, q_144, q_255, q_256, q_300, q_380, q_400, q_620, q_999, q_1000, q_4095, q_4096, q_9999, q_65536, q_99999, q_31, nI_add, pk_mul, nE, nL, nT, nM31, nShl, ib_nI, nI_clamp, bI_n0, bI_n1, bI_nar, uI_r, uI_l, uL_r, uL_i, uL_p, uA_r, uA_l, bV_some, bU_some, nar_n0, nar_n1, and_self, and_true, true_and, and_false, false_and, if_true, if_false, eq_self, Bool.false_eq_true, Bool.true_eq_false, not_true_eq_false, not_false_eq_true, ↓reduceIte, nlT, nlF, ntT, ntF, neT, neF, ieT, ieF, decide_true, decide_false, Bool.not_true, Bool.not_false, Bool.and_true, Bool.true_and, Bool.and_false, Bool.false_and, Bool.or_true, Bool.true_or, Bool.or_false, Bool.false_or, w2, g2']
          rw [s108_25]
          simp (disch := omega) only [s108_0, s108_1, s108_2, s108_5, s108_8, s108_9, s108_12, s108_13, s108_14, s108_17, s108_20, s108_21, s108_22, s108_23, s108_27, s108_28, s108_31, s108_32, s108_35, s108_38, s108_39, s108_40, s108_41, s108_43, s108_44, s108_45, s108_47, s108_50, s108_51, s108_54, s108_55, s108_58, s108_59, s108_62, s108_63, s108_64, s108_65, s108_66, s108_68, s108_71, s108_72, s108_75, s108_78, s108_79, q_0, q_1, q_2, q_3, q_4, q_5, q_6, q_7, q_8, q_9, q_10, q_11, q_12, q_13, q_14, q_16, q_20, q_23, q_24, q_32, q_42, q_43, q_45, q_47, q_48, q_50, q_57, q_59, q_60, q_61, q_62, q_63, q_64, q_66, q_91, q_93, q_97, q_99, q_122, q_144, q_255, q_256, q_300, q_380, q_400, q_620, q_999, q_1000, q_4095, q_4096, q_9999, q_65536, q_99999, q_31, nI_add, pk_mul, nE, nL, nT, nM31, nShl, ib_nI, nI_clamp, bI_n0, bI_n1, bI_nar, uI_r, uI_l, uL_r, uL_i, uL_p, uA_r, uA_l, bV_some, bU_some, nar_n0, nar_n1, and_self, and_true, true_and, and_false, false_and, if_true, if_false, eq_self, Bool.false_eq_true, Bool.true_eq_false, not_true_eq_false, not_false_eq_true, ↓reduceIte, nlT, nlF, ntT, ntF, neT, neF, ieT, ieF, decide_true, decide_false, Bool.not_true, Bool.not_false, Bool.and_true, Bool.true_and, Bool.and_false, Bool.false_and, Bool.or_true, Bool.true_or, Bool.or_false, Bool.false_or, l3]
          exact ⟨_, rfl, FC.rf, h⟩
theorem r_nod {S : Sto} {A : Tn} {R : Rs} (h : RepM S A) (hr : ResM S R) (hw : WF A) (hR : WFR R) (l w t o : Int32) : ∃ S1, call 190 0 [vR 50 0, vI l, vI w, vI t, vI o] S = some (some (vI (o_nod A R l w t o)), S1) ∧ FM S S1 ∧ RepM S1 A := by
  have hP := hw.pe
  have hT := hw.th
  have hWk := hw.wk
  have hR6 := hR.2.1.1
  show ∃ S1, run 190 0 0 [vR 50 0, vI l, vI w, vI t, vI o] [] S = _ ∧ _
  unfold o_nod
  cases e1 : lsB l R.2.1.1 with
  | false =>
    simp (disch := omega) only [s190_0, s190_1, s190_2, s190_5, s190_8, s190_9, s190_10, s190_11, s190_14, s190_17, s190_18, s190_20, s190_23, s190_26, s190_27, s190_29, s190_30, s190_33, s190_36, s190_37, s190_38, s190_39, s190_40, s190_42, s190_45, s190_48, s190_49, q_0, q_1, q_2, q_3, q_4, q_5, q_6, q_7, q_8, q_9, q_10, q_11, q_12, q_13, q_14, q_16, q_20, q_23, q_24, q_32, q_42, q_43, q_45, q_47, q_48, q_50, q_57, q_59, q_60, q_61, q_62, q_63, q_64, q_66, q_91, q_93, q_97, q_99, q_122, q_144, q_255, q_256, q_300, q_380, q_400, q_620, q_999, q_1000, q_4095, q_4096, q_9999, q_65536, q_99999, q_31, nI_add, pk_mul, nE, nL, nT, nM31, nShl, ib_nI, nI_clamp, bI_n0, bI_n1, bI_nar, uI_r, uI_l, uL_r, uL_i, uL_p, uA_r, uA_l, bV_some, bU_some, nar_n0, nar_n1, and_self, and_true, true_and, and_false, false_and, if_true, if_false, eq_self, Bool.false_eq_true, Bool.true_eq_false, not_true_eq_false, not_false_eq_true, ↓reduceIte, nlT, nlF, ntT, ntF, neT, neF, ieT, ieF, decide_true, decide_false, Bool.not_true, Bool.not_false, Bool.and_true, Bool.true_and, Bool.and_false, Bool.false_and, Bool.or_true, Bool.true_or, Bool.or_false, Bool.false_or, m_isLw hr hR6, e1]
    exact ⟨_, rfl, FM.rf, h⟩
  | true =>
    have e1' := e1
    obtain ⟨r, hr', rfl⟩ := lsB_t e1 (by omega)
    cases e2 : iwB A t w with
    | false =>
      simp (disch := omega) only [s190_0, s190_1, s190_2, s190_5, s190_8, s190_9, s190_10, s190_11, s190_14, s190_17, s190_18, s190_20, s190_23, s190_26, s190_27, s190_29, s190_30, s190_33, s190_36, s190_37, s190_38, s190_39, s190_40, s190_42, s190_45, s190_48, s190_49, q_0, q_1, q_2, q_3, q_4, q_5, q_6, q_7, q_8, q_9, q_10, q_11, q_12, q_13, q_14, q_16, q_20, q_23, q_24, q_32, q_42, q_43, q_45, q_47, q_48, q_50, q_57, q_59, q_60, q_61, q_62, q_63, q_64, q_66, q_91, q_93, q_97, q_99, q_122, q_144, q_255, q_256, q_300, q_380, q_400, q_620, q_999, q_1000, q_4095, q_4096, q_9999, q_65536, q_99999, q_31, nI_add, pk_mul, nE, nL, nT, nM31, nShl, ib_nI, nI_clamp, bI_n0, bI_n1, bI_nar, uI_r, uI_l, uL_r, uL_i, uL_p, uA_r, uA_l, bV_some, bU_some, nar_n0, nar_n1, and_self, and_true, true_and, and_false, false_and, if_true, if_false, eq_self, Bool.false_eq_true, Bool.true_eq_false, not_true_eq_false, not_false_eq_true, ↓reduceIte, nlT, nlF, ntT, ntF, neT, neF, ieT, ieF, decide_true, decide_false, Bool.not_true, Bool.not_false, Bool.and_true, Bool.true_and, Bool.and_false, Bool.false_and, Bool.or_true, Bool.true_or, Bool.or_false, Bool.false_or, m_isLw hr hR6, e1', m_isOf h hw, e2]
      exact ⟨_, rfl, FM.rf, h⟩
    | true =>
      have e2' := e2
      obtain ⟨i, j, hi, rfl, hj, rfl, hb⟩ := iwB_t hw e2
      cases e3 : lsB o (A 0 0) with
      | false =>
        simp (disch := omega) only [s190_0, s190_1, s190_2, s190_5, s190_8, s190_9, s190_10, s190_11, s190_14, s190_17, s190_18, s190_20, s190_23, s190_26, s190_27, s190_29, s190_30, s190_33, s190_36, s190_37, s190_38, s190_39, s190_40, s190_42, s190_45, s190_48, s190_49, q_0, q_1, q_2, q_3, q_4, q_5, q_6, q_7, q_8, q_9, q_10, q_11, q_12, q_13, q_14, q_16, q_20, q_23, q_24, q_32, q_42, q_43, q_45, q_47, q_48, q_50, q_57, q_59, q_60, q_61, q_62, q_63, q_64, q_66, q_91, q_93, q_97, q_99, q_122, q_144, q_255, q_256, q_300, q_380, q_400, q_620, q_999, q_1000, q_4095, q_4096, q_9999, q_65536, q_99999, q_31, nI_add, pk_mul, nE, nL, nT, nM31, nShl, ib_nI, nI_clamp, bI_n0, bI_n1, bI_nar, uI_r, uI_l, uL_r, uL_i, uL_p, uA_r, uA_l, bV_some, bU_some, nar_n0, nar_n1, and_self, and_true, true_and, and_false, false_and, if_true, if_false, eq_self, Bool.false_eq_true, Bool.true_eq_false, not_true_eq_false, not_false_eq_true, ↓reduceIte, nlT, nlF, ntT, ntF, neT, neF, ieT, ieF, decide_true, decide_false, Bool.not_true, Bool.not_false, Bool.and_true, Bool.true_and, Bool.and_false, Bool.false_and, Bool.or_true, Bool.true_or, Bool.or_false, Bool.false_or, m_isLw hr hR6, e1', m_isOf h hw, e2', m_isP h hw, e3]
        exact ⟨_, rfl, FM.rf, h⟩
      | true =>
        have e3' := e3
        obtain ⟨p, hp, rfl⟩ := lsB_t e3 (by omega)
        have e4 : call 151 0 [vR 50 0, vI (nI p), vI (nI i)] S = some (some (vI (bI (owB A p i))), S) := m_owns h hw (by omega) (by omega)
        obtain ⟨S1, a1, a2⟩ := m_nodOf h hw (r := r) (by omega) (hr.2.1.2 r hr') (hR.2.1.2 r hr') (w := j) (t := i) (o := p) (by omega) (by omega) (by omega)
        cases e5 : owB A p i with
        | false =>
          rw [e5] at e4
          simp (disch := omega) only [s190_0, s190_1, s190_2, s190_5, s190_8, s190_9, s190_10, s190_11, s190_14, s190_17, s190_18, s190_20, s190_23, s190_26, s190_27, s190_29, s190_30, s190_33, s190_36, s190_37, s190_38, s190_39, s190_40, s190_42, s190_45, s190_48, s190_49, q_0, q_1, q_2, q_3, q_4, q_5, q_6, q_7, q_8, q_9, q_10, q_11, q_12, q_13, q_14, q_16, q_20, q_23, q_24, q_32, q_42, q_43, q_45, q_47, q_48, q_50, q_57, q_59, q_60, q_61, q_62, q_63, q_64, q_66, q_91, q_93, q_97, q_99, q_122, q_144, q_255, q_256, q_300, q_380, q_400, q_620, q_999, q_1000, q_4095, q_4096, q_9999, q_65536, q_99999, q_31, nI_add, pk_mul, nE, nL, nT, nM31, nShl, ib_nI, nI_clamp, bI_n0, bI_n1, bI_nar, uI_r, uI_l, uL_r, uL_i, uL_p, uA_r, uA_l, bV_some, bU_some, nar_n0, nar_n1, and_self, and_true, true_and, and_false, false_and, if_true, if_false, eq_self, Bool.false_eq_true, Bool.true_eq_false, not_true_eq_false, not_false_eq_true, ↓reduceIte, nlT, nlF, ntT, ntF, neT, neF, ieT, ieF, decide_true, decide_false, Bool.not_true, Bool.not_false, Bool.and_true, Bool.true_and, Bool.and_false, Bool.false_and, Bool.or_true, Bool.true_or, Bool.or_false, Bool.false_or, m_isLw hr hR6, e1', m_isOf h hw, e2', m_isP h hw, e3', e4, e5]
          exact ⟨_, rfl, FM.rf, h⟩
        | true =>
          rw [e5] at e4
          simp (disch := omega) only [s190_0, s190_1, s190_2, s190_5, s190_8, s190_9, s190_10, s190_11, s190_14, s190_17, s190_18, s190_20, s190_23, s190_26, s190_27, s190_29, s190_30, s190_33, s190_36, s190_37, s190_38, s190_39, s190_40, s190_42, s190_45, s190_48, s190_49, q_0, q_1, q_2, q_3, q_4, q_5, q_6, q_7, q_8, q_9, q_10, q_11, q_12, q_13, q_14, q_16, q_20, q_23, q_24, q_32, q_42, q_43, q_45, q_47, q_48, q_50, q_57, q_59, q_60, q_61, q_62, q_63, q_64, q_66, q_91, q_93, q_97, q_99, q_122, q_144, q_255, q_256, q_300, q_380, q_400, q_620, q_999, q_1000, q_4095, q_4096, q_9999, q_65536, q_99999, q_31, nI_add, pk_mul, nE, nL, nT, nM31, nShl, ib_nI, nI_clamp, bI_n0, bI_n1, bI_nar, uI_r, uI_l, uL_r, uL_i, uL_p, uA_r, uA_l, bV_some, bU_some, nar_n0, nar_n1, and_self, and_true, true_and, and_false, false_and, if_true, if_false, eq_self, Bool.false_eq_true, Bool.true_eq_false, not_true_eq_false, not_false_eq_true, ↓reduceIte, nlT, nlF, ntT, ntF, neT, neF, ieT, ieF, decide_true, decide_false, Bool.not_true, Bool.not_false, Bool.and_true, Bool.true_and, Bool.and_false, Bool.false_and, Bool.or_true, Bool.true_or, Bool.or_false, Bool.false_or, m_isLw hr hR6, e1', m_isOf h hw, e2', m_isP h hw, e3', e4, e5, a1]
          exact ⟨_, rfl, FM.pl a2 (by decide), h.pl a2 (by decide)⟩
def o_had (A : Tn) (R : Rs) (l w t : Int32) : Int32 := if (lsB l R.2.1.1 && iwB A t w) = true then nV (haO A (R.2.1.2 l.toNatClampNeg) w.toNatClampNeg t.toNatClampNeg) else -nI 1
theorem c_had {S : Sto} {A : Tn} {R : Rs} (h : RepC S 0 A) (hr : ResC S R) (hw : WF A) (hR : WFR R) (l w t : Int32) : ∃ S1, call 111 0 [vR 0 0, vI l, vI w, vI t] S = some (some (vI (o_had A R l w t)), S1) ∧ FC S S1 ∧ RepC S1 0 A := by
  have hT := hw.th
  have hWk := hw.wk
  have hR6 := hR.2.1.1
  show ∃ S1, run 111 0 0 [vR 0 0, vI l, vI w, vI t] [] S = _ ∧ _
  unfold o_had
  cases e1 : lsB l R.2.1.1 with
  | false =>
    simp (disch := omega) only [s111_0, s111_1, s111_2, s111_5, s111_8, s111_9, s111_12, s111_13, s111_14, s111_17, s111_20, s111_21, s111_22, s111_23, s111_26, s111_27, s111_30, s111_31, s111_34, s111_35, s111_36, s111_37, s111_38, s111_41, q_0, q_1, q_2, q_3, q_4, q_5, q_6, q_7, q_8, q_9, q_10, q_11, q_12, q_13, q_14, q_16, q_20, q_23, q_24, q_32, q_42, q_43, q_45, q_47, q_48, q_50, q_57, q_59, q_60, q_61, q_62, q_63, q_64, q_66, q_91, q_93, q_97, q_99, q_122, q_144, q_255, q_256, q_300, q_380, q_400, q_620, q_999, q_1000, q_4095, q_4096, q_9999, q_65536, q_99999, q_31, nI_add, pk_mul, nE, nL, nT, nM31, nShl, ib_nI, nI_clamp, bI_n0, bI_n1, bI_nar, uI_r, uI_l, uL_r, uL_i, uL_p, uA_r, uA_l, bV_some, bU_some, nar_n0, nar_n1, and_self, and_true, true_and, and_false, false_and, if_true, if_false, eq_self, Bool.false_eq_true, Bool.true_eq_false, not_true_eq_false, not_false_eq_true, ↓reduceIte, nlT, nlF, ntT, ntF, neT, neF, ieT, ieF, decide_true, decide_false, Bool.not_true, Bool.not_false, Bool.and_true, Bool.true_and, Bool.and_false, Bool.false_and, Bool.or_true, Bool.true_or, Bool.or_false, Bool.false_or, x_isLw hr, e1]
    exact ⟨_, rfl, FC.rf, h⟩
  | true =>
    have e1' := e1
    obtain ⟨r, hr', rfl⟩ := lsB_t e1 (by omega)
    cases e2 : iwB A t w with
    | false =>
      simp (disch := omega) only [s111_0, s111_1, s111_2, s111_5, s111_8, s111_9, s111_12, s111_13, s111_14, s111_17, s111_20, s111_21, s111_22, s111_23, s111_26, s111_27, s111_30, s111_31, s111_34, s111_35, s111_36, s111_37, s111_38, s111_41, q_0, q_1, q_2, q_3, q_4, q_5, q_6, q_7, q_8, q_9, q_10, q_11, q_12, q_13, q_14, q_16, q_20, q_23, q_24, q_32, q_42, q_43, q_45, q_47, q_48, q_50, q_57, q_59, q_60, q_61, q_62, q_63, q_64, q_66, q_91, q_93, q_97, q_99, q_122, q_144, q_255, q_256, q_300, q_380, q_400, q_620, q_999, q_1000, q_4095, q_4096, q_9999, q_65536, q_99999, q_31, nI_add, pk_mul, nE, nL, nT, nM31, nShl, ib_nI, nI_clamp, bI_n0, bI_n1, bI_nar, uI_r, uI_l, uL_r, uL_i, uL_p, uA_r, uA_l, bV_some, bU_some, nar_n0, nar_n1, and_self, and_true, true_and, and_false, false_and, if_true, if_false, eq_self, Bool.false_eq_true, Bool.true_eq_false, not_true_eq_false, not_false_eq_true, ↓reduceIte, nlT, nlF, ntT, ntF, neT, neF, ieT, ieF, decide_true, decide_false, Bool.not_true, Bool.not_false, Bool.and_true, Bool.true_and, Bool.and_false, Bool.false_and, Bool.or_true, Bool.true_or, Bool.or_false, Bool.false_or, x_isLw hr, e1', x_isIn h hw, e2]
      exact ⟨_, rfl, FC.rf, h⟩
    | true =>
      have e2' := e2
      obtain ⟨i, j, hi, rfl, hj, rfl, hb⟩ := iwB_t hw e2
      obtain ⟨S1, a1, a2, _⟩ := x_hadFor h hw (hr.2.1.2 r hr') (hR.2.1.2 r hr') hj hi
      simp (disch := omega) only [s111_0, s111_1, s111_2, s111_5, s111_8, s111_9, s111_12, s111_13, s111_14, s111_17, s111_20, s111_21, s111_22, s111_23, s111_26, s111_27, s111_30, s111_31, s111_34, s111_35, s111_36, s111_37, s111_38, s111_41, q_0, q_1, q_2, q_3, q_4, q_5, q_6, q_7, q_8, q_9, q_10, q_11, q_12, q_13, q_14, q_16, q_20, q_23, q_24, q_32, q_42, q_43, q_45, q_47, q_48, q_50, q_57, q_59, q_60, q_61, q_62, q_63, q_64, q_66, q_91, q_93, q_97, q_99, q_122, q_144, q_255, q_256, q_300, q_380, q_400, q_620, q_999, q_1000, q_4095, q_4096, q_9999, q_65536, q_99999, q_31, nI_add, pk_mul, nE, nL, nT, nM31, nShl, ib_nI, nI_clamp, bI_n0, bI_n1, bI_nar, uI_r, uI_l, uL_r, uL_i, uL_p, uA_r, uA_l, bV_some, bU_some, nar_n0, nar_n1, and_self, and_true, true_and, and_false, false_and, if_true, if_false, eq_self, Bool.false_eq_true, Bool.true_eq_false, not_true_eq_false, not_false_eq_true, ↓reduceIte, nlT, nlF, ntT, ntF, neT, neF, ieT, ieF, decide_true, decide_false, Bool.not_true, Bool.not_false, Bool.and_true, Bool.true_and, Bool.and_false, Bool.false_and, Bool.or_true, Bool.true_or, Bool.or_false, Bool.false_or, x_isLw hr, e1', x_isIn h hw, e2', a1, Nat.zero_add]
      exact ⟨_, rfl, FC.pl a2 (by decide), h.pl a2 (by decide)⟩
theorem r_had {S : Sto} {A : Tn} {R : Rs} (h : RepM S A) (hr : ResM S R) (hw : WF A) (hR : WFR R) (l w t : Int32) : ∃ S1, call 201 0 [vR 50 0, vI l, vI w, vI t] S = some (some (vI (o_had A R l w t)), S1) ∧ FM S S1 ∧ RepM S1 A := by
  have hT := hw.th
  have hWk := hw.wk
  have hR6 := hR.2.1.1
  show ∃ S1, run 201 0 0 [vR 50 0, vI l, vI w, vI t] [] S = _ ∧ _
  unfold o_had
  cases e1 : lsB l R.2.1.1 with
  | false =>
    simp (disch := omega) only [s201_0, s201_1, s201_2, s201_5, s201_8, s201_9, s201_10, s201_11, s201_14, s201_17, s201_18, s201_19, s201_20, s201_21, s201_24, s201_27, s201_28, q_0, q_1, q_2, q_3, q_4, q_5, q_6, q_7, q_8, q_9, q_10, q_11, q_12, q_13, q_14, q_16, q_20, q_23, q_24, q_32, q_42, q_43, q_45, q_47, q_48, q_50, q_57, q_59, q_60, q_61, q_62, q_63, q_64, q_66, q_91, q_93, q_97, q_99, q_122, q_144, q_255, q_256, q_300, q_380, q_400, q_620, q_999, q_1000, q_4095, q_4096, q_9999, q_65536, q_99999, q_31, nI_add, pk_mul, nE, nL, nT, nM31, nShl, ib_nI, nI_clamp, bI_n0, bI_n1, bI_nar, uI_r, uI_l, uL_r, uL_i, uL_p, uA_r, uA_l, bV_some, bU_some, nar_n0, nar_n1, and_self, and_true, true_and, and_false, false_and, if_true, if_false, eq_self, Bool.false_eq_true, Bool.true_eq_false, not_true_eq_false, not_false_eq_true, ↓reduceIte, nlT, nlF, ntT, ntF, neT, neF, ieT, ieF, decide_true, decide_false, Bool.not_true, Bool.not_false, Bool.and_true, Bool.true_and, Bool.and_false, Bool.false_and, Bool.or_true, Bool.true_or, Bool.or_false, Bool.false_or, m_isLw hr hR6, e1]
    exact ⟨_, rfl, FM.rf, h⟩
  | true =>
    have e1' := e1
    obtain ⟨r, hr', rfl⟩ := lsB_t e1 (by omega)
    cases e2 : iwB A t w with
    | false =>
      simp (disch := omega) only [s201_0, s201_1, s201_2, s201_5, s201_8, s201_9, s201_10, s201_11, s201_14, s201_17, s201_18, s201_19, s201_20, s201_21, s201_24, s201_27, s201_28, q_0, q_1, q_2, q_3, q_4, q_5, q_6, q_7, q_8, q_9, q_10, q_11, q_12, q_13, q_14, q_16, q_20, q_23, q_24, q_32, q_42, q_43, q_45, q_47, q_48, q_50, q_57, q_59, q_60, q_61, q_62, q_63, q_64, q_66, q_91, q_93, q_97, q_99, q_122, q_144, q_255, q_256, q_300, q_380, q_400, q_620, q_999, q_1000, q_4095, q_4096, q_9999, q_65536, q_99999, q_31, nI_add, pk_mul, nE, nL, nT, nM31, nShl, ib_nI, nI_clamp, bI_n0, bI_n1, bI_nar, uI_r, uI_l, uL_r, uL_i, uL_p, uA_r, uA_l, bV_some, bU_some, nar_n0, nar_n1, and_self, and_true, true_and, and_false, false_and, if_true, if_false, eq_self, Bool.false_eq_true, Bool.true_eq_false, not_true_eq_false, not_false_eq_true, ↓reduceIte, nlT, nlF, ntT, ntF, neT, neF, ieT, ieF, decide_true, decide_false, Bool.not_true, Bool.not_false, Bool.and_true, Bool.true_and, Bool.and_false, Bool.false_and, Bool.or_true, Bool.true_or, Bool.or_false, Bool.false_or, m_isLw hr hR6, e1', m_isOf h hw, e2]
      exact ⟨_, rfl, FM.rf, h⟩
    | true =>
      have e2' := e2
      obtain ⟨i, j, hi, rfl, hj, rfl, hb⟩ := iwB_t hw e2
      obtain ⟨S1, a1, a2⟩ := m_hadFor h hw (r := r) (by omega) (hr.2.1.2 r hr') (hR.2.1.2 r hr') (w := j) (t := i) (by omega) (by omega)
      simp (disch := omega) only [s201_0, s201_1, s201_2, s201_5, s201_8, s201_9, s201_10, s201_11, s201_14, s201_17, s201_18, s201_19, s201_20, s201_21, s201_24, s201_27, s201_28, q_0, q_1, q_2, q_3, q_4, q_5, q_6, q_7, q_8, q_9, q_10, q_11, q_12, q_13, q_14, q_16, q_20, q_23, q_24, q_32, q_42, q_43, q_45, q_47, q_48, q_50, q_57, q_59, q_60, q_61, q_62, q_63, q_64, q_66, q_91, q_93, q_97, q_99, q_122, q_144, q_255, q_256, q_300, q_380, q_400, q_620, q_999, q_1000, q_4095, q_4096, q_9999, q_65536, q_99999, q_31, nI_add, pk_mul, nE, nL, nT, nM31, nShl, ib_nI, nI_clamp, bI_n0, bI_n1, bI_nar, uI_r, uI_l, uL_r, uL_i, uL_p, uA_r, uA_l, bV_some, bU_some, nar_n0, nar_n1, and_self, and_true, true_and, and_false, false_and, if_true, if_false, eq_self, Bool.false_eq_true, Bool.true_eq_false, not_true_eq_false, not_false_eq_true, ↓reduceIte, nlT, nlF, ntT, ntF, neT, neF, ieT, ieF, decide_true, decide_false, Bool.not_true, Bool.not_false, Bool.and_true, Bool.true_and, Bool.and_false, Bool.false_and, Bool.or_true, Bool.true_or, Bool.or_false, Bool.false_or, m_isLw hr hR6, e1', m_isOf h hw, e2', a1]
      exact ⟨_, rfl, FM.pl a2 (by decide), h.pl a2 (by decide)⟩
/-- not done, the asker living, none of its things taken -/
def frB (A : Tn) (w : Nat) : Bool := !(A 14 w == 1) && (A 2 (A 10 w) == 1) && !tkB A w
theorem ex_mono {P : Nat → Bool} {n k : Nat} (hk : k < n) (h : P k = true) : ex P n = true := ex_t.mpr ⟨k, hk, h⟩
theorem x_isFree {S : Sto} {q : Nat} {A : Tn} {w : Nat} (h : RepC S q A) (hw : WF A) (hv : w < A 0 2) : call 80 0 [vR 1 q, vI (nI w)] S = some (some (vI (bI (frB A w))), S) := by
  have hWk := hw.wk
  have hW := hw.W (w := w) (by omega)
  have f1 := donB_lt A
  have f2 := livB_lt A
  show run 80 0 0 [vR 1 q, vI (nI w), vU] [] S = _
  unfold frB
  by_cases c1 : A 14 w = 1
  · have c1' : (A 14 w == 1) = true := by simp [c1]
    simp (disch := omega) only [s80_0, s80_1, s80_4, s80_5, s80_8, s80_11, s80_12, s80_15, s80_16, s80_19, s80_20, s80_21, s80_24, s80_27, s80_28, s80_29, s80_30, s80_32, s80_33, s80_36, s80_39, s80_40, s80_43, s80_44, s80_47, s80_50, s80_51, s80_52, s80_53, s80_56, s80_59, s80_60, s80_61, s80_64, s80_67, s80_68, q_0, q_1, q_2, q_3, q_4, q_5, q_6, q_7, q_8, q_9, q_10, q_11, q_12, q_13, q_14, q_16, q_20, q_23, q_24, q_32, q_42, q_43, q_45, q_47, q_48, q_50, q_57, q_59, q_60, q_61, q_62, q_63, q_64, q_66, q_91, q_93, q_97, q_99, q_122, q_144, q_255, q_256, q_300, q_380, q_400, q_620, q_999, q_1000, q_4095, q_4096, q_9999, q_65536, q_99999, q_31, nI_add, pk_mul, nE, nL, nT, nM31, nShl, ib_nI, nI_clamp, bI_n0, bI_n1, bI_nar, uI_r, uI_l, uL_r, uL_i, uL_p, uA_r, uA_l, bV_some, bU_some, nar_n0, nar_n1, and_self, and_true, true_and, and_false, false_and, if_true, if_false, eq_self, Bool.false_eq_true, Bool.true_eq_false, not_true_eq_false, not_false_eq_true, ↓reduceIte, nlT, nlF, ntT, ntF, neT, neF, ieT, ieF, decide_true, decide_false, Bool.not_true, Bool.not_false, Bool.and_true, Bool.true_and, Bool.and_false, Bool.false_and, Bool.or_true, Bool.true_or, Bool.or_false, Bool.false_or, h.dnb, x_has, donB_bit, c1']
    rfl
  · have c1' : (A 14 w == 1) = false := by simp [c1]
    cases c2 : (A 2 (A 10 w) == 1) with
    | false =>
      simp (disch := omega) only [s80_0, s80_1, s80_4, s80_5, s80_8, s80_11, s80_12, s80_15, s80_16, s80_19, s80_20, s80_21, s80_24, s80_27, s80_28, s80_29, s80_30, s80_32, s80_33, s80_36, s80_39, s80_40, s80_43, s80_44, s80_47, s80_50, s80_51, s80_52, s80_53, s80_56, s80_59, s80_60, s80_61, s80_64, s80_67, s80_68, q_0, q_1, q_2, q_3, q_4, q_5, q_6, q_7, q_8, q_9, q_10, q_11, q_12, q_13, q_14, q_16, q_20, q_23, q_24, q_32, q_42, q_43, q_45, q_47, q_48, q_50, q_57, q_59, q_60, q_61, q_62, q_63, q_64, q_66, q_91, q_93, q_97, q_99, q_122, q_144, q_255, q_256, q_300, q_380, q_400, q_620, q_999, q_1000, q_4095, q_4096, q_9999, q_65536, q_99999, q_31, nI_add, pk_mul, nE, nL, nT, nM31, nShl, ib_nI, nI_clamp, bI_n0, bI_n1, bI_nar, uI_r, uI_l, uL_r, uL_i, uL_p, uA_r, uA_l, bV_some, bU_some, nar_n0, nar_n1, and_self, and_true, true_and, and_false, false_and, if_true, if_false, eq_self, Bool.false_eq_true, Bool.true_eq_false, not_true_eq_false, not_false_eq_true, ↓reduceIte, nlT, nlF, ntT, ntF, neT, neF, ieT, ieF, decide_true, decide_false, Bool.not_true, Bool.not_false, Bool.and_true, Bool.true_and, Bool.and_false, Bool.false_and, Bool.or_true, Bool.true_or, Bool.or_false, Bool.false_or, h.dnb, x_has, donB_bit, c1', h.ak, h.lvb, livB_bit, c2]
      rfl
    | true =>
      simp (disch := omega) only [s80_0, s80_1, s80_4, s80_5, s80_8, s80_11, s80_12, s80_15, s80_16, s80_19, s80_20, s80_21, s80_24, s80_27, s80_28, s80_29, s80_30, s80_32, s80_33, s80_36, s80_39, s80_40, s80_43, s80_44, s80_47, s80_50, s80_51, s80_52, s80_53, s80_56, s80_59, s80_60, s80_61, s80_64, s80_67, s80_68, q_0, q_1, q_2, q_3, q_4, q_5, q_6, q_7, q_8, q_9, q_10, q_11, q_12, q_13, q_14, q_16, q_20, q_23, q_24, q_32, q_42, q_43, q_45, q_47, q_48, q_50, q_57, q_59, q_60, q_61, q_62, q_63, q_64, q_66, q_91, q_93, q_97, q_99, q_122, q_144, q_255, q_256, q_300, q_380, q_400, q_620, q_999, q_1000, q_4095, q_4096, q_9999, q_65536, q_99999, q_31, nI_add, pk_mul, nE, nL, nT, nM31, nShl, ib_nI, nI_clamp, bI_n0, bI_n1, bI_nar, uI_r, uI_l, uL_r, uL_i, uL_p, uA_r, uA_l, bV_some, bU_some, nar_n0, nar_n1, and_self, and_true, true_and, and_false, false_and, if_true, if_false, eq_self, Bool.false_eq_true, Bool.true_eq_false, not_true_eq_false, not_false_eq_true, ↓reduceIte, nlT, nlF, ntT, ntF, neT, neF, ieT, ieF, decide_true, decide_false, Bool.not_true, Bool.not_false, Bool.and_true, Bool.true_and, Bool.and_false, Bool.false_and, Bool.or_true, Bool.true_or, Bool.or_false, Bool.false_or, h.dnb, x_has, donB_bit, c1', h.ak, h.lvb, livB_bit, c2]
      refine upS (σ := Unit) (I := fun i _ => ex (fun o => A 14 o == 1 && clB A o w) i = false) (F := fun i _ => run 80 0 31 [vR 1 q, vI (nI w), vI (nI i)] [] S) (Q := fun x => x = some (some (vI (bI (!tkB A w))), S)) (N := A 0 2) ?_ ?_ 0 () (by omega) rfl
      · intro i _ hi hI
        show (run 80 0 31 _ _ _ = _) ∨ ∃ s', _ ∧ run 80 0 31 _ _ _ = run 80 0 31 _ _ _
        rw [s80_31]
        cases c3 : (A 14 i == 1) with
        | false =>
          refine Or.inr ⟨(), ?_, ?_⟩
          · show (ex _ i || _) = false
            rw [hI]; simp [c3]
          · simp (disch := omega) only [s80_0, s80_1, s80_4, s80_5, s80_8, s80_11, s80_12, s80_15, s80_16, s80_19, s80_20, s80_21, s80_24, s80_27, s80_28, s80_29, s80_30, s80_32, s80_33, s80_36, s80_39, s80_40, s80_43, s80_44, s80_47, s80_50, s80_51, s80_52, s80_53, s80_56, s80_59, s80_60, s80_61, s80_64, s80_67, s80_68, q_0, q_1, q_2, q_3, q_4, q_5, q_6, q_7, q_8, q_9, q_10, q_11, q_12, q_13, q_14, q_16, q_20, q_23, q_24, q_32, q_42, q_43, q_45, q_47, q_48, q_50, q_57, q_59, q_60, q_61, q_62, q_63, q_64, q_66, q_91, q_93, q_97, q_99, q_122, q_144, q_255, q_256, q_300, q_380, q_400, q_620, q_999, q_1000, q_4095, q_4096, q_9999, q_65536, q_99999, q_31, nI_add, pk_mul, nE, nL, nT, nM31, nShl, ib_nI, nI_clamp, bI_n0, bI_n1, bI_nar, uI_r, uI_l, uL_r, uL_i, uL_p, uA_r, uA_l, bV_some, bU_some, nar_n0, nar_n1, and_self, and_true, true_and, and_false, false_and, if_true, if_false, eq_self, Bool.false_eq_true, Bool.true_eq_false, not_true_eq_false, not_false_eq_true, ↓reduceIte, nlT, nlF, ntT, ntF, neT, neF, ieT, ieF, decide_true, decide_false, Bool.not_true, Bool.not_false, Bool.and_true, Bool.true_and, Bool.and_false, Bool.false_and, Bool.or_true, Bool.true_or, Bool.or_false, Bool.false_or, h.wk, h.dnb, x_has, donB_bit, c3]
        | true =>
          have hne : w ≠ i := by
            intro e
            subst e
            exact c1 (by simpa using c3)
          have e5 := x_clash_A h hw (v := w) (w := i) (by omega) (by omega)
          have e6 : (!(w == i) && A 13 w == A 13 i && !(A 11 w &&& A 11 i == 0)) = clB A i w := by
            unfold clB
            have e7 : (w == i) = false := by simp [hne]
            rw [e7, Nat.and_comm (A 11 w), Bool.not_false, Bool.true_and]
            congr 1
            rw [Bool.eq_iff_iff]
            simp only [beq_iff_eq]
            exact eq_comm
          rw [e6] at e5
          cases c4 : clB A i w with
          | false =>
            rw [c4] at e5
            refine Or.inr ⟨(), ?_, ?_⟩
            · show (ex _ i || _) = false
              rw [hI]; simp [c4]
            · simp (disch := omega) only [s80_0, s80_1, s80_4, s80_5, s80_8, s80_11, s80_12, s80_15, s80_16, s80_19, s80_20, s80_21, s80_24, s80_27, s80_28, s80_29, s80_30, s80_32, s80_33, s80_36, s80_39, s80_40, s80_43, s80_44, s80_47, s80_50, s80_51, s80_52, s80_53, s80_56, s80_59, s80_60, s80_61, s80_64, s80_67, s80_68, q_0, q_1, q_2, q_3, q_4, q_5, q_6, q_7, q_8, q_9, q_10, q_11, q_12, q_13, q_14, q_16, q_20, q_23, q_24, q_32, q_42, q_43, q_45, q_47, q_48, q_50, q_57, q_59, q_60, q_61, q_62, q_63, q_64, q_66, q_91, q_93, q_97, q_99, q_122, q_144, q_255, q_256, q_300, q_380, q_400, q_620, q_999, q_1000, q_4095, q_4096, q_9999, q_65536, q_99999, q_31, nI_add, pk_mul, nE, nL, nT, nM31, nShl, ib_nI, nI_clamp, bI_n0, bI_n1, bI_nar, uI_r, uI_l, uL_r, uL_i, uL_p, uA_r, uA_l, bV_some, bU_some, nar_n0, nar_n1, and_self, and_true, true_and, and_false, false_and, if_true, if_false, eq_self, Bool.false_eq_true, Bool.true_eq_false, not_true_eq_false, not_false_eq_true, ↓reduceIte, nlT, nlF, ntT, ntF, neT, neF, ieT, ieF, decide_true, decide_false, Bool.not_true, Bool.not_false, Bool.and_true, Bool.true_and, Bool.and_false, Bool.false_and, Bool.or_true, Bool.true_or, Bool.or_false, Bool.false_or, h.wk, h.dnb, x_has, donB_bit, c3, e5]
          | true =>
            rw [c4] at e5
            have e8 : tkB A w = true := ex_mono hi (by simp [c3, c4])
            refine Or.inl ?_
            simp (disch := omega) only [s80_0, s80_1, s80_4, s80_5, s80_8, s80_11, s80_12, s80_15, s80_16, s80_19, s80_20, s80_21, s80_24, s80_27, s80_28, s80_29, s80_30, s80_32, s80_33, s80_36, s80_39, s80_40, s80_43, s80_44, s80_47, s80_50, s80_51, s80_52, s80_53, s80_56, s80_59, s80_60, s80_61, s80_64, s80_67, s80_68, q_0, q_1, q_2, q_3, q_4, q_5, q_6, q_7, q_8, q_9, q_10, q_11, q_12, q_13, q_14, q_16, q_20, q_23, q_24, q_32, q_42, q_43, q_45, q_47, q_48, q_50, q_57, q_59, q_60, q_61, q_62, q_63, q_64, q_66, q_91, q_93, q_97, q_99, q_122, q_144, q_255, q_256, q_300, q_380, q_400, q_620, q_999, q_1000, q_4095, q_4096, q_9999, q_65536, q_99999, q_31, nI_add, pk_mul, nE, nL, nT, nM31, nShl, ib_nI, nI_clamp, bI_n0, bI_n1, bI_nar, uI_r, uI_l, uL_r, uL_i, uL_p, uA_r, uA_l, bV_some, bU_some, nar_n0, nar_n1, and_self, and_true, true_and, and_false, false_and, if_true, if_false, eq_self, Bool.false_eq_true, Bool.true_eq_false, not_true_eq_false, not_false_eq_true, ↓reduceIte, nlT, nlF, ntT, ntF, neT, neF, ieT, ieF, decide_true, decide_false, Bool.not_true, Bool.not_false, Bool.and_true, Bool.true_and, Bool.and_false, Bool.false_and, Bool.or_true, Bool.true_or, Bool.or_false, Bool.false_or, h.wk, h.dnb, x_has, donB_bit, c3, e5, e8]
            rfl
      · intro _ hI
        have e8 : tkB A w = false := hI
        show run 80 0 31 _ _ _ = _
        rw [s80_31]
        simp (disch := omega) only [s80_0, s80_1, s80_4, s80_5, s80_8, s80_11, s80_12, s80_15, s80_16, s80_19, s80_20, s80_21, s80_24, s80_27, s80_28, s80_29, s80_30, s80_32, s80_33, s80_36, s80_39, s80_40, s80_43, s80_44, s80_47, s80_50, s80_51, s80_52, s80_53, s80_56, s80_59, s80_60, s80_61, s80_64, s80_67, s80_68, q_0, q_1, q_2, q_3, q_4, q_5, q_6, q_7, q_8, q_9, q_10, q_11, q_12, q_13, q_14, q_16, q_20, q_23, q_24, q_32, q_42, q_43, q_45, q_47, q_48, q_50, q_57, q_59, q_60, q_61, q_62, q_63, q_64, q_66, q_91, q_93, q_97, q_99, q_122, q_144, q_255, q_256, q_300, q_380, q_400, q_620, q_999, q_1000, q_4095, q_4096, q_9999, q_65536, q_99999, q_31, nI_add, pk_mul, nE, nL, nT, nM31, nShl, ib_nI, nI_clamp, bI_n0, bI_n1, bI_nar, uI_r, uI_l, uL_r, uL_i, uL_p, uA_r, uA_l, bV_some, bU_some, nar_n0, nar_n1, and_self, and_true, true_and, and_false, false_and, if_true, if_false, eq_self, Bool.false_eq_true, Bool.true_eq_false, not_true_eq_false, not_false_eq_true, ↓reduceIte, nlT, nlF, ntT, ntF, neT, neF, ieT, ieF, decide_true, decide_false, Bool.not_true, Bool.not_false, Bool.and_true, Bool.true_and, Bool.and_false, Bool.false_and, Bool.or_true, Bool.true_or, Bool.or_false, Bool.false_or, h.wk, e8]
        rfl
theorem m_isTaken {S : Sto} {A : Tn} {w : Nat} (h : RepM S A) (hw : WF A) (hv : w < 12) : call 206 0 [vR 50 0, vI (nI w)] S = some (some (vI (bI (tkB A w))), S) := by
  have hWk := hw.wk
  have hW := hw.W hv
  show run 206 0 0 [vR 50 0, vI (nI w), vU, vU] [] S = _
  simp only [s206_0, s206_1, s206_2, s206_3]
  have key := up_ (F := fun i => run 206 0 4 [vR 50 0, vI (nI w), vI (bI (ex (fun o => A 14 o == 1 && clB A o w) i)), vI (nI i)] [] S) (N := A 0 2) (R := some (some (vI (bI (tkB A w))), S)) ?_ ?_ 0 (by omega)
  · exact key
  · intro i hi
    have hd := hw.dn (w := i) (by omega)
    have hWi := hw.W (w := i) (by omega)
    have h3 : A 11 i &&& A 11 w < 2 ^ 31 := Nat.lt_of_le_of_lt Nat.and_le_left (by omega)
    show run 206 0 4 _ _ _ = run 206 0 4 _ _ _
    rw [s206_4]
    show _ = run 206 0 4 [vR 50 0, vI (nI w), vI (bI (ex (fun o => A 14 o == 1 && clB A o w) i || (A 14 i == 1 && clB A i w))), vI (nI (i + 1))] [] S
    cases c0 : ex (fun o => A 14 o == 1 && clB A o w) i with
    | true =>
      simp (disch := omega) only [s206_0, s206_1, s206_2, s206_3, s206_5, s206_6, s206_9, s206_10, s206_11, s206_14, s206_15, s206_18, s206_19, s206_22, s206_23, s206_24, s206_25, s206_28, s206_29, s206_32, s206_33, s206_34, s206_35, s206_38, s206_39, s206_40, s206_43, s206_44, s206_47, s206_48, s206_49, s206_50, s206_53, s206_54, s206_55, s206_56, s206_59, s206_60, s206_63, s206_64, s206_65, s206_68, s206_71, s206_72, q_0, q_1, q_2, q_3, q_4, q_5, q_6, q_7, q_8, q_9, q_10, q_11, q_12, q_13, q_14, q_16, q_20, q_23, q_24, q_32, q_42, q_43, q_45, q_47, q_48, q_50, q_57, q_59, q_60, q_61, q_62, q_63, q_64, q_66, q_91, q_93, q_97, q_99, q_122, q_144, q_255, q_256, q_300, q_380, q_400, q_620, q_999, q_1000, q_4095, q_4096, q_9999, q_65536, q_99999, q_31, nI_add, pk_mul, nE, nL, nT, nM31, nShl, ib_nI, nI_clamp, bI_n0, bI_n1, bI_nar, uI_r, uI_l, uL_r, uL_i, uL_p, uA_r, uA_l, bV_some, bU_some, nar_n0, nar_n1, and_self, and_true, true_and, and_false, false_and, if_true, if_false, eq_self, Bool.false_eq_true, Bool.true_eq_false, not_true_eq_false, not_false_eq_true, ↓reduceIte, nlT, nlF, ntT, ntF, neT, neF, ieT, ieF, decide_true, decide_false, Bool.not_true, Bool.not_false, Bool.and_true, Bool.true_and, Bool.and_false, Bool.false_and, Bool.or_true, Bool.true_or, Bool.or_false, Bool.false_or, h.sc]
      rfl
    | false =>
      by_cases c1 : A 14 i = 1
      · by_cases c2 : A 13 i = A 13 w
        · by_cases c3 : A 11 i &&& A 11 w = 0
          · have e : (A 14 i == 1 && clB A i w) = false := by simp [clB, c3]
            rw [e]
            simp (disch := omega) only [s206_0, s206_1, s206_2, s206_3, s206_5, s206_6, s206_9, s206_10, s206_11, s206_14, s206_15, s206_18, s206_19, s206_22, s206_23, s206_24, s206_25, s206_28, s206_29, s206_32, s206_33, s206_34, s206_35, s206_38, s206_39, s206_40, s206_43, s206_44, s206_47, s206_48, s206_49, s206_50, s206_53, s206_54, s206_55, s206_56, s206_59, s206_60, s206_63, s206_64, s206_65, s206_68, s206_71, s206_72, q_0, q_1, q_2, q_3, q_4, q_5, q_6, q_7, q_8, q_9, q_10, q_11, q_12, q_13, q_14, q_16, q_20, q_23, q_24, q_32, q_42, q_43, q_45, q_47, q_48, q_50, q_57, q_59, q_60, q_61, q_62, q_63, q_64, q_66, q_91, q_93, q_97, q_99, q_122, q_144, q_255, q_256, q_300, q_380, q_400, q_620, q_999, q_1000, q_4095, q_4096, q_9999, q_65536, q_99999, q_31, nI_add, pk_mul, nE, nL, nT, nM31, nShl, ib_nI, nI_clamp, bI_n0, bI_n1, bI_nar, uI_r, uI_l, uL_r, uL_i, uL_p, uA_r, uA_l, bV_some, bU_some, nar_n0, nar_n1, and_self, and_true, true_and, and_false, false_and, if_true, if_false, eq_self, Bool.false_eq_true, Bool.true_eq_false, not_true_eq_false, not_false_eq_true, ↓reduceIte, nlT, nlF, ntT, ntF, neT, neF, ieT, ieF, decide_true, decide_false, Bool.not_true, Bool.not_false, Bool.and_true, Bool.true_and, Bool.and_false, Bool.false_and, Bool.or_true, Bool.true_or, Bool.or_false, Bool.false_or, h.sc, h.dn, h.da, h.se, c1, c2, c3, nx_and]
            rfl
          · have e : (A 14 i == 1 && clB A i w) = true := by simp [clB, c1, c2, c3]
            rw [e]
            simp (disch := omega) only [s206_0, s206_1, s206_2, s206_3, s206_5, s206_6, s206_9, s206_10, s206_11, s206_14, s206_15, s206_18, s206_19, s206_22, s206_23, s206_24, s206_25, s206_28, s206_29, s206_32, s206_33, s206_34, s206_35, s206_38, s206_39, s206_40, s206_43, s206_44, s206_47, s206_48, s206_49, s206_50, s206_53, s206_54, s206_55, s206_56, s206_59, s206_60, s206_63, s206_64, s206_65, s206_68, s206_71, s206_72, q_0, q_1, q_2, q_3, q_4, q_5, q_6, q_7, q_8, q_9, q_10, q_11, q_12, q_13, q_14, q_16, q_20, q_23, q_24, q_32, q_42, q_43, q_45, q_47, q_48, q_50, q_57, q_59, q_60, q_61, q_62, q_63, q_64, q_66, q_91, q_93, q_97, q_99, q_122, q_144, q_255, q_256, q_300, q_380, q_400, q_620, q_999, q_1000, q_4095, q_4096, q_9999, q_65536, q_99999, q_31, nI_add, pk_mul, nE, nL, nT, nM31, nShl, ib_nI, nI_clamp, bI_n0, bI_n1, bI_nar, uI_r, uI_l, uL_r, uL_i, uL_p, uA_r, uA_l, bV_some, bU_some, nar_n0, nar_n1, and_self, and_true, true_and, and_false, false_and, if_true, if_false, eq_self, Bool.false_eq_true, Bool.true_eq_false, not_true_eq_false, not_false_eq_true, ↓reduceIte, nlT, nlF, ntT, ntF, neT, neF, ieT, ieF, decide_true, decide_false, Bool.not_true, Bool.not_false, Bool.and_true, Bool.true_and, Bool.and_false, Bool.false_and, Bool.or_true, Bool.true_or, Bool.or_false, Bool.false_or, h.sc, h.dn, h.da, h.se, c1, c2, c3, nx_and]
            rfl
        · have e : (A 14 i == 1 && clB A i w) = false := by simp [clB, c2]
          rw [e]
          simp (disch := omega) only [s206_0, s206_1, s206_2, s206_3, s206_5, s206_6, s206_9, s206_10, s206_11, s206_14, s206_15, s206_18, s206_19, s206_22, s206_23, s206_24, s206_25, s206_28, s206_29, s206_32, s206_33, s206_34, s206_35, s206_38, s206_39, s206_40, s206_43, s206_44, s206_47, s206_48, s206_49, s206_50, s206_53, s206_54, s206_55, s206_56, s206_59, s206_60, s206_63, s206_64, s206_65, s206_68, s206_71, s206_72, q_0, q_1, q_2, q_3, q_4, q_5, q_6, q_7, q_8, q_9, q_10, q_11, q_12, q_13, q_14, q_16, q_20, q_23, q_24, q_32, q_42, q_43, q_45, q_47, q_48, q_50, q_57, q_59, q_60, q_61, q_62, q_63, q_64, q_66, q_91, q_93, q_97, q_99, q_122, q_144, q_255, q_256, q_300, q_380, q_400, q_620, q_999, q_1000, q_4095, q_4096, q_9999, q_65536, q_99999, q_31, nI_add, pk_mul, nE, nL, nT, nM31, nShl, ib_nI, nI_clamp, bI_n0, bI_n1, bI_nar, uI_r, uI_l, uL_r, uL_i, uL_p, uA_r, uA_l, bV_some, bU_some, nar_n0, nar_n1, and_self, and_true, true_and, and_false, false_and, if_true, if_false, eq_self, Bool.false_eq_true, Bool.true_eq_false, not_true_eq_false, not_false_eq_true, ↓reduceIte, nlT, nlF, ntT, ntF, neT, neF, ieT, ieF, decide_true, decide_false, Bool.not_true, Bool.not_false, Bool.and_true, Bool.true_and, Bool.and_false, Bool.false_and, Bool.or_true, Bool.true_or, Bool.or_false, Bool.false_or, h.sc, h.dn, h.da, h.se, c1, c2, nx_and]
          rfl
      · have e : (A 14 i == 1 && clB A i w) = false := by simp [c1]
        rw [e]
        simp (disch := omega) only [s206_0, s206_1, s206_2, s206_3, s206_5, s206_6, s206_9, s206_10, s206_11, s206_14, s206_15, s206_18, s206_19, s206_22, s206_23, s206_24, s206_25, s206_28, s206_29, s206_32, s206_33, s206_34, s206_35, s206_38, s206_39, s206_40, s206_43, s206_44, s206_47, s206_48, s206_49, s206_50, s206_53, s206_54, s206_55, s206_56, s206_59, s206_60, s206_63, s206_64, s206_65, s206_68, s206_71, s206_72, q_0, q_1, q_2, q_3, q_4, q_5, q_6, q_7, q_8, q_9, q_10, q_11, q_12, q_13, q_14, q_16, q_20, q_23, q_24, q_32, q_42, q_43, q_45, q_47, q_48, q_50, q_57, q_59, q_60, q_61, q_62, q_63, q_64, q_66, q_91, q_93, q_97, q_99, q_122, q_144, q_255, q_256, q_300, q_380, q_400, q_620, q_999, q_1000, q_4095, q_4096, q_9999, q_65536, q_99999, q_31, nI_add, pk_mul, nE, nL, nT, nM31, nShl, ib_nI, nI_clamp, bI_n0, bI_n1, bI_nar, uI_r, uI_l, uL_r, uL_i, uL_p, uA_r, uA_l, bV_some, bU_some, nar_n0, nar_n1, and_self, and_true, true_and, and_false, false_and, if_true, if_false, eq_self, Bool.false_eq_true, Bool.true_eq_false, not_true_eq_false, not_false_eq_true, ↓reduceIte, nlT, nlF, ntT, ntF, neT, neF, ieT, ieF, decide_true, decide_false, Bool.not_true, Bool.not_false, Bool.and_true, Bool.true_and, Bool.and_false, Bool.false_and, Bool.or_true, Bool.true_or, Bool.or_false, Bool.false_or, h.sc, h.dn, c1]
        rfl
  · show run 206 0 4 _ _ _ = _
    rw [s206_4]
    simp (disch := omega) only [s206_0, s206_1, s206_2, s206_3, s206_5, s206_6, s206_9, s206_10, s206_11, s206_14, s206_15, s206_18, s206_19, s206_22, s206_23, s206_24, s206_25, s206_28, s206_29, s206_32, s206_33, s206_34, s206_35, s206_38, s206_39, s206_40, s206_43, s206_44, s206_47, s206_48, s206_49, s206_50, s206_53, s206_54, s206_55, s206_56, s206_59, s206_60, s206_63, s206_64, s206_65, s206_68, s206_71, s206_72, q_0, q_1, q_2, q_3, q_4, q_5, q_6, q_7, q_8, q_9, q_10, q_11, q_12, q_13, q_14, q_16, q_20, q_23, q_24, q_32, q_42, q_43, q_45, q_47, q_48, q_50, q_57, q_59, q_60, q_61, q_62, q_63, q_64, q_66, q_91, q_93, q_97, q_99, q_122, q_144, q_255, q_256, q_300, q_380, q_400, q_620, q_999, q_1000, q_4095, q_4096, q_9999, q_65536, q_99999, q_31, nI_add, pk_mul, nE, nL, nT, nM31, nShl, ib_nI, nI_clamp, bI_n0, bI_n1, bI_nar, uI_r, uI_l, uL_r, uL_i, uL_p, uA_r, uA_l, bV_some, bU_some, nar_n0, nar_n1, and_self, and_true, true_and, and_false, false_and, if_true, if_false, eq_self, Bool.false_eq_true, Bool.true_eq_false, not_true_eq_false, not_false_eq_true, ↓reduceIte, nlT, nlF, ntT, ntF, neT, neF, ieT, ieF, decide_true, decide_false, Bool.not_true, Bool.not_false, Bool.and_true, Bool.true_and, Bool.and_false, Bool.false_and, Bool.or_true, Bool.true_or, Bool.or_false, Bool.false_or, h.sc]
    rfl
