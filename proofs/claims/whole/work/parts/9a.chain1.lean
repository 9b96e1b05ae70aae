/-! nods for nods (reference) -/
def askS (A : Tn) (s : Nat) : Nat := orN (fun w => if s.testBit w = true then 2 ^ A 10 w else 0) (A 0 2)
theorem askS_lt {A : Tn} (hw : WF A) (s : Nat) : askS A s < 2 ^ 12 := by
  have hWk := hw.wk
  apply orN_lt
  intro k hk
  show (if s.testBit k = true then 2 ^ A 10 k else 0) < 2 ^ 12
  split
  · exact Nat.pow_lt_pow_right (by decide) (hw.W (by omega)).1
  · decide
def asP (A : Tn) (s o w : Nat) : Bool := s.testBit w && A 10 w == o
theorem askS_bit (A : Tn) (s o : Nat) : (askS A s).testBit o = ex (asP A s o) (A 0 2) := by
  unfold askS
  rw [orN_bit, Bool.eq_iff_iff, ex_t]
  simp only [decide_eq_true_eq]
  constructor
  · rintro ⟨k, h1, h2⟩
    cases c : s.testBit k with
    | false => rw [c] at h2; simp at h2
    | true =>
      rw [c, if_pos rfl, Nat.testBit_two_pow] at h2
      simp only [decide_eq_true_eq] at h2
      exact ⟨k, h1, by simp [asP, c, h2]⟩
  · rintro ⟨k, h1, h2⟩
    unfold asP at h2
    simp only [Bool.and_eq_true, beq_iff_eq] at h2
    refine ⟨k, h1, ?_⟩
    rw [h2.1, if_pos rfl, h2.2, Nat.testBit_two_pow]
    simp
theorem m_asksIn {S : Sto} {A : Tn} {s o : Nat} (h : RepM S A) (hw : WF A) (hs : s < 2 ^ 31) (ho : o < 12) : call 225 0 [vR 50 0, vI (nI s), vI (nI o)] S = some (some (vI (bI ((askS A s).testBit o))), S) := by
  have hWk := hw.wk
  rw [askS_bit]
  show run 225 0 0 [vR 50 0, vI (nI s), vI (nI o), vU, vU] [] S = _
  simp only [s225_0, s225_1, s225_2, s225_3]
  refine up_ (F := fun i => run 225 0 5 [vR 50 0, vI (nI s), vI (nI o), vI (bI (ex (asP A s o) i)), vI (nI i)] [] S) (N := A 0 2) ?_ ?_ 0 (by omega)
  · intro i hi
    have hW := hw.W (w := i) (by omega)
    show run 225 0 5 _ _ _ = run 225 0 5 _ _ _
    rw [s225_5, ex_s]
    cases c0 : ex (asP A s o) i with
    | true =>
      simp (disch := omega) only [s225_0, s225_1, s225_2, s225_3, s225_7, s225_8, s225_11, s225_12, s225_13, s225_16, s225_17, s225_20, s225_21, s225_23, s225_26, s225_29, s225_30, s225_33, s225_35, s225_36, s225_37, s225_40, s225_41, s225_44, s225_45, s225_46, s225_49, s225_52, s225_53, q_0, q_1, q_2, q_3, q_4, q_5, q_6, q_7, q_8, q_9, q_10, q_11, q_12, q_13, q_14, q_16, q_20, q_23, q_24, q_32, q_42, q_43, q_45, q_47, q_48, q_50, q_57, q_59, q_60, q_61, q_62, q_63, q_64, q_66, q_91, q_93, q_97, q_99, q_122, q_144, q_255, q_256, q_300, q_380, q_400, q_620, q_999, q_1000, q_4095, q_4096, q_9999, q_65536, q_99999, q_31, nI_add, pk_mul, nE, nL, nT, nM31, nShl, ib_nI, nI_clamp, bI_n0, bI_n1, bI_nar, uI_r, uI_l, uL_r, uL_i, uL_p, uA_r, uA_l, bV_some, bU_some, nar_n0, nar_n1, and_self, and_true, true_and, and_false, false_and, if_true, if_false, eq_self, Bool.false_eq_true, Bool.true_eq_false, not_true_eq_false, not_false_eq_true, ↓reduceIte, nlT, nlF, ntT, ntF, neT, neF, ieT, ieF, decide_true, decide_false, Bool.not_true, Bool.not_false, Bool.and_true, Bool.true_and, Bool.and_false, Bool.false_and, Bool.or_true, Bool.true_or, Bool.or_false, Bool.false_or, h.sc]
      rfl
    | false =>
      cases c1 : s.testBit i with
      | false =>
        have e : asP A s o i = false := by simp [asP, c1]
        simp (disch := omega) only [s225_0, s225_1, s225_2, s225_3, s225_7, s225_8, s225_11, s225_12, s225_13, s225_16, s225_17, s225_20, s225_21, s225_23, s225_26, s225_29, s225_30, s225_33, s225_35, s225_36, s225_37, s225_40, s225_41, s225_44, s225_45, s225_46, s225_49, s225_52, s225_53, q_0, q_1, q_2, q_3, q_4, q_5, q_6, q_7, q_8, q_9, q_10, q_11, q_12, q_13, q_14, q_16, q_20, q_23, q_24, q_32, q_42, q_43, q_45, q_47, q_48, q_50, q_57, q_59, q_60, q_61, q_62, q_63, q_64, q_66, q_91, q_93, q_97, q_99, q_122, q_144, q_255, q_256, q_300, q_380, q_400, q_620, q_999, q_1000, q_4095, q_4096, q_9999, q_65536, q_99999, q_31, nI_add, pk_mul, nE, nL, nT, nM31, nShl, ib_nI, nI_clamp, bI_n0, bI_n1, bI_nar, uI_r, uI_l, uL_r, uL_i, uL_p, uA_r, uA_l, bV_some, bU_some, nar_n0, nar_n1, and_self, and_true, true_and, and_false, false_and, if_true, if_false, eq_self, Bool.false_eq_true, Bool.true_eq_false, not_true_eq_false, not_false_eq_true, ↓reduceIte, nlT, nlF, ntT, ntF, neT, neF, ieT, ieF, decide_true, decide_false, Bool.not_true, Bool.not_false, Bool.and_true, Bool.true_and, Bool.and_false, Bool.false_and, Bool.or_true, Bool.true_or, Bool.or_false, Bool.false_or, h.sc, m_has, c1, e]
        rfl
      | true =>
        by_cases c2 : A 10 i = o
        · have e : asP A s o i = true := by simp [asP, c1, c2]
          simp (disch := omega) only [s225_0, s225_1, s225_2, s225_3, s225_7, s225_8, s225_11, s225_12, s225_13, s225_16, s225_17, s225_20, s225_21, s225_23, s225_26, s225_29, s225_30, s225_33, s225_35, s225_36, s225_37, s225_40, s225_41, s225_44, s225_45, s225_46, s225_49, s225_52, s225_53, q_0, q_1, q_2, q_3, q_4, q_5, q_6, q_7, q_8, q_9, q_10, q_11, q_12, q_13, q_14, q_16, q_20, q_23, q_24, q_32, q_42, q_43, q_45, q_47, q_48, q_50, q_57, q_59, q_60, q_61, q_62, q_63, q_64, q_66, q_91, q_93, q_97, q_99, q_122, q_144, q_255, q_256, q_300, q_380, q_400, q_620, q_999, q_1000, q_4095, q_4096, q_9999, q_65536, q_99999, q_31, nI_add, pk_mul, nE, nL, nT, nM31, nShl, ib_nI, nI_clamp, bI_n0, bI_n1, bI_nar, uI_r, uI_l, uL_r, uL_i, uL_p, uA_r, uA_l, bV_some, bU_some, nar_n0, nar_n1, and_self, and_true, true_and, and_false, false_and, if_true, if_false, eq_self, Bool.false_eq_true, Bool.true_eq_false, not_true_eq_false, not_false_eq_true, ↓reduceIte, nlT, nlF, ntT, ntF, neT, neF, ieT, ieF, decide_true, decide_false, Bool.not_true, Bool.not_false, Bool.and_true, Bool.true_and, Bool.and_false, Bool.false_and, Bool.or_true, Bool.true_or, Bool.or_false, Bool.false_or, h.sc, m_has, c1, h.ak, c2, e]
          rfl
        · have e : asP A s o i = false := by simp [asP, c2]
          simp (disch := omega) only [s225_0, s225_1, s225_2, s225_3, s225_7, s225_8, s225_11, s225_12, s225_13, s225_16, s225_17, s225_20, s225_21, s225_23, s225_26, s225_29, s225_30, s225_33, s225_35, s225_36, s225_37, s225_40, s225_41, s225_44, s225_45, s225_46, s225_49, s225_52, s225_53, q_0, q_1, q_2, q_3, q_4, q_5, q_6, q_7, q_8, q_9, q_10, q_11, q_12, q_13, q_14, q_16, q_20, q_23, q_24, q_32, q_42, q_43, q_45, q_47, q_48, q_50, q_57, q_59, q_60, q_61, q_62, q_63, q_64, q_66, q_91, q_93, q_97, q_99, q_122, q_144, q_255, q_256, q_300, q_380, q_400, q_620, q_999, q_1000, q_4095, q_4096, q_9999, q_65536, q_99999, q_31, nI_add, pk_mul, nE, nL, nT, nM31, nShl, ib_nI, nI_clamp, bI_n0, bI_n1, bI_nar, uI_r, uI_l, uL_r, uL_i, uL_p, uA_r, uA_l, bV_some, bU_some, nar_n0, nar_n1, and_self, and_true, true_and, and_false, false_and, if_true, if_false, eq_self, Bool.false_eq_true, Bool.true_eq_false, not_true_eq_false, not_false_eq_true, ↓reduceIte, nlT, nlF, ntT, ntF, neT, neF, ieT, ieF, decide_true, decide_false, Bool.not_true, Bool.not_false, Bool.and_true, Bool.true_and, Bool.and_false, Bool.false_and, Bool.or_true, Bool.true_or, Bool.or_false, Bool.false_or, h.sc, m_has, c1, h.ak, c2, e]
          rfl
  · show run 225 0 5 _ _ _ = _
    rw [s225_5]
    simp (disch := omega) only [s225_0, s225_1, s225_2, s225_3, s225_7, s225_8, s225_11, s225_12, s225_13, s225_16, s225_17, s225_20, s225_21, s225_23, s225_26, s225_29, s225_30, s225_33, s225_35, s225_36, s225_37, s225_40, s225_41, s225_44, s225_45, s225_46, s225_49, s225_52, s225_53, q_0, q_1, q_2, q_3, q_4, q_5, q_6, q_7, q_8, q_9, q_10, q_11, q_12, q_13, q_14, q_16, q_20, q_23, q_24, q_32, q_42, q_43, q_45, q_47, q_48, q_50, q_57, q_59, q_60, q_61, q_62, q_63, q_64, q_66, q_91, q_93, q_97, q_99, q_122, q_144, q_255, q_256, q_300, q_380, q_400, q_620, q_999, q_1000, q_4095, q_4096, q_9999, q_65536, q_99999, q_31, nI_add, pk_mul, nE, nL, nT, nM31, nShl, ib_nI, nI_clamp, bI_n0, bI_n1, bI_nar, uI_r, uI_l, uL_r, uL_i, uL_p, uA_r, uA_l, bV_some, bU_some, nar_n0, nar_n1, and_self, and_true, true_and, and_false, false_and, if_true, if_false, eq_self, Bool.false_eq_true, Bool.true_eq_false, not_true_eq_false, not_false_eq_true, ↓reduceIte, nlT, nlF, ntT, ntF, neT, neF, ieT, ieF, decide_true, decide_false, Bool.not_true, Bool.not_false, Bool.and_true, Bool.true_and, Bool.and_false, Bool.false_and, Bool.or_true, Bool.true_or, Bool.or_false, Bool.false_or, h.sc]
def ndI (A : Tn) (L : Lw) (w t Q o : Nat) : Bool := !(A 5 (12 * o + A 10 w) == 1) && (Q.testBit o || (ndO A L w t o).isSome)
def hiT (A : Tn) (L : Lw) (w Q t : Nat) : Bool := if muN A L w t = 2 then ndI A L w t Q (A 7 t) && ndI A L w t Q (A 8 t) && !(A 5 (12 * A 7 t + A 8 t) == 1) else ndI A L w t Q (A 7 t) || ndI A L w t Q (A 8 t)
def hiP (A : Tn) (L : Lw) (w Q t : Nat) : Bool := (A 11 w).testBit t && !hiT A L w Q t
theorem nV_ge (x : Option Nat) (hx : ∀ p, x = some p → p ≤ 9999) : (nI 0 ≤ nV x) = (x.isSome = true) ∧ (nV x < nI 0) = (x.isSome = false) := by
  cases x with
  | none =>
    have e1 : (nI 0 ≤ -nI 2) = False := by decide
    have e2 : (-nI 2 < nI 0) = True := by decide
    show (nI 0 ≤ -nI 2) = _ ∧ (-nI 2 < nI 0) = _
    rw [e1, e2]
    simp
  | some p =>
    have := hx p rfl
    show (nI 0 ≤ nI p) = _ ∧ (nI p < nI 0) = _
    rw [nL (by decide) (by omega), nT (by omega) (by decide)]
    simp
theorem m_nodsIn {S : Sto} {A : Tn} {r : Nat} {L : Lw} {w t o s : Nat} (h : RepM S A) (hw : WF A) (hr : r < 6) (hL : RepLM S r L) (hl : WFL L) (hv : w < 12) (ht : t < 24) (ho : o < 12) (hs : s < 2 ^ 31) : ∃ S', call 224 0 [vR 50 0, vI (nI r), vI (nI w), vI (nI t), vI (nI o), vI (nI s)] S = some (some (vI (bI (ndI A L w t (askS A s) o))), S') ∧ Fr (pL [76, 77]) S S' := by
  have hW := hw.W hv
  have e1 := m_areAtOdds h hw (a := o) (b := A 10 w) ho hW.1
  have e2 := m_asksIn h hw hs ho
  obtain ⟨S1, a1, a2⟩ := m_nodOf h hw hr hL hl hv ht ho
  have hn := nV_ge (ndO A L w t o) (fun p hp => ndO_le hp)
  show ∃ S', run 224 0 0 [vR 50 0, vI (nI r), vI (nI w), vI (nI t), vI (nI o), vI (nI s)] [] S = _ ∧ _
  unfold ndI
  by_cases c0 : o = A 10 w
  · have q : A 5 (12 * o + A 10 w) = 0 := by rw [← c0]; exact hw.qd ho
    have e3 : ndO A L w t o = some 0 := by
      unfold ndO
      rw [if_pos c0]
    have e4 : (!(A 5 (12 * o + A 10 w) == 1) && ((askS A s).testBit o || (ndO A L w t o).isSome)) = true := by
      rw [q, e3]; simp
    rw [e4]
    simp (disch := omega) only [s224_0, s224_2, s224_3, s224_6, s224_7, s224_8, s224_11, s224_12, s224_13, s224_14, s224_16, s224_17, s224_20, s224_21, s224_22, s224_25, s224_28, s224_29, s224_31, s224_33, s224_36, s224_39, s224_40, s224_41, s224_42, s224_43, s224_45, s224_48, s224_51, s224_52, s224_55, s224_56, q_0, q_1, q_2, q_3, q_4, q_5, q_6, q_7, q_8, q_9, q_10, q_11, q_12, q_13, q_14, q_16, q_20, q_23, q_24, q_32, q_42, q_43, q_45, q_47, q_48, q_50, q_57, q_59, q_60, q_61, q_62, q_63, q_64, q_66, q_91, q_93, q_97, q_99, q_122, q_144, q_255, q_256, q_300, q_380, q_400, q_620, q_999, q_1000, q_4095, q_4096, q_9999, q_65536, q_99999, q_31, nI_add, pk_mul, nE, nL, nT, nM31, nShl, ib_nI, nI_clamp, bI_n0, bI_n1, bI_nar, uI_r, uI_l, uL_r, uL_i, uL_p, uA_r, uA_l, bV_some, bU_some, nar_n0, nar_n1, and_self, and_true, true_and, and_false, false_and, if_true, if_false, eq_self, Bool.false_eq_true, Bool.true_eq_false, not_true_eq_false, not_false_eq_true, ↓reduceIte, nlT, nlF, ntT, ntF, neT, neF, ieT, ieF, decide_true, decide_false, Bool.not_true, Bool.not_false, Bool.and_true, Bool.true_and, Bool.and_false, Bool.false_and, Bool.or_true, Bool.true_or, Bool.or_false, Bool.false_or, h.ak, c0]
    exact ⟨_, rfl, Fr.rfl'⟩
  · cases c1 : (A 5 (12 * o + A 10 w) == 1) with
    | true =>
      rw [c1] at e1
      simp (disch := omega) only [s224_0, s224_2, s224_3, s224_6, s224_7, s224_8, s224_11, s224_12, s224_13, s224_14, s224_16, s224_17, s224_20, s224_21, s224_22, s224_25, s224_28, s224_29, s224_31, s224_33, s224_36, s224_39, s224_40, s224_41, s224_42, s224_43, s224_45, s224_48, s224_51, s224_52, s224_55, s224_56, q_0, q_1, q_2, q_3, q_4, q_5, q_6, q_7, q_8, q_9, q_10, q_11, q_12, q_13, q_14, q_16, q_20, q_23, q_24, q_32, q_42, q_43, q_45, q_47, q_48, q_50, q_57, q_59, q_60, q_61, q_62, q_63, q_64, q_66, q_91, q_93, q_97, q_99, q_122, q_144, q_255, q_256, q_300, q_380, q_400, q_620, q_999, q_1000, q_4095, q_4096, q_9999, q_65536, q_99999, q_31, nI_add, pk_mul, nE, nL, nT, nM31, nShl, ib_nI, nI_clamp, bI_n0, bI_n1, bI_nar, uI_r, uI_l, uL_r, uL_i, uL_p, uA_r, uA_l, bV_some, bU_some, nar_n0, nar_n1, and_self, and_true, true_and, and_false, false_and, if_true, if_false, eq_self, Bool.false_eq_true, Bool.true_eq_false, not_true_eq_false, not_false_eq_true, ↓reduceIte, nlT, nlF, ntT, ntF, neT, neF, ieT, ieF, decide_true, decide_false, Bool.not_true, Bool.not_false, Bool.and_true, Bool.true_and, Bool.and_false, Bool.false_and, Bool.or_true, Bool.true_or, Bool.or_false, Bool.false_or, h.ak, c0, e1]
      exact ⟨_, rfl, Fr.rfl'⟩
    | false =>
      rw [c1] at e1
      cases c2 : (askS A s).testBit o with
      | true =>
        rw [c2] at e2
        simp (disch := omega) only [s224_0, s224_2, s224_3, s224_6, s224_7, s224_8, s224_11, s224_12, s224_13, s224_14, s224_16, s224_17, s224_20, s224_21, s224_22, s224_25, s224_28, s224_29, s224_31, s224_33, s224_36, s224_39, s224_40, s224_41, s224_42, s224_43, s224_45, s224_48, s224_51, s224_52, s224_55, s224_56, q_0, q_1, q_2, q_3, q_4, q_5, q_6, q_7, q_8, q_9, q_10, q_11, q_12, q_13, q_14, q_16, q_20, q_23, q_24, q_32, q_42, q_43, q_45, q_47, q_48, q_50, q_57, q_59, q_60, q_61, q_62, q_63, q_64, q_66, q_91, q_93, q_97, q_99, q_122, q_144, q_255, q_256, q_300, q_380, q_400, q_620, q_999, q_1000, q_4095, q_4096, q_9999, q_65536, q_99999, q_31, nI_add, pk_mul, nE, nL, nT, nM31, nShl, ib_nI, nI_clamp, bI_n0, bI_n1, bI_nar, uI_r, uI_l, uL_r, uL_i, uL_p, uA_r, uA_l, bV_some, bU_some, nar_n0, nar_n1, and_self, and_true, true_and, and_false, false_and, if_true, if_false, eq_self, Bool.false_eq_true, Bool.true_eq_false, not_true_eq_false, not_false_eq_true, ↓reduceIte, nlT, nlF, ntT, ntF, neT, neF, ieT, ieF, decide_true, decide_false, Bool.not_true, Bool.not_false, Bool.and_true, Bool.true_and, Bool.and_false, Bool.false_and, Bool.or_true, Bool.true_or, Bool.or_false, Bool.false_or, h.ak, c0, e1, e2]
        exact ⟨_, rfl, Fr.rfl'⟩
      | false =>
        rw [c2] at e2
        cases c3 : (ndO A L w t o).isSome with
        | true =>
          rw [c3] at hn
          simp (disch := omega) only [s224_0, s224_2, s224_3, s224_6, s224_7, s224_8, s224_11, s224_12, s224_13, s224_14, s224_16, s224_17, s224_20, s224_21, s224_22, s224_25, s224_28, s224_29, s224_31, s224_33, s224_36, s224_39, s224_40, s224_41, s224_42, s224_43, s224_45, s224_48, s224_51, s224_52, s224_55, s224_56, q_0, q_1, q_2, q_3, q_4, q_5, q_6, q_7, q_8, q_9, q_10, q_11, q_12, q_13, q_14, q_16, q_20, q_23, q_24, q_32, q_42, q_43, q_45, q_47, q_48, q_50, q_57, q_59, q_60, q_61, q_62, q_63, q_64, q_66, q_91, q_93, q_97, q_99, q_122, q_144, q_255, q_256, q_300, q_380, q_400, q_620, q_999, q_1000, q_4095, q_4096, q_9999, q_65536, q_99999, q_31, nI_add, pk_mul, nE, nL, nT, nM31, nShl, ib_nI, nI_clamp, bI_n0, bI_n1, bI_nar, uI_r, uI_l, uL_r, uL_i, uL_p, uA_r, uA_l, bV_some, bU_some, nar_n0, nar_n1, and_self, and_true, true_and, and_false, false_and, if_true, if_false, eq_self, Bool.false_eq_true, Bool.true_eq_false, not_true_eq_false, not_false_eq_true, ↓reduceIte, nlT, nlF, ntT, ntF, neT, neF, ieT, ieF, decide_true, decide_false, Bool.not_true, Bool.not_false, Bool.and_true, Bool.true_and, Bool.and_false, Bool.false_and, Bool.or_true, Bool.true_or, Bool.or_false, Bool.false_or, h.ak, c0, e1, e2, a1, hn.1, hn.2]
          exact ⟨_, rfl, a2⟩
        | false =>
          rw [c3] at hn
          simp (disch := omega) only [s224_0, s224_2, s224_3, s224_6, s224_7, s224_8, s224_11, s224_12, s224_13, s224_14, s224_16, s224_17, s224_20, s224_21, s224_22, s224_25, s224_28, s224_29, s224_31, s224_33, s224_36, s224_39, s224_40, s224_41, s224_42, s224_43, s224_45, s224_48, s224_51, s224_52, s224_55, s224_56, q_0, q_1, q_2, q_3, q_4, q_5, q_6, q_7, q_8, q_9, q_10, q_11, q_12, q_13, q_14, q_16, q_20, q_23, q_24, q_32, q_42, q_43, q_45, q_47, q_48, q_50, q_57, q_59, q_60, q_61, q_62, q_63, q_64, q_66, q_91, q_93, q_97, q_99, q_122, q_144, q_255, q_256, q_300, q_380, q_400, q_620, q_999, q_1000, q_4095, q_4096, q_9999, q_65536, q_99999, q_31, nI_add, pk_mul, nE, nL, nT, nM31, nShl, ib_nI, nI_clamp, bI_n0, bI_n1, bI_nar, uI_r, uI_l, uL_r, uL_i, uL_p, uA_r, uA_l, bV_some, bU_some, nar_n0, nar_n1, and_self, and_true, true_and, and_false, false_and, if_true, if_false, eq_self, Bool.false_eq_true, Bool.true_eq_false, not_true_eq_false, not_false_eq_true, ↓reduceIte, nlT, nlF, ntT, ntF, neT, neF, ieT, ieF, decide_true, decide_false, Bool.not_true, Bool.not_false, Bool.and_true, Bool.true_and, Bool.and_false, Bool.false_and, Bool.or_true, Bool.true_or, Bool.or_false, Bool.false_or, h.ak, c0, e1, e2, a1, hn.1, hn.2]
          exact ⟨_, rfl, a2⟩
theorem m_isHadIn {S : Sto} {A : Tn} {r : Nat} {L : Lw} {w s : Nat} (h : RepM S A) (hw : WF A) (hr : r < 6) (hL : RepLM S r L) (hl : WFL L) (hv : w < 12) (hs : s < 2 ^ 31) : ∃ S', call 223 0 [vR 50 0, vI (nI r), vI (nI w), vI (nI s)] S = some (some (vI (bI (!ex (hiP A L w (askS A s)) (A 0 1)))), S') ∧ Fr (pL [76, 77]) S S' := by
  have hT := hw.th
  have hW := hw.W hv
  show ∃ S', run 223 0 0 [vR 50 0, vI (nI r), vI (nI w), vI (nI s), vU, vU, vU, vU] [] S = _ ∧ _
  simp only [s223_0, s223_1, s223_3, s223_4]
  refine upS (σ := (Sto × Bool) × av × av) (I := fun t p => Fr (pL [76, 77]) S p.1.1 ∧ p.1.2 = !ex (hiP A L w (askS A s)) t) (F := fun t p => run 223 0 6 [vR 50 0, vI (nI r), vI (nI w), vI (nI s), vI (bI p.1.2), vI (nI t), p.2.1, p.2.2] [] p.1.1) (Q := fun z => ∃ S', z = some (some (vI (bI (!ex (hiP A L w (askS A s)) (A 0 1)))), S') ∧ Fr (pL [76, 77]) S S') (N := A 0 1) ?_ ?_ 0 ((S, true), vU, vU) (by omega) ⟨Fr.rfl', rfl⟩
  · intro t p ht hI
    obtain ⟨⟨S1, b⟩, x, y⟩ := p
    obtain ⟨i1, i2⟩ := hI
    simp only at i1 i2
    have h1 := h.pl i1 (by decide)
    have hL1 := hL.pl i1 (by decide)
    have ho := hw.o (t := t) (by omega)
    show (∃ S', run 223 0 6 [vR 50 0, vI (nI r), vI (nI w), vI (nI s), vI (bI b), vI (nI t), x, y] [] S1 = _ ∧ _) ∨ ∃ s', _ ∧ run 223 0 6 [vR 50 0, vI (nI r), vI (nI w), vI (nI s), vI (bI b), vI (nI t), x, y] [] S1 = _
    rw [s223_6]
    cases b with
    | false =>
      have e : ex (hiP A L w (askS A s)) (A 0 1) = true := by
        have : ex (hiP A L w (askS A s)) t = true := by
          cases c : ex (hiP A L w (askS A s)) t with
          | true => rfl
          | false => rw [c] at i2; cases i2
        exact ex_le (by omega) this
      refine Or.inl ⟨S1, ?_, i1⟩
      simp (disch := omega) only [s223_0, s223_1, s223_3, s223_4, s223_8, s223_9, s223_12, s223_13, s223_14, s223_17, s223_19, s223_22, s223_23, s223_26, s223_27, s223_28, s223_30, s223_33, s223_36, s223_37, s223_38, s223_39, s223_41, s223_42, s223_45, s223_47, s223_48, s223_49, s223_52, s223_54, s223_55, s223_56, s223_57, s223_59, s223_60, s223_63, s223_65, s223_66, s223_67, s223_70, s223_72, s223_73, s223_74, s223_75, s223_77, s223_80, s223_81, s223_84, s223_86, s223_89, s223_91, s223_94, s223_95, s223_96, s223_99, s223_101, s223_102, s223_103, s223_106, s223_108, s223_109, s223_112, s223_115, s223_116, s223_119, s223_120, s223_123, s223_125, s223_128, s223_130, s223_133, s223_134, s223_137, s223_138, s223_140, s223_143, s223_146, s223_148, q_0, q_1, q_2, q_3, q_4, q_5, q_6, q_7, q_8, q_9, q_10, q_11, q_12, q_13, q_14, q_16, q_20, q_23, q_24, q_32, q_42, q_43, q_45, q_47, q_48, q_50, q_57, q_59, q_60, q_61, q_62, q_63, q_64, q_66, q_91, q_93, q_97, q_99, q_122, q_144, q_255, q_256, q_300, q_380, q_400, q_620, q_999, q_1000, q_4095, q_4096, q_9999, q_65536, q_99999, q_31, nI_add, pk_mul, nE, nL, nT, nM31, nShl, ib_nI, nI_clamp, bI_n0, bI_n1, bI_nar, uI_r, uI_l, uL_r, uL_i, uL_p, uA_r, uA_l, bV_some, bU_some, nar_n0, nar_n1, and_self, and_true, true_and, and_false, false_and, if_true, if_false, eq_self, Bool.false_eq_true, Bool.true_eq_false, not_true_eq_false, not_false_eq_true, ↓reduceIte, nlT, nlF, ntT, ntF, neT, neF, ieT, ieF, decide_true, decide_false, Bool.not_true, Bool.not_false, Bool.and_true, Bool.true_and, Bool.and_false, Bool.false_and, Bool.or_true, Bool.true_or, Bool.or_false, Bool.false_or, h1.sc, e]
    | true =>
      have e0 : ex (hiP A L w (askS A s)) t = false := by
        cases c : ex (hiP A L w (askS A s)) t with
        | false => rfl
        | true => rw [c] at i2; cases i2
      refine Or.inr ?_
      cases c1 : (A 11 w).testBit t with
      | false =>
        refine ⟨((S1, true), x, y), ⟨i1, ?_⟩, ?_⟩
        · show true = !ex _ (t + 1)
          rw [ex_s, e0]
          simp [hiP, c1]
        · simp (disch := omega) only [s223_0, s223_1, s223_3, s223_4, s223_8, s223_9, s223_12, s223_13, s223_14, s223_17, s223_19, s223_22, s223_23, s223_26, s223_27, s223_28, s223_30, s223_33, s223_36, s223_37, s223_38, s223_39, s223_41, s223_42, s223_45, s223_47, s223_48, s223_49, s223_52, s223_54, s223_55, s223_56, s223_57, s223_59, s223_60, s223_63, s223_65, s223_66, s223_67, s223_70, s223_72, s223_73, s223_74, s223_75, s223_77, s223_80, s223_81, s223_84, s223_86, s223_89, s223_91, s223_94, s223_95, s223_96, s223_99, s223_101, s223_102, s223_103, s223_106, s223_108, s223_109, s223_112, s223_115, s223_116, s223_119, s223_120, s223_123, s223_125, s223_128, s223_130, s223_133, s223_134, s223_137, s223_138, s223_140, s223_143, s223_146, s223_148, q_0, q_1, q_2, q_3, q_4, q_5, q_6, q_7, q_8, q_9, q_10, q_11, q_12, q_13, q_14, q_16, q_20, q_23, q_24, q_32, q_42, q_43, q_45, q_47, q_48, q_50, q_57, q_59, q_60, q_61, q_62, q_63, q_64, q_66, q_91, q_93, q_97, q_99, q_122, q_144, q_255, q_256, q_300, q_380, q_400, q_620, q_999, q_1000, q_4095, q_4096, q_9999, q_65536, q_99999, q_31, nI_add, pk_mul, nE, nL, nT, nM31, nShl, ib_nI, nI_clamp, bI_n0, bI_n1, bI_nar, uI_r, uI_l, uL_r, uL_i, uL_p, uA_r, uA_l, bV_some, bU_some, nar_n0, nar_n1, and_self, and_true, true_and, and_false, false_and, if_true, if_false, eq_self, Bool.false_eq_true, Bool.true_eq_false, not_true_eq_false, not_false_eq_true, ↓reduceIte, nlT, nlF, ntT, ntF, neT, neF, ieT, ieF, decide_true, decide_false, Bool.not_true, Bool.not_false, Bool.and_true, Bool.true_and, Bool.and_false, Bool.false_and, Bool.or_true, Bool.true_or, Bool.or_false, Bool.false_or, h1.sc, h1.se, m_has, c1]
      | true =>
        obtain ⟨S2, a1, a2⟩ := m_nodsIn (t := t) (o := A 7 t) h1 hw hr hL1 hl hv (by omega) ho.1 hs
        have h2 := h1.pl a2 (by decide)
        have hL2 := hL1.pl a2 (by decide)
        obtain ⟨S3, b1, b2⟩ := m_nodsIn (t := t) (o := A 8 t) h2 hw hr hL2 hl hv (by omega) ho.2 hs
        have h3 := h2.pl b2 (by decide)
        have hL3 := hL2.pl b2 (by decide)
        obtain ⟨S4, d1, d2⟩ := m_must (w := w) (t := t) h3 hw hr hL3 hl hv (by omega)
        have h4 := h3.pl d2 (by decide)
        have e5 := m_areAtOdds h4 hw (a := A 7 t) (b := A 8 t) ho.1 ho.2
        have hmu := hd_le (v := sumL L (W1 A w t) 2 2) (lo := 1) (hi := 2) (by decide)
        have hmu' : muN A L w t ≤ 2 := hmu.2
        refine ⟨((S4, hiT A L w (askS A s) t), vI (bI (ndI A L w t (askS A s) (A 7 t))), vI (bI (ndI A L w t (askS A s) (A 8 t)))), ⟨((i1.tr a2).tr b2).tr d2, ?_⟩, ?_⟩
        · show hiT A L w (askS A s) t = !ex _ (t + 1)
          rw [ex_s, e0, Bool.false_or]
          unfold hiP
          rw [c1, Bool.true_and, Bool.not_not]
        · unfold hiT
          by_cases c2 : muN A L w t = 2
          · rw [if_pos c2]
            cases c3 : ndI A L w t (askS A s) (A 7 t) <;> cases c4 : ndI A L w t (askS A s) (A 8 t) <;> cases c5 : (A 5 (12 * A 7 t + A 8 t) == 1) <;> rw [c3] at a1 <;> rw [c4] at b1 <;> rw [c5] at e5 <;> (simp (disch := omega) only [s223_0, s223_1, s223_3, s223_4, s223_8, s223_9, s223_12, s223_13, s223_14, s223_17, s223_19, s223_22, s223_23, s223_26, s223_27, s223_28, s223_30, s223_33, s223_36, s223_37, s223_38, s223_39, s223_41, s223_42, s223_45, s223_47, s223_48, s223_49, s223_52, s223_54, s223_55, s223_56, s223_57, s223_59, s223_60, s223_63, s223_65, s223_66, s223_67, s223_70, s223_72, s223_73, s223_74, s223_75, s223_77, s223_80, s223_81, s223_84, s223_86, s223_89, s223_91, s223_94, s223_95, s223_96, s223_99, s223_101, s223_102, s223_103, s223_106, s223_108, s223_109, s223_112, s223_115, s223_116, s223_119, s223_120, s223_123, s223_125, s223_128, s223_130, s223_133, s223_134, s223_137, s223_138, s223_140, s223_143, s223_146, s223_148, q_0, q_1, q_2, q_3, q_4, q_5, q_6, q_7, q_8, q_9, q_10, q_11, q_12, q_13, q_14, q_16, q_20, q_23, q_24, q_32, q_42, q_43, q_45, q_47, q_48, q_50, q_57, q_59, q_60, q_61, q_62, q_63, q_64, q_66, q_91, q_93, q_97, q_99, q_122, q_144, q_255, q_256, q_300, q_380, q_400, q_620, q_999, q_1000, q_4095, q_4096, q_9999, q_65536, q_99999, q_31, nI_add, pk_mul, nE, nL, nT, nM31, nShl, ib_nI, nI_clamp, bI_n0, bI_n1, bI_nar, uI_r, uI_l, uL_r, uL_i, uL_p, uA_r, uA_l, bV_some, bU_some, nar_n0, nar_n1, and_self, and_true, true_and, and_false, false_and, if_true, if_false, eq_self, Bool.false_eq_true, Bool.true_eq_false, not_true_eq_false, not_false_eq_true, ↓reduceIte, nlT, nlF, ntT, ntF, neT, neF, ieT, ieF, decide_true, decide_false, Bool.not_true, Bool.not_false, Bool.and_true, Bool.true_and, Bool.and_false, Bool.false_and, Bool.or_true, Bool.true_or, Bool.or_false, Bool.false_or, h1.sc, h1.se, h1.o1, h2.o2, h4.o1, h4.o2, m_has, c1, a1, b1, d1, c2, e5]; try rfl)
          · rw [if_neg c2]
            cases c3 : ndI A L w t (askS A s) (A 7 t) <;> cases c4 : ndI A L w t (askS A s) (A 8 t) <;> rw [c3] at a1 <;> rw [c4] at b1 <;> (simp (disch := omega) only [s223_0, s223_1, s223_3, s223_4, s223_8, s223_9, s223_12, s223_13, s223_14, s223_17, s223_19, s223_22, s223_23, s223_26, s223_27, s223_28, s223_30, s223_33, s223_36, s223_37, s223_38, s223_39, s223_41, s223_42, s223_45, s223_47, s223_48, s223_49, s223_52, s223_54, s223_55, s223_56, s223_57, s223_59, s223_60, s223_63, s223_65, s223_66, s223_67, s223_70, s223_72, s223_73, s223_74, s223_75, s223_77, s223_80, s223_81, s223_84, s223_86, s223_89, s223_91, s223_94, s223_95, s223_96, s223_99, s223_101, s223_102, s223_103, s223_106, s223_108, s223_109, s223_112, s223_115, s223_116, s223_119, s223_120, s223_123, s223_125, s223_128, s223_130, s223_133, s223_134, s223_137, s223_138, s223_140, s223_143, s223_146, s223_148, q_0, q_1, q_2, q_3, q_4, q_5, q_6, q_7, q_8, q_9, q_10, q_11, q_12, q_13, q_14, q_16, q_20, q_23, q_24, q_32, q_42, q_43, q_45, q_47, q_48, q_50, q_57, q_59, q_60, q_61, q_62, q_63, q_64, q_66, q_91, q_93, q_97, q_99, q_122, q_144, q_255, q_256, q_300, q_380, q_400, q_620, q_999, q_1000, q_4095, q_4096, q_9999, q_65536, q_99999, q_31, nI_add, pk_mul, nE, nL, nT, nM31, nShl, ib_nI, nI_clamp, bI_n0, bI_n1, bI_nar, uI_r, uI_l, uL_r, uL_i, uL_p, uA_r, uA_l, bV_some, bU_some, nar_n0, nar_n1, and_self, and_true, true_and, and_false, false_and, if_true, if_false, eq_self, Bool.false_eq_true, Bool.true_eq_false, not_true_eq_false, not_false_eq_true, ↓reduceIte, nlT, nlF, ntT, ntF, neT, neF, ieT, ieF, decide_true, decide_false, Bool.not_true, Bool.not_false, Bool.and_true, Bool.true_and, Bool.and_false, Bool.false_and, Bool.or_true, Bool.true_or, Bool.or_false, Bool.false_or, h1.sc, h1.se, h1.o1, h2.o2, m_has, c1, a1, b1, d1, c2]; try rfl)
  · intro p hI
    obtain ⟨⟨S1, b⟩, x, y⟩ := p
    obtain ⟨i1, i2⟩ := hI
    simp only at i1 i2
    have h1 := h.pl i1 (by decide)
    refine ⟨S1, ?_, i1⟩
    show run 223 0 6 [vR 50 0, vI (nI r), vI (nI w), vI (nI s), vI (bI b), vI (nI (A 0 1)), x, y] [] S1 = _
    rw [s223_6, i2]
    simp (disch := omega) only [s223_0, s223_1, s223_3, s223_4, s223_8, s223_9, s223_12, s223_13, s223_14, s223_17, s223_19, s223_22, s223_23, s223_26, s223_27, s223_28, s223_30, s223_33, s223_36, s223_37, s223_38, s223_39, s223_41, s223_42, s223_45, s223_47, s223_48, s223_49, s223_52, s223_54, s223_55, s223_56, s223_57, s223_59, s223_60, s223_63, s223_65, s223_66, s223_67, s223_70, s223_72, s223_73, s223_74, s223_75, s223_77, s223_80, s223_81, s223_84, s223_86, s223_89, s223_91, s223_94, s223_95, s223_96, s223_99, s223_101, s223_102, s223_103, s223_106, s223_108, s223_109, s223_112, s223_115, s223_116, s223_119, s223_120, s223_123, s223_125, s223_128, s223_130, s223_133, s223_134, s223_137, s223_138, s223_140, s223_143, s223_146, s223_148, q_0, q_1, q_2, q_3, q_4, q_5, q_6, q_7, q_8, q_9, q_10, q_11, q_12, q_13, q_14, q_16, q_20, q_23, q_24, q_32, q_42, q_43, q_45, q_47, q_48, q_50, q_57, q_59, q_60, q_61, q_62, q_63, q_64, q_66, q_91, q_93, q_97, q_99, q_122, q_144, q_255, q_256, q_300, q_380, q_400, q_620, q_999, q_1000, q_4095, q_4096, q_9999, q_65536, q_99999, q_31, nI_add, pk_mul, nE, nL, nT, nM31, nShl, ib_nI, nI_clamp, bI_n0, bI_n1, bI_nar, uI_r, uI_l, uL_r, uL_i, uL_p, uA_r, uA_l, bV_some, bU_some, nar_n0, nar_n1, and_self, and_true, true_and, and_false, false_and, if_true, if_false, eq_self, Bool.false_eq_true, Bool.true_eq_false, not_true_eq_false, not_false_eq_true, ↓reduceIte, nlT, nlF, ntT, ntF, neT, neF, ieT, ieF, decide_true, decide_false, Bool.not_true, Bool.not_false, Bool.and_true, Bool.true_and, Bool.and_false, Bool.false_and, Bool.or_true, Bool.true_or, Bool.or_false, Bool.false_or, h1.sc]
def mcP (A : Tn) (L : Lw) (s w : Nat) : Bool := s.testBit w && !(frB A w && !ex (hiP A L w (askS A s)) (A 0 1))
def mcB (A : Tn) (L : Lw) (s : Nat) : Bool := apB A s && !ex (mcP A L s) (A 0 2)
theorem m_isChain {S : Sto} {A : Tn} {r : Nat} {L : Lw} {s : Nat} (h : RepM S A) (hw : WF A) (hr : r < 6) (hL : RepLM S r L) (hl : WFL L) (ha : ApI S A (2 ^ A 0 2)) (hs : s < 2 ^ A 0 2) : ∃ S', call 222 0 [vR 50 0, vI (nI r), vI (nI s)] S = some (some (vI (bI (mcB A L s))), S') ∧ Fr (pL [76, 77]) S S' := by
  have hWk := hw.wk
  have hM12 : 2 ^ A 0 2 ≤ 2 ^ 12 := Nat.pow_le_pow_right (by decide) hWk
  have r1 := ha s hs
  show ∃ S', run 222 0 0 [vR 50 0, vI (nI r), vI (nI s), vU, vU] [] S = _ ∧ _
  simp (disch := omega) only [s222_0, s222_1, s222_4, s222_5, s222_6, s222_7, s222_8, s222_12, s222_13, s222_16, s222_17, s222_18, s222_21, s222_22, s222_25, s222_26, s222_28, s222_31, s222_34, s222_35, s222_38, s222_40, s222_41, s222_44, s222_45, s222_48, s222_49, s222_52, s222_54, s222_55, s222_56, s222_57, s222_60, s222_61, s222_63, s222_66, s222_69, s222_70, s222_71, s222_73, s222_74, s222_77, s222_80, s222_81, s222_84, s222_85, s222_86, s222_89, s222_92, s222_93, q_0, q_1, q_2, q_3, q_4, q_5, q_6, q_7, q_8, q_9, q_10, q_11, q_12, q_13, q_14, q_16, q_20, q_23, q_24, q_32, q_42, q_43, q_45, q_47, q_48, q_50, q_57, q_59, q_60, q_61, q_62, q_63, q_64, q_66, q_91, q_93, q_97, q_99, q_122, q_144, q_255, q_256, q_300, q_380, q_400, q_620, q_999, q_1000, q_4095, q_4096, q_9999, q_65536, q_99999, q_31, nI_add, pk_mul, nE, nL, nT, nM31, nShl, ib_nI, nI_clamp, bI_n0, bI_n1, bI_nar, uI_r, uI_l, uL_r, uL_i, uL_p, uA_r, uA_l, bV_some, bU_some, nar_n0, nar_n1, and_self, and_true, true_and, and_false, false_and, if_true, if_false, eq_self, Bool.false_eq_true, Bool.true_eq_false, not_true_eq_false, not_false_eq_true, ↓reduceIte, nlT, nlF, ntT, ntF, neT, neF, ieT, ieF, decide_true, decide_false, Bool.not_true, Bool.not_false, Bool.and_true, Bool.true_and, Bool.and_false, Bool.false_and, Bool.or_true, Bool.true_or, Bool.or_false, Bool.false_or, r1]
  refine upS (σ := Sto × Bool) (I := fun w p => Fr (pL [76, 77]) S p.1 ∧ p.2 = (apB A s && !ex (mcP A L s) w)) (F := fun w p => run 222 0 10 [vR 50 0, vI (nI r), vI (nI s), vI (bI p.2), vI (nI w)] [] p.1) (Q := fun z => ∃ S', z = some (some (vI (bI (mcB A L s))), S') ∧ Fr (pL [76, 77]) S S') (N := A 0 2) ?_ ?_ 0 (S, apB A s) (by omega) ⟨Fr.rfl', by simp [ex]⟩
  · intro w p hlt hI
    obtain ⟨S1, b⟩ := p
    obtain ⟨i1, i2⟩ := hI
    simp only at i1 i2
    have h1 := h.pl i1 (by decide)
    have hL1 := hL.pl i1 (by decide)
    have hW := hw.W (w := w) (by omega)
    have hd := hw.dn (w := w) (by omega)
    have hlv := hw.lv (p := A 10 w) hW.1
    show (∃ S', run 222 0 10 [vR 50 0, vI (nI r), vI (nI s), vI (bI b), vI (nI w)] [] S1 = _ ∧ _) ∨ ∃ s', _ ∧ run 222 0 10 [vR 50 0, vI (nI r), vI (nI s), vI (bI b), vI (nI w)] [] S1 = _
    rw [s222_10]
    cases b with
    | false =>
      have e : mcB A L s = false := by
        unfold mcB
        cases c : apB A s with
        | false => rfl
        | true =>
          rw [c, Bool.true_and] at i2
          have : ex (mcP A L s) w = true := by
            cases c2 : ex (mcP A L s) w with
            | true => rfl
            | false => rw [c2] at i2; cases i2
          rw [ex_le (n := A 0 2) (by omega) this]
          rfl
      refine Or.inl ⟨S1, ?_, i1⟩
      simp (disch := omega) only [s222_0, s222_1, s222_4, s222_5, s222_6, s222_7, s222_8, s222_12, s222_13, s222_16, s222_17, s222_18, s222_21, s222_22, s222_25, s222_26, s222_28, s222_31, s222_34, s222_35, s222_38, s222_40, s222_41, s222_44, s222_45, s222_48, s222_49, s222_52, s222_54, s222_55, s222_56, s222_57, s222_60, s222_61, s222_63, s222_66, s222_69, s222_70, s222_71, s222_73, s222_74, s222_77, s222_80, s222_81, s222_84, s222_85, s222_86, s222_89, s222_92, s222_93, q_0, q_1, q_2, q_3, q_4, q_5, q_6, q_7, q_8, q_9, q_10, q_11, q_12, q_13, q_14, q_16, q_20, q_23, q_24, q_32, q_42, q_43, q_45, q_47, q_48, q_50, q_57, q_59, q_60, q_61, q_62, q_63, q_64, q_66, q_91, q_93, q_97, q_99, q_122, q_144, q_255, q_256, q_300, q_380, q_400, q_620, q_999, q_1000, q_4095, q_4096, q_9999, q_65536, q_99999, q_31, nI_add, pk_mul, nE, nL, nT, nM31, nShl, ib_nI, nI_clamp, bI_n0, bI_n1, bI_nar, uI_r, uI_l, uL_r, uL_i, uL_p, uA_r, uA_l, bV_some, bU_some, nar_n0, nar_n1, and_self, and_true, true_and, and_false, false_and, if_true, if_false, eq_self, Bool.false_eq_true, Bool.true_eq_false, not_true_eq_false, not_false_eq_true, ↓reduceIte, nlT, nlF, ntT, ntF, neT, neF, ieT, ieF, decide_true, decide_false, Bool.not_true, Bool.not_false, Bool.and_true, Bool.true_and, Bool.and_false, Bool.false_and, Bool.or_true, Bool.true_or, Bool.or_false, Bool.false_or, h1.sc, e]
    | true =>
      have e0 : ∀ z, (apB A s && !(ex (mcP A L s) w || z)) = !z := by
        intro z
        rw [Bool.not_or, ← Bool.and_assoc, ← i2, Bool.true_and]
      refine Or.inr ?_
      cases c1 : s.testBit w with
      | false =>
        refine ⟨(S1, true), ⟨i1, ?_⟩, ?_⟩
        · show true = (apB A s && !ex (mcP A L s) (w + 1))
          rw [ex_s, e0]
          simp [mcP, c1]
        · simp (disch := omega) only [s222_0, s222_1, s222_4, s222_5, s222_6, s222_7, s222_8, s222_12, s222_13, s222_16, s222_17, s222_18, s222_21, s222_22, s222_25, s222_26, s222_28, s222_31, s222_34, s222_35, s222_38, s222_40, s222_41, s222_44, s222_45, s222_48, s222_49, s222_52, s222_54, s222_55, s222_56, s222_57, s222_60, s222_61, s222_63, s222_66, s222_69, s222_70, s222_71, s222_73, s222_74, s222_77, s222_80, s222_81, s222_84, s222_85, s222_86, s222_89, s222_92, s222_93, q_0, q_1, q_2, q_3, q_4, q_5, q_6, q_7, q_8, q_9, q_10, q_11, q_12, q_13, q_14, q_16, q_20, q_23, q_24, q_32, q_42, q_43, q_45, q_47, q_48, q_50, q_57, q_59, q_60, q_61, q_62, q_63, q_64, q_66, q_91, q_93, q_97, q_99, q_122, q_144, q_255, q_256, q_300, q_380, q_400, q_620, q_999, q_1000, q_4095, q_4096, q_9999, q_65536, q_99999, q_31, nI_add, pk_mul, nE, nL, nT, nM31, nShl, ib_nI, nI_clamp, bI_n0, bI_n1, bI_nar, uI_r, uI_l, uL_r, uL_i, uL_p, uA_r, uA_l, bV_some, bU_some, nar_n0, nar_n1, and_self, and_true, true_and, and_false, false_and, if_true, if_false, eq_self, Bool.false_eq_true, Bool.true_eq_false, not_true_eq_false, not_false_eq_true, ↓reduceIte, nlT, nlF, ntT, ntF, neT, neF, ieT, ieF, decide_true, decide_false, Bool.not_true, Bool.not_false, Bool.and_true, Bool.true_and, Bool.and_false, Bool.false_and, Bool.or_true, Bool.true_or, Bool.or_false, Bool.false_or, h1.sc, m_has, c1]
          rfl
      | true =>
        obtain ⟨S2, a1, a2⟩ := m_isHadIn (w := w) (s := s) h1 hw hr hL1 hl (by omega) (by omega)
        have e5 := m_isTaken h1 hw (w := w) (by omega)
        by_cases c2 : A 14 w = 0
        · by_cases c3 : A 2 (A 10 w) = 1
          · cases c4 : tkB A w with
            | true =>
              rw [c4] at e5
              refine ⟨(S1, false), ⟨i1, ?_⟩, ?_⟩
              · show false = (apB A s && !ex (mcP A L s) (w + 1))
                rw [ex_s, e0]
                simp [mcP, c1, frB, c4]
              · simp (disch := omega) only [s222_0, s222_1, s222_4, s222_5, s222_6, s222_7, s222_8, s222_12, s222_13, s222_16, s222_17, s222_18, s222_21, s222_22, s222_25, s222_26, s222_28, s222_31, s222_34, s222_35, s222_38, s222_40, s222_41, s222_44, s222_45, s222_48, s222_49, s222_52, s222_54, s222_55, s222_56, s222_57, s222_60, s222_61, s222_63, s222_66, s222_69, s222_70, s222_71, s222_73, s222_74, s222_77, s222_80, s222_81, s222_84, s222_85, s222_86, s222_89, s222_92, s222_93, q_0, q_1, q_2, q_3, q_4, q_5, q_6, q_7, q_8, q_9, q_10, q_11, q_12, q_13, q_14, q_16, q_20, q_23, q_24, q_32, q_42, q_43, q_45, q_47, q_48, q_50, q_57, q_59, q_60, q_61, q_62, q_63, q_64, q_66, q_91, q_93, q_97, q_99, q_122, q_144, q_255, q_256, q_300, q_380, q_400, q_620, q_999, q_1000, q_4095, q_4096, q_9999, q_65536, q_99999, q_31, nI_add, pk_mul, nE, nL, nT, nM31, nShl, ib_nI, nI_clamp, bI_n0, bI_n1, bI_nar, uI_r, uI_l, uL_r, uL_i, uL_p, uA_r, uA_l, bV_some, bU_some, nar_n0, nar_n1, and_self, and_true, true_and, and_false, false_and, if_true, if_false, eq_self, Bool.false_eq_true, Bool.true_eq_false, not_true_eq_false, not_false_eq_true, ↓reduceIte, nlT, nlF, ntT, ntF, neT, neF, ieT, ieF, decide_true, decide_false, Bool.not_true, Bool.not_false, Bool.and_true, Bool.true_and, Bool.and_false, Bool.false_and, Bool.or_true, Bool.true_or, Bool.or_false, Bool.false_or, h1.sc, m_has, c1, h1.dn, c2, h1.ak, h1.lv, c3, e5]
                rfl
            | false =>
              rw [c4] at e5
              refine ⟨(S2, !ex (hiP A L w (askS A s)) (A 0 1)), ⟨i1.tr a2, ?_⟩, ?_⟩
              · show (!ex (hiP A L w (askS A s)) (A 0 1)) = (apB A s && !ex (mcP A L s) (w + 1))
                rw [ex_s, e0]
                simp [mcP, c1, frB, c2, c3, c4]
              · cases c5 : ex (hiP A L w (askS A s)) (A 0 1) with
                | true =>
                  rw [c5] at a1
                  simp (disch := omega) only [s222_0, s222_1, s222_4, s222_5, s222_6, s222_7, s222_8, s222_12, s222_13, s222_16, s222_17, s222_18, s222_21, s222_22, s222_25, s222_26, s222_28, s222_31, s222_34, s222_35, s222_38, s222_40, s222_41, s222_44, s222_45, s222_48, s222_49, s222_52, s222_54, s222_55, s222_56, s222_57, s222_60, s222_61, s222_63, s222_66, s222_69, s222_70, s222_71, s222_73, s222_74, s222_77, s222_80, s222_81, s222_84, s222_85, s222_86, s222_89, s222_92, s222_93, q_0, q_1, q_2, q_3, q_4, q_5, q_6, q_7, q_8, q_9, q_10, q_11, q_12, q_13, q_14, q_16, q_20, q_23, q_24, q_32, q_42, q_43, q_45, q_47, q_48, q_50, q_57, q_59, q_60, q_61, q_62, q_63, q_64, q_66, q_91, q_93, q_97, q_99, q_122, q_144, q_255, q_256, q_300, q_380, q_400, q_620, q_999, q_1000, q_4095, q_4096, q_9999, q_65536, q_99999, q_31, nI_add, pk_mul, nE, nL, nT, nM31, nShl, ib_nI, nI_clamp, bI_n0, bI_n1, bI_nar, uI_r, uI_l, uL_r, uL_i, uL_p, uA_r, uA_l, bV_some, bU_some, nar_n0, nar_n1, and_self, and_true, true_and, and_false, false_and, if_true, if_false, eq_self, Bool.false_eq_true, Bool.true_eq_false, not_true_eq_false, not_false_eq_true, ↓reduceIte, nlT, nlF, ntT, ntF, neT, neF, ieT, ieF, decide_true, decide_false, Bool.not_true, Bool.not_false, Bool.and_true, Bool.true_and, Bool.and_false, Bool.false_and, Bool.or_true, Bool.true_or, Bool.or_false, Bool.false_or, h1.sc, m_has, c1, h1.dn, c2, h1.ak, h1.lv, c3, e5, a1]
                  rfl
                | false =>
                  rw [c5] at a1
                  simp (disch := omega) only [s222_0, s222_1, s222_4, s222_5, s222_6, s222_7, s222_8, s222_12, s222_13, s222_16, s222_17, s222_18, s222_21, s222_22, s222_25, s222_26, s222_28, s222_31, s222_34, s222_35, s222_38, s222_40, s222_41, s222_44, s222_45, s222_48, s222_49, s222_52, s222_54, s222_55, s222_56, s222_57, s222_60, s222_61, s222_63, s222_66, s222_69, s222_70, s222_71, s222_73, s222_74, s222_77, s222_80, s222_81, s222_84, s222_85, s222_86, s222_89, s222_92, s222_93, q_0, q_1, q_2, q_3, q_4, q_5, q_6, q_7, q_8, q_9, q_10, q_11, q_12, q_13, q_14, q_16, q_20, q_23, q_24, q_32, q_42, q_43, q_45, q_47, q_48, q_50, q_57, q_59, q_60, q_61, q_62, q_63, q_64, q_66, q_91, q_93, q_97, q_99, q_122, q_144, q_255, q_256, q_300, q_380, q_400, q_620, q_999, q_1000, q_4095, q_4096, q_9999, q_65536, q_99999, q_31, nI_add, pk_mul, nE, nL, nT, nM31, nShl, ib_nI, nI_clamp, bI_n0, bI_n1, bI_nar, uI_r, uI_l, uL_r, uL_i, uL_p, uA_r, uA_l, bV_some, bU_some, nar_n0, nar_n1, and_self, and_true, true_and, and_false, false_and, if_true, if_false, eq_self, Bool.false_eq_true, Bool.true_eq_false, not_true_eq_false, not_false_eq_true, ↓reduceIte, nlT, nlF, ntT, ntF, neT, neF, ieT, ieF, decide_true, decide_false, Bool.not_true, Bool.not_false, Bool.and_true, Bool.true_and, Bool.and_false, Bool.false_and, Bool.or_true, Bool.true_or, Bool.or_false, Bool.false_or, h1.sc, m_has, c1, h1.dn, c2, h1.ak, h1.lv, c3, e5, a1]
                  rfl
          · refine ⟨(S1, false), ⟨i1, ?_⟩, ?_⟩
            · show false = (apB A s && !ex (mcP A L s) (w + 1))
              rw [ex_s, e0]
              simp [mcP, c1, frB, c3]
            · simp (disch := omega) only [s222_0, s222_1, s222_4, s222_5, s222_6, s222_7, s222_8, s222_12, s222_13, s222_16, s222_17, s222_18, s222_21, s222_22, s222_25, s222_26, s222_28, s222_31, s222_34, s222_35, s222_38, s222_40, s222_41, s222_44, s222_45, s222_48, s222_49, s222_52, s222_54, s222_55, s222_56, s222_57, s222_60, s222_61, s222_63, s222_66, s222_69, s222_70, s222_71, s222_73, s222_74, s222_77, s222_80, s222_81, s222_84, s222_85, s222_86, s222_89, s222_92, s222_93, q_0, q_1, q_2, q_3, q_4, q_5, q_6, q_7, q_8, q_9, q_10, q_11, q_12, q_13, q_14, q_16, q_20, q_23, q_24, q_32, q_42, q_43, q_45, q_47, q_48, q_50, q_57, q_59, q_60, q_61, q_62, q_63, q_64, q_66, q_91, q_93, q_97, q_99, q_122, q_144, q_255, q_256, q_300, q_380, q_400, q_620, q_999, q_1000, q_4095, q_4096, q_9999, q_65536, q_99999, q_31, nI_add, pk_mul, nE, nL, nT, nM31, nShl, ib_nI, nI_clamp, bI_n0, bI_n1, bI_nar, uI_r, uI_l, uL_r, uL_i, uL_p, uA_r, uA_l, bV_some, bU_some, nar_n0, nar_n1, and_self, and_true, true_and, and_false, false_and, if_true, if_false, eq_self, Bool.false_eq_true, Bool.true_eq_false, not_true_eq_false, not_false_eq_true, ↓reduceIte, nlT, nlF, ntT, ntF, neT, neF, ieT, ieF, decide_true, decide_false, Bool.not_true, Bool.not_false, Bool.and_true, Bool.true_and, Bool.and_false, Bool.false_and, Bool.or_true, Bool.true_or, Bool.or_false, Bool.false_or, h1.sc, m_has, c1, h1.dn, c2, h1.ak, h1.lv, c3]
              rfl
        · have c2' : A 14 w = 1 := by omega
          refine ⟨(S1, false), ⟨i1, ?_⟩, ?_⟩
          · show false = (apB A s && !ex (mcP A L s) (w + 1))
            rw [ex_s, e0]
            simp [mcP, c1, frB, c2']
          · simp (disch := omega) only [s222_0, s222_1, s222_4, s222_5, s222_6, s222_7, s222_8, s222_12, s222_13, s222_16, s222_17, s222_18, s222_21, s222_22, s222_25, s222_26, s222_28, s222_31, s222_34, s222_35, s222_38, s222_40, s222_41, s222_44, s222_45, s222_48, s222_49, s222_52, s222_54, s222_55, s222_56, s222_57, s222_60, s222_61, s222_63, s222_66, s222_69, s222_70, s222_71, s222_73, s222_74, s222_77, s222_80, s222_81, s222_84, s222_85, s222_86, s222_89, s222_92, s222_93, q_0, q_1, q_2, q_3, q_4, q_5, q_6, q_7, q_8, q_9, q_10, q_11, q_12, q_13, q_14, q_16, q_20, q_23, q_24, q_32, q_42, q_43, q_45, q_47, q_48, q_50, q_57, q_59, q_60, q_61, q_62, q_63, q_64, q_66, q_91, q_93, q_97, q_99, q_122, q_144, q_255, q_256, q_300, q_380, q_400, q_620, q_999, q_1000, q_4095, q_4096, q_9999, q_65536, q_99999, q_31, nI_add, pk_mul, nE, nL, nT, nM31, nShl, ib_nI, nI_clamp, bI_n0, bI_n1, bI_nar, uI_r, uI_l, uL_r, uL_i, uL_p, uA_r, uA_l, bV_some, bU_some, nar_n0, nar_n1, and_self, and_true, true_and, and_false, false_and, if_true, if_false, eq_self, Bool.false_eq_true, Bool.true_eq_false, not_true_eq_false, not_false_eq_true, ↓reduceIte, nlT, nlF, ntT, ntF, neT, neF, ieT, ieF, decide_true, decide_false, Bool.not_true, Bool.not_false, Bool.and_true, Bool.true_and, Bool.and_false, Bool.false_and, Bool.or_true, Bool.true_or, Bool.or_false, Bool.false_or, h1.sc, m_has, c1, h1.dn, c2]
            rfl
  · intro p hI
    obtain ⟨S1, b⟩ := p
    obtain ⟨i1, i2⟩ := hI
    simp only at i1 i2
    have h1 := h.pl i1 (by decide)
    refine ⟨S1, ?_, i1⟩
    show run 222 0 10 [vR 50 0, vI (nI r), vI (nI s), vI (bI b), vI (nI (A 0 2))] [] S1 = _
    rw [s222_10, i2]
    simp (disch := omega) only [s222_0, s222_1, s222_4, s222_5, s222_6, s222_7, s222_8, s222_12, s222_13, s222_16, s222_17, s222_18, s222_21, s222_22, s222_25, s222_26, s222_28, s222_31, s222_34, s222_35, s222_38, s222_40, s222_41, s222_44, s222_45, s222_48, s222_49, s222_52, s222_54, s222_55, s222_56, s222_57, s222_60, s222_61, s222_63, s222_66, s222_69, s222_70, s222_71, s222_73, s222_74, s222_77, s222_80, s222_81, s222_84, s222_85, s222_86, s222_89, s222_92, s222_93, q_0, q_1, q_2, q_3, q_4, q_5, q_6, q_7, q_8, q_9, q_10, q_11, q_12, q_13, q_14, q_16, q_20, q_23, q_24, q_32, q_42, q_43, q_45, q_47, q_48, q_50, q_57, q_59, q_60, q_61, q_62, q_63, q_64, q_66, q_91, q_93, q_97, q_99, q_122, q_144, q_255, q_256, q_300, q_380, q_400, q_620, q_999, q_1000, q_4095, q_4096, q_9999, q_65536, q_99999, q_31, nI_add, pk_mul, nE, nL, nT, nM31, nShl, ib_nI, nI_clamp, bI_n0, bI_n1, bI_nar, uI_r, uI_l, uL_r, uL_i, uL_p, uA_r, uA_l, bV_some, bU_some, nar_n0, nar_n1, and_self, and_true, true_and, and_false, false_and, if_true, if_false, eq_self, Bool.false_eq_true, Bool.true_eq_false, not_true_eq_false, not_false_eq_true, ↓reduceIte, nlT, nlF, ntT, ntF, neT, neF, ieT, ieF, decide_true, decide_false, Bool.not_true, Bool.not_false, Bool.and_true, Bool.true_and, Bool.and_false, Bool.false_and, Bool.or_true, Bool.true_or, Bool.or_false, Bool.false_or, h1.sc]
    rfl
def chF (A : Tn) (L : Lw) (k : Nat) : Nat → Option Nat
  | 0 => none
  | s + 1 => if (s.testBit k && mcB A L s) = true then (match chF A L k s with
    | none => some s
    | some b => if pop s < pop b then some s else some b) else chF A L k s
theorem chF_s (A : Tn) (L : Lw) (k s : Nat) : chF A L k (s + 1) = if (s.testBit k && mcB A L s) = true then (match chF A L k s with
    | none => some s
    | some b => if pop s < pop b then some s else some b) else chF A L k s := rfl
theorem chF_lt {A : Tn} {L : Lw} {k : Nat} : ∀ {s b : Nat}, chF A L k s = some b → b < s
  | 0, _, h => by cases h
  | s + 1, b, h => by
    rw [chF_s] at h
    split at h
    · split at h
      · have := Option.some.inj h; omega
      · rename_i c hc
        split at h
        · have := Option.some.inj h; omega
        · have h1 := Option.some.inj h
          have h2 := chF_lt hc
          omega
    · have := chF_lt h; omega
def oC (x : Option Nat) : Int32 := match x with
  | none => -nI 2
  | some b => nI b
def o_chain (A : Tn) (R : Rs) (l w : Int32) : Int32 := if (lsB l R.2.1.1 && lsB w (A 0 2)) = true then oC (chF A (R.2.1.2 l.toNatClampNeg) w.toNatClampNeg (2 ^ A 0 2)) else -nI 1
theorem r_chain {S : Sto} {A : Tn} {R : Rs} (h : RepM S A) (hr : ResM S R) (hw : WF A) (hR : WFR R) (l w : Int32) : ∃ S1, call 220 0 [vR 50 0, vI l, vI w] S = some (some (vI (o_chain A R l w)), S1) ∧ FM S S1 ∧ RepM S1 A := by
  have hWk := hw.wk
  have hR6 := hR.2.1.1
  have hM1 := Nat.two_pow_pos (A 0 2)
  have hM12 : 2 ^ A 0 2 ≤ 2 ^ 12 := Nat.pow_le_pow_right (by decide) hWk
  show ∃ S1, run 220 0 0 [vR 50 0, vI l, vI w, vU, vU] [] S = _ ∧ _
  unfold o_chain
  cases e1 : lsB l R.2.1.1 with
  | false =>
    simp (disch := omega) only [s220_0, s220_1, s220_2, s220_5, s220_8, s220_9, s220_10, s220_13, s220_16, s220_17, s220_18, s220_19, s220_22, s220_24, s220_25, s220_26, s220_30, s220_31, s220_32, s220_35, s220_36, s220_37, s220_38, s220_41, s220_43, s220_44, s220_47, s220_50, s220_51, s220_54, s220_56, s220_59, s220_60, s220_63, s220_66, s220_67, s220_68, s220_70, s220_73, s220_76, s220_78, s220_79, s220_82, s220_85, s220_86, q_0, q_1, q_2, q_3, q_4, q_5, q_6, q_7, q_8, q_9, q_10, q_11, q_12, q_13, q_14, q_16, q_20, q_23, q_24, q_32, q_42, q_43, q_45, q_47, q_48, q_50, q_57, q_59, q_60, q_61, q_62, q_63, q_64, q_66, q_91, q_93, q_97, q_99, q_122, q_144, q_255, q_256, q_300, q_380, q_400, q_620, q_999, q_1000, q_4095, q_4096, q_9999, q_65536, q_99999, q_31, nI_add, pk_mul, nE, nL, nT, nM31, nShl, ib_nI, nI_clamp, bI_n0, bI_n1, bI_nar, uI_r, uI_l, uL_r, uL_i, uL_p, uA_r, uA_l, bV_some, bU_some, nar_n0, nar_n1, and_self, and_true, true_and, and_false, false_and, if_true, if_false, eq_self, Bool.false_eq_true, Bool.true_eq_false, not_true_eq_false, not_false_eq_true, ↓reduceIte, nlT, nlF, ntT, ntF, neT, neF, ieT, ieF, decide_true, decide_false, Bool.not_true, Bool.not_false, Bool.and_true, Bool.true_and, Bool.and_false, Bool.false_and, Bool.or_true, Bool.true_or, Bool.or_false, Bool.false_or, m_isLw hr hR6, e1]
    exact ⟨_, rfl, FM.rf, h⟩
  | true =>
    have e1' := e1
    obtain ⟨r, hr', rfl⟩ := lsB_t e1 (by omega)
    cases e2 : lsB w (A 0 2) with
    | false =>
      simp (disch := omega) only [s220_0, s220_1, s220_2, s220_5, s220_8, s220_9, s220_10, s220_13, s220_16, s220_17, s220_18, s220_19, s220_22, s220_24, s220_25, s220_26, s220_30, s220_31, s220_32, s220_35, s220_36, s220_37, s220_38, s220_41, s220_43, s220_44, s220_47, s220_50, s220_51, s220_54, s220_56, s220_59, s220_60, s220_63, s220_66, s220_67, s220_68, s220_70, s220_73, s220_76, s220_78, s220_79, s220_82, s220_85, s220_86, q_0, q_1, q_2, q_3, q_4, q_5, q_6, q_7, q_8, q_9, q_10, q_11, q_12, q_13, q_14, q_16, q_20, q_23, q_24, q_32, q_42, q_43, q_45, q_47, q_48, q_50, q_57, q_59, q_60, q_61, q_62, q_63, q_64, q_66, q_91, q_93, q_97, q_99, q_122, q_144, q_255, q_256, q_300, q_380, q_400, q_620, q_999, q_1000, q_4095, q_4096, q_9999, q_65536, q_99999, q_31, nI_add, pk_mul, nE, nL, nT, nM31, nShl, ib_nI, nI_clamp, bI_n0, bI_n1, bI_nar, uI_r, uI_l, uL_r, uL_i, uL_p, uA_r, uA_l, bV_some, bU_some, nar_n0, nar_n1, and_self, and_true, true_and, and_false, false_and, if_true, if_false, eq_self, Bool.false_eq_true, Bool.true_eq_false, not_true_eq_false, not_false_eq_true, ↓reduceIte, nlT, nlF, ntT, ntF, neT, neF, ieT, ieF, decide_true, decide_false, Bool.not_true, Bool.not_false, Bool.and_true, Bool.true_and, Bool.and_false, Bool.false_and, Bool.or_true, Bool.true_or, Bool.or_false, Bool.false_or, m_isLw hr hR6, e1', m_isW h hw, e2]
      exact ⟨_, rfl, FM.rf, h⟩
    | true =>
      have e2' := e2
      obtain ⟨j, hj, rfl⟩ := lsB_t e2 (by omega)
      rw [nI_clamp (by omega), nI_clamp (by omega)]
      have hl := hR.2.1.2 r hr'
      have hL := hr.2.1.2 r hr'
      obtain ⟨S1, a1, a2, a3⟩ := m_apart h hw
      have h1 := h.pl a2 (by decide)
      have hL1 : RepLM S1 r (R.2.1.2 r) := hL.pl a2 (by decide)
      simp (disch := omega) only [s220_0, s220_1, s220_2, s220_5, s220_8, s220_9, s220_10, s220_13, s220_16, s220_17, s220_18, s220_19, s220_22, s220_24, s220_25, s220_26, s220_30, s220_31, s220_32, s220_35, s220_36, s220_37, s220_38, s220_41, s220_43, s220_44, s220_47, s220_50, s220_51, s220_54, s220_56, s220_59, s220_60, s220_63, s220_66, s220_67, s220_68, s220_70, s220_73, s220_76, s220_78, s220_79, s220_82, s220_85, s220_86, q_0, q_1, q_2, q_3, q_4, q_5, q_6, q_7, q_8, q_9, q_10, q_11, q_12, q_13, q_14, q_16, q_20, q_23, q_24, q_32, q_42, q_43, q_45, q_47, q_48, q_50, q_57, q_59, q_60, q_61, q_62, q_63, q_64, q_66, q_91, q_93, q_97, q_99, q_122, q_144, q_255, q_256, q_300, q_380, q_400, q_620, q_999, q_1000, q_4095, q_4096, q_9999, q_65536, q_99999, q_31, nI_add, pk_mul, nE, nL, nT, nM31, nShl, ib_nI, nI_clamp, bI_n0, bI_n1, bI_nar, uI_r, uI_l, uL_r, uL_i, uL_p, uA_r, uA_l, bV_some, bU_some, nar_n0, nar_n1, and_self, and_true, true_and, and_false, false_and, if_true, if_false, eq_self, Bool.false_eq_true, Bool.true_eq_false, not_true_eq_false, not_false_eq_true, ↓reduceIte, nlT, nlF, ntT, ntF, neT, neF, ieT, ieF, decide_true, decide_false, Bool.not_true, Bool.not_false, Bool.and_true, Bool.true_and, Bool.and_false, Bool.false_and, Bool.or_true, Bool.true_or, Bool.or_false, Bool.false_or, m_isLw hr hR6, e1', m_isW h hw, e2', a1]
      have ec1 : chF A (R.2.1.2 r) j 1 = none := by
        rw [chF_s]
        simp [chF]
      refine upS (σ := Sto × Option Nat) (I := fun s p => 1 ≤ s ∧ Fr (pL [76, 77]) S1 p.1 ∧ p.2 = chF A (R.2.1.2 r) j s) (F := fun s p => run 220 0 28 [vR 50 0, vI (nI r), vI (nI j), vI (oC p.2), vI (nI s)] [] p.1) (Q := fun z => ∃ S1, z = some (some (vI (oC (chF A (R.2.1.2 r) j (2 ^ A 0 2)))), S1) ∧ FM S S1 ∧ RepM S1 A) (N := 2 ^ A 0 2) ?_ ?_ 1 (S1, none) (by omega) ⟨by omega, Fr.rfl', ec1.symm⟩
      · intro s p hs hI
        obtain ⟨S2, b⟩ := p
        obtain ⟨i0, i1, i2⟩ := hI
        simp only at i1 i2
        have h2 := h1.pl i1 (by decide)
        have hL2 := hL1.pl i1 (by decide)
        have ha2 : ApI S2 A (2 ^ A 0 2) := fun t ht => by rw [i1.i rfl]; exact a3 t ht
        obtain ⟨S3, d1, d2⟩ := m_isChain h2 hw (r := r) (by omega) hL2 hl ha2 hs
        refine Or.inr ?_
        show ∃ s', _ ∧ run 220 0 28 [vR 50 0, vI (nI r), vI (nI j), vI (oC b), vI (nI s)] [] S2 = _
        rw [s220_28]
        cases c1 : s.testBit j with
        | false =>
          refine ⟨(S2, b), ⟨by omega, i1, ?_⟩, ?_⟩
          · show b = chF A (R.2.1.2 r) j (s + 1)
            rw [chF_s, c1]
            simpa using i2
          · simp (disch := omega) only [s220_0, s220_1, s220_2, s220_5, s220_8, s220_9, s220_10, s220_13, s220_16, s220_17, s220_18, s220_19, s220_22, s220_24, s220_25, s220_26, s220_30, s220_31, s220_32, s220_35, s220_36, s220_37, s220_38, s220_41, s220_43, s220_44, s220_47, s220_50, s220_51, s220_54, s220_56, s220_59, s220_60, s220_63, s220_66, s220_67, s220_68, s220_70, s220_73, s220_76, s220_78, s220_79, s220_82, s220_85, s220_86, q_0, q_1, q_2, q_3, q_4, q_5, q_6, q_7, q_8, q_9, q_10, q_11, q_12, q_13, q_14, q_16, q_20, q_23, q_24, q_32, q_42, q_43, q_45, q_47, q_48, q_50, q_57, q_59, q_60, q_61, q_62, q_63, q_64, q_66, q_91, q_93, q_97, q_99, q_122, q_144, q_255, q_256, q_300, q_380, q_400, q_620, q_999, q_1000, q_4095, q_4096, q_9999, q_65536, q_99999, q_31, nI_add, pk_mul, nE, nL, nT, nM31, nShl, ib_nI, nI_clamp, bI_n0, bI_n1, bI_nar, uI_r, uI_l, uL_r, uL_i, uL_p, uA_r, uA_l, bV_some, bU_some, nar_n0, nar_n1, and_self, and_true, true_and, and_false, false_and, if_true, if_false, eq_self, Bool.false_eq_true, Bool.true_eq_false, not_true_eq_false, not_false_eq_true, ↓reduceIte, nlT, nlF, ntT, ntF, neT, neF, ieT, ieF, decide_true, decide_false, Bool.not_true, Bool.not_false, Bool.and_true, Bool.true_and, Bool.and_false, Bool.false_and, Bool.or_true, Bool.true_or, Bool.or_false, Bool.false_or, h2.sc, m_has, c1]
        | true =>
          cases b with
          | none =>
            have n1 : (-nI 2 < nI 0) = True := by decide
            cases c2 : mcB A (R.2.1.2 r) s with
            | false =>
              rw [c2] at d1
              refine ⟨(S3, none), ⟨by omega, i1.tr d2, ?_⟩, ?_⟩
              · show none = chF A (R.2.1.2 r) j (s + 1)
                rw [chF_s, c2]
                simpa using i2
              · simp (disch := omega) only [s220_0, s220_1, s220_2, s220_5, s220_8, s220_9, s220_10, s220_13, s220_16, s220_17, s220_18, s220_19, s220_22, s220_24, s220_25, s220_26, s220_30, s220_31, s220_32, s220_35, s220_36, s220_37, s220_38, s220_41, s220_43, s220_44, s220_47, s220_50, s220_51, s220_54, s220_56, s220_59, s220_60, s220_63, s220_66, s220_67, s220_68, s220_70, s220_73, s220_76, s220_78, s220_79, s220_82, s220_85, s220_86, q_0, q_1, q_2, q_3, q_4, q_5, q_6, q_7, q_8, q_9, q_10, q_11, q_12, q_13, q_14, q_16, q_20, q_23, q_24, q_32, q_42, q_43, q_45, q_47, q_48, q_50, q_57, q_59, q_60, q_61, q_62, q_63, q_64, q_66, q_91, q_93, q_97, q_99, q_122, q_144, q_255, q_256, q_300, q_380, q_400, q_620, q_999, q_1000, q_4095, q_4096, q_9999, q_65536, q_99999, q_31, nI_add, pk_mul, nE, nL, nT, nM31, nShl, ib_nI, nI_clamp, bI_n0, bI_n1, bI_nar, uI_r, uI_l, uL_r, uL_i, uL_p, uA_r, uA_l, bV_some, bU_some, nar_n0, nar_n1, and_self, and_true, true_and, and_false, false_and, if_true, if_false, eq_self, Bool.false_eq_true, Bool.true_eq_false, not_true_eq_false, not_false_eq_true, ↓reduceIte, nlT, nlF, ntT, ntF, neT, neF, ieT, ieF, decide_true, decide_false, Bool.not_true, Bool.not_false, Bool.and_true, Bool.true_and, Bool.and_false, Bool.false_and, Bool.or_true, Bool.true_or, Bool.or_false, Bool.false_or, h2.sc, m_has, c1, oC, n1, d1]
            | true =>
              rw [c2] at d1
              refine ⟨(S3, some s), ⟨by omega, i1.tr d2, ?_⟩, ?_⟩
              · show some s = chF A (R.2.1.2 r) j (s + 1)
                rw [chF_s, c1, c2, ← i2]
                rfl
              · simp (disch := omega) only [s220_0, s220_1, s220_2, s220_5, s220_8, s220_9, s220_10, s220_13, s220_16, s220_17, s220_18, s220_19, s220_22, s220_24, s220_25, s220_26, s220_30, s220_31, s220_32, s220_35, s220_36, s220_37, s220_38, s220_41, s220_43, s220_44, s220_47, s220_50, s220_51, s220_54, s220_56, s220_59, s220_60, s220_63, s220_66, s220_67, s220_68, s220_70, s220_73, s220_76, s220_78, s220_79, s220_82, s220_85, s220_86, q_0, q_1, q_2, q_3, q_4, q_5, q_6, q_7, q_8, q_9, q_10, q_11, q_12, q_13, q_14, q_16, q_20, q_23, q_24, q_32, q_42, q_43, q_45, q_47, q_48, q_50, q_57, q_59, q_60, q_61, q_62, q_63, q_64, q_66, q_91, q_93, q_97, q_99, q_122, q_144, q_255, q_256, q_300, q_380, q_400, q_620, q_999, q_1000, q_4095, q_4096, q_9999, q_65536, q_99999, q_31, nI_add, pk_mul, nE, nL, nT, nM31, nShl, ib_nI, nI_clamp, bI_n0, bI_n1, bI_nar, uI_r, uI_l, uL_r, uL_i, uL_p, uA_r, uA_l, bV_some, bU_some, nar_n0, nar_n1, and_self, and_true, true_and, and_false, false_and, if_true, if_false, eq_self, Bool.false_eq_true, Bool.true_eq_false, not_true_eq_false, not_false_eq_true, ↓reduceIte, nlT, nlF, ntT, ntF, neT, neF, ieT, ieF, decide_true, decide_false, Bool.not_true, Bool.not_false, Bool.and_true, Bool.true_and, Bool.and_false, Bool.false_and, Bool.or_true, Bool.true_or, Bool.or_false, Bool.false_or, h2.sc, m_has, c1, oC, n1, d1]
          | some b =>
            have hb := chF_lt i2.symm
            have p1 := pop_le s
            have p2 := pop_le b
            by_cases c3 : pop s < pop b
            · cases c2 : mcB A (R.2.1.2 r) s with
              | false =>
                rw [c2] at d1
                refine ⟨(S3, some b), ⟨by omega, i1.tr d2, ?_⟩, ?_⟩
                · show some b = chF A (R.2.1.2 r) j (s + 1)
                  rw [chF_s, c2]
                  simpa using i2
                · simp (disch := omega) only [s220_0, s220_1, s220_2, s220_5, s220_8, s220_9, s220_10, s220_13, s220_16, s220_17, s220_18, s220_19, s220_22, s220_24, s220_25, s220_26, s220_30, s220_31, s220_32, s220_35, s220_36, s220_37, s220_38, s220_41, s220_43, s220_44, s220_47, s220_50, s220_51, s220_54, s220_56, s220_59, s220_60, s220_63, s220_66, s220_67, s220_68, s220_70, s220_73, s220_76, s220_78, s220_79, s220_82, s220_85, s220_86, q_0, q_1, q_2, q_3, q_4, q_5, q_6, q_7, q_8, q_9, q_10, q_11, q_12, q_13, q_14, q_16, q_20, q_23, q_24, q_32, q_42, q_43, q_45, q_47, q_48, q_50, q_57, q_59, q_60, q_61, q_62, q_63, q_64, q_66, q_91, q_93, q_97, q_99, q_122, q_144, q_255, q_256, q_300, q_380, q_400, q_620, q_999, q_1000, q_4095, q_4096, q_9999, q_65536, q_99999, q_31, nI_add, pk_mul, nE, nL, nT, nM31, nShl, ib_nI, nI_clamp, bI_n0, bI_n1, bI_nar, uI_r, uI_l, uL_r, uL_i, uL_p, uA_r, uA_l, bV_some, bU_some, nar_n0, nar_n1, and_self, and_true, true_and, and_false, false_and, if_true, if_false, eq_self, Bool.false_eq_true, Bool.true_eq_false, not_true_eq_false, not_false_eq_true, ↓reduceIte, nlT, nlF, ntT, ntF, neT, neF, ieT, ieF, decide_true, decide_false, Bool.not_true, Bool.not_false, Bool.and_true, Bool.true_and, Bool.and_false, Bool.false_and, Bool.or_true, Bool.true_or, Bool.or_false, Bool.false_or, h2.sc, m_has, c1, oC, m_bits, c3, d1]
              | true =>
                rw [c2] at d1
                refine ⟨(S3, some s), ⟨by omega, i1.tr d2, ?_⟩, ?_⟩
                · show some s = chF A (R.2.1.2 r) j (s + 1)
                  rw [chF_s, c1, c2, ← i2]
                  simp [c3]
                · simp (disch := omega) only [s220_0, s220_1, s220_2, s220_5, s220_8, s220_9, s220_10, s220_13, s220_16, s220_17, s220_18, s220_19, s220_22, s220_24, s220_25, s220_26, s220_30, s220_31, s220_32, s220_35, s220_36, s220_37, s220_38, s220_41, s220_43, s220_44, s220_47, s220_50, s220_51, s220_54, s220_56, s220_59, s220_60, s220_63, s220_66, s220_67, s220_68, s220_70, s220_73, s220_76, s220_78, s220_79, s220_82, s220_85, s220_86, q_0, q_1, q_2, q_3, q_4, q_5, q_6, q_7, q_8, q_9, q_10, q_11, q_12, q_13, q_14, q_16, q_20, q_23, q_24, q_32, q_42, q_43, q_45, q_47, q_48, q_50, q_57, q_59, q_60, q_61, q_62, q_63, q_64, q_66, q_91, q_93, q_97, q_99, q_122, q_144, q_255, q_256, q_300, q_380, q_400, q_620, q_999, q_1000, q_4095, q_4096, q_9999, q_65536, q_99999, q_31, nI_add, pk_mul, nE, nL, nT, nM31, nShl, ib_nI, nI_clamp, bI_n0, bI_n1, bI_nar, uI_r, uI_l, uL_r, uL_i, uL_p, uA_r, uA_l, bV_some, bU_some, nar_n0, nar_n1, and_self, and_true, true_and, and_false, false_and, if_true, if_false, eq_self, Bool.false_eq_true, Bool.true_eq_false, not_true_eq_false, not_false_eq_true, ↓reduceIte, nlT, nlF, ntT, ntF, neT, neF, ieT, ieF, decide_true, decide_false, Bool.not_true, Bool.not_false, Bool.and_true, Bool.true_and, Bool.and_false, Bool.false_and, Bool.or_true, Bool.true_or, Bool.or_false, Bool.false_or, h2.sc, m_has, c1, oC, m_bits, c3, d1]
            · refine ⟨(S2, some b), ⟨by omega, i1, ?_⟩, ?_⟩
              · show some b = chF A (R.2.1.2 r) j (s + 1)
                rw [chF_s, c1, ← i2]
                simp [c3]
              · simp (disch := omega) only [s220_0, s220_1, s220_2, s220_5, s220_8, s220_9, s220_10, s220_13, s220_16, s220_17, s220_18, s220_19, s220_22, s220_24, s220_25, s220_26, s220_30, s220_31, s220_32, s220_35, s220_36, s220_37, s220_38, s220_41, s220_43, s220_44, s220_47, s220_50, s220_51, s220_54, s220_56, s220_59, s220_60, s220_63, s220_66, s220_67, s220_68, s220_70, s220_73, s220_76, s220_78, s220_79, s220_82, s220_85, s220_86, q_0, q_1, q_2, q_3, q_4, q_5, q_6, q_7, q_8, q_9, q_10, q_11, q_12, q_13, q_14, q_16, q_20, q_23, q_24, q_32, q_42, q_43, q_45, q_47, q_48, q_50, q_57, q_59, q_60, q_61, q_62, q_63, q_64, q_66, q_91, q_93, q_97, q_99, q_122, q_144, q_255, q_256, q_300, q_380, q_400, q_620, q_999, q_1000, q_4095, q_4096, q_9999, q_65536, q_99999, q_31, nI_add, pk_mul, nE, nL, nT, nM31, nShl, ib_nI, nI_clamp, bI_n0, bI_n1, bI_nar, uI_r, uI_l, uL_r, uL_i, uL_p, uA_r, uA_l, bV_some, bU_some, nar_n0, nar_n1, and_self, and_true, true_and, and_false, false_and, if_true, if_false, eq_self, Bool.false_eq_true, Bool.true_eq_false, not_true_eq_false, not_false_eq_true, ↓reduceIte, nlT, nlF, ntT, ntF, neT, neF, ieT, ieF, decide_true, decide_false, Bool.not_true, Bool.not_false, Bool.and_true, Bool.true_and, Bool.and_false, Bool.false_and, Bool.or_true, Bool.true_or, Bool.or_false, Bool.false_or, h2.sc, m_has, c1, oC, m_bits, c3]
      · intro p hI
        obtain ⟨S2, b⟩ := p
        obtain ⟨i0, i1, i2⟩ := hI
        simp only at i1 i2
        have h2 := h1.pl i1 (by decide)
        refine ⟨S2, ?_, (FM.pl a2 (by decide)).tr (FM.pl i1 (by decide)), h2⟩
        show run 220 0 28 [vR 50 0, vI (nI r), vI (nI j), vI (oC b), vI (nI (2 ^ A 0 2))] [] S2 = _
        rw [s220_28, i2]
        simp (disch := omega) only [s220_0, s220_1, s220_2, s220_5, s220_8, s220_9, s220_10, s220_13, s220_16, s220_17, s220_18, s220_19, s220_22, s220_24, s220_25, s220_26, s220_30, s220_31, s220_32, s220_35, s220_36, s220_37, s220_38, s220_41, s220_43, s220_44, s220_47, s220_50, s220_51, s220_54, s220_56, s220_59, s220_60, s220_63, s220_66, s220_67, s220_68, s220_70, s220_73, s220_76, s220_78, s220_79, s220_82, s220_85, s220_86, q_0, q_1, q_2, q_3, q_4, q_5, q_6, q_7, q_8, q_9, q_10, q_11, q_12, q_13, q_14, q_16, q_20, q_23, q_24, q_32, q_42, q_43, q_45, q_47, q_48, q_50, q_57, q_59, q_60, q_61, q_62, q_63, q_64, q_66, q_91, q_93, q_97, q_99, q_122, q_144, q_255, q_256, q_300, q_380, q_400, q_620, q_999, q_1000, q_4095, q_4096, q_9999, q_65536, q_99999, q_31, nI_add, pk_mul, nE, nL, nT, nM31, nShl, ib_nI, nI_clamp, bI_n0, bI_n1, bI_nar, uI_r, uI_l, uL_r, uL_i, uL_p, uA_r, uA_l, bV_some, bU_some, nar_n0, nar_n1, and_self, and_true, true_and, and_false, false_and, if_true, if_false, eq_self, Bool.false_eq_true, Bool.true_eq_false, not_true_eq_false, not_false_eq_true, ↓reduceIte, nlT, nlF, ntT, ntF, neT, neF, ieT, ieF, decide_true, decide_false, Bool.not_true, Bool.not_false, Bool.and_true, Bool.true_and, Bool.and_false, Bool.false_and, Bool.or_true, Bool.true_or, Bool.or_false, Bool.false_or, h2.sc]
