/-! trades -/
def tjF (A : Tn) (i : Nat) : Nat → Nat → Option Nat
  | 0, _ => none
  | m + 1, j => if tdB A i j = true then some j else tjF A i m (j + 1)
theorem tjF_s (A : Tn) (i m j : Nat) : tjF A i (m + 1) j = if tdB A i j = true then some j else tjF A i m (j + 1) := rfl
def tjR (A : Tn) (i : Nat) : Option Nat := tjF A i (2 * A 0 1 - (2 * (i / 2) + 2)) (2 * (i / 2) + 2)
def tiF (A : Tn) : Nat → Nat → Option (Nat × Nat)
  | 0, _ => none
  | m + 1, i => match tjR A i with
    | some j => some (i, j)
    | none => tiF A m (i + 1)
theorem tiF_s (A : Tn) (m i : Nat) : tiF A (m + 1) i = match tjR A i with
    | some j => some (i, j)
    | none => tiF A m (i + 1) := rfl
def tr1 (A : Tn) : Option (Nat × Nat) := tiF A (2 * A 0 1) 0
def trT (A : Tn) : Tn := match tr1 A with
  | none => A
  | some (i, j) => swT A i j
theorem tjF_p {A : Tn} {i : Nat} : ∀ {m j b : Nat}, tjF A i m j = some b → b < j + m ∧ tdB A i b = true
  | 0, _, _, h => by cases h
  | m + 1, j, b, h => by
    rw [tjF_s] at h
    split at h
    · rename_i e
      have := Option.some.inj h
      subst this
      exact ⟨by omega, e⟩
    · have := tjF_p h
      exact ⟨by omega, this.2⟩
theorem tiF_p {A : Tn} : ∀ {m i a b : Nat}, tiF A m i = some (a, b) → i + m ≤ 2 * A 0 1 → a < 2 * A 0 1 ∧ b < 2 * A 0 1 ∧ tdB A a b = true
  | 0, _, _, _, h, _ => by cases h
  | m + 1, i, a, b, h, hm => by
    rw [tiF_s] at h
    split at h
    · rename_i j hj
      have e := Option.some.inj h
      obtain ⟨e1, e2⟩ := Prod.mk.inj e
      subst e1 e2
      have := tjF_p hj
      exact ⟨by omega, by omega, this.2⟩
    · exact tiF_p h (by omega)
theorem trT_W {A : Tn} (hw : WF A) : WF (trT A) := by
  unfold trT
  split
  · exact hw
  · rename_i i j h
    have := tiF_p h (by omega)
    refine swT_W hw this.1 this.2.1 ?_
    have h2 := this.2.2
    unfold tdB at h2
    simp only [Bool.and_eq_true] at h2
    exact h2.2
theorem x_trIn {S : Sto} {q : Nat} {A : Tn} {i : Nat} (h : RepC S q A) (hw : WF A) (hi : i < 2 * A 0 1) : (tjR A i = none ∧ run 3 0 20 [vR 41 0, vR 1 q, vI (nI i), vI (nI (2 * (i / 2) + 2))] [] S = run 3 0 2 [vR 41 0, vR 1 q, vI (nI (i + 1)), vI (nI (2 * A 0 1))] [] S) ∨ ∃ j S', tjR A i = some j ∧ run 3 0 20 [vR 41 0, vR 1 q, vI (nI i), vI (nI (2 * (i / 2) + 2))] [] S = some (some (vI (nI 1)), S') ∧ Fr (pT q) S S' ∧ RepC S' q (swT A i j) := by
  have hT := hw.th
  refine upS (σ := Unit) (I := fun j _ => tjF A i (2 * A 0 1 - j) j = tjR A i) (F := fun j _ => run 3 0 20 [vR 41 0, vR 1 q, vI (nI i), vI (nI j)] [] S) (Q := fun z => (tjR A i = none ∧ z = run 3 0 2 [vR 41 0, vR 1 q, vI (nI (i + 1)), vI (nI (2 * A 0 1))] [] S) ∨ ∃ j S', tjR A i = some j ∧ z = some (some (vI (nI 1)), S') ∧ Fr (pT q) S S' ∧ RepC S' q (swT A i j)) (N := 2 * A 0 1) ?_ ?_ (2 * (i / 2) + 2) () (by omega) rfl
  · intro j _ hj hI
    have em : 2 * A 0 1 - j = (2 * A 0 1 - (j + 1)) + 1 := by omega
    rw [em, tjF_s] at hI
    have e1 := x_bothGain h hw (i := i) (j := j) (by omega) (by omega)
    have e2 := x_canChange h hw (i := i) (j := j) (by omega) (by omega)
    obtain ⟨S1, a1, a2, a3⟩ := x_change h hw (i := i) (j := j) (by omega) (by omega)
    show ((_ ∧ run 3 0 20 _ _ _ = _) ∨ ∃ j' S', _ ∧ run 3 0 20 _ _ _ = _ ∧ _) ∨ ∃ s', _ ∧ run 3 0 20 _ _ _ = run 3 0 20 _ _ _
    rw [s3_20]
    unfold tdB at hI
    cases c1 : gnB A i j with
    | false =>
      rw [c1] at e1 hI
      refine Or.inr ⟨(), hI, ?_⟩
      simp (disch := omega) only [s3_0, s3_1, s3_3, s3_4, s3_5, s3_8, s3_9, s3_12, s3_13, s3_14, s3_15, s3_16, s3_17, s3_18, s3_19, s3_21, s3_22, s3_23, s3_26, s3_27, s3_30, s3_31, s3_32, s3_33, s3_36, s3_39, s3_40, s3_41, s3_42, s3_43, s3_46, s3_49, s3_50, s3_51, s3_52, s3_53, s3_56, s3_57, s3_58, s3_61, s3_64, s3_67, s3_70, s3_71, q_0, q_1, q_2, q_3, q_4, q_5, q_6, q_7, q_8, q_9, q_10, q_11, q_12, q_13, q_14, q_16, q_20, q_23, q_24, q_32, q_42, q_43, q_45, q_47, q_48, q_50, q_57, q_59, q_60, q_61, q_62, q_63, q_64, q_66, q_91, q_93, q_97, q_99, q_122, q_144, q_255, q_256, q_300, q_380, q_400, q_620, q_999, q_1000, q_4095, q_4096, q_9999, q_65536, q_99999, q_31, nI_add, pk_mul, nE, nL, nT, nM31, nShl, ib_nI, nI_clamp, bI_n0, bI_n1, bI_nar, uI_r, uI_l, uL_r, uL_i, uL_p, uA_r, uA_l, bV_some, bU_some, nar_n0, nar_n1, and_self, and_true, true_and, and_false, false_and, if_true, if_false, eq_self, Bool.false_eq_true, Bool.true_eq_false, not_true_eq_false, not_false_eq_true, ↓reduceIte, nlT, nlF, ntT, ntF, neT, neF, ieT, ieF, decide_true, decide_false, Bool.not_true, Bool.not_false, Bool.and_true, Bool.true_and, Bool.and_false, Bool.false_and, Bool.or_true, Bool.true_or, Bool.or_false, Bool.false_or, h.th, e1]
    | true =>
      cases c2 : swB A i j with
      | false =>
        rw [c1] at e1
        rw [c1, c2] at hI
        rw [c2] at e2
        refine Or.inr ⟨(), hI, ?_⟩
        simp (disch := omega) only [s3_0, s3_1, s3_3, s3_4, s3_5, s3_8, s3_9, s3_12, s3_13, s3_14, s3_15, s3_16, s3_17, s3_18, s3_19, s3_21, s3_22, s3_23, s3_26, s3_27, s3_30, s3_31, s3_32, s3_33, s3_36, s3_39, s3_40, s3_41, s3_42, s3_43, s3_46, s3_49, s3_50, s3_51, s3_52, s3_53, s3_56, s3_57, s3_58, s3_61, s3_64, s3_67, s3_70, s3_71, q_0, q_1, q_2, q_3, q_4, q_5, q_6, q_7, q_8, q_9, q_10, q_11, q_12, q_13, q_14, q_16, q_20, q_23, q_24, q_32, q_42, q_43, q_45, q_47, q_48, q_50, q_57, q_59, q_60, q_61, q_62, q_63, q_64, q_66, q_91, q_93, q_97, q_99, q_122, q_144, q_255, q_256, q_300, q_380, q_400, q_620, q_999, q_1000, q_4095, q_4096, q_9999, q_65536, q_99999, q_31, nI_add, pk_mul, nE, nL, nT, nM31, nShl, ib_nI, nI_clamp, bI_n0, bI_n1, bI_nar, uI_r, uI_l, uL_r, uL_i, uL_p, uA_r, uA_l, bV_some, bU_some, nar_n0, nar_n1, and_self, and_true, true_and, and_false, false_and, if_true, if_false, eq_self, Bool.false_eq_true, Bool.true_eq_false, not_true_eq_false, not_false_eq_true, ↓reduceIte, nlT, nlF, ntT, ntF, neT, neF, ieT, ieF, decide_true, decide_false, Bool.not_true, Bool.not_false, Bool.and_true, Bool.true_and, Bool.and_false, Bool.false_and, Bool.or_true, Bool.true_or, Bool.or_false, Bool.false_or, h.th, e1, e2]
      | true =>
        rw [c1] at e1
        rw [c1, c2] at hI
        rw [c2] at e2
        refine Or.inl (Or.inr ⟨j, S1, hI.symm, ?_, a2, a3⟩)
        simp (disch := omega) only [s3_0, s3_1, s3_3, s3_4, s3_5, s3_8, s3_9, s3_12, s3_13, s3_14, s3_15, s3_16, s3_17, s3_18, s3_19, s3_21, s3_22, s3_23, s3_26, s3_27, s3_30, s3_31, s3_32, s3_33, s3_36, s3_39, s3_40, s3_41, s3_42, s3_43, s3_46, s3_49, s3_50, s3_51, s3_52, s3_53, s3_56, s3_57, s3_58, s3_61, s3_64, s3_67, s3_70, s3_71, q_0, q_1, q_2, q_3, q_4, q_5, q_6, q_7, q_8, q_9, q_10, q_11, q_12, q_13, q_14, q_16, q_20, q_23, q_24, q_32, q_42, q_43, q_45, q_47, q_48, q_50, q_57, q_59, q_60, q_61, q_62, q_63, q_64, q_66, q_91, q_93, q_97, q_99, q_122, q_144, q_255, q_256, q_300, q_380, q_400, q_620, q_999, q_1000, q_4095, q_4096, q_9999, q_65536, q_99999, q_31, nI_add, pk_mul, nE, nL, nT, nM31, nShl, ib_nI, nI_clamp, bI_n0, bI_n1, bI_nar, uI_r, uI_l, uL_r, uL_i, uL_p, uA_r, uA_l, bV_some, bU_some, nar_n0, nar_n1, and_self, and_true, true_and, and_false, false_and, if_true, if_false, eq_self, Bool.false_eq_true, Bool.true_eq_false, not_true_eq_false, not_false_eq_true, ↓reduceIte, nlT, nlF, ntT, ntF, neT, neF, ieT, ieF, decide_true, decide_false, Bool.not_true, Bool.not_false, Bool.and_true, Bool.true_and, Bool.and_false, Bool.false_and, Bool.or_true, Bool.true_or, Bool.or_false, Bool.false_or, h.th, e1, e2, a1]
  · intro _ hI
    rw [Nat.sub_self] at hI
    show (_ ∧ run 3 0 20 _ _ _ = _) ∨ _
    rw [s3_20]
    refine Or.inl ⟨hI.symm, ?_⟩
    simp (disch := omega) only [s3_0, s3_1, s3_3, s3_4, s3_5, s3_8, s3_9, s3_12, s3_13, s3_14, s3_15, s3_16, s3_17, s3_18, s3_19, s3_21, s3_22, s3_23, s3_26, s3_27, s3_30, s3_31, s3_32, s3_33, s3_36, s3_39, s3_40, s3_41, s3_42, s3_43, s3_46, s3_49, s3_50, s3_51, s3_52, s3_53, s3_56, s3_57, s3_58, s3_61, s3_64, s3_67, s3_70, s3_71, q_0, q_1, q_2, q_3, q_4, q_5, q_6, q_7, q_8, q_9, q_10, q_11, q_12, q_13, q_14, q_16, q_20, q_23, q_24, q_32, q_42, q_43, q_45, q_47, q_48, q_50, q_57, q_59, q_60, q_61, q_62, q_63, q_64, q_66, q_91, q_93, q_97, q_99, q_122, q_144, q_255, q_256, q_300, q_380, q_400, q_620, q_999, q_1000, q_4095, q_4096, q_9999, q_65536, q_99999, q_31, nI_add, pk_mul, nE, nL, nT, nM31, nShl, ib_nI, nI_clamp, bI_n0, bI_n1, bI_nar, uI_r, uI_l, uL_r, uL_i, uL_p, uA_r, uA_l, bV_some, bU_some, nar_n0, nar_n1, and_self, and_true, true_and, and_false, false_and, if_true, if_false, eq_self, Bool.false_eq_true, Bool.true_eq_false, not_true_eq_false, not_false_eq_true, ↓reduceIte, nlT, nlF, ntT, ntF, neT, neF, ieT, ieF, decide_true, decide_false, Bool.not_true, Bool.not_false, Bool.and_true, Bool.true_and, Bool.and_false, Bool.false_and, Bool.or_true, Bool.true_or, Bool.or_false, Bool.false_or, h.th]
theorem x_tradeOnce {S : Sto} {q : Nat} {A : Tn} (h : RepC S q A) (hw : WF A) : ∃ S', call 3 0 [vR 41 0, vR 1 q] S = some (some (vI (bI (tr1 A).isSome)), S') ∧ Fr (pT q) S S' ∧ RepC S' q (trT A) := by
  have hT := hw.th
  show ∃ S', run 3 0 0 [vR 41 0, vR 1 q, vU, vU] [] S = _ ∧ _
  simp only [s3_0, s3_1]
  have key := upS (σ := av) (I := fun i _ => tiF A (2 * A 0 1 - i) i = tr1 A) (F := fun i x => run 3 0 2 [vR 41 0, vR 1 q, vI (nI i), x] [] S) (Q := fun z => ∃ S', z = some (some (vI (bI (tr1 A).isSome)), S') ∧ Fr (pT q) S S' ∧ RepC S' q (trT A)) (N := 2 * A 0 1) ?_ ?_ 0 vU (by omega) rfl
  · exact key
  · intro i x hi hI
    have em : 2 * A 0 1 - i = (2 * A 0 1 - (i + 1)) + 1 := by omega
    rw [em, tiF_s] at hI
    show (∃ S', run 3 0 2 _ _ _ = _ ∧ _) ∨ ∃ s', _ ∧ run 3 0 2 _ _ _ = run 3 0 2 _ _ _
    rw [s3_2]
    have e0 : i / 2 * 2 = 2 * (i / 2) := Nat.mul_comm _ _
    simp (disch := omega) only [s3_0, s3_1, s3_3, s3_4, s3_5, s3_8, s3_9, s3_12, s3_13, s3_14, s3_15, s3_16, s3_17, s3_18, s3_19, s3_21, s3_22, s3_23, s3_26, s3_27, s3_30, s3_31, s3_32, s3_33, s3_36, s3_39, s3_40, s3_41, s3_42, s3_43, s3_46, s3_49, s3_50, s3_51, s3_52, s3_53, s3_56, s3_57, s3_58, s3_61, s3_64, s3_67, s3_70, s3_71, q_0, q_1, q_2, q_3, q_4, q_5, q_6, q_7, q_8, q_9, q_10, q_11, q_12, q_13, q_14, q_16, q_20, q_23, q_24, q_32, q_42, q_43, q_45, q_47, q_48, q_50, q_57, q_59, q_60, q_61, q_62, q_63, q_64, q_66, q_91, q_93, q_97, q_99, q_122, q_144, q_255, q_256, q_300, q_380, q_400, q_620, q_999, q_1000, q_4095, q_4096, q_9999, q_65536, q_99999, q_31, nI_add, pk_mul, nE, nL, nT, nM31, nShl, ib_nI, nI_clamp, bI_n0, bI_n1, bI_nar, uI_r, uI_l, uL_r, uL_i, uL_p, uA_r, uA_l, bV_some, bU_some, nar_n0, nar_n1, and_self, and_true, true_and, and_false, false_and, if_true, if_false, eq_self, Bool.false_eq_true, Bool.true_eq_false, not_true_eq_false, not_false_eq_true, ↓reduceIte, nlT, nlF, ntT, ntF, neT, neF, ieT, ieF, decide_true, decide_false, Bool.not_true, Bool.not_false, Bool.and_true, Bool.true_and, Bool.and_false, Bool.false_and, Bool.or_true, Bool.true_or, Bool.or_false, Bool.false_or, h.th, nDiv, e0]
    rcases x_trIn h hw hi with ⟨k1, k2⟩ | ⟨j, S1, k1, k2, k3, k4⟩
    · rw [k1] at hI
      exact Or.inr ⟨_, hI, k2⟩
    · rw [k1] at hI
      refine Or.inl ⟨S1, ?_, k3, ?_⟩
      · rw [k2, ← hI]
        rfl
      · unfold trT
        rw [← hI]
        exact k4
  · intro x hI
    rw [Nat.sub_self] at hI
    have hI' : none = tr1 A := hI
    show ∃ S', run 3 0 2 _ _ _ = _ ∧ _
    rw [s3_2]
    unfold trT
    rw [← hI']
    simp (disch := omega) only [s3_0, s3_1, s3_3, s3_4, s3_5, s3_8, s3_9, s3_12, s3_13, s3_14, s3_15, s3_16, s3_17, s3_18, s3_19, s3_21, s3_22, s3_23, s3_26, s3_27, s3_30, s3_31, s3_32, s3_33, s3_36, s3_39, s3_40, s3_41, s3_42, s3_43, s3_46, s3_49, s3_50, s3_51, s3_52, s3_53, s3_56, s3_57, s3_58, s3_61, s3_64, s3_67, s3_70, s3_71, q_0, q_1, q_2, q_3, q_4, q_5, q_6, q_7, q_8, q_9, q_10, q_11, q_12, q_13, q_14, q_16, q_20, q_23, q_24, q_32, q_42, q_43, q_45, q_47, q_48, q_50, q_57, q_59, q_60, q_61, q_62, q_63, q_64, q_66, q_91, q_93, q_97, q_99, q_122, q_144, q_255, q_256, q_300, q_380, q_400, q_620, q_999, q_1000, q_4095, q_4096, q_9999, q_65536, q_99999, q_31, nI_add, pk_mul, nE, nL, nT, nM31, nShl, ib_nI, nI_clamp, bI_n0, bI_n1, bI_nar, uI_r, uI_l, uL_r, uL_i, uL_p, uA_r, uA_l, bV_some, bU_some, nar_n0, nar_n1, and_self, and_true, true_and, and_false, false_and, if_true, if_false, eq_self, Bool.false_eq_true, Bool.true_eq_false, not_true_eq_false, not_false_eq_true, ↓reduceIte, nlT, nlF, ntT, ntF, neT, neF, ieT, ieF, decide_true, decide_false, Bool.not_true, Bool.not_false, Bool.and_true, Bool.true_and, Bool.and_false, Bool.false_and, Bool.or_true, Bool.true_or, Bool.or_false, Bool.false_or, h.th]
    exact ⟨_, rfl, Fr.rfl', h⟩
theorem m_trFin {S : Sto} {A : Tn} {t k u : Nat} (h : RepM S A) (hw : WF A) (ht : t < 100) (hk : k < 100) (hu : u < 100) : run 247 0 34 [vR 50 0, vI (nI 1), vI (nI t), vI (nI k), vI (nI u)] [] S = some (some (vI (nI 1)), S) := by
  have hT := hw.th
  have z1 : run 247 0 4 [vR 50 0, vI (nI 1), vI (nI (t + 1)), vI (nI (k + 1)), vI (nI u)] [] S = some (some (vI (nI 1)), S) := by
    rw [s247_4]
    by_cases c : t + 1 < A 0 1
    · simp (disch := omega) only [s247_0, s247_1, s247_2, s247_3, s247_5, s247_6, s247_9, s247_10, s247_11, s247_14, s247_15, s247_18, s247_19, s247_21, s247_22, s247_25, s247_26, s247_29, s247_30, s247_31, s247_32, s247_36, s247_37, s247_40, s247_41, s247_42, s247_45, s247_46, s247_49, s247_50, s247_51, s247_52, s247_54, s247_55, s247_58, s247_61, s247_62, s247_63, s247_64, s247_66, s247_67, s247_70, s247_73, s247_74, s247_77, s247_78, s247_79, s247_82, s247_85, s247_88, s247_91, s247_94, s247_97, s247_98, q_0, q_1, q_2, q_3, q_4, q_5, q_6, q_7, q_8, q_9, q_10, q_11, q_12, q_13, q_14, q_16, q_20, q_23, q_24, q_32, q_42, q_43, q_45, q_47, q_48, q_50, q_57, q_59, q_60, q_61, q_62, q_63, q_64, q_66, q_91, q_93, q_97, q_99, q_122, q_144, q_255, q_256, q_300, q_380, q_400, q_620, q_999, q_1000, q_4095, q_4096, q_9999, q_65536, q_99999, q_31, nI_add, pk_mul, nE, nL, nT, nM31, nShl, ib_nI, nI_clamp, bI_n0, bI_n1, bI_nar, uI_r, uI_l, uL_r, uL_i, uL_p, uA_r, uA_l, bV_some, bU_some, nar_n0, nar_n1, and_self, and_true, true_and, and_false, false_and, if_true, if_false, eq_self, Bool.false_eq_true, Bool.true_eq_false, not_true_eq_false, not_false_eq_true, ↓reduceIte, nlT, nlF, ntT, ntF, neT, neF, ieT, ieF, decide_true, decide_false, Bool.not_true, Bool.not_false, Bool.and_true, Bool.true_and, Bool.and_false, Bool.false_and, Bool.or_true, Bool.true_or, Bool.or_false, Bool.false_or, h.sc]
    · simp (disch := omega) only [s247_0, s247_1, s247_2, s247_3, s247_5, s247_6, s247_9, s247_10, s247_11, s247_14, s247_15, s247_18, s247_19, s247_21, s247_22, s247_25, s247_26, s247_29, s247_30, s247_31, s247_32, s247_36, s247_37, s247_40, s247_41, s247_42, s247_45, s247_46, s247_49, s247_50, s247_51, s247_52, s247_54, s247_55, s247_58, s247_61, s247_62, s247_63, s247_64, s247_66, s247_67, s247_70, s247_73, s247_74, s247_77, s247_78, s247_79, s247_82, s247_85, s247_88, s247_91, s247_94, s247_97, s247_98, q_0, q_1, q_2, q_3, q_4, q_5, q_6, q_7, q_8, q_9, q_10, q_11, q_12, q_13, q_14, q_16, q_20, q_23, q_24, q_32, q_42, q_43, q_45, q_47, q_48, q_50, q_57, q_59, q_60, q_61, q_62, q_63, q_64, q_66, q_91, q_93, q_97, q_99, q_122, q_144, q_255, q_256, q_300, q_380, q_400, q_620, q_999, q_1000, q_4095, q_4096, q_9999, q_65536, q_99999, q_31, nI_add, pk_mul, nE, nL, nT, nM31, nShl, ib_nI, nI_clamp, bI_n0, bI_n1, bI_nar, uI_r, uI_l, uL_r, uL_i, uL_p, uA_r, uA_l, bV_some, bU_some, nar_n0, nar_n1, and_self, and_true, true_and, and_false, false_and, if_true, if_false, eq_self, Bool.false_eq_true, Bool.true_eq_false, not_true_eq_false, not_false_eq_true, ↓reduceIte, nlT, nlF, ntT, ntF, neT, neF, ieT, ieF, decide_true, decide_false, Bool.not_true, Bool.not_false, Bool.and_true, Bool.true_and, Bool.and_false, Bool.false_and, Bool.or_true, Bool.true_or, Bool.or_false, Bool.false_or, h.sc]
  have z2 : run 247 0 20 [vR 50 0, vI (nI 1), vI (nI t), vI (nI (k + 1)), vI (nI u)] [] S = some (some (vI (nI 1)), S) := by
    rw [s247_20]
    by_cases c : k + 1 < 2
    · simp (disch := omega) only [s247_0, s247_1, s247_2, s247_3, s247_5, s247_6, s247_9, s247_10, s247_11, s247_14, s247_15, s247_18, s247_19, s247_21, s247_22, s247_25, s247_26, s247_29, s247_30, s247_31, s247_32, s247_36, s247_37, s247_40, s247_41, s247_42, s247_45, s247_46, s247_49, s247_50, s247_51, s247_52, s247_54, s247_55, s247_58, s247_61, s247_62, s247_63, s247_64, s247_66, s247_67, s247_70, s247_73, s247_74, s247_77, s247_78, s247_79, s247_82, s247_85, s247_88, s247_91, s247_94, s247_97, s247_98, q_0, q_1, q_2, q_3, q_4, q_5, q_6, q_7, q_8, q_9, q_10, q_11, q_12, q_13, q_14, q_16, q_20, q_23, q_24, q_32, q_42, q_43, q_45, q_47, q_48, q_50, q_57, q_59, q_60, q_61, q_62, q_63, q_64, q_66, q_91, q_93, q_97, q_99, q_122, q_144, q_255, q_256, q_300, q_380, q_400, q_620, q_999, q_1000, q_4095, q_4096, q_9999, q_65536, q_99999, q_31, nI_add, pk_mul, nE, nL, nT, nM31, nShl, ib_nI, nI_clamp, bI_n0, bI_n1, bI_nar, uI_r, uI_l, uL_r, uL_i, uL_p, uA_r, uA_l, bV_some, bU_some, nar_n0, nar_n1, and_self, and_true, true_and, and_false, false_and, if_true, if_false, eq_self, Bool.false_eq_true, Bool.true_eq_false, not_true_eq_false, not_false_eq_true, ↓reduceIte, nlT, nlF, ntT, ntF, neT, neF, ieT, ieF, decide_true, decide_false, Bool.not_true, Bool.not_false, Bool.and_true, Bool.true_and, Bool.and_false, Bool.false_and, Bool.or_true, Bool.true_or, Bool.or_false, Bool.false_or, h.sc]
      exact z1
    · simp (disch := omega) only [s247_0, s247_1, s247_2, s247_3, s247_5, s247_6, s247_9, s247_10, s247_11, s247_14, s247_15, s247_18, s247_19, s247_21, s247_22, s247_25, s247_26, s247_29, s247_30, s247_31, s247_32, s247_36, s247_37, s247_40, s247_41, s247_42, s247_45, s247_46, s247_49, s247_50, s247_51, s247_52, s247_54, s247_55, s247_58, s247_61, s247_62, s247_63, s247_64, s247_66, s247_67, s247_70, s247_73, s247_74, s247_77, s247_78, s247_79, s247_82, s247_85, s247_88, s247_91, s247_94, s247_97, s247_98, q_0, q_1, q_2, q_3, q_4, q_5, q_6, q_7, q_8, q_9, q_10, q_11, q_12, q_13, q_14, q_16, q_20, q_23, q_24, q_32, q_42, q_43, q_45, q_47, q_48, q_50, q_57, q_59, q_60, q_61, q_62, q_63, q_64, q_66, q_91, q_93, q_97, q_99, q_122, q_144, q_255, q_256, q_300, q_380, q_400, q_620, q_999, q_1000, q_4095, q_4096, q_9999, q_65536, q_99999, q_31, nI_add, pk_mul, nE, nL, nT, nM31, nShl, ib_nI, nI_clamp, bI_n0, bI_n1, bI_nar, uI_r, uI_l, uL_r, uL_i, uL_p, uA_r, uA_l, bV_some, bU_some, nar_n0, nar_n1, and_self, and_true, true_and, and_false, false_and, if_true, if_false, eq_self, Bool.false_eq_true, Bool.true_eq_false, not_true_eq_false, not_false_eq_true, ↓reduceIte, nlT, nlF, ntT, ntF, neT, neF, ieT, ieF, decide_true, decide_false, Bool.not_true, Bool.not_false, Bool.and_true, Bool.true_and, Bool.and_false, Bool.false_and, Bool.or_true, Bool.true_or, Bool.or_false, Bool.false_or, h.sc]
      exact z1
  rw [s247_34]
  by_cases c : u < A 0 1
  · simp (disch := omega) only [s247_0, s247_1, s247_2, s247_3, s247_5, s247_6, s247_9, s247_10, s247_11, s247_14, s247_15, s247_18, s247_19, s247_21, s247_22, s247_25, s247_26, s247_29, s247_30, s247_31, s247_32, s247_36, s247_37, s247_40, s247_41, s247_42, s247_45, s247_46, s247_49, s247_50, s247_51, s247_52, s247_54, s247_55, s247_58, s247_61, s247_62, s247_63, s247_64, s247_66, s247_67, s247_70, s247_73, s247_74, s247_77, s247_78, s247_79, s247_82, s247_85, s247_88, s247_91, s247_94, s247_97, s247_98, q_0, q_1, q_2, q_3, q_4, q_5, q_6, q_7, q_8, q_9, q_10, q_11, q_12, q_13, q_14, q_16, q_20, q_23, q_24, q_32, q_42, q_43, q_45, q_47, q_48, q_50, q_57, q_59, q_60, q_61, q_62, q_63, q_64, q_66, q_91, q_93, q_97, q_99, q_122, q_144, q_255, q_256, q_300, q_380, q_400, q_620, q_999, q_1000, q_4095, q_4096, q_9999, q_65536, q_99999, q_31, nI_add, pk_mul, nE, nL, nT, nM31, nShl, ib_nI, nI_clamp, bI_n0, bI_n1, bI_nar, uI_r, uI_l, uL_r, uL_i, uL_p, uA_r, uA_l, bV_some, bU_some, nar_n0, nar_n1, and_self, and_true, true_and, and_false, false_and, if_true, if_false, eq_self, Bool.false_eq_true, Bool.true_eq_false, not_true_eq_false, not_false_eq_true, ↓reduceIte, nlT, nlF, ntT, ntF, neT, neF, ieT, ieF, decide_true, decide_false, Bool.not_true, Bool.not_false, Bool.and_true, Bool.true_and, Bool.and_false, Bool.false_and, Bool.or_true, Bool.true_or, Bool.or_false, Bool.false_or, h.sc]
    exact z2
  · simp (disch := omega) only [s247_0, s247_1, s247_2, s247_3, s247_5, s247_6, s247_9, s247_10, s247_11, s247_14, s247_15, s247_18, s247_19, s247_21, s247_22, s247_25, s247_26, s247_29, s247_30, s247_31, s247_32, s247_36, s247_37, s247_40, s247_41, s247_42, s247_45, s247_46, s247_49, s247_50, s247_51, s247_52, s247_54, s247_55, s247_58, s247_61, s247_62, s247_63, s247_64, s247_66, s247_67, s247_70, s247_73, s247_74, s247_77, s247_78, s247_79, s247_82, s247_85, s247_88, s247_91, s247_94, s247_97, s247_98, q_0, q_1, q_2, q_3, q_4, q_5, q_6, q_7, q_8, q_9, q_10, q_11, q_12, q_13, q_14, q_16, q_20, q_23, q_24, q_32, q_42, q_43, q_45, q_47, q_48, q_50, q_57, q_59, q_60, q_61, q_62, q_63, q_64, q_66, q_91, q_93, q_97, q_99, q_122, q_144, q_255, q_256, q_300, q_380, q_400, q_620, q_999, q_1000, q_4095, q_4096, q_9999, q_65536, q_99999, q_31, nI_add, pk_mul, nE, nL, nT, nM31, nShl, ib_nI, nI_clamp, bI_n0, bI_n1, bI_nar, uI_r, uI_l, uL_r, uL_i, uL_p, uA_r, uA_l, bV_some, bU_some, nar_n0, nar_n1, and_self, and_true, true_and, and_false, false_and, if_true, if_false, eq_self, Bool.false_eq_true, Bool.true_eq_false, not_true_eq_false, not_false_eq_true, ↓reduceIte, nlT, nlF, ntT, ntF, neT, neF, ieT, ieF, decide_true, decide_false, Bool.not_true, Bool.not_false, Bool.and_true, Bool.true_and, Bool.and_false, Bool.false_and, Bool.or_true, Bool.true_or, Bool.or_false, Bool.false_or, h.sc]
    exact z2
theorem m_trIn {S : Sto} {A : Tn} {t k : Nat} (h : RepM S A) (hw : WF A) (ht : t < A 0 1) (hk : k < 2) : ∃ S', Fr (pL [58, 59]) S S' ∧ ((tjR A (2 * t + k) = none ∧ run 247 0 34 [vR 50 0, vI (nI 0), vI (nI t), vI (nI k), vI (nI (t + 1))] [] S = run 247 0 20 [vR 50 0, vI (nI 0), vI (nI t), vI (nI (k + 1)), vI (nI (A 0 1))] [] S' ∧ RepM S' A) ∨ ∃ j, tjR A (2 * t + k) = some j ∧ run 247 0 34 [vR 50 0, vI (nI 0), vI (nI t), vI (nI k), vI (nI (t + 1))] [] S = some (some (vI (nI 1)), S') ∧ RepM S' (swT A (2 * t + k) j)) := by
  have hT := hw.th
  have e0 : tjR A (2 * t + k) = tjF A (2 * t + k) (2 * A 0 1 - 2 * (t + 1)) (2 * (t + 1)) := by
    unfold tjR
    rw [show (2 * t + k) / 2 = t by omega, show 2 * t + 2 = 2 * (t + 1) by omega]
  refine upS (σ := Sto) (I := fun u S1 => t < u ∧ tjF A (2 * t + k) (2 * A 0 1 - 2 * u) (2 * u) = tjR A (2 * t + k) ∧ Fr (pL [58, 59]) S S1 ∧ RepM S1 A) (F := fun u S1 => run 247 0 34 [vR 50 0, vI (nI 0), vI (nI t), vI (nI k), vI (nI u)] [] S1) (Q := fun z => ∃ S', Fr (pL [58, 59]) S S' ∧ ((tjR A (2 * t + k) = none ∧ z = run 247 0 20 [vR 50 0, vI (nI 0), vI (nI t), vI (nI (k + 1)), vI (nI (A 0 1))] [] S' ∧ RepM S' A) ∨ ∃ j, tjR A (2 * t + k) = some j ∧ z = some (some (vI (nI 1)), S') ∧ RepM S' (swT A (2 * t + k) j))) (N := A 0 1) ?_ ?_ (t + 1) S (by omega) ⟨by omega, e0.symm, Fr.rfl', h⟩
  · intro u S1 hu hI
    obtain ⟨i0, i1, i2, i3⟩ := hI
    have em : 2 * A 0 1 - 2 * u = (2 * A 0 1 - 2 * (u + 1)) + 1 + 1 := by omega
    rw [em, tjF_s, tjF_s, show 2 * u + 1 + 1 = 2 * (u + 1) by omega] at i1
    obtain ⟨S2, a1, a2, a3⟩ := m_isTraded i3 hw (t := t) (f := k) (u := u) (g := 0) ht hk hu (by decide) (by omega)
    rw [Nat.add_zero] at a1 a3
    show (∃ S', _ ∧ ((_ ∧ run 247 0 34 _ _ _ = _ ∧ _) ∨ ∃ j, _ ∧ run 247 0 34 _ _ _ = _ ∧ _)) ∨ ∃ s', _ ∧ run 247 0 34 _ _ _ = run 247 0 34 _ _ _
    rw [s247_34]
    cases c1 : tdB A (2 * t + k) (2 * u) with
    | true =>
      rw [c1] at a1 a3 i1
      simp only [if_true] at a3 i1
      have w3 := swT_W hw (i := 2 * t + k) (j := 2 * u) (by omega) (by omega) (by unfold tdB at c1; simp only [Bool.and_eq_true] at c1; exact c1.2)
      refine Or.inl ⟨S2, i2.tr a2, Or.inr ⟨2 * u, i1.symm, ?_, a3⟩⟩
      simp (disch := omega) only [s247_0, s247_1, s247_2, s247_3, s247_5, s247_6, s247_9, s247_10, s247_11, s247_14, s247_15, s247_18, s247_19, s247_21, s247_22, s247_25, s247_26, s247_29, s247_30, s247_31, s247_32, s247_36, s247_37, s247_40, s247_41, s247_42, s247_45, s247_46, s247_49, s247_50, s247_51, s247_52, s247_54, s247_55, s247_58, s247_61, s247_62, s247_63, s247_64, s247_66, s247_67, s247_70, s247_73, s247_74, s247_77, s247_78, s247_79, s247_82, s247_85, s247_88, s247_91, s247_94, s247_97, s247_98, q_0, q_1, q_2, q_3, q_4, q_5, q_6, q_7, q_8, q_9, q_10, q_11, q_12, q_13, q_14, q_16, q_20, q_23, q_24, q_32, q_42, q_43, q_45, q_47, q_48, q_50, q_57, q_59, q_60, q_61, q_62, q_63, q_64, q_66, q_91, q_93, q_97, q_99, q_122, q_144, q_255, q_256, q_300, q_380, q_400, q_620, q_999, q_1000, q_4095, q_4096, q_9999, q_65536, q_99999, q_31, nI_add, pk_mul, nE, nL, nT, nM31, nShl, ib_nI, nI_clamp, bI_n0, bI_n1, bI_nar, uI_r, uI_l, uL_r, uL_i, uL_p, uA_r, uA_l, bV_some, bU_some, nar_n0, nar_n1, and_self, and_true, true_and, and_false, false_and, if_true, if_false, eq_self, Bool.false_eq_true, Bool.true_eq_false, not_true_eq_false, not_false_eq_true, ↓reduceIte, nlT, nlF, ntT, ntF, neT, neF, ieT, ieF, decide_true, decide_false, Bool.not_true, Bool.not_false, Bool.and_true, Bool.true_and, Bool.and_false, Bool.false_and, Bool.or_true, Bool.true_or, Bool.or_false, Bool.false_or, i3.sc, a1]
      exact m_trFin a3 w3 (by omega) (by omega) (by omega)
    | false =>
      rw [c1] at a1 a3 i1
      simp only [Bool.false_eq_true, if_false] at a3 i1
      obtain ⟨S3, b1, b2, b3⟩ := m_isTraded a3 hw (t := t) (f := k) (u := u) (g := 1) ht hk hu (by decide) (by omega)
      cases c2 : tdB A (2 * t + k) (2 * u + 1) with
      | true =>
        rw [c2] at b1 b3 i1
        simp only [if_true] at b3 i1
        have w3 := swT_W hw (i := 2 * t + k) (j := 2 * u + 1) (by omega) (by omega) (by unfold tdB at c2; simp only [Bool.and_eq_true] at c2; exact c2.2)
        refine Or.inl ⟨S3, (i2.tr a2).tr b2, Or.inr ⟨2 * u + 1, i1.symm, ?_, b3⟩⟩
        simp (disch := omega) only [s247_0, s247_1, s247_2, s247_3, s247_5, s247_6, s247_9, s247_10, s247_11, s247_14, s247_15, s247_18, s247_19, s247_21, s247_22, s247_25, s247_26, s247_29, s247_30, s247_31, s247_32, s247_36, s247_37, s247_40, s247_41, s247_42, s247_45, s247_46, s247_49, s247_50, s247_51, s247_52, s247_54, s247_55, s247_58, s247_61, s247_62, s247_63, s247_64, s247_66, s247_67, s247_70, s247_73, s247_74, s247_77, s247_78, s247_79, s247_82, s247_85, s247_88, s247_91, s247_94, s247_97, s247_98, q_0, q_1, q_2, q_3, q_4, q_5, q_6, q_7, q_8, q_9, q_10, q_11, q_12, q_13, q_14, q_16, q_20, q_23, q_24, q_32, q_42, q_43, q_45, q_47, q_48, q_50, q_57, q_59, q_60, q_61, q_62, q_63, q_64, q_66, q_91, q_93, q_97, q_99, q_122, q_144, q_255, q_256, q_300, q_380, q_400, q_620, q_999, q_1000, q_4095, q_4096, q_9999, q_65536, q_99999, q_31, nI_add, pk_mul, nE, nL, nT, nM31, nShl, ib_nI, nI_clamp, bI_n0, bI_n1, bI_nar, uI_r, uI_l, uL_r, uL_i, uL_p, uA_r, uA_l, bV_some, bU_some, nar_n0, nar_n1, and_self, and_true, true_and, and_false, false_and, if_true, if_false, eq_self, Bool.false_eq_true, Bool.true_eq_false, not_true_eq_false, not_false_eq_true, ↓reduceIte, nlT, nlF, ntT, ntF, neT, neF, ieT, ieF, decide_true, decide_false, Bool.not_true, Bool.not_false, Bool.and_true, Bool.true_and, Bool.and_false, Bool.false_and, Bool.or_true, Bool.true_or, Bool.or_false, Bool.false_or, i3.sc, a1, b1]
        exact m_trFin b3 w3 (by omega) (by omega) (by omega)
      | false =>
        rw [c2] at b1 b3 i1
        simp only [Bool.false_eq_true, if_false] at b3 i1
        refine Or.inr ⟨S3, ⟨by omega, i1, (i2.tr a2).tr b2, b3⟩, ?_⟩
        simp (disch := omega) only [s247_0, s247_1, s247_2, s247_3, s247_5, s247_6, s247_9, s247_10, s247_11, s247_14, s247_15, s247_18, s247_19, s247_21, s247_22, s247_25, s247_26, s247_29, s247_30, s247_31, s247_32, s247_36, s247_37, s247_40, s247_41, s247_42, s247_45, s247_46, s247_49, s247_50, s247_51, s247_52, s247_54, s247_55, s247_58, s247_61, s247_62, s247_63, s247_64, s247_66, s247_67, s247_70, s247_73, s247_74, s247_77, s247_78, s247_79, s247_82, s247_85, s247_88, s247_91, s247_94, s247_97, s247_98, q_0, q_1, q_2, q_3, q_4, q_5, q_6, q_7, q_8, q_9, q_10, q_11, q_12, q_13, q_14, q_16, q_20, q_23, q_24, q_32, q_42, q_43, q_45, q_47, q_48, q_50, q_57, q_59, q_60, q_61, q_62, q_63, q_64, q_66, q_91, q_93, q_97, q_99, q_122, q_144, q_255, q_256, q_300, q_380, q_400, q_620, q_999, q_1000, q_4095, q_4096, q_9999, q_65536, q_99999, q_31, nI_add, pk_mul, nE, nL, nT, nM31, nShl, ib_nI, nI_clamp, bI_n0, bI_n1, bI_nar, uI_r, uI_l, uL_r, uL_i, uL_p, uA_r, uA_l, bV_some, bU_some, nar_n0, nar_n1, and_self, and_true, true_and, and_false, false_and, if_true, if_false, eq_self, Bool.false_eq_true, Bool.true_eq_false, not_true_eq_false, not_false_eq_true, ↓reduceIte, nlT, nlF, ntT, ntF, neT, neF, ieT, ieF, decide_true, decide_false, Bool.not_true, Bool.not_false, Bool.and_true, Bool.true_and, Bool.and_false, Bool.false_and, Bool.or_true, Bool.true_or, Bool.or_false, Bool.false_or, i3.sc, a1, b1]
  · intro S1 hI
    obtain ⟨i0, i1, i2, i3⟩ := hI
    rw [Nat.sub_self] at i1
    show ∃ S', _ ∧ ((_ ∧ run 247 0 34 _ _ _ = _ ∧ _) ∨ _)
    rw [s247_34]
    refine ⟨S1, i2, Or.inl ⟨i1.symm, ?_, i3⟩⟩
    simp (disch := omega) only [s247_0, s247_1, s247_2, s247_3, s247_5, s247_6, s247_9, s247_10, s247_11, s247_14, s247_15, s247_18, s247_19, s247_21, s247_22, s247_25, s247_26, s247_29, s247_30, s247_31, s247_32, s247_36, s247_37, s247_40, s247_41, s247_42, s247_45, s247_46, s247_49, s247_50, s247_51, s247_52, s247_54, s247_55, s247_58, s247_61, s247_62, s247_63, s247_64, s247_66, s247_67, s247_70, s247_73, s247_74, s247_77, s247_78, s247_79, s247_82, s247_85, s247_88, s247_91, s247_94, s247_97, s247_98, q_0, q_1, q_2, q_3, q_4, q_5, q_6, q_7, q_8, q_9, q_10, q_11, q_12, q_13, q_14, q_16, q_20, q_23, q_24, q_32, q_42, q_43, q_45, q_47, q_48, q_50, q_57, q_59, q_60, q_61, q_62, q_63, q_64, q_66, q_91, q_93, q_97, q_99, q_122, q_144, q_255, q_256, q_300, q_380, q_400, q_620, q_999, q_1000, q_4095, q_4096, q_9999, q_65536, q_99999, q_31, nI_add, pk_mul, nE, nL, nT, nM31, nShl, ib_nI, nI_clamp, bI_n0, bI_n1, bI_nar, uI_r, uI_l, uL_r, uL_i, uL_p, uA_r, uA_l, bV_some, bU_some, nar_n0, nar_n1, and_self, and_true, true_and, and_false, false_and, if_true, if_false, eq_self, Bool.false_eq_true, Bool.true_eq_false, not_true_eq_false, not_false_eq_true, ↓reduceIte, nlT, nlF, ntT, ntF, neT, neF, ieT, ieF, decide_true, decide_false, Bool.not_true, Bool.not_false, Bool.and_true, Bool.true_and, Bool.and_false, Bool.false_and, Bool.or_true, Bool.true_or, Bool.or_false, Bool.false_or, i3.sc]
theorem m_tradesOnce {S : Sto} {A : Tn} (h : RepM S A) (hw : WF A) : ∃ S', call 247 0 [vR 50 0] S = some (some (vI (bI (tr1 A).isSome)), S') ∧ Fr (pL [58, 59]) S S' ∧ RepM S' (trT A) := by
  have hT := hw.th
  show ∃ S', run 247 0 0 [vR 50 0, vU, vU, vU, vU] [] S = _ ∧ _
  simp only [s247_0, s247_1, s247_2, s247_3]
  have key := upS (σ := (Sto × av) × av) (I := fun t s => tiF A (2 * A 0 1 - 2 * t) (2 * t) = tr1 A ∧ Fr (pL [58, 59]) S s.1.1 ∧ RepM s.1.1 A) (F := fun t s => run 247 0 4 [vR 50 0, vI (nI 0), vI (nI t), s.1.2, s.2] [] s.1.1) (Q := fun z => ∃ S', z = some (some (vI (bI (tr1 A).isSome)), S') ∧ Fr (pL [58, 59]) S S' ∧ RepM S' (trT A)) (N := A 0 1) ?_ ?_ 0 ((S, vU), vU) (by omega) ⟨rfl, Fr.rfl', h⟩
  · exact key
  · intro t s ht hI
    obtain ⟨⟨S1, x3⟩, x4⟩ := s
    obtain ⟨i1, i2, i3⟩ := hI
    simp only at i1 i2 i3
    have em : 2 * A 0 1 - 2 * t = (2 * A 0 1 - 2 * (t + 1)) + 1 + 1 := by omega
    rw [em, tiF_s, tiF_s, show 2 * t + 1 + 1 = 2 * (t + 1) by omega] at i1
    show (∃ S', run 247 0 4 [vR 50 0, vI (nI 0), vI (nI t), x3, x4] [] S1 = _ ∧ _) ∨ ∃ s', _ ∧ run 247 0 4 [vR 50 0, vI (nI 0), vI (nI t), x3, x4] [] S1 = _
    rw [s247_4]
    simp (disch := omega) only [s247_0, s247_1, s247_2, s247_3, s247_5, s247_6, s247_9, s247_10, s247_11, s247_14, s247_15, s247_18, s247_19, s247_21, s247_22, s247_25, s247_26, s247_29, s247_30, s247_31, s247_32, s247_36, s247_37, s247_40, s247_41, s247_42, s247_45, s247_46, s247_49, s247_50, s247_51, s247_52, s247_54, s247_55, s247_58, s247_61, s247_62, s247_63, s247_64, s247_66, s247_67, s247_70, s247_73, s247_74, s247_77, s247_78, s247_79, s247_82, s247_85, s247_88, s247_91, s247_94, s247_97, s247_98, q_0, q_1, q_2, q_3, q_4, q_5, q_6, q_7, q_8, q_9, q_10, q_11, q_12, q_13, q_14, q_16, q_20, q_23, q_24, q_32, q_42, q_43, q_45, q_47, q_48, q_50, q_57, q_59, q_60, q_61, q_62, q_63, q_64, q_66, q_91, q_93, q_97, q_99, q_122, q_144, q_255, q_256, q_300, q_380, q_400, q_620, q_999, q_1000, q_4095, q_4096, q_9999, q_65536, q_99999, q_31, nI_add, pk_mul, nE, nL, nT, nM31, nShl, ib_nI, nI_clamp, bI_n0, bI_n1, bI_nar, uI_r, uI_l, uL_r, uL_i, uL_p, uA_r, uA_l, bV_some, bU_some, nar_n0, nar_n1, and_self, and_true, true_and, and_false, false_and, if_true, if_false, eq_self, Bool.false_eq_true, Bool.true_eq_false, not_true_eq_false, not_false_eq_true, ↓reduceIte, nlT, nlF, ntT, ntF, neT, neF, ieT, ieF, decide_true, decide_false, Bool.not_true, Bool.not_false, Bool.and_true, Bool.true_and, Bool.and_false, Bool.false_and, Bool.or_true, Bool.true_or, Bool.or_false, Bool.false_or, i3.sc]
    rw [s247_20]
    simp (disch := omega) only [s247_0, s247_1, s247_2, s247_3, s247_5, s247_6, s247_9, s247_10, s247_11, s247_14, s247_15, s247_18, s247_19, s247_21, s247_22, s247_25, s247_26, s247_29, s247_30, s247_31, s247_32, s247_36, s247_37, s247_40, s247_41, s247_42, s247_45, s247_46, s247_49, s247_50, s247_51, s247_52, s247_54, s247_55, s247_58, s247_61, s247_62, s247_63, s247_64, s247_66, s247_67, s247_70, s247_73, s247_74, s247_77, s247_78, s247_79, s247_82, s247_85, s247_88, s247_91, s247_94, s247_97, s247_98, q_0, q_1, q_2, q_3, q_4, q_5, q_6, q_7, q_8, q_9, q_10, q_11, q_12, q_13, q_14, q_16, q_20, q_23, q_24, q_32, q_42, q_43, q_45, q_47, q_48, q_50, q_57, q_59, q_60, q_61, q_62, q_63, q_64, q_66, q_91, q_93, q_97, q_99, q_122, q_144, q_255, q_256, q_300, q_380, q_400, q_620, q_999, q_1000, q_4095, q_4096, q_9999, q_65536, q_99999, q_31, nI_add, pk_mul, nE, nL, nT, nM31, nShl, ib_nI, nI_clamp, bI_n0, bI_n1, bI_nar, uI_r, uI_l, uL_r, uL_i, uL_p, uA_r, uA_l, bV_some, bU_some, nar_n0, nar_n1, and_self, and_true, true_and, and_false, false_and, if_true, if_false, eq_self, Bool.false_eq_true, Bool.true_eq_false, not_true_eq_false, not_false_eq_true, ↓reduceIte, nlT, nlF, ntT, ntF, neT, neF, ieT, ieF, decide_true, decide_false, Bool.not_true, Bool.not_false, Bool.and_true, Bool.true_and, Bool.and_false, Bool.false_and, Bool.or_true, Bool.true_or, Bool.or_false, Bool.false_or, i3.sc]
    obtain ⟨S2, a0, ⟨a1, a2, a3⟩ | ⟨j, a1, a2, a3⟩⟩ := m_trIn i3 hw ht (k := 0) (by decide)
    · rw [Nat.add_zero] at a1
      rw [a1] at i1
      simp only at i1
      rw [a2, s247_20]
      simp (disch := omega) only [s247_0, s247_1, s247_2, s247_3, s247_5, s247_6, s247_9, s247_10, s247_11, s247_14, s247_15, s247_18, s247_19, s247_21, s247_22, s247_25, s247_26, s247_29, s247_30, s247_31, s247_32, s247_36, s247_37, s247_40, s247_41, s247_42, s247_45, s247_46, s247_49, s247_50, s247_51, s247_52, s247_54, s247_55, s247_58, s247_61, s247_62, s247_63, s247_64, s247_66, s247_67, s247_70, s247_73, s247_74, s247_77, s247_78, s247_79, s247_82, s247_85, s247_88, s247_91, s247_94, s247_97, s247_98, q_0, q_1, q_2, q_3, q_4, q_5, q_6, q_7, q_8, q_9, q_10, q_11, q_12, q_13, q_14, q_16, q_20, q_23, q_24, q_32, q_42, q_43, q_45, q_47, q_48, q_50, q_57, q_59, q_60, q_61, q_62, q_63, q_64, q_66, q_91, q_93, q_97, q_99, q_122, q_144, q_255, q_256, q_300, q_380, q_400, q_620, q_999, q_1000, q_4095, q_4096, q_9999, q_65536, q_99999, q_31, nI_add, pk_mul, nE, nL, nT, nM31, nShl, ib_nI, nI_clamp, bI_n0, bI_n1, bI_nar, uI_r, uI_l, uL_r, uL_i, uL_p, uA_r, uA_l, bV_some, bU_some, nar_n0, nar_n1, and_self, and_true, true_and, and_false, false_and, if_true, if_false, eq_self, Bool.false_eq_true, Bool.true_eq_false, not_true_eq_false, not_false_eq_true, ↓reduceIte, nlT, nlF, ntT, ntF, neT, neF, ieT, ieF, decide_true, decide_false, Bool.not_true, Bool.not_false, Bool.and_true, Bool.true_and, Bool.and_false, Bool.false_and, Bool.or_true, Bool.true_or, Bool.or_false, Bool.false_or, i3.sc]
      obtain ⟨S3, b0, ⟨b1, b2, b3⟩ | ⟨j, b1, b2, b3⟩⟩ := m_trIn a3 hw ht (k := 1) (by decide)
      · rw [b1] at i1
        simp only at i1
        refine Or.inr ⟨((S3, vI (nI 2)), vI (nI (A 0 1))), ⟨i1, (i2.tr a0).tr b0, b3⟩, ?_⟩
        rw [b2, s247_20]
        simp (disch := omega) only [s247_0, s247_1, s247_2, s247_3, s247_5, s247_6, s247_9, s247_10, s247_11, s247_14, s247_15, s247_18, s247_19, s247_21, s247_22, s247_25, s247_26, s247_29, s247_30, s247_31, s247_32, s247_36, s247_37, s247_40, s247_41, s247_42, s247_45, s247_46, s247_49, s247_50, s247_51, s247_52, s247_54, s247_55, s247_58, s247_61, s247_62, s247_63, s247_64, s247_66, s247_67, s247_70, s247_73, s247_74, s247_77, s247_78, s247_79, s247_82, s247_85, s247_88, s247_91, s247_94, s247_97, s247_98, q_0, q_1, q_2, q_3, q_4, q_5, q_6, q_7, q_8, q_9, q_10, q_11, q_12, q_13, q_14, q_16, q_20, q_23, q_24, q_32, q_42, q_43, q_45, q_47, q_48, q_50, q_57, q_59, q_60, q_61, q_62, q_63, q_64, q_66, q_91, q_93, q_97, q_99, q_122, q_144, q_255, q_256, q_300, q_380, q_400, q_620, q_999, q_1000, q_4095, q_4096, q_9999, q_65536, q_99999, q_31, nI_add, pk_mul, nE, nL, nT, nM31, nShl, ib_nI, nI_clamp, bI_n0, bI_n1, bI_nar, uI_r, uI_l, uL_r, uL_i, uL_p, uA_r, uA_l, bV_some, bU_some, nar_n0, nar_n1, and_self, and_true, true_and, and_false, false_and, if_true, if_false, eq_self, Bool.false_eq_true, Bool.true_eq_false, not_true_eq_false, not_false_eq_true, ↓reduceIte, nlT, nlF, ntT, ntF, neT, neF, ieT, ieF, decide_true, decide_false, Bool.not_true, Bool.not_false, Bool.and_true, Bool.true_and, Bool.and_false, Bool.false_and, Bool.or_true, Bool.true_or, Bool.or_false, Bool.false_or, i3.sc]
      · rw [b1] at i1
        simp only at i1
        refine Or.inl ⟨S3, ?_, (i2.tr a0).tr b0, ?_⟩
        · rw [b2, ← i1]
          rfl
        · unfold trT
          rw [← i1]
          exact b3
    · rw [Nat.add_zero] at a1 a3
      rw [a1] at i1
      simp only at i1
      refine Or.inl ⟨S2, ?_, i2.tr a0, ?_⟩
      · rw [a2, ← i1]
        rfl
      · unfold trT
        rw [← i1]
        exact a3
  · intro s hI
    obtain ⟨⟨S1, x3⟩, x4⟩ := s
    obtain ⟨i1, i2, i3⟩ := hI
    simp only [Nat.sub_self] at i1 i2 i3
    have hI' : none = tr1 A := i1
    show ∃ S', run 247 0 4 [vR 50 0, vI (nI 0), vI (nI (A 0 1)), x3, x4] [] S1 = _ ∧ _
    rw [s247_4]
    unfold trT
    rw [← hI']
    simp (disch := omega) only [s247_0, s247_1, s247_2, s247_3, s247_5, s247_6, s247_9, s247_10, s247_11, s247_14, s247_15, s247_18, s247_19, s247_21, s247_22, s247_25, s247_26, s247_29, s247_30, s247_31, s247_32, s247_36, s247_37, s247_40, s247_41, s247_42, s247_45, s247_46, s247_49, s247_50, s247_51, s247_52, s247_54, s247_55, s247_58, s247_61, s247_62, s247_63, s247_64, s247_66, s247_67, s247_70, s247_73, s247_74, s247_77, s247_78, s247_79, s247_82, s247_85, s247_88, s247_91, s247_94, s247_97, s247_98, q_0, q_1, q_2, q_3, q_4, q_5, q_6, q_7, q_8, q_9, q_10, q_11, q_12, q_13, q_14, q_16, q_20, q_23, q_24, q_32, q_42, q_43, q_45, q_47, q_48, q_50, q_57, q_59, q_60, q_61, q_62, q_63, q_64, q_66, q_91, q_93, q_97, q_99, q_122, q_144, q_255, q_256, q_300, q_380, q_400, q_620, q_999, q_1000, q_4095, q_4096, q_9999, q_65536, q_99999, q_31, nI_add, pk_mul, nE, nL, nT, nM31, nShl, ib_nI, nI_clamp, bI_n0, bI_n1, bI_nar, uI_r, uI_l, uL_r, uL_i, uL_p, uA_r, uA_l, bV_some, bU_some, nar_n0, nar_n1, and_self, and_true, true_and, and_false, false_and, if_true, if_false, eq_self, Bool.false_eq_true, Bool.true_eq_false, not_true_eq_false, not_false_eq_true, ↓reduceIte, nlT, nlF, ntT, ntF, neT, neF, ieT, ieF, decide_true, decide_false, Bool.not_true, Bool.not_false, Bool.and_true, Bool.true_and, Bool.and_false, Bool.false_and, Bool.or_true, Bool.true_or, Bool.or_false, Bool.false_or, i3.sc]
    exact ⟨_, rfl, i2, i3⟩
def tsF : Nat → Nat → Tn → Nat × Tn
  | 0, n, A => (n, A)
  | m + 1, n, A => if (tr1 A).isSome = true then tsF m (n + 1) (trT A) else (n, trT A)
theorem tsF_s (m n : Nat) (A : Tn) : tsF (m + 1) n A = if (tr1 A).isSome = true then tsF m (n + 1) (trT A) else (n, trT A) := rfl
theorem tsF_W : ∀ {m n : Nat} {A : Tn}, WF A → WF (tsF m n A).2
  | 0, _, _, h => h
  | m + 1, n, A, h => by
    rw [tsF_s]
    split
    · exact tsF_W (trT_W h)
    · exact trT_W h
def o_trades (A : Tn) : Int32 × Tn := (nI (tsF 50 0 A).1, (tsF 50 0 A).2)
theorem c_trades {S : Sto} {A : Tn} (h : RepC S 0 A) (hw : WF A) : ∃ S1, call 127 0 [vR 0 0] S = some (some (vI (o_trades A).1), S1) ∧ FC S S1 ∧ RepC S1 0 (o_trades A).2 := by
  have x2 : ∃ S1, call 2 0 [vR 41 0, vR 1 0] S = some (some (vI (o_trades A).1), S1) ∧ Fr (pT 0) S S1 ∧ RepC S1 0 (o_trades A).2 := by
    show ∃ S1, run 2 0 0 [vR 41 0, vR 1 0, vU] [] S = _ ∧ _
    simp only [s2_0, s2_1]
    have key := upS (σ := Sto × Tn) (I := fun n s => tsF (50 - n) n s.2 = tsF 50 0 A ∧ Fr (pT 0) S s.1 ∧ RepC s.1 0 s.2 ∧ WF s.2) (F := fun n s => run 2 0 2 [vR 41 0, vR 1 0, vI (nI n)] [] s.1) (Q := fun z => ∃ S1, z = some (some (vI (o_trades A).1), S1) ∧ Fr (pT 0) S S1 ∧ RepC S1 0 (o_trades A).2) (N := 50) ?_ ?_ 0 (S, A) (by omega) ⟨rfl, Fr.rfl', h, hw⟩
    · exact key
    · intro n s hn hI
      obtain ⟨S1, B⟩ := s
      obtain ⟨i1, i2, i3, i4⟩ := hI
      simp only at i1 i2 i3 i4
      have em : 50 - n = (50 - (n + 1)) + 1 := by omega
      rw [em, tsF_s] at i1
      obtain ⟨S2, a1, a2, a3⟩ := x_tradeOnce i3 i4
      show (∃ S', run 2 0 2 _ _ _ = _ ∧ _) ∨ ∃ s', _ ∧ run 2 0 2 _ _ _ = run 2 0 2 _ _ _
      rw [s2_2]
      cases c : (tr1 B).isSome with
      | true =>
        rw [c] at a1 i1
        simp only [if_true] at i1
        refine Or.inr ⟨(S2, trT B), ⟨i1, i2.tr a2, a3, trT_W i4⟩, ?_⟩
        simp (disch := omega) only [s2_0, s2_1, s2_3, s2_5, s2_8, s2_9, s2_10, s2_13, s2_16, s2_19, s2_22, s2_23, q_0, q_1, q_2, q_3, q_4, q_5, q_6, q_7, q_8, q_9, q_10, q_11, q_12, q_13, q_14, q_16, q_20, q_23, q_24, q_32, q_42, q_43, q_45, q_47, q_48, q_50, q_57, q_59, q_60, q_61, q_62, q_63, q_64, q_66, q_91, q_93, q_97, q_99, q_122, q_144, q_255, q_256, q_300, q_380, q_400, q_620, q_999, q_1000, q_4095, q_4096, q_9999, q_65536, q_99999, q_31, nI_add, pk_mul, nE, nL, nT, nM31, nShl, ib_nI, nI_clamp, bI_n0, bI_n1, bI_nar, uI_r, uI_l, uL_r, uL_i, uL_p, uA_r, uA_l, bV_some, bU_some, nar_n0, nar_n1, and_self, and_true, true_and, and_false, false_and, if_true, if_false, eq_self, Bool.false_eq_true, Bool.true_eq_false, not_true_eq_false, not_false_eq_true, ↓reduceIte, nlT, nlF, ntT, ntF, neT, neF, ieT, ieF, decide_true, decide_false, Bool.not_true, Bool.not_false, Bool.and_true, Bool.true_and, Bool.and_false, Bool.false_and, Bool.or_true, Bool.true_or, Bool.or_false, Bool.false_or, a1]
      | false =>
        rw [c] at a1 i1
        simp only [Bool.false_eq_true, if_false] at i1
        refine Or.inl ?_
        unfold o_trades
        rw [← i1]
        simp (disch := omega) only [s2_0, s2_1, s2_3, s2_5, s2_8, s2_9, s2_10, s2_13, s2_16, s2_19, s2_22, s2_23, q_0, q_1, q_2, q_3, q_4, q_5, q_6, q_7, q_8, q_9, q_10, q_11, q_12, q_13, q_14, q_16, q_20, q_23, q_24, q_32, q_42, q_43, q_45, q_47, q_48, q_50, q_57, q_59, q_60, q_61, q_62, q_63, q_64, q_66, q_91, q_93, q_97, q_99, q_122, q_144, q_255, q_256, q_300, q_380, q_400, q_620, q_999, q_1000, q_4095, q_4096, q_9999, q_65536, q_99999, q_31, nI_add, pk_mul, nE, nL, nT, nM31, nShl, ib_nI, nI_clamp, bI_n0, bI_n1, bI_nar, uI_r, uI_l, uL_r, uL_i, uL_p, uA_r, uA_l, bV_some, bU_some, nar_n0, nar_n1, and_self, and_true, true_and, and_false, false_and, if_true, if_false, eq_self, Bool.false_eq_true, Bool.true_eq_false, not_true_eq_false, not_false_eq_true, ↓reduceIte, nlT, nlF, ntT, ntF, neT, neF, ieT, ieF, decide_true, decide_false, Bool.not_true, Bool.not_false, Bool.and_true, Bool.true_and, Bool.and_false, Bool.false_and, Bool.or_true, Bool.true_or, Bool.or_false, Bool.false_or, a1]
        exact ⟨_, rfl, i2.tr a2, a3⟩
    · intro s hI
      obtain ⟨S1, B⟩ := s
      obtain ⟨i1, i2, i3, i4⟩ := hI
      simp only [Nat.sub_self] at i1 i2 i3 i4
      have i1' : (50, B) = tsF 50 0 A := i1
      show ∃ S', run 2 0 2 [vR 41 0, vR 1 0, vI (nI 50)] [] S1 = _ ∧ _
      rw [s2_2]
      unfold o_trades
      rw [← i1']
      simp (disch := omega) only [s2_0, s2_1, s2_3, s2_5, s2_8, s2_9, s2_10, s2_13, s2_16, s2_19, s2_22, s2_23, q_0, q_1, q_2, q_3, q_4, q_5, q_6, q_7, q_8, q_9, q_10, q_11, q_12, q_13, q_14, q_16, q_20, q_23, q_24, q_32, q_42, q_43, q_45, q_47, q_48, q_50, q_57, q_59, q_60, q_61, q_62, q_63, q_64, q_66, q_91, q_93, q_97, q_99, q_122, q_144, q_255, q_256, q_300, q_380, q_400, q_620, q_999, q_1000, q_4095, q_4096, q_9999, q_65536, q_99999, q_31, nI_add, pk_mul, nE, nL, nT, nM31, nShl, ib_nI, nI_clamp, bI_n0, bI_n1, bI_nar, uI_r, uI_l, uL_r, uL_i, uL_p, uA_r, uA_l, bV_some, bU_some, nar_n0, nar_n1, and_self, and_true, true_and, and_false, false_and, if_true, if_false, eq_self, Bool.false_eq_true, Bool.true_eq_false, not_true_eq_false, not_false_eq_true, ↓reduceIte, nlT, nlF, ntT, ntF, neT, neF, ieT, ieF, decide_true, decide_false, Bool.not_true, Bool.not_false, Bool.and_true, Bool.true_and, Bool.and_false, Bool.false_and, Bool.or_true, Bool.true_or, Bool.or_false, Bool.false_or]
      exact ⟨_, rfl, i2, i3⟩
  obtain ⟨S1, a1, a2, a3⟩ := x2
  show ∃ S1, run 127 0 0 [vR 0 0] [] S = _ ∧ _
  simp (disch := omega) only [s127_0, s127_1, s127_4, s127_5, s127_8, s127_11, q_0, q_1, q_2, q_3, q_4, q_5, q_6, q_7, q_8, q_9, q_10, q_11, q_12, q_13, q_14, q_16, q_20, q_23, q_24, q_32, q_42, q_43, q_45, q_47, q_48, q_50, q_57, q_59, q_60, q_61, q_62, q_63, q_64, q_66, q_91, q_93, q_97, q_99, q_122, q_144, q_255, q_256, q_300, q_380, q_400, q_620, q_999, q_1000, q_4095, q_4096, q_9999, q_65536, q_99999, q_31, nI_add, pk_mul, nE, nL, nT, nM31, nShl, ib_nI, nI_clamp, bI_n0, bI_n1, bI_nar, uI_r, uI_l, uL_r, uL_i, uL_p, uA_r, uA_l, bV_some, bU_some, nar_n0, nar_n1, and_self, and_true, true_and, and_false, false_and, if_true, if_false, eq_self, Bool.false_eq_true, Bool.true_eq_false, not_true_eq_false, not_false_eq_true, ↓reduceIte, nlT, nlF, ntT, ntF, neT, neF, ieT, ieF, decide_true, decide_false, Bool.not_true, Bool.not_false, Bool.and_true, Bool.true_and, Bool.and_false, Bool.false_and, Bool.or_true, Bool.true_or, Bool.or_false, Bool.false_or, a1]
  exact ⟨_, rfl, FC.pt (by decide) a2, a3⟩
theorem r_trades {S : Sto} {A : Tn} (h : RepM S A) (hw : WF A) : ∃ S1, call 246 0 [vR 50 0] S = some (some (vI (o_trades A).1), S1) ∧ FM S S1 ∧ RepM S1 (o_trades A).2 := by
  show ∃ S1, run 246 0 0 [vR 50 0, vU] [] S = _ ∧ _
  simp only [s246_0, s246_1]
  have key := upS (σ := Sto × Tn) (I := fun n s => tsF (50 - n) n s.2 = tsF 50 0 A ∧ Fr (pL [58, 59]) S s.1 ∧ RepM s.1 s.2 ∧ WF s.2) (F := fun n s => run 246 0 2 [vR 50 0, vI (nI n)] [] s.1) (Q := fun z => ∃ S1, z = some (some (vI (o_trades A).1), S1) ∧ FM S S1 ∧ RepM S1 (o_trades A).2) (N := 50) ?_ ?_ 0 (S, A) (by omega) ⟨rfl, Fr.rfl', h, hw⟩
  · exact key
  · intro n s hn hI
    obtain ⟨S1, B⟩ := s
    obtain ⟨i1, i2, i3, i4⟩ := hI
    simp only at i1 i2 i3 i4
    have em : 50 - n = (50 - (n + 1)) + 1 := by omega
    rw [em, tsF_s] at i1
    obtain ⟨S2, a1, a2, a3⟩ := m_tradesOnce i3 i4
    show (∃ S', run 246 0 2 _ _ _ = _ ∧ _) ∨ ∃ s', _ ∧ run 246 0 2 _ _ _ = run 246 0 2 _ _ _
    rw [s246_2]
    cases c : (tr1 B).isSome with
    | true =>
      rw [c] at a1 i1
      simp only [if_true] at i1
      refine Or.inr ⟨(S2, trT B), ⟨i1, i2.tr a2, a3, trT_W i4⟩, ?_⟩
      simp (disch := omega) only [s246_0, s246_1, s246_3, s246_5, s246_8, s246_9, s246_12, s246_15, s246_18, s246_21, s246_22, q_0, q_1, q_2, q_3, q_4, q_5, q_6, q_7, q_8, q_9, q_10, q_11, q_12, q_13, q_14, q_16, q_20, q_23, q_24, q_32, q_42, q_43, q_45, q_47, q_48, q_50, q_57, q_59, q_60, q_61, q_62, q_63, q_64, q_66, q_91, q_93, q_97, q_99, q_122, q_144, q_255, q_256, q_300, q_380, q_400, q_620, q_999, q_1000, q_4095, q_4096, q_9999, q_65536, q_99999, q_31, nI_add, pk_mul, nE, nL, nT, nM31, nShl, ib_nI, nI_clamp, bI_n0, bI_n1, bI_nar, uI_r, uI_l, uL_r, uL_i, uL_p, uA_r, uA_l, bV_some, bU_some, nar_n0, nar_n1, and_self, and_true, true_and, and_false, false_and, if_true, if_false, eq_self, Bool.false_eq_true, Bool.true_eq_false, not_true_eq_false, not_false_eq_true, ↓reduceIte, nlT, nlF, ntT, ntF, neT, neF, ieT, ieF, decide_true, decide_false, Bool.not_true, Bool.not_false, Bool.and_true, Bool.true_and, Bool.and_false, Bool.false_and, Bool.or_true, Bool.true_or, Bool.or_false, Bool.false_or, a1]
    | false =>
      rw [c] at a1 i1
      simp only [Bool.false_eq_true, if_false] at i1
      refine Or.inl ?_
      unfold o_trades
      rw [← i1]
      simp (disch := omega) only [s246_0, s246_1, s246_3, s246_5, s246_8, s246_9, s246_12, s246_15, s246_18, s246_21, s246_22, q_0, q_1, q_2, q_3, q_4, q_5, q_6, q_7, q_8, q_9, q_10, q_11, q_12, q_13, q_14, q_16, q_20, q_23, q_24, q_32, q_42, q_43, q_45, q_47, q_48, q_50, q_57, q_59, q_60, q_61, q_62, q_63, q_64, q_66, q_91, q_93, q_97, q_99, q_122, q_144, q_255, q_256, q_300, q_380, q_400, q_620, q_999, q_1000, q_4095, q_4096, q_9999, q_65536, q_99999, q_31, nI_add, pk_mul, nE, nL, nT, nM31, nShl, ib_nI, nI_clamp, bI_n0, bI_n1, bI_nar, uI_r, uI_l, uL_r, uL_i, uL_p, uA_r, uA_l, bV_some, bU_some, nar_n0, nar_n1, and_self, and_true, true_and, and_false, false_and, if_true, if_false, eq_self, Bool.false_eq_true, Bool.true_eq_false, not_true_eq_false, not_false_eq_true, ↓reduceIte, nlT, nlF, ntT, ntF, neT, neF, ieT, ieF, decide_true, decide_false, Bool.not_true, Bool.not_false, Bool.and_true, Bool.true_and, Bool.and_false, Bool.false_and, Bool.or_true, Bool.true_or, Bool.or_false, Bool.false_or, a1]
      exact ⟨_, rfl, FM.pl (i2.tr a2) (by decide), a3⟩
  · intro s hI
    obtain ⟨S1, B⟩ := s
    obtain ⟨i1, i2, i3, i4⟩ := hI
    simp only [Nat.sub_self] at i1 i2 i3 i4
    have i1' : (50, B) = tsF 50 0 A := i1
    show ∃ S', run 246 0 2 [vR 50 0, vI (nI 50)] [] S1 = _ ∧ _
    rw [s246_2]
    unfold o_trades
    rw [← i1']
    simp (disch := omega) only [s246_0, s246_1, s246_3, s246_5, s246_8, s246_9, s246_12, s246_15, s246_18, s246_21, s246_22, q_0, q_1, q_2, q_3, q_4, q_5, q_6, q_7, q_8, q_9, q_10, q_11, q_12, q_13, q_14, q_16, q_20, q_23, q_24, q_32, q_42, q_43, q_45, q_47, q_48, q_50, q_57, q_59, q_60, q_61, q_62, q_63, q_64, q_66, q_91, q_93, q_97, q_99, q_122, q_144, q_255, q_256, q_300, q_380, q_400, q_620, q_999, q_1000, q_4095, q_4096, q_9999, q_65536, q_99999, q_31, nI_add, pk_mul, nE, nL, nT, nM31, nShl, ib_nI, nI_clamp, bI_n0, bI_n1, bI_nar, uI_r, uI_l, uL_r, uL_i, uL_p, uA_r, uA_l, bV_some, bU_some, nar_n0, nar_n1, and_self, and_true, true_and, and_false, false_and, if_true, if_false, eq_self, Bool.false_eq_true, Bool.true_eq_false, not_true_eq_false, not_false_eq_true, ↓reduceIte, nlT, nlF, ntT, ntF, neT, neF, ieT, ieF, decide_true, decide_false, Bool.not_true, Bool.not_false, Bool.and_true, Bool.true_and, Bool.and_false, Bool.false_and, Bool.or_true, Bool.true_or, Bool.or_false, Bool.false_or]
    exact ⟨_, rfl, FM.pl i2 (by decide), i3⟩
