/-! who takes -/
def oV (x : Option Nat) : Int32 := match x with
  | none => -nI 1
  | some p => nI p
theorem drop_c {l : List Nat} {i : Nat} (hi : i < l.length) : l.drop i = l.getD i 0 :: l.drop (i + 1) := by
  rw [List.drop_eq_getElem_cons hi]
  simp [hi]
def fiP (B : Tn) (z : Int32) (p : Nat) : Bool := B 2 p == 1 && !decide (nI p = z)
theorem x_firstIn {S : Sto} {q : Nat} {B : Tn} {l : List Nat} (h : RepC S q B) (hl : LnC S l) (hw : LW l) (z : Int32) : call 7 0 [vR 41 0, vR 1 q, vI z] S = some (some (vI (oV (l.find? (fiP B z)))), S) := by
  have hle := hw.le
  have f2 := livB_lt B
  show run 7 0 0 [vR 41 0, vR 1 q, vI z, vU] [] S = _
  simp only [s7_0, s7_1]
  refine upS (σ := Unit) (I := fun i _ => (l.drop i).find? (fiP B z) = l.find? (fiP B z)) (F := fun i _ => run 7 0 2 [vR 41 0, vR 1 q, vI z, vI (nI i)] [] S) (Q := fun x => x = some (some (vI (oV (l.find? (fiP B z)))), S)) (N := l.length) ?_ ?_ 0 () (by omega) rfl
  · intro i _ hi hI
    rw [drop_c hi, List.find?_cons] at hI
    have r1 := hl.1
    have r2 := hl.2 i hi
    have hm : l.getD i 0 < 12 := by
      have : l.getD i 0 = l[i] := by simp [hi]
      rw [this]
      exact hw.1 _ (List.getElem_mem hi)
    generalize l.getD i 0 = p at hI r2 hm
    show (run 7 0 2 _ _ _ = _) ∨ ∃ s', _ ∧ run 7 0 2 _ _ _ = run 7 0 2 _ _ _
    rw [s7_2]
    unfold fiP at hI
    cases c1 : (B 2 p == 1) with
    | false =>
      rw [c1, Bool.false_and] at hI
      simp only at hI
      refine Or.inr ⟨(), hI, ?_⟩
      simp (disch := omega) only [s7_0, s7_1, s7_3, s7_4, s7_7, s7_10, s7_11, s7_14, s7_15, s7_18, s7_19, s7_20, s7_23, s7_26, s7_27, s7_30, s7_31, s7_32, s7_33, s7_36, s7_37, s7_40, s7_41, s7_42, s7_43, s7_46, s7_49, s7_50, q_0, q_1, q_2, q_3, q_4, q_5, q_6, q_7, q_8, q_9, q_10, q_11, q_12, q_13, q_14, q_16, q_20, q_23, q_24, q_32, q_42, q_43, q_45, q_47, q_48, q_50, q_57, q_59, q_60, q_61, q_62, q_63, q_64, q_66, q_91, q_93, q_97, q_99, q_122, q_144, q_255, q_256, q_300, q_380, q_400, q_620, q_999, q_1000, q_4095, q_4096, q_9999, q_65536, q_99999, q_31, nI_add, pk_mul, nE, nL, nT, nM31, nShl, ib_nI, nI_clamp, bI_n0, bI_n1, bI_nar, uI_r, uI_l, uL_r, uL_i, uL_p, uA_r, uA_l, bV_some, bU_some, nar_n0, nar_n1, and_self, and_true, true_and, and_false, false_and, if_true, if_false, eq_self, Bool.false_eq_true, Bool.true_eq_false, not_true_eq_false, not_false_eq_true, ↓reduceIte, nlT, nlF, ntT, ntF, neT, neF, ieT, ieF, decide_true, decide_false, Bool.not_true, Bool.not_false, Bool.and_true, Bool.true_and, Bool.and_false, Bool.false_and, Bool.or_true, Bool.true_or, Bool.or_false, Bool.false_or, r1, r2, h.lvb, x_has, livB_bit, c1]
    | true =>
      by_cases c2 : nI p = z
      · rw [c1, decide_eq_true c2] at hI
        simp only [Bool.not_true, Bool.and_false] at hI
        refine Or.inr ⟨(), hI, ?_⟩
        subst c2
        simp (disch := omega) only [s7_0, s7_1, s7_3, s7_4, s7_7, s7_10, s7_11, s7_14, s7_15, s7_18, s7_19, s7_20, s7_23, s7_26, s7_27, s7_30, s7_31, s7_32, s7_33, s7_36, s7_37, s7_40, s7_41, s7_42, s7_43, s7_46, s7_49, s7_50, q_0, q_1, q_2, q_3, q_4, q_5, q_6, q_7, q_8, q_9, q_10, q_11, q_12, q_13, q_14, q_16, q_20, q_23, q_24, q_32, q_42, q_43, q_45, q_47, q_48, q_50, q_57, q_59, q_60, q_61, q_62, q_63, q_64, q_66, q_91, q_93, q_97, q_99, q_122, q_144, q_255, q_256, q_300, q_380, q_400, q_620, q_999, q_1000, q_4095, q_4096, q_9999, q_65536, q_99999, q_31, nI_add, pk_mul, nE, nL, nT, nM31, nShl, ib_nI, nI_clamp, bI_n0, bI_n1, bI_nar, uI_r, uI_l, uL_r, uL_i, uL_p, uA_r, uA_l, bV_some, bU_some, nar_n0, nar_n1, and_self, and_true, true_and, and_false, false_and, if_true, if_false, eq_self, Bool.false_eq_true, Bool.true_eq_false, not_true_eq_false, not_false_eq_true, ↓reduceIte, nlT, nlF, ntT, ntF, neT, neF, ieT, ieF, decide_true, decide_false, Bool.not_true, Bool.not_false, Bool.and_true, Bool.true_and, Bool.and_false, Bool.false_and, Bool.or_true, Bool.true_or, Bool.or_false, Bool.false_or, r1, r2, h.lvb, x_has, livB_bit, c1]
      · rw [c1, decide_eq_false c2] at hI
        simp only [Bool.not_false, Bool.and_true] at hI
        refine Or.inl ?_
        unfold fiP
        rw [← hI]
        simp (disch := omega) only [s7_0, s7_1, s7_3, s7_4, s7_7, s7_10, s7_11, s7_14, s7_15, s7_18, s7_19, s7_20, s7_23, s7_26, s7_27, s7_30, s7_31, s7_32, s7_33, s7_36, s7_37, s7_40, s7_41, s7_42, s7_43, s7_46, s7_49, s7_50, q_0, q_1, q_2, q_3, q_4, q_5, q_6, q_7, q_8, q_9, q_10, q_11, q_12, q_13, q_14, q_16, q_20, q_23, q_24, q_32, q_42, q_43, q_45, q_47, q_48, q_50, q_57, q_59, q_60, q_61, q_62, q_63, q_64, q_66, q_91, q_93, q_97, q_99, q_122, q_144, q_255, q_256, q_300, q_380, q_400, q_620, q_999, q_1000, q_4095, q_4096, q_9999, q_65536, q_99999, q_31, nI_add, pk_mul, nE, nL, nT, nM31, nShl, ib_nI, nI_clamp, bI_n0, bI_n1, bI_nar, uI_r, uI_l, uL_r, uL_i, uL_p, uA_r, uA_l, bV_some, bU_some, nar_n0, nar_n1, and_self, and_true, true_and, and_false, false_and, if_true, if_false, eq_self, Bool.false_eq_true, Bool.true_eq_false, not_true_eq_false, not_false_eq_true, ↓reduceIte, nlT, nlF, ntT, ntF, neT, neF, ieT, ieF, decide_true, decide_false, Bool.not_true, Bool.not_false, Bool.and_true, Bool.true_and, Bool.and_false, Bool.false_and, Bool.or_true, Bool.true_or, Bool.or_false, Bool.false_or, r1, r2, h.lvb, x_has, livB_bit, c1, c2, oV]
  · intro _ hI
    rw [List.drop_length] at hI
    have r1 := hl.1
    show run 7 0 2 _ _ _ = _
    rw [s7_2, ← hI]
    simp (disch := omega) only [s7_0, s7_1, s7_3, s7_4, s7_7, s7_10, s7_11, s7_14, s7_15, s7_18, s7_19, s7_20, s7_23, s7_26, s7_27, s7_30, s7_31, s7_32, s7_33, s7_36, s7_37, s7_40, s7_41, s7_42, s7_43, s7_46, s7_49, s7_50, q_0, q_1, q_2, q_3, q_4, q_5, q_6, q_7, q_8, q_9, q_10, q_11, q_12, q_13, q_14, q_16, q_20, q_23, q_24, q_32, q_42, q_43, q_45, q_47, q_48, q_50, q_57, q_59, q_60, q_61, q_62, q_63, q_64, q_66, q_91, q_93, q_97, q_99, q_122, q_144, q_255, q_256, q_300, q_380, q_400, q_620, q_999, q_1000, q_4095, q_4096, q_9999, q_65536, q_99999, q_31, nI_add, pk_mul, nE, nL, nT, nM31, nShl, ib_nI, nI_clamp, bI_n0, bI_n1, bI_nar, uI_r, uI_l, uL_r, uL_i, uL_p, uA_r, uA_l, bV_some, bU_some, nar_n0, nar_n1, and_self, and_true, true_and, and_false, false_and, if_true, if_false, eq_self, Bool.false_eq_true, Bool.true_eq_false, not_true_eq_false, not_false_eq_true, ↓reduceIte, nlT, nlF, ntT, ntF, neT, neF, ieT, ieF, decide_true, decide_false, Bool.not_true, Bool.not_false, Bool.and_true, Bool.true_and, Bool.and_false, Bool.false_and, Bool.or_true, Bool.true_or, Bool.or_false, Bool.false_or, r1, oV, List.find?_nil]
def mlF (B : Tn) (m : Nat) : Nat → Option Nat
  | 0 => none
  | n + 1 => match mlF B m n with
    | none => if B 2 n = 1 ∧ n ≠ m then some n else none
    | some b => if (B 2 n = 1 ∧ n ≠ m) ∧ B 4 (12 * m + b) < B 4 (12 * m + n) then some n else some b
theorem mlF_s (B : Tn) (m n : Nat) : mlF B m (n + 1) = match mlF B m n with
    | none => if B 2 n = 1 ∧ n ≠ m then some n else none
    | some b => if (B 2 n = 1 ∧ n ≠ m) ∧ B 4 (12 * m + b) < B 4 (12 * m + n) then some n else some b := rfl
theorem mlF_p {B : Tn} {m : Nat} : ∀ {n b : Nat}, mlF B m n = some b → b < n ∧ B 2 b = 1 ∧ b ≠ m
  | 0, _, h => by cases h
  | n + 1, b, h => by
    rw [mlF_s] at h
    split at h
    · split at h
      · rename_i e
        have := Option.some.inj h
        subst this
        exact ⟨by omega, e.1, e.2⟩
      · cases h
    · rename_i b' hb
      have ih := mlF_p hb
      split at h
      · rename_i e
        have := Option.some.inj h
        subst this
        exact ⟨by omega, e.1.1, e.1.2⟩
      · have := Option.some.inj h
        subst this
        exact ⟨by omega, ih.2⟩
theorem mlF_n {B : Tn} {m : Nat} : ∀ {n : Nat}, mlF B m n = none → ∀ p, p < n → ¬ (B 2 p = 1 ∧ p ≠ m)
  | 0, _, p, hp => by omega
  | n + 1, h, p, hp => by
    rw [mlF_s] at h
    split at h
    · rename_i hn
      split at h
      · cases h
      · rename_i e
        by_cases q : p = n
        · subst q; exact e
        · exact mlF_n hn p (by omega)
    · split at h <;> cases h
theorem mlF_ex {B : Tn} {m k : Nat} : ∀ n, (∀ p, k ≤ p → p < k + n → B 2 p ≠ 1) → mlF B m (k + n) = mlF B m k
  | 0, _ => rfl
  | n + 1, h => by
    show mlF B m (k + n + 1) = _
    have ih := mlF_ex (m := m) n (fun p h1 h2 => h p h1 (by omega))
    have h1 := h (k + n) (by omega) (by omega)
    rw [mlF_s, ih]
    cases mlF B m k with
    | none => simp [h1]
    | some b => simp [h1]
def mlV (B : Tn) (m : Nat) (x : Option Nat) : Int32 := match x with
  | none => -nI 10
  | some b => nI (B 4 (12 * m + b)) - nI 9
theorem n10_lt {a : Nat} (h : a ≤ 18) : (-nI 10 < nI a - nI 9) = True := eq_true (by
  rw [Int32.lt_iff_toInt_lt, pk_sub_toInt (by omega) (by decide)]
  have : (-nI 10 : Int32).toInt = -10 := by decide
  omega)
theorem n10_le {a : Nat} (h : a ≤ 18) : (nI a - nI 9 ≤ -nI 10) = False := eq_false (by
  rw [Int32.le_iff_toInt_le, pk_sub_toInt (by omega) (by decide)]
  have : (-nI 10 : Int32).toInt = -10 := by decide
  omega)
theorem x_mostLiked {S : Sto} {q : Nat} {B : Tn} {m : Nat} (h : RepC S q B) (hP : B 0 0 ≤ 12) (h4 : ∀ i, i < 144 → B 4 i ≤ 18) (hm : m < 12) : call 8 0 [vR 1 q, vI (nI m)] S = some (some (vI (oV (mlF B m (B 0 0)))), S) := by
  have f2 := livB_lt B
  show run 8 0 0 [vR 1 q, vI (nI m), vU, vU, vU, vU] [] S = _
  simp (disch := omega) only [s8_0, s8_1, s8_2, s8_4, s8_5, s8_6, s8_10, s8_11, s8_14, s8_17, s8_18, s8_19, s8_22, s8_23, s8_26, s8_27, s8_30, s8_31, s8_33, s8_34, s8_36, s8_37, s8_38, s8_40, s8_41, s8_44, s8_46, s8_49, s8_52, s8_54, s8_55, s8_58, s8_60, s8_61, s8_64, s8_66, s8_67, s8_69, s8_70, s8_73, s8_76, s8_77, q_0, q_1, q_2, q_3, q_4, q_5, q_6, q_7, q_8, q_9, q_10, q_11, q_12, q_13, q_14, q_16, q_20, q_23, q_24, q_32, q_42, q_43, q_45, q_47, q_48, q_50, q_57, q_59, q_60, q_61, q_62, q_63, q_64, q_66, q_91, q_93, q_97, q_99, q_122, q_144, q_255, q_256, q_300, q_380, q_400, q_620, q_999, q_1000, q_4095, q_4096, q_9999, q_65536, q_99999, q_31, nI_add, pk_mul, nE, nL, nT, nM31, nShl, ib_nI, nI_clamp, bI_n0, bI_n1, bI_nar, uI_r, uI_l, uL_r, uL_i, uL_p, uA_r, uA_l, bV_some, bU_some, nar_n0, nar_n1, and_self, and_true, true_and, and_false, false_and, if_true, if_false, eq_self, Bool.false_eq_true, Bool.true_eq_false, not_true_eq_false, not_false_eq_true, ↓reduceIte, nlT, nlF, ntT, ntF, neT, neF, ieT, ieF, decide_true, decide_false, Bool.not_true, Bool.not_false, Bool.and_true, Bool.true_and, Bool.and_false, Bool.false_and, Bool.or_true, Bool.true_or, Bool.or_false, Bool.false_or]
  refine upS (σ := av) (I := fun _ _ => True) (F := fun i x => run 8 0 8 [vR 1 q, vI (nI m), vI (oV (mlF B m i)), vI (mlV B m (mlF B m i)), vI (nI i), x] [] S) (Q := fun x => x = some (some (vI (oV (mlF B m (B 0 0)))), S)) (N := B 0 0) ?_ ?_ 0 vU (by omega) trivial
  · intro i x hi _
    refine Or.inr ⟨vI (nI (B 4 (12 * m + i)) - nI 9), trivial, ?_⟩
    have l1 := h4 (12 * m + i) (by omega)
    show run 8 0 8 _ _ _ = run 8 0 8 _ _ _
    rw [s8_8, mlF_s]
    cases e : mlF B m i with
    | none =>
      by_cases c1 : B 2 i = 1
      · have c1' : (B 2 i == 1) = true := by simp [c1]
        by_cases c2 : i = m
        · rw [if_neg (fun q => q.2 c2)]
          simp (disch := omega) only [s8_0, s8_1, s8_2, s8_4, s8_5, s8_6, s8_10, s8_11, s8_14, s8_17, s8_18, s8_19, s8_22, s8_23, s8_26, s8_27, s8_30, s8_31, s8_33, s8_34, s8_36, s8_37, s8_38, s8_40, s8_41, s8_44, s8_46, s8_49, s8_52, s8_54, s8_55, s8_58, s8_60, s8_61, s8_64, s8_66, s8_67, s8_69, s8_70, s8_73, s8_76, s8_77, q_0, q_1, q_2, q_3, q_4, q_5, q_6, q_7, q_8, q_9, q_10, q_11, q_12, q_13, q_14, q_16, q_20, q_23, q_24, q_32, q_42, q_43, q_45, q_47, q_48, q_50, q_57, q_59, q_60, q_61, q_62, q_63, q_64, q_66, q_91, q_93, q_97, q_99, q_122, q_144, q_255, q_256, q_300, q_380, q_400, q_620, q_999, q_1000, q_4095, q_4096, q_9999, q_65536, q_99999, q_31, nI_add, pk_mul, nE, nL, nT, nM31, nShl, ib_nI, nI_clamp, bI_n0, bI_n1, bI_nar, uI_r, uI_l, uL_r, uL_i, uL_p, uA_r, uA_l, bV_some, bU_some, nar_n0, nar_n1, and_self, and_true, true_and, and_false, false_and, if_true, if_false, eq_self, Bool.false_eq_true, Bool.true_eq_false, not_true_eq_false, not_false_eq_true, ↓reduceIte, nlT, nlF, ntT, ntF, neT, neF, ieT, ieF, decide_true, decide_false, Bool.not_true, Bool.not_false, Bool.and_true, Bool.true_and, Bool.and_false, Bool.false_and, Bool.or_true, Bool.true_or, Bool.or_false, Bool.false_or, h.pe, h.li, nN1, h.lvb, x_has, livB_bit, c1', Nat.mul_comm m 12, mlV]
        · rw [if_pos ⟨c1, c2⟩]
          simp (disch := omega) only [s8_0, s8_1, s8_2, s8_4, s8_5, s8_6, s8_10, s8_11, s8_14, s8_17, s8_18, s8_19, s8_22, s8_23, s8_26, s8_27, s8_30, s8_31, s8_33, s8_34, s8_36, s8_37, s8_38, s8_40, s8_41, s8_44, s8_46, s8_49, s8_52, s8_54, s8_55, s8_58, s8_60, s8_61, s8_64, s8_66, s8_67, s8_69, s8_70, s8_73, s8_76, s8_77, q_0, q_1, q_2, q_3, q_4, q_5, q_6, q_7, q_8, q_9, q_10, q_11, q_12, q_13, q_14, q_16, q_20, q_23, q_24, q_32, q_42, q_43, q_45, q_47, q_48, q_50, q_57, q_59, q_60, q_61, q_62, q_63, q_64, q_66, q_91, q_93, q_97, q_99, q_122, q_144, q_255, q_256, q_300, q_380, q_400, q_620, q_999, q_1000, q_4095, q_4096, q_9999, q_65536, q_99999, q_31, nI_add, pk_mul, nE, nL, nT, nM31, nShl, ib_nI, nI_clamp, bI_n0, bI_n1, bI_nar, uI_r, uI_l, uL_r, uL_i, uL_p, uA_r, uA_l, bV_some, bU_some, nar_n0, nar_n1, and_self, and_true, true_and, and_false, false_and, if_true, if_false, eq_self, Bool.false_eq_true, Bool.true_eq_false, not_true_eq_false, not_false_eq_true, ↓reduceIte, nlT, nlF, ntT, ntF, neT, neF, ieT, ieF, decide_true, decide_false, Bool.not_true, Bool.not_false, Bool.and_true, Bool.true_and, Bool.and_false, Bool.false_and, Bool.or_true, Bool.true_or, Bool.or_false, Bool.false_or, h.pe, h.li, nN1, h.lvb, x_has, livB_bit, c1', Nat.mul_comm m 12, mlV, n10_le, n10_lt, oV]
      · have c1' : (B 2 i == 1) = false := by simp [c1]
        rw [if_neg (fun q => c1 q.1)]
        simp (disch := omega) only [s8_0, s8_1, s8_2, s8_4, s8_5, s8_6, s8_10, s8_11, s8_14, s8_17, s8_18, s8_19, s8_22, s8_23, s8_26, s8_27, s8_30, s8_31, s8_33, s8_34, s8_36, s8_37, s8_38, s8_40, s8_41, s8_44, s8_46, s8_49, s8_52, s8_54, s8_55, s8_58, s8_60, s8_61, s8_64, s8_66, s8_67, s8_69, s8_70, s8_73, s8_76, s8_77, q_0, q_1, q_2, q_3, q_4, q_5, q_6, q_7, q_8, q_9, q_10, q_11, q_12, q_13, q_14, q_16, q_20, q_23, q_24, q_32, q_42, q_43, q_45, q_47, q_48, q_50, q_57, q_59, q_60, q_61, q_62, q_63, q_64, q_66, q_91, q_93, q_97, q_99, q_122, q_144, q_255, q_256, q_300, q_380, q_400, q_620, q_999, q_1000, q_4095, q_4096, q_9999, q_65536, q_99999, q_31, nI_add, pk_mul, nE, nL, nT, nM31, nShl, ib_nI, nI_clamp, bI_n0, bI_n1, bI_nar, uI_r, uI_l, uL_r, uL_i, uL_p, uA_r, uA_l, bV_some, bU_some, nar_n0, nar_n1, and_self, and_true, true_and, and_false, false_and, if_true, if_false, eq_self, Bool.false_eq_true, Bool.true_eq_false, not_true_eq_false, not_false_eq_true, ↓reduceIte, nlT, nlF, ntT, ntF, neT, neF, ieT, ieF, decide_true, decide_false, Bool.not_true, Bool.not_false, Bool.and_true, Bool.true_and, Bool.and_false, Bool.false_and, Bool.or_true, Bool.true_or, Bool.or_false, Bool.false_or, h.pe, h.li, nN1, h.lvb, x_has, livB_bit, c1', Nat.mul_comm m 12, mlV]
    | some b =>
      dsimp only
      have hb := mlF_p e
      have l2 := h4 (12 * m + b) (by omega)
      by_cases c1 : B 2 i = 1
      · have c1' : (B 2 i == 1) = true := by simp [c1]
        by_cases c2 : i = m
        · rw [if_neg (fun q => q.1.2 c2)]
          simp (disch := omega) only [s8_0, s8_1, s8_2, s8_4, s8_5, s8_6, s8_10, s8_11, s8_14, s8_17, s8_18, s8_19, s8_22, s8_23, s8_26, s8_27, s8_30, s8_31, s8_33, s8_34, s8_36, s8_37, s8_38, s8_40, s8_41, s8_44, s8_46, s8_49, s8_52, s8_54, s8_55, s8_58, s8_60, s8_61, s8_64, s8_66, s8_67, s8_69, s8_70, s8_73, s8_76, s8_77, q_0, q_1, q_2, q_3, q_4, q_5, q_6, q_7, q_8, q_9, q_10, q_11, q_12, q_13, q_14, q_16, q_20, q_23, q_24, q_32, q_42, q_43, q_45, q_47, q_48, q_50, q_57, q_59, q_60, q_61, q_62, q_63, q_64, q_66, q_91, q_93, q_97, q_99, q_122, q_144, q_255, q_256, q_300, q_380, q_400, q_620, q_999, q_1000, q_4095, q_4096, q_9999, q_65536, q_99999, q_31, nI_add, pk_mul, nE, nL, nT, nM31, nShl, ib_nI, nI_clamp, bI_n0, bI_n1, bI_nar, uI_r, uI_l, uL_r, uL_i, uL_p, uA_r, uA_l, bV_some, bU_some, nar_n0, nar_n1, and_self, and_true, true_and, and_false, false_and, if_true, if_false, eq_self, Bool.false_eq_true, Bool.true_eq_false, not_true_eq_false, not_false_eq_true, ↓reduceIte, nlT, nlF, ntT, ntF, neT, neF, ieT, ieF, decide_true, decide_false, Bool.not_true, Bool.not_false, Bool.and_true, Bool.true_and, Bool.and_false, Bool.false_and, Bool.or_true, Bool.true_or, Bool.or_false, Bool.false_or, h.pe, h.li, nN1, h.lvb, x_has, livB_bit, c1', Nat.mul_comm m 12, mlV]
        · by_cases c3 : B 4 (12 * m + b) < B 4 (12 * m + i)
          · rw [if_pos ⟨⟨c1, c2⟩, c3⟩]
            simp (disch := omega) only [s8_0, s8_1, s8_2, s8_4, s8_5, s8_6, s8_10, s8_11, s8_14, s8_17, s8_18, s8_19, s8_22, s8_23, s8_26, s8_27, s8_30, s8_31, s8_33, s8_34, s8_36, s8_37, s8_38, s8_40, s8_41, s8_44, s8_46, s8_49, s8_52, s8_54, s8_55, s8_58, s8_60, s8_61, s8_64, s8_66, s8_67, s8_69, s8_70, s8_73, s8_76, s8_77, q_0, q_1, q_2, q_3, q_4, q_5, q_6, q_7, q_8, q_9, q_10, q_11, q_12, q_13, q_14, q_16, q_20, q_23, q_24, q_32, q_42, q_43, q_45, q_47, q_48, q_50, q_57, q_59, q_60, q_61, q_62, q_63, q_64, q_66, q_91, q_93, q_97, q_99, q_122, q_144, q_255, q_256, q_300, q_380, q_400, q_620, q_999, q_1000, q_4095, q_4096, q_9999, q_65536, q_99999, q_31, nI_add, pk_mul, nE, nL, nT, nM31, nShl, ib_nI, nI_clamp, bI_n0, bI_n1, bI_nar, uI_r, uI_l, uL_r, uL_i, uL_p, uA_r, uA_l, bV_some, bU_some, nar_n0, nar_n1, and_self, and_true, true_and, and_false, false_and, if_true, if_false, eq_self, Bool.false_eq_true, Bool.true_eq_false, not_true_eq_false, not_false_eq_true, ↓reduceIte, nlT, nlF, ntT, ntF, neT, neF, ieT, ieF, decide_true, decide_false, Bool.not_true, Bool.not_false, Bool.and_true, Bool.true_and, Bool.and_false, Bool.false_and, Bool.or_true, Bool.true_or, Bool.or_false, Bool.false_or, h.pe, h.li, nN1, h.lvb, x_has, livB_bit, c1', Nat.mul_comm m 12, mlV, sub_le, sub_lt, oV]
          · rw [if_neg (fun q => c3 q.2)]
            simp (disch := omega) only [s8_0, s8_1, s8_2, s8_4, s8_5, s8_6, s8_10, s8_11, s8_14, s8_17, s8_18, s8_19, s8_22, s8_23, s8_26, s8_27, s8_30, s8_31, s8_33, s8_34, s8_36, s8_37, s8_38, s8_40, s8_41, s8_44, s8_46, s8_49, s8_52, s8_54, s8_55, s8_58, s8_60, s8_61, s8_64, s8_66, s8_67, s8_69, s8_70, s8_73, s8_76, s8_77, q_0, q_1, q_2, q_3, q_4, q_5, q_6, q_7, q_8, q_9, q_10, q_11, q_12, q_13, q_14, q_16, q_20, q_23, q_24, q_32, q_42, q_43, q_45, q_47, q_48, q_50, q_57, q_59, q_60, q_61, q_62, q_63, q_64, q_66, q_91, q_93, q_97, q_99, q_122, q_144, q_255, q_256, q_300, q_380, q_400, q_620, q_999, q_1000, q_4095, q_4096, q_9999, q_65536, q_99999, q_31, nI_add, pk_mul, nE, nL, nT, nM31, nShl, ib_nI, nI_clamp, bI_n0, bI_n1, bI_nar, uI_r, uI_l, uL_r, uL_i, uL_p, uA_r, uA_l, bV_some, bU_some, nar_n0, nar_n1, and_self, and_true, true_and, and_false, false_and, if_true, if_false, eq_self, Bool.false_eq_true, Bool.true_eq_false, not_true_eq_false, not_false_eq_true, ↓reduceIte, nlT, nlF, ntT, ntF, neT, neF, ieT, ieF, decide_true, decide_false, Bool.not_true, Bool.not_false, Bool.and_true, Bool.true_and, Bool.and_false, Bool.false_and, Bool.or_true, Bool.true_or, Bool.or_false, Bool.false_or, h.pe, h.li, nN1, h.lvb, x_has, livB_bit, c1', Nat.mul_comm m 12, mlV, sub_le, sub_lt, oV]
      · have c1' : (B 2 i == 1) = false := by simp [c1]
        rw [if_neg (fun q => c1 q.1.1)]
        simp (disch := omega) only [s8_0, s8_1, s8_2, s8_4, s8_5, s8_6, s8_10, s8_11, s8_14, s8_17, s8_18, s8_19, s8_22, s8_23, s8_26, s8_27, s8_30, s8_31, s8_33, s8_34, s8_36, s8_37, s8_38, s8_40, s8_41, s8_44, s8_46, s8_49, s8_52, s8_54, s8_55, s8_58, s8_60, s8_61, s8_64, s8_66, s8_67, s8_69, s8_70, s8_73, s8_76, s8_77, q_0, q_1, q_2, q_3, q_4, q_5, q_6, q_7, q_8, q_9, q_10, q_11, q_12, q_13, q_14, q_16, q_20, q_23, q_24, q_32, q_42, q_43, q_45, q_47, q_48, q_50, q_57, q_59, q_60, q_61, q_62, q_63, q_64, q_66, q_91, q_93, q_97, q_99, q_122, q_144, q_255, q_256, q_300, q_380, q_400, q_620, q_999, q_1000, q_4095, q_4096, q_9999, q_65536, q_99999, q_31, nI_add, pk_mul, nE, nL, nT, nM31, nShl, ib_nI, nI_clamp, bI_n0, bI_n1, bI_nar, uI_r, uI_l, uL_r, uL_i, uL_p, uA_r, uA_l, bV_some, bU_some, nar_n0, nar_n1, and_self, and_true, true_and, and_false, false_and, if_true, if_false, eq_self, Bool.false_eq_true, Bool.true_eq_false, not_true_eq_false, not_false_eq_true, ↓reduceIte, nlT, nlF, ntT, ntF, neT, neF, ieT, ieF, decide_true, decide_false, Bool.not_true, Bool.not_false, Bool.and_true, Bool.true_and, Bool.and_false, Bool.false_and, Bool.or_true, Bool.true_or, Bool.or_false, Bool.false_or, h.pe, h.li, nN1, h.lvb, x_has, livB_bit, c1', Nat.mul_comm m 12, mlV]
  · intro x _
    show run 8 0 8 _ _ _ = _
    rw [s8_8]
    simp (disch := omega) only [s8_0, s8_1, s8_2, s8_4, s8_5, s8_6, s8_10, s8_11, s8_14, s8_17, s8_18, s8_19, s8_22, s8_23, s8_26, s8_27, s8_30, s8_31, s8_33, s8_34, s8_36, s8_37, s8_38, s8_40, s8_41, s8_44, s8_46, s8_49, s8_52, s8_54, s8_55, s8_58, s8_60, s8_61, s8_64, s8_66, s8_67, s8_69, s8_70, s8_73, s8_76, s8_77, q_0, q_1, q_2, q_3, q_4, q_5, q_6, q_7, q_8, q_9, q_10, q_11, q_12, q_13, q_14, q_16, q_20, q_23, q_24, q_32, q_42, q_43, q_45, q_47, q_48, q_50, q_57, q_59, q_60, q_61, q_62, q_63, q_64, q_66, q_91, q_93, q_97, q_99, q_122, q_144, q_255, q_256, q_300, q_380, q_400, q_620, q_999, q_1000, q_4095, q_4096, q_9999, q_65536, q_99999, q_31, nI_add, pk_mul, nE, nL, nT, nM31, nShl, ib_nI, nI_clamp, bI_n0, bI_n1, bI_nar, uI_r, uI_l, uL_r, uL_i, uL_p, uA_r, uA_l, bV_some, bU_some, nar_n0, nar_n1, and_self, and_true, true_and, and_false, false_and, if_true, if_false, eq_self, Bool.false_eq_true, Bool.true_eq_false, not_true_eq_false, not_false_eq_true, ↓reduceIte, nlT, nlF, ntT, ntF, neT, neF, ieT, ieF, decide_true, decide_false, Bool.not_true, Bool.not_false, Bool.and_true, Bool.true_and, Bool.and_false, Bool.false_and, Bool.or_true, Bool.true_or, Bool.or_false, Bool.false_or, h.pe]
def flF (B : Tn) : Nat → Option Nat
  | 0 => none
  | n + 1 => match flF B n with
    | some p => some p
    | none => if B 2 n = 1 then some n else none
theorem flF_s (B : Tn) (n : Nat) : flF B (n + 1) = match flF B n with
    | some p => some p
    | none => if B 2 n = 1 then some n else none := rfl
theorem flF_p {B : Tn} : ∀ {n b : Nat}, flF B n = some b → b < n ∧ B 2 b = 1 ∧ ∀ p, p < b → B 2 p ≠ 1
  | 0, _, h => by cases h
  | n + 1, b, h => by
    rw [flF_s] at h
    split at h
    · rename_i p hp
      have := Option.some.inj h
      subst this
      have := flF_p hp
      exact ⟨by omega, this.2⟩
    · rename_i hn
      split at h
      · rename_i e
        have := Option.some.inj h
        subst this
        refine ⟨by omega, e, ?_⟩
        clear h e
        have key : ∀ k, flF B k = none → ∀ p, p < k → B 2 p ≠ 1 := by
          intro k
          induction k with
          | zero => intro _ p hp; omega
          | succ k ih =>
            intro hk p hp
            rw [flF_s] at hk
            split at hk
            · cases hk
            · rename_i h0
              split at hk
              · cases hk
              · rename_i e
                by_cases q : p = k
                · subst q; exact e
                · exact ih h0 p (by omega)
        exact key n hn
      · cases h
theorem flF_t {B : Tn} : ∀ {n p : Nat}, p < n → B 2 p = 1 → ∃ b, flF B n = some b
  | 0, p, h, _ => by omega
  | n + 1, p, h, hp => by
    rw [flF_s]
    by_cases q : p = n
    · subst q
      cases flF B p with
      | some b => exact ⟨b, rfl⟩
      | none => exact ⟨p, by simp [hp]⟩
    · obtain ⟨b, hb⟩ := flF_t (n := n) (by omega) hp
      rw [hb]
      exact ⟨b, rfl⟩
def flV (x : Option Nat) : Int32 := match x with
  | none => -nI 10
  | some _ => nI 0
theorem x_least {S : Sto} {q : Nat} {B : Tn} (h : RepC S q B) (hP : B 0 0 ≤ 12) : call 8 0 [vR 1 q, vI (-nI 1)] S = some (some (vI (oV (flF B (B 0 0)))), S) := by
  have f2 := livB_lt B
  have z1 : (nI 0 ≤ -nI 10) = False := eq_false (by decide)
  have z2 : (-nI 10 < nI 0) = True := eq_true (by decide)
  show run 8 0 0 [vR 1 q, vI (-nI 1), vU, vU, vU, vU] [] S = _
  simp (disch := omega) only [s8_0, s8_1, s8_2, s8_4, s8_5, s8_6, s8_10, s8_11, s8_14, s8_17, s8_18, s8_19, s8_22, s8_23, s8_26, s8_27, s8_30, s8_31, s8_33, s8_34, s8_36, s8_37, s8_38, s8_40, s8_41, s8_44, s8_46, s8_49, s8_52, s8_54, s8_55, s8_58, s8_60, s8_61, s8_64, s8_66, s8_67, s8_69, s8_70, s8_73, s8_76, s8_77, q_0, q_1, q_2, q_3, q_4, q_5, q_6, q_7, q_8, q_9, q_10, q_11, q_12, q_13, q_14, q_16, q_20, q_23, q_24, q_32, q_42, q_43, q_45, q_47, q_48, q_50, q_57, q_59, q_60, q_61, q_62, q_63, q_64, q_66, q_91, q_93, q_97, q_99, q_122, q_144, q_255, q_256, q_300, q_380, q_400, q_620, q_999, q_1000, q_4095, q_4096, q_9999, q_65536, q_99999, q_31, nI_add, pk_mul, nE, nL, nT, nM31, nShl, ib_nI, nI_clamp, bI_n0, bI_n1, bI_nar, uI_r, uI_l, uL_r, uL_i, uL_p, uA_r, uA_l, bV_some, bU_some, nar_n0, nar_n1, and_self, and_true, true_and, and_false, false_and, if_true, if_false, eq_self, Bool.false_eq_true, Bool.true_eq_false, not_true_eq_false, not_false_eq_true, ↓reduceIte, nlT, nlF, ntT, ntF, neT, neF, ieT, ieF, decide_true, decide_false, Bool.not_true, Bool.not_false, Bool.and_true, Bool.true_and, Bool.and_false, Bool.false_and, Bool.or_true, Bool.true_or, Bool.or_false, Bool.false_or]
  refine upS (σ := av) (I := fun _ _ => True) (F := fun i x => run 8 0 8 [vR 1 q, vI (-nI 1), vI (oV (flF B i)), vI (flV (flF B i)), vI (nI i), x] [] S) (Q := fun x => x = some (some (vI (oV (flF B (B 0 0)))), S)) (N := B 0 0) ?_ ?_ 0 vU (by omega) trivial
  · intro i x hi _
    refine Or.inr ⟨vI (nI 0), trivial, ?_⟩
    show run 8 0 8 _ _ _ = run 8 0 8 _ _ _
    rw [s8_8, flF_s]
    by_cases c1 : B 2 i = 1
    · have c1' : (B 2 i == 1) = true := by simp [c1]
      cases e : flF B i with
      | none =>
        rw [if_pos c1]
        simp (disch := omega) only [s8_0, s8_1, s8_2, s8_4, s8_5, s8_6, s8_10, s8_11, s8_14, s8_17, s8_18, s8_19, s8_22, s8_23, s8_26, s8_27, s8_30, s8_31, s8_33, s8_34, s8_36, s8_37, s8_38, s8_40, s8_41, s8_44, s8_46, s8_49, s8_52, s8_54, s8_55, s8_58, s8_60, s8_61, s8_64, s8_66, s8_67, s8_69, s8_70, s8_73, s8_76, s8_77, q_0, q_1, q_2, q_3, q_4, q_5, q_6, q_7, q_8, q_9, q_10, q_11, q_12, q_13, q_14, q_16, q_20, q_23, q_24, q_32, q_42, q_43, q_45, q_47, q_48, q_50, q_57, q_59, q_60, q_61, q_62, q_63, q_64, q_66, q_91, q_93, q_97, q_99, q_122, q_144, q_255, q_256, q_300, q_380, q_400, q_620, q_999, q_1000, q_4095, q_4096, q_9999, q_65536, q_99999, q_31, nI_add, pk_mul, nE, nL, nT, nM31, nShl, ib_nI, nI_clamp, bI_n0, bI_n1, bI_nar, uI_r, uI_l, uL_r, uL_i, uL_p, uA_r, uA_l, bV_some, bU_some, nar_n0, nar_n1, and_self, and_true, true_and, and_false, false_and, if_true, if_false, eq_self, Bool.false_eq_true, Bool.true_eq_false, not_true_eq_false, not_false_eq_true, ↓reduceIte, nlT, nlF, ntT, ntF, neT, neF, ieT, ieF, decide_true, decide_false, Bool.not_true, Bool.not_false, Bool.and_true, Bool.true_and, Bool.and_false, Bool.false_and, Bool.or_true, Bool.true_or, Bool.or_false, Bool.false_or, h.pe, nN1, h.lvb, x_has, livB_bit, c1', flV, z1, z2, oV]
      | some b =>
        simp (disch := omega) only [s8_0, s8_1, s8_2, s8_4, s8_5, s8_6, s8_10, s8_11, s8_14, s8_17, s8_18, s8_19, s8_22, s8_23, s8_26, s8_27, s8_30, s8_31, s8_33, s8_34, s8_36, s8_37, s8_38, s8_40, s8_41, s8_44, s8_46, s8_49, s8_52, s8_54, s8_55, s8_58, s8_60, s8_61, s8_64, s8_66, s8_67, s8_69, s8_70, s8_73, s8_76, s8_77, q_0, q_1, q_2, q_3, q_4, q_5, q_6, q_7, q_8, q_9, q_10, q_11, q_12, q_13, q_14, q_16, q_20, q_23, q_24, q_32, q_42, q_43, q_45, q_47, q_48, q_50, q_57, q_59, q_60, q_61, q_62, q_63, q_64, q_66, q_91, q_93, q_97, q_99, q_122, q_144, q_255, q_256, q_300, q_380, q_400, q_620, q_999, q_1000, q_4095, q_4096, q_9999, q_65536, q_99999, q_31, nI_add, pk_mul, nE, nL, nT, nM31, nShl, ib_nI, nI_clamp, bI_n0, bI_n1, bI_nar, uI_r, uI_l, uL_r, uL_i, uL_p, uA_r, uA_l, bV_some, bU_some, nar_n0, nar_n1, and_self, and_true, true_and, and_false, false_and, if_true, if_false, eq_self, Bool.false_eq_true, Bool.true_eq_false, not_true_eq_false, not_false_eq_true, ↓reduceIte, nlT, nlF, ntT, ntF, neT, neF, ieT, ieF, decide_true, decide_false, Bool.not_true, Bool.not_false, Bool.and_true, Bool.true_and, Bool.and_false, Bool.false_and, Bool.or_true, Bool.true_or, Bool.or_false, Bool.false_or, h.pe, nN1, h.lvb, x_has, livB_bit, c1', flV, oV]
    · have c1' : (B 2 i == 1) = false := by simp [c1]
      cases e : flF B i with
      | none =>
        rw [if_neg c1]
        simp (disch := omega) only [s8_0, s8_1, s8_2, s8_4, s8_5, s8_6, s8_10, s8_11, s8_14, s8_17, s8_18, s8_19, s8_22, s8_23, s8_26, s8_27, s8_30, s8_31, s8_33, s8_34, s8_36, s8_37, s8_38, s8_40, s8_41, s8_44, s8_46, s8_49, s8_52, s8_54, s8_55, s8_58, s8_60, s8_61, s8_64, s8_66, s8_67, s8_69, s8_70, s8_73, s8_76, s8_77, q_0, q_1, q_2, q_3, q_4, q_5, q_6, q_7, q_8, q_9, q_10, q_11, q_12, q_13, q_14, q_16, q_20, q_23, q_24, q_32, q_42, q_43, q_45, q_47, q_48, q_50, q_57, q_59, q_60, q_61, q_62, q_63, q_64, q_66, q_91, q_93, q_97, q_99, q_122, q_144, q_255, q_256, q_300, q_380, q_400, q_620, q_999, q_1000, q_4095, q_4096, q_9999, q_65536, q_99999, q_31, nI_add, pk_mul, nE, nL, nT, nM31, nShl, ib_nI, nI_clamp, bI_n0, bI_n1, bI_nar, uI_r, uI_l, uL_r, uL_i, uL_p, uA_r, uA_l, bV_some, bU_some, nar_n0, nar_n1, and_self, and_true, true_and, and_false, false_and, if_true, if_false, eq_self, Bool.false_eq_true, Bool.true_eq_false, not_true_eq_false, not_false_eq_true, ↓reduceIte, nlT, nlF, ntT, ntF, neT, neF, ieT, ieF, decide_true, decide_false, Bool.not_true, Bool.not_false, Bool.and_true, Bool.true_and, Bool.and_false, Bool.false_and, Bool.or_true, Bool.true_or, Bool.or_false, Bool.false_or, h.pe, nN1, h.lvb, x_has, livB_bit, c1', flV, oV]
      | some b =>
        simp (disch := omega) only [s8_0, s8_1, s8_2, s8_4, s8_5, s8_6, s8_10, s8_11, s8_14, s8_17, s8_18, s8_19, s8_22, s8_23, s8_26, s8_27, s8_30, s8_31, s8_33, s8_34, s8_36, s8_37, s8_38, s8_40, s8_41, s8_44, s8_46, s8_49, s8_52, s8_54, s8_55, s8_58, s8_60, s8_61, s8_64, s8_66, s8_67, s8_69, s8_70, s8_73, s8_76, s8_77, q_0, q_1, q_2, q_3, q_4, q_5, q_6, q_7, q_8, q_9, q_10, q_11, q_12, q_13, q_14, q_16, q_20, q_23, q_24, q_32, q_42, q_43, q_45, q_47, q_48, q_50, q_57, q_59, q_60, q_61, q_62, q_63, q_64, q_66, q_91, q_93, q_97, q_99, q_122, q_144, q_255, q_256, q_300, q_380, q_400, q_620, q_999, q_1000, q_4095, q_4096, q_9999, q_65536, q_99999, q_31, nI_add, pk_mul, nE, nL, nT, nM31, nShl, ib_nI, nI_clamp, bI_n0, bI_n1, bI_nar, uI_r, uI_l, uL_r, uL_i, uL_p, uA_r, uA_l, bV_some, bU_some, nar_n0, nar_n1, and_self, and_true, true_and, and_false, false_and, if_true, if_false, eq_self, Bool.false_eq_true, Bool.true_eq_false, not_true_eq_false, not_false_eq_true, ↓reduceIte, nlT, nlF, ntT, ntF, neT, neF, ieT, ieF, decide_true, decide_false, Bool.not_true, Bool.not_false, Bool.and_true, Bool.true_and, Bool.and_false, Bool.false_and, Bool.or_true, Bool.true_or, Bool.or_false, Bool.false_or, h.pe, nN1, h.lvb, x_has, livB_bit, c1', flV, oV]
  · intro x _
    show run 8 0 8 _ _ _ = _
    rw [s8_8]
    simp (disch := omega) only [s8_0, s8_1, s8_2, s8_4, s8_5, s8_6, s8_10, s8_11, s8_14, s8_17, s8_18, s8_19, s8_22, s8_23, s8_26, s8_27, s8_30, s8_31, s8_33, s8_34, s8_36, s8_37, s8_38, s8_40, s8_41, s8_44, s8_46, s8_49, s8_52, s8_54, s8_55, s8_58, s8_60, s8_61, s8_64, s8_66, s8_67, s8_69, s8_70, s8_73, s8_76, s8_77, q_0, q_1, q_2, q_3, q_4, q_5, q_6, q_7, q_8, q_9, q_10, q_11, q_12, q_13, q_14, q_16, q_20, q_23, q_24, q_32, q_42, q_43, q_45, q_47, q_48, q_50, q_57, q_59, q_60, q_61, q_62, q_63, q_64, q_66, q_91, q_93, q_97, q_99, q_122, q_144, q_255, q_256, q_300, q_380, q_400, q_620, q_999, q_1000, q_4095, q_4096, q_9999, q_65536, q_99999, q_31, nI_add, pk_mul, nE, nL, nT, nM31, nShl, ib_nI, nI_clamp, bI_n0, bI_n1, bI_nar, uI_r, uI_l, uL_r, uL_i, uL_p, uA_r, uA_l, bV_some, bU_some, nar_n0, nar_n1, and_self, and_true, true_and, and_false, false_and, if_true, if_false, eq_self, Bool.false_eq_true, Bool.true_eq_false, not_true_eq_false, not_false_eq_true, ↓reduceIte, nlT, nlF, ntT, ntF, neT, neF, ieT, ieF, decide_true, decide_false, Bool.not_true, Bool.not_false, Bool.and_true, Bool.true_and, Bool.and_false, Bool.false_and, Bool.or_true, Bool.true_or, Bool.or_false, Bool.false_or, h.pe]
def HrM (S : Sto) (l : List Nat) : Prop := ∀ i, i < l.length → S.1 94 0 i = nI (l.getD i 0)
theorem lw_get {l : List Nat} (hw : LW l) {i : Nat} (hi : i < l.length) : l.getD i 0 < 12 := by
  have : l.getD i 0 = l[i] := by simp [hi]
  rw [this]
  exact hw.1 _ (List.getElem_mem hi)
/-- the first living one in line, else the least who lives -/
def toF (B : Tn) (l : List Nat) : Option Nat := match l.find? (fun p => B 2 p == 1) with
  | some p => some p
  | none => flF B 12
theorem m_firstLiving {S : Sto} {B : Tn} {l : List Nat} {b : Nat} (h : RepM S B) (hl : HrM S l) (hw : LW l) (h2 : ∀ p, p < 12 → B 2 p ≤ 1) (hb : flF B 12 = some b) : call 252 0 [vR 50 0, vI (nI l.length)] S = some (some (vI (oV (toF B l))), S) := by
  have hle := hw.le
  have fb := flF_p hb
  show run 252 0 0 [vR 50 0, vI (nI l.length), vU] [] S = _
  simp only [s252_0, s252_1]
  unfold toF
  have key := upS (σ := Unit) (I := fun i _ => (l.drop i).find? (fun p => B 2 p == 1) = l.find? (fun p => B 2 p == 1)) (F := fun i _ => run 252 0 2 [vR 50 0, vI (nI l.length), vI (nI i)] [] S) (Q := fun x => x = some (some (vI (oV (match l.find? (fun p => B 2 p == 1) with | some p => some p | none => flF B 12))), S)) (N := l.length) ?_ ?_ 0 () (by omega) rfl
  · exact key
  · intro i _ hi hI
    rw [drop_c hi, List.find?_cons] at hI
    have r2 := hl i hi
    have hm := lw_get hw hi
    generalize l.getD i 0 = p at hI r2 hm
    have l1 := h2 p hm
    show (run 252 0 2 _ _ _ = _) ∨ ∃ s', _ ∧ run 252 0 2 _ _ _ = run 252 0 2 _ _ _
    rw [s252_2]
    by_cases c1 : B 2 p = 1
    · have c1' : (B 2 p == 1) = true := by simp [c1]
      rw [c1'] at hI
      simp only at hI
      refine Or.inl ?_
      rw [← hI]
      simp (disch := omega) only [s252_0, s252_1, s252_3, s252_4, s252_7, s252_8, s252_11, s252_12, s252_15, s252_16, s252_17, s252_18, s252_19, s252_22, s252_23, s252_26, s252_27, s252_28, s252_29, s252_32, s252_35, s252_36, s252_38, s252_41, s252_42, s252_43, s252_46, s252_49, s252_52, s252_53, q_0, q_1, q_2, q_3, q_4, q_5, q_6, q_7, q_8, q_9, q_10, q_11, q_12, q_13, q_14, q_16, q_20, q_23, q_24, q_32, q_42, q_43, q_45, q_47, q_48, q_50, q_57, q_59, q_60, q_61, q_62, q_63, q_64, q_66, q_91, q_93, q_97, q_99, q_122, q_144, q_255, q_256, q_300, q_380, q_400, q_620, q_999, q_1000, q_4095, q_4096, q_9999, q_65536, q_99999, q_31, nI_add, pk_mul, nE, nL, nT, nM31, nShl, ib_nI, nI_clamp, bI_n0, bI_n1, bI_nar, uI_r, uI_l, uL_r, uL_i, uL_p, uA_r, uA_l, bV_some, bU_some, nar_n0, nar_n1, and_self, and_true, true_and, and_false, false_and, if_true, if_false, eq_self, Bool.false_eq_true, Bool.true_eq_false, not_true_eq_false, not_false_eq_true, ↓reduceIte, nlT, nlF, ntT, ntF, neT, neF, ieT, ieF, decide_true, decide_false, Bool.not_true, Bool.not_false, Bool.and_true, Bool.true_and, Bool.and_false, Bool.false_and, Bool.or_true, Bool.true_or, Bool.or_false, Bool.false_or, r2, h.lv, oV]
    · have c1' : (B 2 p == 1) = false := by simp [c1]
      rw [c1'] at hI
      simp only at hI
      refine Or.inr ⟨(), hI, ?_⟩
      simp (disch := omega) only [s252_0, s252_1, s252_3, s252_4, s252_7, s252_8, s252_11, s252_12, s252_15, s252_16, s252_17, s252_18, s252_19, s252_22, s252_23, s252_26, s252_27, s252_28, s252_29, s252_32, s252_35, s252_36, s252_38, s252_41, s252_42, s252_43, s252_46, s252_49, s252_52, s252_53, q_0, q_1, q_2, q_3, q_4, q_5, q_6, q_7, q_8, q_9, q_10, q_11, q_12, q_13, q_14, q_16, q_20, q_23, q_24, q_32, q_42, q_43, q_45, q_47, q_48, q_50, q_57, q_59, q_60, q_61, q_62, q_63, q_64, q_66, q_91, q_93, q_97, q_99, q_122, q_144, q_255, q_256, q_300, q_380, q_400, q_620, q_999, q_1000, q_4095, q_4096, q_9999, q_65536, q_99999, q_31, nI_add, pk_mul, nE, nL, nT, nM31, nShl, ib_nI, nI_clamp, bI_n0, bI_n1, bI_nar, uI_r, uI_l, uL_r, uL_i, uL_p, uA_r, uA_l, bV_some, bU_some, nar_n0, nar_n1, and_self, and_true, true_and, and_false, false_and, if_true, if_false, eq_self, Bool.false_eq_true, Bool.true_eq_false, not_true_eq_false, not_false_eq_true, ↓reduceIte, nlT, nlF, ntT, ntF, neT, neF, ieT, ieF, decide_true, decide_false, Bool.not_true, Bool.not_false, Bool.and_true, Bool.true_and, Bool.and_false, Bool.false_and, Bool.or_true, Bool.true_or, Bool.or_false, Bool.false_or, r2, h.lv]
  · intro _ hI
    rw [List.drop_length] at hI
    have hI' : none = l.find? (fun p => B 2 p == 1) := hI
    show run 252 0 2 _ _ _ = _
    rw [s252_2, ← hI', hb]
    simp (disch := omega) only [s252_0, s252_1, s252_3, s252_4, s252_7, s252_8, s252_11, s252_12, s252_15, s252_16, s252_17, s252_18, s252_19, s252_22, s252_23, s252_26, s252_27, s252_28, s252_29, s252_32, s252_35, s252_36, s252_38, s252_41, s252_42, s252_43, s252_46, s252_49, s252_52, s252_53, q_0, q_1, q_2, q_3, q_4, q_5, q_6, q_7, q_8, q_9, q_10, q_11, q_12, q_13, q_14, q_16, q_20, q_23, q_24, q_32, q_42, q_43, q_45, q_47, q_48, q_50, q_57, q_59, q_60, q_61, q_62, q_63, q_64, q_66, q_91, q_93, q_97, q_99, q_122, q_144, q_255, q_256, q_300, q_380, q_400, q_620, q_999, q_1000, q_4095, q_4096, q_9999, q_65536, q_99999, q_31, nI_add, pk_mul, nE, nL, nT, nM31, nShl, ib_nI, nI_clamp, bI_n0, bI_n1, bI_nar, uI_r, uI_l, uL_r, uL_i, uL_p, uA_r, uA_l, bV_some, bU_some, nar_n0, nar_n1, and_self, and_true, true_and, and_false, false_and, if_true, if_false, eq_self, Bool.false_eq_true, Bool.true_eq_false, not_true_eq_false, not_false_eq_true, ↓reduceIte, nlT, nlF, ntT, ntF, neT, neF, ieT, ieF, decide_true, decide_false, Bool.not_true, Bool.not_false, Bool.and_true, Bool.true_and, Bool.and_false, Bool.false_and, Bool.or_true, Bool.true_or, Bool.or_false, Bool.false_or, oV]
    have k2 := upS (σ := Unit) (I := fun i _ => True) (F := fun i _ => run 252 0 37 [vR 50 0, vI (nI l.length), vI (nI i)] [] S) (Q := fun x => x = some (some (vI (nI b)), S)) (N := b) ?_ ?_ 0 () (by omega) trivial
    · exact k2
    · intro i _ hi _
      have l1 := h2 i (by omega)
      have l2 := fb.2.2 i hi
      refine Or.inr ⟨(), trivial, ?_⟩
      show run 252 0 37 _ _ _ = run 252 0 37 _ _ _
      rw [s252_37]
      simp (disch := omega) only [s252_0, s252_1, s252_3, s252_4, s252_7, s252_8, s252_11, s252_12, s252_15, s252_16, s252_17, s252_18, s252_19, s252_22, s252_23, s252_26, s252_27, s252_28, s252_29, s252_32, s252_35, s252_36, s252_38, s252_41, s252_42, s252_43, s252_46, s252_49, s252_52, s252_53, q_0, q_1, q_2, q_3, q_4, q_5, q_6, q_7, q_8, q_9, q_10, q_11, q_12, q_13, q_14, q_16, q_20, q_23, q_24, q_32, q_42, q_43, q_45, q_47, q_48, q_50, q_57, q_59, q_60, q_61, q_62, q_63, q_64, q_66, q_91, q_93, q_97, q_99, q_122, q_144, q_255, q_256, q_300, q_380, q_400, q_620, q_999, q_1000, q_4095, q_4096, q_9999, q_65536, q_99999, q_31, nI_add, pk_mul, nE, nL, nT, nM31, nShl, ib_nI, nI_clamp, bI_n0, bI_n1, bI_nar, uI_r, uI_l, uL_r, uL_i, uL_p, uA_r, uA_l, bV_some, bU_some, nar_n0, nar_n1, and_self, and_true, true_and, and_false, false_and, if_true, if_false, eq_self, Bool.false_eq_true, Bool.true_eq_false, not_true_eq_false, not_false_eq_true, ↓reduceIte, nlT, nlF, ntT, ntF, neT, neF, ieT, ieF, decide_true, decide_false, Bool.not_true, Bool.not_false, Bool.and_true, Bool.true_and, Bool.and_false, Bool.false_and, Bool.or_true, Bool.true_or, Bool.or_false, Bool.false_or, h.lv]
    · intro _ _
      have l2 := fb.2.1
      show run 252 0 37 _ _ _ = _
      rw [s252_37]
      simp (disch := omega) only [s252_0, s252_1, s252_3, s252_4, s252_7, s252_8, s252_11, s252_12, s252_15, s252_16, s252_17, s252_18, s252_19, s252_22, s252_23, s252_26, s252_27, s252_28, s252_29, s252_32, s252_35, s252_36, s252_38, s252_41, s252_42, s252_43, s252_46, s252_49, s252_52, s252_53, q_0, q_1, q_2, q_3, q_4, q_5, q_6, q_7, q_8, q_9, q_10, q_11, q_12, q_13, q_14, q_16, q_20, q_23, q_24, q_32, q_42, q_43, q_45, q_47, q_48, q_50, q_57, q_59, q_60, q_61, q_62, q_63, q_64, q_66, q_91, q_93, q_97, q_99, q_122, q_144, q_255, q_256, q_300, q_380, q_400, q_620, q_999, q_1000, q_4095, q_4096, q_9999, q_65536, q_99999, q_31, nI_add, pk_mul, nE, nL, nT, nM31, nShl, ib_nI, nI_clamp, bI_n0, bI_n1, bI_nar, uI_r, uI_l, uL_r, uL_i, uL_p, uA_r, uA_l, bV_some, bU_some, nar_n0, nar_n1, and_self, and_true, true_and, and_false, false_and, if_true, if_false, eq_self, Bool.false_eq_true, Bool.true_eq_false, not_true_eq_false, not_false_eq_true, ↓reduceIte, nlT, nlF, ntT, ntF, neT, neF, ieT, ieF, decide_true, decide_false, Bool.not_true, Bool.not_false, Bool.and_true, Bool.true_and, Bool.and_false, Bool.false_and, Bool.or_true, Bool.true_or, Bool.or_false, Bool.false_or, h.lv]
/-- who takes a half beside a mate -/
def tkO (B : Tn) (l : List Nat) (m : Nat) : Option Nat := match l.find? (fun p => B 2 p == 1 && !(p == m)) with
  | some p => some p
  | none => mlF B m 12
theorem m_inherits {S : Sto} {B : Tn} {l : List Nat} {m : Nat} (h : RepM S B) (hl : HrM S l) (hw : LW l) (h2 : ∀ p, p < 12 → B 2 p ≤ 1) (h4 : ∀ i, i < 144 → B 4 i ≤ 18) (hm : m < 12) : call 253 0 [vR 50 0, vI (nI l.length), vI (nI m)] S = some (some (vI (oV (tkO B l m))), S) := by
  have hle := hw.le
  show run 253 0 0 [vR 50 0, vI (nI l.length), vI (nI m), vU, vU] [] S = _
  simp only [s253_0, s253_1]
  unfold tkO
  have key := upS (σ := Unit) (I := fun i _ => (l.drop i).find? (fun p => B 2 p == 1 && !(p == m)) = l.find? (fun p => B 2 p == 1 && !(p == m))) (F := fun i _ => run 253 0 2 [vR 50 0, vI (nI l.length), vI (nI m), vI (nI i), vU] [] S) (Q := fun x => x = some (some (vI (oV (match l.find? (fun p => B 2 p == 1 && !(p == m)) with | some p => some p | none => mlF B m 12))), S)) (N := l.length) ?_ ?_ 0 () (by omega) rfl
  · exact key
  · intro i _ hi hI
    rw [drop_c hi, List.find?_cons] at hI
    have r2 := hl i hi
    have hp := lw_get hw hi
    generalize l.getD i 0 = p at hI r2 hp
    have l1 := h2 p hp
    show (run 253 0 2 _ _ _ = _) ∨ ∃ s', _ ∧ run 253 0 2 _ _ _ = run 253 0 2 _ _ _
    rw [s253_2]
    by_cases c1 : B 2 p = 1
    · by_cases c2 : p = m
      · have c1' : (B 2 p == 1 && !(p == m)) = false := by simp [c2]
        rw [c1'] at hI
        simp only at hI
        refine Or.inr ⟨(), hI, ?_⟩
        simp (disch := omega) only [s253_0, s253_1, s253_3, s253_4, s253_7, s253_8, s253_11, s253_12, s253_15, s253_16, s253_17, s253_18, s253_19, s253_22, s253_23, s253_26, s253_27, s253_28, s253_29, s253_32, s253_33, s253_36, s253_37, s253_38, s253_39, s253_42, s253_45, s253_46, s253_47, s253_48, s253_52, s253_54, s253_57, s253_58, s253_61, s253_63, s253_64, s253_65, s253_68, s253_70, s253_71, s253_74, s253_75, s253_76, s253_79, s253_80, s253_83, s253_85, s253_86, s253_87, s253_89, s253_90, s253_91, s253_92, s253_95, s253_97, s253_98, s253_99, s253_100, s253_101, s253_102, s253_105, s253_107, s253_108, s253_111, s253_114, s253_115, q_0, q_1, q_2, q_3, q_4, q_5, q_6, q_7, q_8, q_9, q_10, q_11, q_12, q_13, q_14, q_16, q_20, q_23, q_24, q_32, q_42, q_43, q_45, q_47, q_48, q_50, q_57, q_59, q_60, q_61, q_62, q_63, q_64, q_66, q_91, q_93, q_97, q_99, q_122, q_144, q_255, q_256, q_300, q_380, q_400, q_620, q_999, q_1000, q_4095, q_4096, q_9999, q_65536, q_99999, q_31, nI_add, pk_mul, nE, nL, nT, nM31, nShl, ib_nI, nI_clamp, bI_n0, bI_n1, bI_nar, uI_r, uI_l, uL_r, uL_i, uL_p, uA_r, uA_l, bV_some, bU_some, nar_n0, nar_n1, and_self, and_true, true_and, and_false, false_and, if_true, if_false, eq_self, Bool.false_eq_true, Bool.true_eq_false, not_true_eq_false, not_false_eq_true, ↓reduceIte, nlT, nlF, ntT, ntF, neT, neF, ieT, ieF, decide_true, decide_false, Bool.not_true, Bool.not_false, Bool.and_true, Bool.true_and, Bool.and_false, Bool.false_and, Bool.or_true, Bool.true_or, Bool.or_false, Bool.false_or, r2, h.lv]
      · have c1' : (B 2 p == 1 && !(p == m)) = true := by simp [c1, c2]
        rw [c1'] at hI
        simp only at hI
        refine Or.inl ?_
        rw [← hI]
        simp (disch := omega) only [s253_0, s253_1, s253_3, s253_4, s253_7, s253_8, s253_11, s253_12, s253_15, s253_16, s253_17, s253_18, s253_19, s253_22, s253_23, s253_26, s253_27, s253_28, s253_29, s253_32, s253_33, s253_36, s253_37, s253_38, s253_39, s253_42, s253_45, s253_46, s253_47, s253_48, s253_52, s253_54, s253_57, s253_58, s253_61, s253_63, s253_64, s253_65, s253_68, s253_70, s253_71, s253_74, s253_75, s253_76, s253_79, s253_80, s253_83, s253_85, s253_86, s253_87, s253_89, s253_90, s253_91, s253_92, s253_95, s253_97, s253_98, s253_99, s253_100, s253_101, s253_102, s253_105, s253_107, s253_108, s253_111, s253_114, s253_115, q_0, q_1, q_2, q_3, q_4, q_5, q_6, q_7, q_8, q_9, q_10, q_11, q_12, q_13, q_14, q_16, q_20, q_23, q_24, q_32, q_42, q_43, q_45, q_47, q_48, q_50, q_57, q_59, q_60, q_61, q_62, q_63, q_64, q_66, q_91, q_93, q_97, q_99, q_122, q_144, q_255, q_256, q_300, q_380, q_400, q_620, q_999, q_1000, q_4095, q_4096, q_9999, q_65536, q_99999, q_31, nI_add, pk_mul, nE, nL, nT, nM31, nShl, ib_nI, nI_clamp, bI_n0, bI_n1, bI_nar, uI_r, uI_l, uL_r, uL_i, uL_p, uA_r, uA_l, bV_some, bU_some, nar_n0, nar_n1, and_self, and_true, true_and, and_false, false_and, if_true, if_false, eq_self, Bool.false_eq_true, Bool.true_eq_false, not_true_eq_false, not_false_eq_true, ↓reduceIte, nlT, nlF, ntT, ntF, neT, neF, ieT, ieF, decide_true, decide_false, Bool.not_true, Bool.not_false, Bool.and_true, Bool.true_and, Bool.and_false, Bool.false_and, Bool.or_true, Bool.true_or, Bool.or_false, Bool.false_or, r2, h.lv, oV]
    · have c1' : (B 2 p == 1 && !(p == m)) = false := by simp [c1]
      rw [c1'] at hI
      simp only at hI
      refine Or.inr ⟨(), hI, ?_⟩
      simp (disch := omega) only [s253_0, s253_1, s253_3, s253_4, s253_7, s253_8, s253_11, s253_12, s253_15, s253_16, s253_17, s253_18, s253_19, s253_22, s253_23, s253_26, s253_27, s253_28, s253_29, s253_32, s253_33, s253_36, s253_37, s253_38, s253_39, s253_42, s253_45, s253_46, s253_47, s253_48, s253_52, s253_54, s253_57, s253_58, s253_61, s253_63, s253_64, s253_65, s253_68, s253_70, s253_71, s253_74, s253_75, s253_76, s253_79, s253_80, s253_83, s253_85, s253_86, s253_87, s253_89, s253_90, s253_91, s253_92, s253_95, s253_97, s253_98, s253_99, s253_100, s253_101, s253_102, s253_105, s253_107, s253_108, s253_111, s253_114, s253_115, q_0, q_1, q_2, q_3, q_4, q_5, q_6, q_7, q_8, q_9, q_10, q_11, q_12, q_13, q_14, q_16, q_20, q_23, q_24, q_32, q_42, q_43, q_45, q_47, q_48, q_50, q_57, q_59, q_60, q_61, q_62, q_63, q_64, q_66, q_91, q_93, q_97, q_99, q_122, q_144, q_255, q_256, q_300, q_380, q_400, q_620, q_999, q_1000, q_4095, q_4096, q_9999, q_65536, q_99999, q_31, nI_add, pk_mul, nE, nL, nT, nM31, nShl, ib_nI, nI_clamp, bI_n0, bI_n1, bI_nar, uI_r, uI_l, uL_r, uL_i, uL_p, uA_r, uA_l, bV_some, bU_some, nar_n0, nar_n1, and_self, and_true, true_and, and_false, false_and, if_true, if_false, eq_self, Bool.false_eq_true, Bool.true_eq_false, not_true_eq_false, not_false_eq_true, ↓reduceIte, nlT, nlF, ntT, ntF, neT, neF, ieT, ieF, decide_true, decide_false, Bool.not_true, Bool.not_false, Bool.and_true, Bool.true_and, Bool.and_false, Bool.false_and, Bool.or_true, Bool.true_or, Bool.or_false, Bool.false_or, r2, h.lv]
  · intro _ hI
    rw [List.drop_length] at hI
    have hI' : none = l.find? (fun p => B 2 p == 1 && !(p == m)) := hI
    show run 253 0 2 _ _ _ = _
    rw [s253_2, ← hI']
    simp (disch := omega) only [s253_0, s253_1, s253_3, s253_4, s253_7, s253_8, s253_11, s253_12, s253_15, s253_16, s253_17, s253_18, s253_19, s253_22, s253_23, s253_26, s253_27, s253_28, s253_29, s253_32, s253_33, s253_36, s253_37, s253_38, s253_39, s253_42, s253_45, s253_46, s253_47, s253_48, s253_52, s253_54, s253_57, s253_58, s253_61, s253_63, s253_64, s253_65, s253_68, s253_70, s253_71, s253_74, s253_75, s253_76, s253_79, s253_80, s253_83, s253_85, s253_86, s253_87, s253_89, s253_90, s253_91, s253_92, s253_95, s253_97, s253_98, s253_99, s253_100, s253_101, s253_102, s253_105, s253_107, s253_108, s253_111, s253_114, s253_115, q_0, q_1, q_2, q_3, q_4, q_5, q_6, q_7, q_8, q_9, q_10, q_11, q_12, q_13, q_14, q_16, q_20, q_23, q_24, q_32, q_42, q_43, q_45, q_47, q_48, q_50, q_57, q_59, q_60, q_61, q_62, q_63, q_64, q_66, q_91, q_93, q_97, q_99, q_122, q_144, q_255, q_256, q_300, q_380, q_400, q_620, q_999, q_1000, q_4095, q_4096, q_9999, q_65536, q_99999, q_31, nI_add, pk_mul, nE, nL, nT, nM31, nShl, ib_nI, nI_clamp, bI_n0, bI_n1, bI_nar, uI_r, uI_l, uL_r, uL_i, uL_p, uA_r, uA_l, bV_some, bU_some, nar_n0, nar_n1, and_self, and_true, true_and, and_false, false_and, if_true, if_false, eq_self, Bool.false_eq_true, Bool.true_eq_false, not_true_eq_false, not_false_eq_true, ↓reduceIte, nlT, nlF, ntT, ntF, neT, neF, ieT, ieF, decide_true, decide_false, Bool.not_true, Bool.not_false, Bool.and_true, Bool.true_and, Bool.and_false, Bool.false_and, Bool.or_true, Bool.true_or, Bool.or_false, Bool.false_or]
    have k2 := up_ (F := fun i => run 253 0 50 [vR 50 0, vI (nI l.length), vI (nI m), vI (oV (mlF B m i)), vI (nI i)] [] S) (N := 12) (R := some (some (vI (oV (mlF B m 12))), S)) ?_ ?_ 0 (by omega)
    · exact k2
    · intro i hi
      have l0 := h2 i hi
      have l1 := h4 (12 * m + i) (by omega)
      show run 253 0 50 _ _ _ = run 253 0 50 _ _ _
      rw [s253_50, mlF_s]
      cases e : mlF B m i with
      | none =>
        by_cases c1 : B 2 i = 1
        · by_cases c2 : i = m
          · rw [if_neg (fun q => q.2 c2)]
            simp (disch := omega) only [s253_0, s253_1, s253_3, s253_4, s253_7, s253_8, s253_11, s253_12, s253_15, s253_16, s253_17, s253_18, s253_19, s253_22, s253_23, s253_26, s253_27, s253_28, s253_29, s253_32, s253_33, s253_36, s253_37, s253_38, s253_39, s253_42, s253_45, s253_46, s253_47, s253_48, s253_52, s253_54, s253_57, s253_58, s253_61, s253_63, s253_64, s253_65, s253_68, s253_70, s253_71, s253_74, s253_75, s253_76, s253_79, s253_80, s253_83, s253_85, s253_86, s253_87, s253_89, s253_90, s253_91, s253_92, s253_95, s253_97, s253_98, s253_99, s253_100, s253_101, s253_102, s253_105, s253_107, s253_108, s253_111, s253_114, s253_115, q_0, q_1, q_2, q_3, q_4, q_5, q_6, q_7, q_8, q_9, q_10, q_11, q_12, q_13, q_14, q_16, q_20, q_23, q_24, q_32, q_42, q_43, q_45, q_47, q_48, q_50, q_57, q_59, q_60, q_61, q_62, q_63, q_64, q_66, q_91, q_93, q_97, q_99, q_122, q_144, q_255, q_256, q_300, q_380, q_400, q_620, q_999, q_1000, q_4095, q_4096, q_9999, q_65536, q_99999, q_31, nI_add, pk_mul, nE, nL, nT, nM31, nShl, ib_nI, nI_clamp, bI_n0, bI_n1, bI_nar, uI_r, uI_l, uL_r, uL_i, uL_p, uA_r, uA_l, bV_some, bU_some, nar_n0, nar_n1, and_self, and_true, true_and, and_false, false_and, if_true, if_false, eq_self, Bool.false_eq_true, Bool.true_eq_false, not_true_eq_false, not_false_eq_true, ↓reduceIte, nlT, nlF, ntT, ntF, neT, neF, ieT, ieF, decide_true, decide_false, Bool.not_true, Bool.not_false, Bool.and_true, Bool.true_and, Bool.and_false, Bool.false_and, Bool.or_true, Bool.true_or, Bool.or_false, Bool.false_or, h.lv, oV]
          · rw [if_pos ⟨c1, c2⟩]
            simp (disch := omega) only [s253_0, s253_1, s253_3, s253_4, s253_7, s253_8, s253_11, s253_12, s253_15, s253_16, s253_17, s253_18, s253_19, s253_22, s253_23, s253_26, s253_27, s253_28, s253_29, s253_32, s253_33, s253_36, s253_37, s253_38, s253_39, s253_42, s253_45, s253_46, s253_47, s253_48, s253_52, s253_54, s253_57, s253_58, s253_61, s253_63, s253_64, s253_65, s253_68, s253_70, s253_71, s253_74, s253_75, s253_76, s253_79, s253_80, s253_83, s253_85, s253_86, s253_87, s253_89, s253_90, s253_91, s253_92, s253_95, s253_97, s253_98, s253_99, s253_100, s253_101, s253_102, s253_105, s253_107, s253_108, s253_111, s253_114, s253_115, q_0, q_1, q_2, q_3, q_4, q_5, q_6, q_7, q_8, q_9, q_10, q_11, q_12, q_13, q_14, q_16, q_20, q_23, q_24, q_32, q_42, q_43, q_45, q_47, q_48, q_50, q_57, q_59, q_60, q_61, q_62, q_63, q_64, q_66, q_91, q_93, q_97, q_99, q_122, q_144, q_255, q_256, q_300, q_380, q_400, q_620, q_999, q_1000, q_4095, q_4096, q_9999, q_65536, q_99999, q_31, nI_add, pk_mul, nE, nL, nT, nM31, nShl, ib_nI, nI_clamp, bI_n0, bI_n1, bI_nar, uI_r, uI_l, uL_r, uL_i, uL_p, uA_r, uA_l, bV_some, bU_some, nar_n0, nar_n1, and_self, and_true, true_and, and_false, false_and, if_true, if_false, eq_self, Bool.false_eq_true, Bool.true_eq_false, not_true_eq_false, not_false_eq_true, ↓reduceIte, nlT, nlF, ntT, ntF, neT, neF, ieT, ieF, decide_true, decide_false, Bool.not_true, Bool.not_false, Bool.and_true, Bool.true_and, Bool.and_false, Bool.false_and, Bool.or_true, Bool.true_or, Bool.or_false, Bool.false_or, h.lv, oV]
        · rw [if_neg (fun q => c1 q.1)]
          simp (disch := omega) only [s253_0, s253_1, s253_3, s253_4, s253_7, s253_8, s253_11, s253_12, s253_15, s253_16, s253_17, s253_18, s253_19, s253_22, s253_23, s253_26, s253_27, s253_28, s253_29, s253_32, s253_33, s253_36, s253_37, s253_38, s253_39, s253_42, s253_45, s253_46, s253_47, s253_48, s253_52, s253_54, s253_57, s253_58, s253_61, s253_63, s253_64, s253_65, s253_68, s253_70, s253_71, s253_74, s253_75, s253_76, s253_79, s253_80, s253_83, s253_85, s253_86, s253_87, s253_89, s253_90, s253_91, s253_92, s253_95, s253_97, s253_98, s253_99, s253_100, s253_101, s253_102, s253_105, s253_107, s253_108, s253_111, s253_114, s253_115, q_0, q_1, q_2, q_3, q_4, q_5, q_6, q_7, q_8, q_9, q_10, q_11, q_12, q_13, q_14, q_16, q_20, q_23, q_24, q_32, q_42, q_43, q_45, q_47, q_48, q_50, q_57, q_59, q_60, q_61, q_62, q_63, q_64, q_66, q_91, q_93, q_97, q_99, q_122, q_144, q_255, q_256, q_300, q_380, q_400, q_620, q_999, q_1000, q_4095, q_4096, q_9999, q_65536, q_99999, q_31, nI_add, pk_mul, nE, nL, nT, nM31, nShl, ib_nI, nI_clamp, bI_n0, bI_n1, bI_nar, uI_r, uI_l, uL_r, uL_i, uL_p, uA_r, uA_l, bV_some, bU_some, nar_n0, nar_n1, and_self, and_true, true_and, and_false, false_and, if_true, if_false, eq_self, Bool.false_eq_true, Bool.true_eq_false, not_true_eq_false, not_false_eq_true, ↓reduceIte, nlT, nlF, ntT, ntF, neT, neF, ieT, ieF, decide_true, decide_false, Bool.not_true, Bool.not_false, Bool.and_true, Bool.true_and, Bool.and_false, Bool.false_and, Bool.or_true, Bool.true_or, Bool.or_false, Bool.false_or, h.lv, oV]
      | some b =>
        dsimp only
        have hb := mlF_p e
        have l2 := h4 (12 * m + b) (by omega)
        by_cases c1 : B 2 i = 1
        · by_cases c2 : i = m
          · rw [if_neg (fun q => q.1.2 c2)]
            simp (disch := omega) only [s253_0, s253_1, s253_3, s253_4, s253_7, s253_8, s253_11, s253_12, s253_15, s253_16, s253_17, s253_18, s253_19, s253_22, s253_23, s253_26, s253_27, s253_28, s253_29, s253_32, s253_33, s253_36, s253_37, s253_38, s253_39, s253_42, s253_45, s253_46, s253_47, s253_48, s253_52, s253_54, s253_57, s253_58, s253_61, s253_63, s253_64, s253_65, s253_68, s253_70, s253_71, s253_74, s253_75, s253_76, s253_79, s253_80, s253_83, s253_85, s253_86, s253_87, s253_89, s253_90, s253_91, s253_92, s253_95, s253_97, s253_98, s253_99, s253_100, s253_101, s253_102, s253_105, s253_107, s253_108, s253_111, s253_114, s253_115, q_0, q_1, q_2, q_3, q_4, q_5, q_6, q_7, q_8, q_9, q_10, q_11, q_12, q_13, q_14, q_16, q_20, q_23, q_24, q_32, q_42, q_43, q_45, q_47, q_48, q_50, q_57, q_59, q_60, q_61, q_62, q_63, q_64, q_66, q_91, q_93, q_97, q_99, q_122, q_144, q_255, q_256, q_300, q_380, q_400, q_620, q_999, q_1000, q_4095, q_4096, q_9999, q_65536, q_99999, q_31, nI_add, pk_mul, nE, nL, nT, nM31, nShl, ib_nI, nI_clamp, bI_n0, bI_n1, bI_nar, uI_r, uI_l, uL_r, uL_i, uL_p, uA_r, uA_l, bV_some, bU_some, nar_n0, nar_n1, and_self, and_true, true_and, and_false, false_and, if_true, if_false, eq_self, Bool.false_eq_true, Bool.true_eq_false, not_true_eq_false, not_false_eq_true, ↓reduceIte, nlT, nlF, ntT, ntF, neT, neF, ieT, ieF, decide_true, decide_false, Bool.not_true, Bool.not_false, Bool.and_true, Bool.true_and, Bool.and_false, Bool.false_and, Bool.or_true, Bool.true_or, Bool.or_false, Bool.false_or, h.lv, oV]
          · by_cases c3 : B 4 (12 * m + b) < B 4 (12 * m + i)
            · rw [if_pos ⟨⟨c1, c2⟩, c3⟩]
              simp (disch := omega) only [s253_0, s253_1, s253_3, s253_4, s253_7, s253_8, s253_11, s253_12, s253_15, s253_16, s253_17, s253_18, s253_19, s253_22, s253_23, s253_26, s253_27, s253_28, s253_29, s253_32, s253_33, s253_36, s253_37, s253_38, s253_39, s253_42, s253_45, s253_46, s253_47, s253_48, s253_52, s253_54, s253_57, s253_58, s253_61, s253_63, s253_64, s253_65, s253_68, s253_70, s253_71, s253_74, s253_75, s253_76, s253_79, s253_80, s253_83, s253_85, s253_86, s253_87, s253_89, s253_90, s253_91, s253_92, s253_95, s253_97, s253_98, s253_99, s253_100, s253_101, s253_102, s253_105, s253_107, s253_108, s253_111, s253_114, s253_115, q_0, q_1, q_2, q_3, q_4, q_5, q_6, q_7, q_8, q_9, q_10, q_11, q_12, q_13, q_14, q_16, q_20, q_23, q_24, q_32, q_42, q_43, q_45, q_47, q_48, q_50, q_57, q_59, q_60, q_61, q_62, q_63, q_64, q_66, q_91, q_93, q_97, q_99, q_122, q_144, q_255, q_256, q_300, q_380, q_400, q_620, q_999, q_1000, q_4095, q_4096, q_9999, q_65536, q_99999, q_31, nI_add, pk_mul, nE, nL, nT, nM31, nShl, ib_nI, nI_clamp, bI_n0, bI_n1, bI_nar, uI_r, uI_l, uL_r, uL_i, uL_p, uA_r, uA_l, bV_some, bU_some, nar_n0, nar_n1, and_self, and_true, true_and, and_false, false_and, if_true, if_false, eq_self, Bool.false_eq_true, Bool.true_eq_false, not_true_eq_false, not_false_eq_true, ↓reduceIte, nlT, nlF, ntT, ntF, neT, neF, ieT, ieF, decide_true, decide_false, Bool.not_true, Bool.not_false, Bool.and_true, Bool.true_and, Bool.and_false, Bool.false_and, Bool.or_true, Bool.true_or, Bool.or_false, Bool.false_or, h.lv, h.li, oV, nN1, sub_le, sub_lt]
            · rw [if_neg (fun q => c3 q.2)]
              simp (disch := omega) only [s253_0, s253_1, s253_3, s253_4, s253_7, s253_8, s253_11, s253_12, s253_15, s253_16, s253_17, s253_18, s253_19, s253_22, s253_23, s253_26, s253_27, s253_28, s253_29, s253_32, s253_33, s253_36, s253_37, s253_38, s253_39, s253_42, s253_45, s253_46, s253_47, s253_48, s253_52, s253_54, s253_57, s253_58, s253_61, s253_63, s253_64, s253_65, s253_68, s253_70, s253_71, s253_74, s253_75, s253_76, s253_79, s253_80, s253_83, s253_85, s253_86, s253_87, s253_89, s253_90, s253_91, s253_92, s253_95, s253_97, s253_98, s253_99, s253_100, s253_101, s253_102, s253_105, s253_107, s253_108, s253_111, s253_114, s253_115, q_0, q_1, q_2, q_3, q_4, q_5, q_6, q_7, q_8, q_9, q_10, q_11, q_12, q_13, q_14, q_16, q_20, q_23, q_24, q_32, q_42, q_43, q_45, q_47, q_48, q_50, q_57, q_59, q_60, q_61, q_62, q_63, q_64, q_66, q_91, q_93, q_97, q_99, q_122, q_144, q_255, q_256, q_300, q_380, q_400, q_620, q_999, q_1000, q_4095, q_4096, q_9999, q_65536, q_99999, q_31, nI_add, pk_mul, nE, nL, nT, nM31, nShl, ib_nI, nI_clamp, bI_n0, bI_n1, bI_nar, uI_r, uI_l, uL_r, uL_i, uL_p, uA_r, uA_l, bV_some, bU_some, nar_n0, nar_n1, and_self, and_true, true_and, and_false, false_and, if_true, if_false, eq_self, Bool.false_eq_true, Bool.true_eq_false, not_true_eq_false, not_false_eq_true, ↓reduceIte, nlT, nlF, ntT, ntF, neT, neF, ieT, ieF, decide_true, decide_false, Bool.not_true, Bool.not_false, Bool.and_true, Bool.true_and, Bool.and_false, Bool.false_and, Bool.or_true, Bool.true_or, Bool.or_false, Bool.false_or, h.lv, h.li, oV, nN1, sub_le, sub_lt]
        · rw [if_neg (fun q => c1 q.1.1)]
          simp (disch := omega) only [s253_0, s253_1, s253_3, s253_4, s253_7, s253_8, s253_11, s253_12, s253_15, s253_16, s253_17, s253_18, s253_19, s253_22, s253_23, s253_26, s253_27, s253_28, s253_29, s253_32, s253_33, s253_36, s253_37, s253_38, s253_39, s253_42, s253_45, s253_46, s253_47, s253_48, s253_52, s253_54, s253_57, s253_58, s253_61, s253_63, s253_64, s253_65, s253_68, s253_70, s253_71, s253_74, s253_75, s253_76, s253_79, s253_80, s253_83, s253_85, s253_86, s253_87, s253_89, s253_90, s253_91, s253_92, s253_95, s253_97, s253_98, s253_99, s253_100, s253_101, s253_102, s253_105, s253_107, s253_108, s253_111, s253_114, s253_115, q_0, q_1, q_2, q_3, q_4, q_5, q_6, q_7, q_8, q_9, q_10, q_11, q_12, q_13, q_14, q_16, q_20, q_23, q_24, q_32, q_42, q_43, q_45, q_47, q_48, q_50, q_57, q_59, q_60, q_61, q_62, q_63, q_64, q_66, q_91, q_93, q_97, q_99, q_122, q_144, q_255, q_256, q_300, q_380, q_400, q_620, q_999, q_1000, q_4095, q_4096, q_9999, q_65536, q_99999, q_31, nI_add, pk_mul, nE, nL, nT, nM31, nShl, ib_nI, nI_clamp, bI_n0, bI_n1, bI_nar, uI_r, uI_l, uL_r, uL_i, uL_p, uA_r, uA_l, bV_some, bU_some, nar_n0, nar_n1, and_self, and_true, true_and, and_false, false_and, if_true, if_false, eq_self, Bool.false_eq_true, Bool.true_eq_false, not_true_eq_false, not_false_eq_true, ↓reduceIte, nlT, nlF, ntT, ntF, neT, neF, ieT, ieF, decide_true, decide_false, Bool.not_true, Bool.not_false, Bool.and_true, Bool.true_and, Bool.and_false, Bool.false_and, Bool.or_true, Bool.true_or, Bool.or_false, Bool.false_or, h.lv, oV]
    · show run 253 0 50 _ _ _ = _
      rw [s253_50]
      simp (disch := omega) only [s253_0, s253_1, s253_3, s253_4, s253_7, s253_8, s253_11, s253_12, s253_15, s253_16, s253_17, s253_18, s253_19, s253_22, s253_23, s253_26, s253_27, s253_28, s253_29, s253_32, s253_33, s253_36, s253_37, s253_38, s253_39, s253_42, s253_45, s253_46, s253_47, s253_48, s253_52, s253_54, s253_57, s253_58, s253_61, s253_63, s253_64, s253_65, s253_68, s253_70, s253_71, s253_74, s253_75, s253_76, s253_79, s253_80, s253_83, s253_85, s253_86, s253_87, s253_89, s253_90, s253_91, s253_92, s253_95, s253_97, s253_98, s253_99, s253_100, s253_101, s253_102, s253_105, s253_107, s253_108, s253_111, s253_114, s253_115, q_0, q_1, q_2, q_3, q_4, q_5, q_6, q_7, q_8, q_9, q_10, q_11, q_12, q_13, q_14, q_16, q_20, q_23, q_24, q_32, q_42, q_43, q_45, q_47, q_48, q_50, q_57, q_59, q_60, q_61, q_62, q_63, q_64, q_66, q_91, q_93, q_97, q_99, q_122, q_144, q_255, q_256, q_300, q_380, q_400, q_620, q_999, q_1000, q_4095, q_4096, q_9999, q_65536, q_99999, q_31, nI_add, pk_mul, nE, nL, nT, nM31, nShl, ib_nI, nI_clamp, bI_n0, bI_n1, bI_nar, uI_r, uI_l, uL_r, uL_i, uL_p, uA_r, uA_l, bV_some, bU_some, nar_n0, nar_n1, and_self, and_true, true_and, and_false, false_and, if_true, if_false, eq_self, Bool.false_eq_true, Bool.true_eq_false, not_true_eq_false, not_false_eq_true, ↓reduceIte, nlT, nlF, ntT, ntF, neT, neF, ieT, ieF, decide_true, decide_false, Bool.not_true, Bool.not_false, Bool.and_true, Bool.true_and, Bool.and_false, Bool.false_and, Bool.or_true, Bool.true_or, Bool.or_false, Bool.false_or]
