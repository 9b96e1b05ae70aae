/-! the twos that are worth trying -/
def FmS (S : Sto) (F : List Nat) : Prop := ∀ i, i < F.length → S.1 37 0 i = nI (F.getD i 0)
def spP (F : List Nat) (m i : Nat) : Bool := dif m (F.getD i 0) == 0
theorem x_twIn {S : Sto} {q : Nat} {F : List Nat} {a b m : Nat} (hs : FmS S F) (hm : m < 2 ^ 12) (hl : F.length < 66) (ha : a < 12) (hb : b < 12) : ∃ S2 F2 x y z, run 46 0 51 [vR 36 0, vR 1 q, vI (nI F.length), vI (nI a), vI (nI b), vI (nI m), vI (bI (m == 0)), vI (nI 0)] [] S = run 46 0 17 [vR 36 0, vR 1 q, vI (nI F2.length), vI (nI a), vI (nI (b + 1)), x, y, z] [] S2 ∧ Fr (pL [37]) S S2 ∧ FmS S2 F2 ∧ F2.length ≤ F.length + 1 ∧ (∀ x, x ∈ F → x ∈ F2) ∧ (∀ x, x ∈ F2 → x ∈ F ∨ (x = m ∧ m ≠ 0)) ∧ (m = 0 ∨ ∃ x, x ∈ F2 ∧ ∀ i, m.testBit i = true → x.testBit i = true) := by
  have end1 : ∀ i, (m == 0 || ex (spP F m) F.length) = true → ∃ S2 F2 x y z, run 46 0 90 [vR 36 0, vR 1 q, vI (nI F.length), vI (nI a), vI (nI b), vI (nI m), vI (bI true), vI (nI i)] [] S = run 46 0 17 [vR 36 0, vR 1 q, vI (nI F2.length), vI (nI a), vI (nI (b + 1)), x, y, z] [] S2 ∧ Fr (pL [37]) S S2 ∧ FmS S2 F2 ∧ F2.length ≤ F.length + 1 ∧ (∀ x, x ∈ F → x ∈ F2) ∧ (∀ x, x ∈ F2 → x ∈ F ∨ (x = m ∧ m ≠ 0)) ∧ (m = 0 ∨ ∃ x, x ∈ F2 ∧ ∀ i, m.testBit i = true → x.testBit i = true) := by
    intro i e
    simp (disch := omega) only [s46_0, s46_1, s46_2, s46_3, s46_5, s46_6, s46_9, s46_12, s46_13, s46_14, s46_15, s46_19, s46_20, s46_23, s46_26, s46_27, s46_28, s46_29, s46_31, s46_34, s46_36, s46_38, s46_41, s46_42, s46_45, s46_46, s46_48, s46_49, s46_53, s46_54, s46_57, s46_59, s46_62, s46_64, s46_65, s46_68, s46_70, s46_71, s46_72, s46_73, s46_74, s46_77, s46_78, s46_81, s46_82, s46_84, s46_87, s46_90, s46_92, s46_95, s46_96, s46_97, s46_100, s46_101, s46_104, s46_105, s46_108, s46_109, s46_112, s46_114, s46_115, s46_118, s46_121, s46_124, s46_127, s46_128, q_0, q_1, q_2, q_3, q_4, q_5, q_6, q_7, q_8, q_9, q_10, q_11, q_12, q_13, q_14, q_16, q_20, q_23, q_24, q_32, q_42, q_43, q_45, q_47, q_48, q_50, q_57, q_59, q_60, q_61, q_62, q_63, q_64, q_66, q_91, q_93, q_97, q_99, q_122, q_144, q_255, q_256, q_300, q_380, q_400, q_620, q_999, q_1000, q_4095, q_4096, q_9999, q_65536, q_99999, q_31, nI_add, pk_mul, nE, nL, nT, nM31, nShl, ib_nI, nI_clamp, bI_n0, bI_n1, bI_nar, uI_r, uI_l, uL_r, uL_i, uL_p, uA_r, uA_l, bV_some, bU_some, nar_n0, nar_n1, and_self, and_true, true_and, and_false, false_and, if_true, if_false, eq_self, Bool.false_eq_true, Bool.true_eq_false, not_true_eq_false, not_false_eq_true, ↓reduceIte, nlT, nlF, ntT, ntF, neT, neF, ieT, ieF, decide_true, decide_false, Bool.not_true, Bool.not_false, Bool.and_true, Bool.true_and, Bool.and_false, Bool.false_and, Bool.or_true, Bool.true_or, Bool.or_false, Bool.false_or]
    refine ⟨S, F, _, _, _, rfl, Fr.rfl', hs, by omega, fun x hx => hx, fun x hx => Or.inl hx, ?_⟩
    simp only [Bool.or_eq_true, beq_iff_eq] at e
    rcases e with e | e
    · exact Or.inl e
    · obtain ⟨k, k1, k2⟩ := ex_t.mp e
      right
      refine ⟨F.getD k 0, ?_, ?_⟩
      · rw [List.getD_eq_getElem?_getD, List.getElem?_eq_getElem k1]
        exact List.getElem_mem k1
      · unfold spP at k2
        simp only [beq_iff_eq] at k2
        exact (dif_0 (by omega)).mp k2
  refine upS (σ := Bool) (I := fun i s => s = (m == 0 || ex (spP F m) i)) (F := fun i s => run 46 0 51 [vR 36 0, vR 1 q, vI (nI F.length), vI (nI a), vI (nI b), vI (nI m), vI (bI s), vI (nI i)] [] S) (Q := fun w => ∃ S2 F2 x y z, w = run 46 0 17 [vR 36 0, vR 1 q, vI (nI F2.length), vI (nI a), vI (nI (b + 1)), x, y, z] [] S2 ∧ Fr (pL [37]) S S2 ∧ FmS S2 F2 ∧ F2.length ≤ F.length + 1 ∧ (∀ x, x ∈ F → x ∈ F2) ∧ (∀ x, x ∈ F2 → x ∈ F ∨ (x = m ∧ m ≠ 0)) ∧ (m = 0 ∨ ∃ x, x ∈ F2 ∧ ∀ i, m.testBit i = true → x.testBit i = true)) (N := F.length) ?_ ?_ 0 (m == 0) (by omega) (by simp [ex])
  · intro i s hi hI
    have r1 := hs i hi
    have l1 := dif_lt m (F.getD i 0)
    show (∃ S2 F2 x y z, run 46 0 51 _ _ _ = _ ∧ _) ∨ ∃ s', _ ∧ run 46 0 51 _ _ _ = run 46 0 51 _ _ _
    rw [s46_51]
    cases s with
    | true =>
      refine Or.inl ?_
      have e : (m == 0 || ex (spP F m) F.length) = true := by
        have hI' := hI.symm
        simp only [Bool.or_eq_true] at hI' ⊢
        rcases hI' with h | h
        · exact Or.inl h
        · exact Or.inr (ex_le (by omega) h)
      have key := end1 i e
      simp (disch := omega) only [s46_53, s46_54, s46_57, s46_59, q_0, q_1, q_2, q_3, q_4, q_5, q_6, q_7, q_8, q_9, q_10, q_11, q_12, q_13, q_14, q_16, q_20, q_23, q_24, q_32, q_42, q_43, q_45, q_47, q_48, q_50, q_57, q_59, q_60, q_61, q_62, q_63, q_64, q_66, q_91, q_93, q_97, q_99, q_122, q_144, q_255, q_256, q_300, q_380, q_400, q_620, q_999, q_1000, q_4095, q_4096, q_9999, q_65536, q_99999, q_31, nI_add, pk_mul, nE, nL, nT, nM31, nShl, ib_nI, nI_clamp, bI_n0, bI_n1, bI_nar, uI_r, uI_l, uL_r, uL_i, uL_p, uA_r, uA_l, bV_some, bU_some, nar_n0, nar_n1, and_self, and_true, true_and, and_false, false_and, if_true, if_false, eq_self, Bool.false_eq_true, Bool.true_eq_false, not_true_eq_false, not_false_eq_true, ↓reduceIte, nlT, nlF, ntT, ntF, neT, neF, ieT, ieF, decide_true, decide_false, Bool.not_true, Bool.not_false, Bool.and_true, Bool.true_and, Bool.and_false, Bool.false_and, Bool.or_true, Bool.true_or, Bool.or_false, Bool.false_or]
      exact key
    | false =>
      refine Or.inr ⟨spP F m i, ?_, ?_⟩
      · rw [ex_s, ← Bool.or_assoc, ← hI, Bool.false_or]
      · unfold spP
        by_cases c : dif m (F.getD i 0) = 0
        · have c' : (dif m (F.getD i 0) == 0) = true := by rw [c]; rfl
          rw [c']
          simp (disch := omega) only [s46_0, s46_1, s46_2, s46_3, s46_5, s46_6, s46_9, s46_12, s46_13, s46_14, s46_15, s46_19, s46_20, s46_23, s46_26, s46_27, s46_28, s46_29, s46_31, s46_34, s46_36, s46_38, s46_41, s46_42, s46_45, s46_46, s46_48, s46_49, s46_53, s46_54, s46_57, s46_59, s46_62, s46_64, s46_65, s46_68, s46_70, s46_71, s46_72, s46_73, s46_74, s46_77, s46_78, s46_81, s46_82, s46_84, s46_87, s46_90, s46_92, s46_95, s46_96, s46_97, s46_100, s46_101, s46_104, s46_105, s46_108, s46_109, s46_112, s46_114, s46_115, s46_118, s46_121, s46_124, s46_127, s46_128, q_0, q_1, q_2, q_3, q_4, q_5, q_6, q_7, q_8, q_9, q_10, q_11, q_12, q_13, q_14, q_16, q_20, q_23, q_24, q_32, q_42, q_43, q_45, q_47, q_48, q_50, q_57, q_59, q_60, q_61, q_62, q_63, q_64, q_66, q_91, q_93, q_97, q_99, q_122, q_144, q_255, q_256, q_300, q_380, q_400, q_620, q_999, q_1000, q_4095, q_4096, q_9999, q_65536, q_99999, q_31, nI_add, pk_mul, nE, nL, nT, nM31, nShl, ib_nI, nI_clamp, bI_n0, bI_n1, bI_nar, uI_r, uI_l, uL_r, uL_i, uL_p, uA_r, uA_l, bV_some, bU_some, nar_n0, nar_n1, and_self, and_true, true_and, and_false, false_and, if_true, if_false, eq_self, Bool.false_eq_true, Bool.true_eq_false, not_true_eq_false, not_false_eq_true, ↓reduceIte, nlT, nlF, ntT, ntF, neT, neF, ieT, ieF, decide_true, decide_false, Bool.not_true, Bool.not_false, Bool.and_true, Bool.true_and, Bool.and_false, Bool.false_and, Bool.or_true, Bool.true_or, Bool.or_false, Bool.false_or, r1, nI_dif, c]
          rfl
        · have c' : (dif m (F.getD i 0) == 0) = false := by rw [beq_eq_false_iff_ne]; exact c
          rw [c']
          simp (disch := omega) only [s46_0, s46_1, s46_2, s46_3, s46_5, s46_6, s46_9, s46_12, s46_13, s46_14, s46_15, s46_19, s46_20, s46_23, s46_26, s46_27, s46_28, s46_29, s46_31, s46_34, s46_36, s46_38, s46_41, s46_42, s46_45, s46_46, s46_48, s46_49, s46_53, s46_54, s46_57, s46_59, s46_62, s46_64, s46_65, s46_68, s46_70, s46_71, s46_72, s46_73, s46_74, s46_77, s46_78, s46_81, s46_82, s46_84, s46_87, s46_90, s46_92, s46_95, s46_96, s46_97, s46_100, s46_101, s46_104, s46_105, s46_108, s46_109, s46_112, s46_114, s46_115, s46_118, s46_121, s46_124, s46_127, s46_128, q_0, q_1, q_2, q_3, q_4, q_5, q_6, q_7, q_8, q_9, q_10, q_11, q_12, q_13, q_14, q_16, q_20, q_23, q_24, q_32, q_42, q_43, q_45, q_47, q_48, q_50, q_57, q_59, q_60, q_61, q_62, q_63, q_64, q_66, q_91, q_93, q_97, q_99, q_122, q_144, q_255, q_256, q_300, q_380, q_400, q_620, q_999, q_1000, q_4095, q_4096, q_9999, q_65536, q_99999, q_31, nI_add, pk_mul, nE, nL, nT, nM31, nShl, ib_nI, nI_clamp, bI_n0, bI_n1, bI_nar, uI_r, uI_l, uL_r, uL_i, uL_p, uA_r, uA_l, bV_some, bU_some, nar_n0, nar_n1, and_self, and_true, true_and, and_false, false_and, if_true, if_false, eq_self, Bool.false_eq_true, Bool.true_eq_false, not_true_eq_false, not_false_eq_true, ↓reduceIte, nlT, nlF, ntT, ntF, neT, neF, ieT, ieF, decide_true, decide_false, Bool.not_true, Bool.not_false, Bool.and_true, Bool.true_and, Bool.and_false, Bool.false_and, Bool.or_true, Bool.true_or, Bool.or_false, Bool.false_or, r1, nI_dif, c]
          rfl
  · intro s hI
    show ∃ S2 F2 x y z, run 46 0 51 _ _ _ = _ ∧ _
    rw [s46_51]
    cases s with
    | true =>
      have key := end1 F.length hI.symm
      simp (disch := omega) only [s46_53, s46_54, q_0, q_1, q_2, q_3, q_4, q_5, q_6, q_7, q_8, q_9, q_10, q_11, q_12, q_13, q_14, q_16, q_20, q_23, q_24, q_32, q_42, q_43, q_45, q_47, q_48, q_50, q_57, q_59, q_60, q_61, q_62, q_63, q_64, q_66, q_91, q_93, q_97, q_99, q_122, q_144, q_255, q_256, q_300, q_380, q_400, q_620, q_999, q_1000, q_4095, q_4096, q_9999, q_65536, q_99999, q_31, nI_add, pk_mul, nE, nL, nT, nM31, nShl, ib_nI, nI_clamp, bI_n0, bI_n1, bI_nar, uI_r, uI_l, uL_r, uL_i, uL_p, uA_r, uA_l, bV_some, bU_some, nar_n0, nar_n1, and_self, and_true, true_and, and_false, false_and, if_true, if_false, eq_self, Bool.false_eq_true, Bool.true_eq_false, not_true_eq_false, not_false_eq_true, ↓reduceIte, nlT, nlF, ntT, ntF, neT, neF, ieT, ieF, decide_true, decide_false, Bool.not_true, Bool.not_false, Bool.and_true, Bool.true_and, Bool.and_false, Bool.false_and, Bool.or_true, Bool.true_or, Bool.or_false, Bool.false_or]
      exact key
    | false =>
      have hm0 : m ≠ 0 := by
        intro e
        subst e
        simp at hI
      have e9 : (F ++ [m]).length = F.length + 1 := by simp
      simp (disch := omega) only [s46_0, s46_1, s46_2, s46_3, s46_5, s46_6, s46_9, s46_12, s46_13, s46_14, s46_15, s46_19, s46_20, s46_23, s46_26, s46_27, s46_28, s46_29, s46_31, s46_34, s46_36, s46_38, s46_41, s46_42, s46_45, s46_46, s46_48, s46_49, s46_53, s46_54, s46_57, s46_59, s46_62, s46_64, s46_65, s46_68, s46_70, s46_71, s46_72, s46_73, s46_74, s46_77, s46_78, s46_81, s46_82, s46_84, s46_87, s46_90, s46_92, s46_95, s46_96, s46_97, s46_100, s46_101, s46_104, s46_105, s46_108, s46_109, s46_112, s46_114, s46_115, s46_118, s46_121, s46_124, s46_127, s46_128, q_0, q_1, q_2, q_3, q_4, q_5, q_6, q_7, q_8, q_9, q_10, q_11, q_12, q_13, q_14, q_16, q_20, q_23, q_24, q_32, q_42, q_43, q_45, q_47, q_48, q_50, q_57, q_59, q_60, q_61, q_62, q_63, q_64, q_66, q_91, q_93, q_97, q_99, q_122, q_144, q_255, q_256, q_300, q_380, q_400, q_620, q_999, q_1000, q_4095, q_4096, q_9999, q_65536, q_99999, q_31, nI_add, pk_mul, nE, nL, nT, nM31, nShl, ib_nI, nI_clamp, bI_n0, bI_n1, bI_nar, uI_r, uI_l, uL_r, uL_i, uL_p, uA_r, uA_l, bV_some, bU_some, nar_n0, nar_n1, and_self, and_true, true_and, and_false, false_and, if_true, if_false, eq_self, Bool.false_eq_true, Bool.true_eq_false, not_true_eq_false, not_false_eq_true, ↓reduceIte, nlT, nlF, ntT, ntF, neT, neF, ieT, ieF, decide_true, decide_false, Bool.not_true, Bool.not_false, Bool.and_true, Bool.true_and, Bool.and_false, Bool.false_and, Bool.or_true, Bool.true_or, Bool.or_false, Bool.false_or]
      refine ⟨uI S 37 0 F.length (nI m), F ++ [m], vI (nI m), vI (bI false), vI (nI F.length), by rw [e9], Fr.rfl'.uI rfl, ?_, by omega, fun x hx => by simp [hx], fun x hx => ?_, Or.inr ⟨m, by simp, fun i h => h⟩⟩
      · intro i hi
        rw [getD_app (by omega), uI_r]
        by_cases e : i = F.length
        · rw [if_pos ⟨rfl, rfl, e⟩, if_pos e]
        · rw [if_neg (by omega), if_neg e]
          exact hs i (by omega)
      · simp only [List.mem_append, List.mem_singleton] at hx
        rcases hx with hx | hx
        · exact Or.inl hx
        · exact Or.inr ⟨hx, hm0⟩
def prN (a : Nat) : Nat := fsN (fun k => 11 - k) a
theorem prN_le : ∀ a, a < 12 → prN a + (11 - a) ≤ 66 := by decide
theorem prN_s (a : Nat) : prN (a + 1) = prN a + (11 - a) := rfl
def TwI (A : Tn) (S S1 : Sto) (F : List Nat) (a b : Nat) : Prop := Fr (pL [37]) S S1 ∧ FmS S1 F ∧ F.length ≤ prN a + (b - (a + 1)) ∧ (∀ x, x ∈ F → PrA A x) ∧ ∀ a' b', a' < b' → b' < A 0 0 → (a' < a ∨ (a' = a ∧ b' < b)) → ndS A a' b' ≠ 0 → ∃ x, x ∈ F ∧ ∀ i, (ndS A a' b').testBit i = true → x.testBit i = true
theorem x_findTwos {S : Sto} {q : Nat} {A : Tn} (h : RepC S q A) (hw : WF A) : ∃ S' F, call 46 0 [vR 36 0, vR 1 q] S = some (some (vI (nI F.length)), S') ∧ Fr (pL [37]) S S' ∧ FmS S' F ∧ F.length ≤ 66 ∧ Fam A F := by
  have hP := hw.pe
  show ∃ S' F, run 46 0 0 [vR 36 0, vR 1 q, vU, vU, vU, vU, vU, vU] [] S = _ ∧ _
  simp only [s46_0, s46_1, s46_2, s46_3]
  have inner : ∀ a S1 F x y z, a < A 0 0 → TwI A S S1 F a (a + 1) → ∃ S2 F2 u x' y' z', run 46 0 17 [vR 36 0, vR 1 q, vI (nI F.length), vI (nI a), vI (nI (a + 1)), x, y, z] [] S1 = run 46 0 4 [vR 36 0, vR 1 q, vI (nI F2.length), vI (nI (a + 1)), u, x', y', z'] [] S2 ∧ TwI A S S2 F2 (a + 1) (a + 2) := by
    intro a S1 F x y z ha hI0
    refine upS (σ := (Sto × List Nat) × av × av × av) (I := fun b s => a < b ∧ TwI A S s.1.1 s.1.2 a b) (F := fun b s => run 46 0 17 [vR 36 0, vR 1 q, vI (nI s.1.2.length), vI (nI a), vI (nI b), s.2.1, s.2.2.1, s.2.2.2] [] s.1.1) (Q := fun w => ∃ S2 F2 u x' y' z', w = run 46 0 4 [vR 36 0, vR 1 q, vI (nI F2.length), vI (nI (a + 1)), u, x', y', z'] [] S2 ∧ TwI A S S2 F2 (a + 1) (a + 2)) (N := A 0 0) ?_ ?_ (a + 1) ((S1, F), x, y, z) (by omega) ⟨by omega, hI0⟩
    · intro b s hb hI
      obtain ⟨⟨S2, G⟩, x, y, z⟩ := s
      obtain ⟨i0, i1, i2, i3, i4, i5⟩ := hI
      simp only at i1 i2 i3 i4 i5
      have h1 := h.pl i1 (by decide)
      have e1 := x_needing h1 hw (a := a) (b := b) (by omega) (by omega) (by omega)
      have l1 := ndS_lt hw a b
      have p1 := prN_le a (by omega)
      obtain ⟨S3, F2, x', y', z', a1, a2, a3, a4, a5, a6, a7⟩ := x_twIn (q := q) i2 l1 (a := a) (b := b) (by omega) (by omega) (by omega)
      refine Or.inr ⟨((S3, F2), x', y', z'), ⟨by omega, i1.tr a2, a3, by show F2.length ≤ _; omega, fun x hx => ?_, fun a' b' g1 g2 g3 g4 => ?_⟩, ?_⟩
      · rcases a6 x hx with hx | ⟨hx, hx0⟩
        · exact i4 x hx
        · rw [hx]
          exact ⟨hx0, a, b, by omega, by omega, by omega, rfl⟩
      · by_cases c : a' = a ∧ b' = b
        · obtain ⟨rfl, rfl⟩ := c
          rcases a7 with a7 | a7
          · exact absurd a7 g4
          · exact a7
        · obtain ⟨x, k1, k2⟩ := i5 a' b' g1 g2 (by omega) g4
          exact ⟨x, a5 x k1, k2⟩
      · show run 46 0 17 [vR 36 0, vR 1 q, vI (nI G.length), vI (nI a), vI (nI b), x, y, z] [] S2 = run 46 0 17 [vR 36 0, vR 1 q, vI (nI F2.length), vI (nI a), vI (nI (b + 1)), x', y', z'] [] S3
        rw [← a1, s46_17]
        by_cases c : ndS A a b = 0
        · simp (disch := omega) only [s46_0, s46_1, s46_2, s46_3, s46_5, s46_6, s46_9, s46_12, s46_13, s46_14, s46_15, s46_19, s46_20, s46_23, s46_26, s46_27, s46_28, s46_29, s46_31, s46_34, s46_36, s46_38, s46_41, s46_42, s46_45, s46_46, s46_48, s46_49, s46_53, s46_54, s46_57, s46_59, s46_62, s46_64, s46_65, s46_68, s46_70, s46_71, s46_72, s46_73, s46_74, s46_77, s46_78, s46_81, s46_82, s46_84, s46_87, s46_90, s46_92, s46_95, s46_96, s46_97, s46_100, s46_101, s46_104, s46_105, s46_108, s46_109, s46_112, s46_114, s46_115, s46_118, s46_121, s46_124, s46_127, s46_128, q_0, q_1, q_2, q_3, q_4, q_5, q_6, q_7, q_8, q_9, q_10, q_11, q_12, q_13, q_14, q_16, q_20, q_23, q_24, q_32, q_42, q_43, q_45, q_47, q_48, q_50, q_57, q_59, q_60, q_61, q_62, q_63, q_64, q_66, q_91, q_93, q_97, q_99, q_122, q_144, q_255, q_256, q_300, q_380, q_400, q_620, q_999, q_1000, q_4095, q_4096, q_9999, q_65536, q_99999, q_31, nI_add, pk_mul, nE, nL, nT, nM31, nShl, ib_nI, nI_clamp, bI_n0, bI_n1, bI_nar, uI_r, uI_l, uL_r, uL_i, uL_p, uA_r, uA_l, bV_some, bU_some, nar_n0, nar_n1, and_self, and_true, true_and, and_false, false_and, if_true, if_false, eq_self, Bool.false_eq_true, Bool.true_eq_false, not_true_eq_false, not_false_eq_true, ↓reduceIte, nlT, nlF, ntT, ntF, neT, neF, ieT, ieF, decide_true, decide_false, Bool.not_true, Bool.not_false, Bool.and_true, Bool.true_and, Bool.and_false, Bool.false_and, Bool.or_true, Bool.true_or, Bool.or_false, Bool.false_or, h1.pe, e1, c]
          rfl
        · have c' : (ndS A a b == 0) = false := by simp [c]
          simp (disch := omega) only [s46_0, s46_1, s46_2, s46_3, s46_5, s46_6, s46_9, s46_12, s46_13, s46_14, s46_15, s46_19, s46_20, s46_23, s46_26, s46_27, s46_28, s46_29, s46_31, s46_34, s46_36, s46_38, s46_41, s46_42, s46_45, s46_46, s46_48, s46_49, s46_53, s46_54, s46_57, s46_59, s46_62, s46_64, s46_65, s46_68, s46_70, s46_71, s46_72, s46_73, s46_74, s46_77, s46_78, s46_81, s46_82, s46_84, s46_87, s46_90, s46_92, s46_95, s46_96, s46_97, s46_100, s46_101, s46_104, s46_105, s46_108, s46_109, s46_112, s46_114, s46_115, s46_118, s46_121, s46_124, s46_127, s46_128, q_0, q_1, q_2, q_3, q_4, q_5, q_6, q_7, q_8, q_9, q_10, q_11, q_12, q_13, q_14, q_16, q_20, q_23, q_24, q_32, q_42, q_43, q_45, q_47, q_48, q_50, q_57, q_59, q_60, q_61, q_62, q_63, q_64, q_66, q_91, q_93, q_97, q_99, q_122, q_144, q_255, q_256, q_300, q_380, q_400, q_620, q_999, q_1000, q_4095, q_4096, q_9999, q_65536, q_99999, q_31, nI_add, pk_mul, nE, nL, nT, nM31, nShl, ib_nI, nI_clamp, bI_n0, bI_n1, bI_nar, uI_r, uI_l, uL_r, uL_i, uL_p, uA_r, uA_l, bV_some, bU_some, nar_n0, nar_n1, and_self, and_true, true_and, and_false, false_and, if_true, if_false, eq_self, Bool.false_eq_true, Bool.true_eq_false, not_true_eq_false, not_false_eq_true, ↓reduceIte, nlT, nlF, ntT, ntF, neT, neF, ieT, ieF, decide_true, decide_false, Bool.not_true, Bool.not_false, Bool.and_true, Bool.true_and, Bool.and_false, Bool.false_and, Bool.or_true, Bool.true_or, Bool.or_false, Bool.false_or, h1.pe, e1, c, c']
          rfl
    · intro s hI
      obtain ⟨⟨S2, G⟩, x, y, z⟩ := s
      obtain ⟨i0, i1, i2, i3, i4, i5⟩ := hI
      simp only at i1 i2 i3 i4 i5
      have h1 := h.pl i1 (by decide)
      refine ⟨S2, G, vI (nI (A 0 0)), x, y, z, ?_, i1, i2, ?_, i4, fun a' b' g1 g2 g3 g4 => ?_⟩
      · show run 46 0 17 [vR 36 0, vR 1 q, vI (nI G.length), vI (nI a), vI (nI (A 0 0)), x, y, z] [] S2 = _
        rw [s46_17]
        simp (disch := omega) only [s46_0, s46_1, s46_2, s46_3, s46_5, s46_6, s46_9, s46_12, s46_13, s46_14, s46_15, s46_19, s46_20, s46_23, s46_26, s46_27, s46_28, s46_29, s46_31, s46_34, s46_36, s46_38, s46_41, s46_42, s46_45, s46_46, s46_48, s46_49, s46_53, s46_54, s46_57, s46_59, s46_62, s46_64, s46_65, s46_68, s46_70, s46_71, s46_72, s46_73, s46_74, s46_77, s46_78, s46_81, s46_82, s46_84, s46_87, s46_90, s46_92, s46_95, s46_96, s46_97, s46_100, s46_101, s46_104, s46_105, s46_108, s46_109, s46_112, s46_114, s46_115, s46_118, s46_121, s46_124, s46_127, s46_128, q_0, q_1, q_2, q_3, q_4, q_5, q_6, q_7, q_8, q_9, q_10, q_11, q_12, q_13, q_14, q_16, q_20, q_23, q_24, q_32, q_42, q_43, q_45, q_47, q_48, q_50, q_57, q_59, q_60, q_61, q_62, q_63, q_64, q_66, q_91, q_93, q_97, q_99, q_122, q_144, q_255, q_256, q_300, q_380, q_400, q_620, q_999, q_1000, q_4095, q_4096, q_9999, q_65536, q_99999, q_31, nI_add, pk_mul, nE, nL, nT, nM31, nShl, ib_nI, nI_clamp, bI_n0, bI_n1, bI_nar, uI_r, uI_l, uL_r, uL_i, uL_p, uA_r, uA_l, bV_some, bU_some, nar_n0, nar_n1, and_self, and_true, true_and, and_false, false_and, if_true, if_false, eq_self, Bool.false_eq_true, Bool.true_eq_false, not_true_eq_false, not_false_eq_true, ↓reduceIte, nlT, nlF, ntT, ntF, neT, neF, ieT, ieF, decide_true, decide_false, Bool.not_true, Bool.not_false, Bool.and_true, Bool.true_and, Bool.and_false, Bool.false_and, Bool.or_true, Bool.true_or, Bool.or_false, Bool.false_or, h1.pe]
      · rw [prN_s]
        omega
      · exact i5 a' b' g1 g2 (by omega) g4
  refine upS (σ := (Sto × List Nat) × av × av × av × av) (I := fun a s => TwI A S s.1.1 s.1.2 a (a + 1)) (F := fun a s => run 46 0 4 [vR 36 0, vR 1 q, vI (nI s.1.2.length), vI (nI a), s.2.1, s.2.2.1, s.2.2.2.1, s.2.2.2.2] [] s.1.1) (Q := fun w => ∃ S' F, w = some (some (vI (nI F.length)), S') ∧ Fr (pL [37]) S S' ∧ FmS S' F ∧ F.length ≤ 66 ∧ Fam A F) (N := A 0 0) ?_ ?_ 0 ((S, []), vU, vU, vU, vU) (by omega) ⟨Fr.rfl', fun i hi => by simp at hi, by simp, by simp, fun a' b' g1 g2 g3 => by omega⟩
  · intro a s ha hI
    obtain ⟨⟨S1, F⟩, u, x, y, z⟩ := s
    simp only at hI
    have h1 := h.pl hI.1 (by decide)
    obtain ⟨S2, F2, u', x', y', z', a1, a2⟩ := inner a S1 F x y z ha hI
    refine Or.inr ⟨((S2, F2), u', x', y', z'), a2, ?_⟩
    show run 46 0 4 [vR 36 0, vR 1 q, vI (nI F.length), vI (nI a), u, x, y, z] [] S1 = run 46 0 4 [vR 36 0, vR 1 q, vI (nI F2.length), vI (nI (a + 1)), u', x', y', z'] [] S2
    rw [← a1, s46_4]
    simp (disch := omega) only [s46_0, s46_1, s46_2, s46_3, s46_5, s46_6, s46_9, s46_12, s46_13, s46_14, s46_15, s46_19, s46_20, s46_23, s46_26, s46_27, s46_28, s46_29, s46_31, s46_34, s46_36, s46_38, s46_41, s46_42, s46_45, s46_46, s46_48, s46_49, s46_53, s46_54, s46_57, s46_59, s46_62, s46_64, s46_65, s46_68, s46_70, s46_71, s46_72, s46_73, s46_74, s46_77, s46_78, s46_81, s46_82, s46_84, s46_87, s46_90, s46_92, s46_95, s46_96, s46_97, s46_100, s46_101, s46_104, s46_105, s46_108, s46_109, s46_112, s46_114, s46_115, s46_118, s46_121, s46_124, s46_127, s46_128, q_0, q_1, q_2, q_3, q_4, q_5, q_6, q_7, q_8, q_9, q_10, q_11, q_12, q_13, q_14, q_16, q_20, q_23, q_24, q_32, q_42, q_43, q_45, q_47, q_48, q_50, q_57, q_59, q_60, q_61, q_62, q_63, q_64, q_66, q_91, q_93, q_97, q_99, q_122, q_144, q_255, q_256, q_300, q_380, q_400, q_620, q_999, q_1000, q_4095, q_4096, q_9999, q_65536, q_99999, q_31, nI_add, pk_mul, nE, nL, nT, nM31, nShl, ib_nI, nI_clamp, bI_n0, bI_n1, bI_nar, uI_r, uI_l, uL_r, uL_i, uL_p, uA_r, uA_l, bV_some, bU_some, nar_n0, nar_n1, and_self, and_true, true_and, and_false, false_and, if_true, if_false, eq_self, Bool.false_eq_true, Bool.true_eq_false, not_true_eq_false, not_false_eq_true, ↓reduceIte, nlT, nlF, ntT, ntF, neT, neF, ieT, ieF, decide_true, decide_false, Bool.not_true, Bool.not_false, Bool.and_true, Bool.true_and, Bool.and_false, Bool.false_and, Bool.or_true, Bool.true_or, Bool.or_false, Bool.false_or, h1.pe]
  · intro s hI
    obtain ⟨⟨S1, F⟩, u, x, y, z⟩ := s
    obtain ⟨i1, i2, i3, i4, i5⟩ := hI
    simp only at i1 i2 i3 i4 i5
    have h1 := h.pl i1 (by decide)
    have p12 : ∀ a, a ≤ 12 → prN a ≤ 66 := by decide
    have p1 := p12 (A 0 0) hP
    refine ⟨S1, F, ?_, i1, i2, by omega, i4, ?_⟩
    · show run 46 0 4 [vR 36 0, vR 1 q, vI (nI F.length), vI (nI (A 0 0)), u, x, y, z] [] S1 = _
      rw [s46_4]
      simp (disch := omega) only [s46_0, s46_1, s46_2, s46_3, s46_5, s46_6, s46_9, s46_12, s46_13, s46_14, s46_15, s46_19, s46_20, s46_23, s46_26, s46_27, s46_28, s46_29, s46_31, s46_34, s46_36, s46_38, s46_41, s46_42, s46_45, s46_46, s46_48, s46_49, s46_53, s46_54, s46_57, s46_59, s46_62, s46_64, s46_65, s46_68, s46_70, s46_71, s46_72, s46_73, s46_74, s46_77, s46_78, s46_81, s46_82, s46_84, s46_87, s46_90, s46_92, s46_95, s46_96, s46_97, s46_100, s46_101, s46_104, s46_105, s46_108, s46_109, s46_112, s46_114, s46_115, s46_118, s46_121, s46_124, s46_127, s46_128, q_0, q_1, q_2, q_3, q_4, q_5, q_6, q_7, q_8, q_9, q_10, q_11, q_12, q_13, q_14, q_16, q_20, q_23, q_24, q_32, q_42, q_43, q_45, q_47, q_48, q_50, q_57, q_59, q_60, q_61, q_62, q_63, q_64, q_66, q_91, q_93, q_97, q_99, q_122, q_144, q_255, q_256, q_300, q_380, q_400, q_620, q_999, q_1000, q_4095, q_4096, q_9999, q_65536, q_99999, q_31, nI_add, pk_mul, nE, nL, nT, nM31, nShl, ib_nI, nI_clamp, bI_n0, bI_n1, bI_nar, uI_r, uI_l, uL_r, uL_i, uL_p, uA_r, uA_l, bV_some, bU_some, nar_n0, nar_n1, and_self, and_true, true_and, and_false, false_and, if_true, if_false, eq_self, Bool.false_eq_true, Bool.true_eq_false, not_true_eq_false, not_false_eq_true, ↓reduceIte, nlT, nlF, ntT, ntF, neT, neF, ieT, ieF, decide_true, decide_false, Bool.not_true, Bool.not_false, Bool.and_true, Bool.true_and, Bool.and_false, Bool.false_and, Bool.or_true, Bool.true_or, Bool.or_false, Bool.false_or, h1.pe]
    · rintro y ⟨y0, a, b, ha, hb, hab, rfl⟩
      by_cases c : a < b
      · exact i5 a b c hb (by omega) y0
      · rw [ndS_sym] at y0 ⊢
        exact i5 b a (by omega) ha (by omega) y0
