/-! numbers, signs, faults; the reference's readers of the tape -/
def nmF (T : Tp) (b : Nat) : Nat → Nat
  | 0 => 0
  | m + 1 => 10 * nmF T b m + (T.2 (b + m) - 48)
theorem nmF_s (T : Tp) (b m : Nat) : nmF T b (m + 1) = 10 * nmF T b m + (T.2 (b + m) - 48) := rfl
theorem nmF_lt {T : Tp} {b : Nat} : ∀ {m : Nat}, (∀ i, b ≤ i → i < b + m → T.2 i ≤ 57) → nmF T b m < 10 ^ m
  | 0, _ => by show (0 : Nat) < 1; decide
  | m + 1, h => by
    have ih := nmF_lt (m := m) (fun i h1 h2 => h i h1 (by omega))
    have := h (b + m) (by omega) (by omega)
    rw [nmF_s, Nat.pow_succ]
    omega
theorem dg_c {T : Tp} {b p i : Nat} (h1 : b ≤ i) (h2 : i < p) (hb : p ≤ sc T dgP b) : 48 ≤ T.2 i ∧ T.2 i ≤ 57 ∧ i < T.1 := by
  have := sc_b T dgP b i h1 (by omega)
  have h3 : 48 ≤ T.2 i ∧ T.2 i ≤ 57 := by simpa [dgP] using this.2
  exact ⟨h3.1, h3.2, this.1⟩
def m5 (n : Nat) : Nat := if n < 5 then n else 5
theorem nm5 {T : Tp} {b p : Nat} (hb : p ≤ sc T dgP b) : nmF T b (m5 (p - b)) ≤ 99999 := by
  have h1 : nmF T b (m5 (p - b)) < 10 ^ m5 (p - b) := nmF_lt (fun i g1 g2 => by
    unfold m5 at g2
    by_cases c : b ≤ p
    · exact (dg_c (p := p) g1 (by split at g2 <;> omega) hb).2.1
    · rw [show p - b = 0 by omega] at g2
      simp at g2
      omega)
  have h2 : 10 ^ m5 (p - b) ≤ 10 ^ 5 := Nat.pow_le_pow_right (by decide) (by unfold m5; split <;> omega)
  have h3 : (10 : Nat) ^ 5 = 100000 := by decide
  omega
def nuV (T : Tp) (b : Nat) : Int32 := if 5 < sc T dgP b - b then -nI 1 else nI (nmF T b (sc T dgP b - b))
theorem x_numLoop {T : Tp} {b : Nat} (hK : TpK T) (hb4 : b ≤ 400) : ∀ p {S : Sto}, TpC S T → S.1 24 0 2 = nI b → S.1 24 0 3 = nI p → b ≤ p → p ≤ 400 → sc T dgP p = sc T dgP b → run 63 0 10 [vR 24 0, vI (nI (nmF T b (m5 (p - b))))] [] S = some (some (vI (nuV T b)), uI S 24 0 3 (nI (sc T dgP b))) := by
  have hK1 := hK.1
  refine sc_ind (T := T) (P := dgP) (Q := fun p => ∀ {S : Sto}, TpC S T → S.1 24 0 2 = nI b → S.1 24 0 3 = nI p → b ≤ p → p ≤ 400 → sc T dgP p = sc T dgP b → run 63 0 10 [vR 24 0, vI (nI (nmF T b (m5 (p - b))))] [] S = some (some (vI (nuV T b)), uI S 24 0 3 (nI (sc T dgP b)))) ?_ ?_
  · intro p h1 h2 ih S hT ha hp hbp hp4 hsc
    have h3 : 48 ≤ T.2 p ∧ T.2 p ≤ 57 := by simpa [dgP] using h2
    have r1 := hT.2 p h1
    have hle := sc_ge T dgP p
    have hn := nm5 (T := T) (b := b) (p := p) (by omega)
    have e := ih (S := uI S 24 0 3 (nI (p + 1))) (hT.u (by decide) (by decide)) (by rw [uI_r, if_neg (by omega)]; exact ha) (by rw [uI_r, if_pos ⟨rfl, rfl, rfl⟩]) (by omega) (by omega) (by rw [← hsc, sc_t h1 h2])
    rw [uI_uI] at e
    rw [← e, s63_10]
    by_cases c5 : p - b < 5
    · have e5 : nmF T b (m5 (p + 1 - b)) = 10 * nmF T b (m5 (p - b)) + T.2 p - 48 := by
        unfold m5
        rw [if_pos c5]
        have : (if p + 1 - b < 5 then p + 1 - b else 5) = (p - b) + 1 := by split <;> omega
        rw [this, nmF_s, show b + (p - b) = p by omega]
        omega
      rw [e5]
      simp (disch := omega) only [s63_0, s63_1, s63_2, s63_3, s63_4, s63_7, s63_11, s63_14, s63_15, s63_18, s63_21, s63_22, s63_25, s63_26, s63_29, s63_30, s63_32, s63_35, s63_36, s63_39, s63_40, s63_43, s63_44, s63_46, s63_49, s63_50, s63_53, s63_54, s63_57, s63_58, s63_59, s63_62, s63_64, s63_65, s63_66, s63_67, s63_70, s63_71, s63_74, s63_75, s63_76, s63_78, s63_79, s63_80, s63_81, s63_82, s63_85, s63_86, s63_87, s63_90, s63_93, s63_94, s63_97, s63_98, s63_101, s63_102, s63_103, s63_106, s63_107, s63_110, s63_111, q_0, q_1, q_2, q_3, q_4, q_5, q_6, q_7, q_8, q_9, q_10, q_11, q_12, q_13, q_14, q_16, q_20, q_23, q_24, q_32, q_42, q_43, q_45, q_47, q_48, q_50, q_57, q_59, q_60, q_61, q_62, q_63, q_64, q_66, q_91, q_93, q_97, q_99, q_122, q_144, q_255, q_256, q_300, q_380, q_400, q_620, q_999, q_1000, q_4095, q_4096, q_9999, q_65536, q_99999, q_31, nI_add, pk_mul, nE, nL, nT, nM31, nShl, ib_nI, nI_clamp, bI_n0, bI_n1, bI_nar, uI_r, uI_l, uL_r, uL_i, uL_p, uA_r, uA_l, bV_some, bU_some, nar_n0, nar_n1, and_self, and_true, true_and, and_false, false_and, if_true, if_false, eq_self, Bool.false_eq_true, Bool.true_eq_false, not_true_eq_false, not_false_eq_true, ↓reduceIte, nlT, nlF, ntT, ntF, neT, neF, ieT, ieF, decide_true, decide_false, Bool.not_true, Bool.not_false, Bool.and_true, Bool.true_and, Bool.and_false, Bool.false_and, Bool.or_true, Bool.true_or, Bool.or_false, Bool.false_or, hp, ha, hT.1, r1, nSub]
    · have e5 : m5 (p + 1 - b) = m5 (p - b) := by
        unfold m5
        rw [if_neg (by omega), if_neg c5]
      rw [e5]
      simp (disch := omega) only [s63_0, s63_1, s63_2, s63_3, s63_4, s63_7, s63_11, s63_14, s63_15, s63_18, s63_21, s63_22, s63_25, s63_26, s63_29, s63_30, s63_32, s63_35, s63_36, s63_39, s63_40, s63_43, s63_44, s63_46, s63_49, s63_50, s63_53, s63_54, s63_57, s63_58, s63_59, s63_62, s63_64, s63_65, s63_66, s63_67, s63_70, s63_71, s63_74, s63_75, s63_76, s63_78, s63_79, s63_80, s63_81, s63_82, s63_85, s63_86, s63_87, s63_90, s63_93, s63_94, s63_97, s63_98, s63_101, s63_102, s63_103, s63_106, s63_107, s63_110, s63_111, q_0, q_1, q_2, q_3, q_4, q_5, q_6, q_7, q_8, q_9, q_10, q_11, q_12, q_13, q_14, q_16, q_20, q_23, q_24, q_32, q_42, q_43, q_45, q_47, q_48, q_50, q_57, q_59, q_60, q_61, q_62, q_63, q_64, q_66, q_91, q_93, q_97, q_99, q_122, q_144, q_255, q_256, q_300, q_380, q_400, q_620, q_999, q_1000, q_4095, q_4096, q_9999, q_65536, q_99999, q_31, nI_add, pk_mul, nE, nL, nT, nM31, nShl, ib_nI, nI_clamp, bI_n0, bI_n1, bI_nar, uI_r, uI_l, uL_r, uL_i, uL_p, uA_r, uA_l, bV_some, bU_some, nar_n0, nar_n1, and_self, and_true, true_and, and_false, false_and, if_true, if_false, eq_self, Bool.false_eq_true, Bool.true_eq_false, not_true_eq_false, not_false_eq_true, ↓reduceIte, nlT, nlF, ntT, ntF, neT, neF, ieT, ieF, decide_true, decide_false, Bool.not_true, Bool.not_false, Bool.and_true, Bool.true_and, Bool.and_false, Bool.false_and, Bool.or_true, Bool.true_or, Bool.or_false, Bool.false_or, hp, ha, hT.1, r1, nSub]
  · intro p h S hT ha hp hbp hp4 hsc
    have e0 : sc T dgP p = p := sc_f h
    rw [e0] at hsc
    rw [← hsc, uI_self hp, s63_10]
    have fin : run 63 0 93 [vR 24 0, vI (nI (nmF T b (m5 (p - b))))] [] S = some (some (vI (nuV T b)), S) := by
      unfold nuV
      rw [← hsc]
      by_cases c5 : 5 < p - b
      · rw [if_pos c5]
        simp (disch := omega) only [s63_0, s63_1, s63_2, s63_3, s63_4, s63_7, s63_11, s63_14, s63_15, s63_18, s63_21, s63_22, s63_25, s63_26, s63_29, s63_30, s63_32, s63_35, s63_36, s63_39, s63_40, s63_43, s63_44, s63_46, s63_49, s63_50, s63_53, s63_54, s63_57, s63_58, s63_59, s63_62, s63_64, s63_65, s63_66, s63_67, s63_70, s63_71, s63_74, s63_75, s63_76, s63_78, s63_79, s63_80, s63_81, s63_82, s63_85, s63_86, s63_87, s63_90, s63_93, s63_94, s63_97, s63_98, s63_101, s63_102, s63_103, s63_106, s63_107, s63_110, s63_111, q_0, q_1, q_2, q_3, q_4, q_5, q_6, q_7, q_8, q_9, q_10, q_11, q_12, q_13, q_14, q_16, q_20, q_23, q_24, q_32, q_42, q_43, q_45, q_47, q_48, q_50, q_57, q_59, q_60, q_61, q_62, q_63, q_64, q_66, q_91, q_93, q_97, q_99, q_122, q_144, q_255, q_256, q_300, q_380, q_400, q_620, q_999, q_1000, q_4095, q_4096, q_9999, q_65536, q_99999, q_31, nI_add, pk_mul, nE, nL, nT, nM31, nShl, ib_nI, nI_clamp, bI_n0, bI_n1, bI_nar, uI_r, uI_l, uL_r, uL_i, uL_p, uA_r, uA_l, bV_some, bU_some, nar_n0, nar_n1, and_self, and_true, true_and, and_false, false_and, if_true, if_false, eq_self, Bool.false_eq_true, Bool.true_eq_false, not_true_eq_false, not_false_eq_true, ↓reduceIte, nlT, nlF, ntT, ntF, neT, neF, ieT, ieF, decide_true, decide_false, Bool.not_true, Bool.not_false, Bool.and_true, Bool.true_and, Bool.and_false, Bool.false_and, Bool.or_true, Bool.true_or, Bool.or_false, Bool.false_or, hp, ha, nSub]
      · have e5 : m5 (p - b) = p - b := by
          unfold m5
          split <;> omega
        rw [if_neg c5, e5]
        simp (disch := omega) only [s63_0, s63_1, s63_2, s63_3, s63_4, s63_7, s63_11, s63_14, s63_15, s63_18, s63_21, s63_22, s63_25, s63_26, s63_29, s63_30, s63_32, s63_35, s63_36, s63_39, s63_40, s63_43, s63_44, s63_46, s63_49, s63_50, s63_53, s63_54, s63_57, s63_58, s63_59, s63_62, s63_64, s63_65, s63_66, s63_67, s63_70, s63_71, s63_74, s63_75, s63_76, s63_78, s63_79, s63_80, s63_81, s63_82, s63_85, s63_86, s63_87, s63_90, s63_93, s63_94, s63_97, s63_98, s63_101, s63_102, s63_103, s63_106, s63_107, s63_110, s63_111, q_0, q_1, q_2, q_3, q_4, q_5, q_6, q_7, q_8, q_9, q_10, q_11, q_12, q_13, q_14, q_16, q_20, q_23, q_24, q_32, q_42, q_43, q_45, q_47, q_48, q_50, q_57, q_59, q_60, q_61, q_62, q_63, q_64, q_66, q_91, q_93, q_97, q_99, q_122, q_144, q_255, q_256, q_300, q_380, q_400, q_620, q_999, q_1000, q_4095, q_4096, q_9999, q_65536, q_99999, q_31, nI_add, pk_mul, nE, nL, nT, nM31, nShl, ib_nI, nI_clamp, bI_n0, bI_n1, bI_nar, uI_r, uI_l, uL_r, uL_i, uL_p, uA_r, uA_l, bV_some, bU_some, nar_n0, nar_n1, and_self, and_true, true_and, and_false, false_and, if_true, if_false, eq_self, Bool.false_eq_true, Bool.true_eq_false, not_true_eq_false, not_false_eq_true, ↓reduceIte, nlT, nlF, ntT, ntF, neT, neF, ieT, ieF, decide_true, decide_false, Bool.not_true, Bool.not_false, Bool.and_true, Bool.true_and, Bool.and_false, Bool.false_and, Bool.or_true, Bool.true_or, Bool.or_false, Bool.false_or, hp, ha, nSub]
    by_cases c : p < T.1
    · have r1 := hT.2 p c
      have hb := hK.2 p c
      have h3 : ¬ (48 ≤ T.2 p ∧ T.2 p ≤ 57) := fun e => h ⟨c, by simpa [dgP] using e⟩
      by_cases c2 : 48 ≤ T.2 p
      · simp (disch := omega) only [s63_0, s63_1, s63_2, s63_3, s63_4, s63_7, s63_11, s63_14, s63_15, s63_18, s63_21, s63_22, s63_25, s63_26, s63_29, s63_30, s63_32, s63_35, s63_36, s63_39, s63_40, s63_43, s63_44, s63_46, s63_49, s63_50, s63_53, s63_54, s63_57, s63_58, s63_59, s63_62, s63_64, s63_65, s63_66, s63_67, s63_70, s63_71, s63_74, s63_75, s63_76, s63_78, s63_79, s63_80, s63_81, s63_82, s63_85, s63_86, s63_87, s63_90, s63_94, s63_97, s63_98, s63_101, s63_102, s63_103, s63_106, s63_107, s63_110, s63_111, q_0, q_1, q_2, q_3, q_4, q_5, q_6, q_7, q_8, q_9, q_10, q_11, q_12, q_13, q_14, q_16, q_20, q_23, q_24, q_32, q_42, q_43, q_45, q_47, q_48, q_50, q_57, q_59, q_60, q_61, q_62, q_63, q_64, q_66, q_91, q_93, q_97, q_99, q_122, q_144, q_255, q_256, q_300, q_380, q_400, q_620, q_999, q_1000, q_4095, q_4096, q_9999, q_65536, q_99999, q_31, nI_add, pk_mul, nE, nL, nT, nM31, nShl, ib_nI, nI_clamp, bI_n0, bI_n1, bI_nar, uI_r, uI_l, uL_r, uL_i, uL_p, uA_r, uA_l, bV_some, bU_some, nar_n0, nar_n1, and_self, and_true, true_and, and_false, false_and, if_true, if_false, eq_self, Bool.false_eq_true, Bool.true_eq_false, not_true_eq_false, not_false_eq_true, ↓reduceIte, nlT, nlF, ntT, ntF, neT, neF, ieT, ieF, decide_true, decide_false, Bool.not_true, Bool.not_false, Bool.and_true, Bool.true_and, Bool.and_false, Bool.false_and, Bool.or_true, Bool.true_or, Bool.or_false, Bool.false_or, hp, hT.1, r1]
        exact fin
      · simp (disch := omega) only [s63_0, s63_1, s63_2, s63_3, s63_4, s63_7, s63_11, s63_14, s63_15, s63_18, s63_21, s63_22, s63_25, s63_26, s63_29, s63_30, s63_32, s63_35, s63_36, s63_39, s63_40, s63_43, s63_44, s63_46, s63_49, s63_50, s63_53, s63_54, s63_57, s63_58, s63_59, s63_62, s63_64, s63_65, s63_66, s63_67, s63_70, s63_71, s63_74, s63_75, s63_76, s63_78, s63_79, s63_80, s63_81, s63_82, s63_85, s63_86, s63_87, s63_90, s63_94, s63_97, s63_98, s63_101, s63_102, s63_103, s63_106, s63_107, s63_110, s63_111, q_0, q_1, q_2, q_3, q_4, q_5, q_6, q_7, q_8, q_9, q_10, q_11, q_12, q_13, q_14, q_16, q_20, q_23, q_24, q_32, q_42, q_43, q_45, q_47, q_48, q_50, q_57, q_59, q_60, q_61, q_62, q_63, q_64, q_66, q_91, q_93, q_97, q_99, q_122, q_144, q_255, q_256, q_300, q_380, q_400, q_620, q_999, q_1000, q_4095, q_4096, q_9999, q_65536, q_99999, q_31, nI_add, pk_mul, nE, nL, nT, nM31, nShl, ib_nI, nI_clamp, bI_n0, bI_n1, bI_nar, uI_r, uI_l, uL_r, uL_i, uL_p, uA_r, uA_l, bV_some, bU_some, nar_n0, nar_n1, and_self, and_true, true_and, and_false, false_and, if_true, if_false, eq_self, Bool.false_eq_true, Bool.true_eq_false, not_true_eq_false, not_false_eq_true, ↓reduceIte, nlT, nlF, ntT, ntF, neT, neF, ieT, ieF, decide_true, decide_false, Bool.not_true, Bool.not_false, Bool.and_true, Bool.true_and, Bool.and_false, Bool.false_and, Bool.or_true, Bool.true_or, Bool.or_false, Bool.false_or, hp, hT.1, r1]
        exact fin
    · simp (disch := omega) only [s63_0, s63_1, s63_2, s63_3, s63_4, s63_7, s63_11, s63_14, s63_15, s63_18, s63_21, s63_22, s63_25, s63_26, s63_29, s63_30, s63_32, s63_35, s63_36, s63_39, s63_40, s63_43, s63_44, s63_46, s63_49, s63_50, s63_53, s63_54, s63_57, s63_58, s63_59, s63_62, s63_64, s63_65, s63_66, s63_67, s63_70, s63_71, s63_74, s63_75, s63_76, s63_78, s63_79, s63_80, s63_81, s63_82, s63_85, s63_86, s63_87, s63_90, s63_94, s63_97, s63_98, s63_101, s63_102, s63_103, s63_106, s63_107, s63_110, s63_111, q_0, q_1, q_2, q_3, q_4, q_5, q_6, q_7, q_8, q_9, q_10, q_11, q_12, q_13, q_14, q_16, q_20, q_23, q_24, q_32, q_42, q_43, q_45, q_47, q_48, q_50, q_57, q_59, q_60, q_61, q_62, q_63, q_64, q_66, q_91, q_93, q_97, q_99, q_122, q_144, q_255, q_256, q_300, q_380, q_400, q_620, q_999, q_1000, q_4095, q_4096, q_9999, q_65536, q_99999, q_31, nI_add, pk_mul, nE, nL, nT, nM31, nShl, ib_nI, nI_clamp, bI_n0, bI_n1, bI_nar, uI_r, uI_l, uL_r, uL_i, uL_p, uA_r, uA_l, bV_some, bU_some, nar_n0, nar_n1, and_self, and_true, true_and, and_false, false_and, if_true, if_false, eq_self, Bool.false_eq_true, Bool.true_eq_false, not_true_eq_false, not_false_eq_true, ↓reduceIte, nlT, nlF, ntT, ntF, neT, neF, ieT, ieF, decide_true, decide_false, Bool.not_true, Bool.not_false, Bool.and_true, Bool.true_and, Bool.and_false, Bool.false_and, Bool.or_true, Bool.true_or, Bool.or_false, Bool.false_or, hp, hT.1]
      exact fin
theorem x_number {S : Sto} {T : Tp} {b : Nat} (hK : TpK T) (hT : TpC S T) (hb : S.1 24 0 2 = nI b) (hb4 : b ≤ 400) : call 63 0 [vR 24 0] S = some (some (vI (nuV T b)), uI S 24 0 3 (nI (sc T dgP b))) := by
  have e := x_numLoop hK hb4 b (S := uI S 24 0 3 (nI b)) (hT.u (by decide) (by decide)) (by rw [uI_r, if_neg (by omega)]; exact hb) (by rw [uI_r, if_pos ⟨rfl, rfl, rfl⟩]) (Nat.le_refl _) hb4 rfl
  rw [uI_uI, Nat.sub_self] at e
  show run 63 0 0 [vR 24 0, vU] [] S = _
  rw [← e]
  simp (disch := omega) only [s63_0, s63_1, s63_2, s63_3, s63_4, s63_7, q_0, q_1, q_2, q_3, q_4, q_5, q_6, q_7, q_8, q_9, q_10, q_11, q_12, q_13, q_14, q_16, q_20, q_23, q_24, q_32, q_42, q_43, q_45, q_47, q_48, q_50, q_57, q_59, q_60, q_61, q_62, q_63, q_64, q_66, q_91, q_93, q_97, q_99, q_122, q_144, q_255, q_256, q_300, q_380, q_400, q_620, q_999, q_1000, q_4095, q_4096, q_9999, q_65536, q_99999, q_31, nI_add, pk_mul, nE, nL, nT, nM31, nShl, ib_nI, nI_clamp, bI_n0, bI_n1, bI_nar, uI_r, uI_l, uL_r, uL_i, uL_p, uA_r, uA_l, bV_some, bU_some, nar_n0, nar_n1, and_self, and_true, true_and, and_false, false_and, if_true, if_false, eq_self, Bool.false_eq_true, Bool.true_eq_false, not_true_eq_false, not_false_eq_true, ↓reduceIte, nlT, nlF, ntT, ntF, neT, neF, ieT, ieF, decide_true, decide_false, Bool.not_true, Bool.not_false, Bool.and_true, Bool.true_and, Bool.and_false, Bool.false_and, Bool.or_true, Bool.true_or, Bool.or_false, Bool.false_or, hb]
  rfl
/-- a comparison's kind and where it stops -/
def sgn (T : Tp) (p : Nat) : Option (Nat × Nat) := if p < T.1 then (if T.2 p = 61 then some (6, p + 1) else if T.2 p = 60 then (if p + 1 < T.1 ∧ T.2 (p + 1) = 61 then some (5, p + 2) else some (4, p + 1)) else if T.2 p = 62 then (if p + 1 < T.1 ∧ T.2 (p + 1) = 61 then some (7, p + 2) else some (8, p + 1)) else none) else none
def sgV (x : Option (Nat × Nat)) : Int32 := match x with
  | none => nI 0
  | some (k, _) => enc k 0
theorem q_200 : (200 : Int32) = nI 200 := rfl
theorem q_201 : (201 : Int32) = nI 201 := rfl
theorem x_sign {S : Sto} {T : Tp} {p : Nat} (hK : TpK T) (hT : TpC S T) (hp : S.1 24 0 2 = nI p) (hp4 : p ≤ 400) : ∃ S', call 67 0 [vR 24 0] S = some (some (vI (sgV (sgn T (sc T blP p)))), S') ∧ ((sgn T (sc T blP p) = none ∧ S' = uI S 24 0 2 (nI (sc T blP p))) ∨ ∃ k e, sgn T (sc T blP p) = some (k, e) ∧ S' = uI (uI S 24 0 2 (nI (sc T blP p))) 24 0 3 (nI e)) := by
  have hK1 := hK.1
  have e1 := x_next hK p hT hp hp4
  have hb4 : sc T blP p ≤ 400 := by
    by_cases c : p ≤ T.1
    · have := sc_le T blP p c; omega
    · rw [sc_mx T blP (by omega)]; exact hp4
  show ∃ S', run 67 0 0 [vR 24 0, vU] [] S = _ ∧ _
  generalize sc T blP p = b at e1 hb4
  have hT1 : TpC (uI S 24 0 2 (nI b)) T := hT.u (by decide) (by decide)
  have ra : (uI S 24 0 2 (nI b)).1 24 0 2 = nI b := by rw [uI_r, if_pos ⟨rfl, rfl, rfl⟩]
  have hl1 := hT1.1
  unfold sgn
  by_cases c0 : b < T.1
  · have hb := hK.2 b c0
    have ec : chI T b = nI (T.2 b) := by unfold chI; rw [if_pos c0]
    rw [ec] at e1
    rw [if_pos c0]
    by_cases c1 : T.2 b = 61
    · rw [if_pos c1]
      rw [c1] at e1
      refine ⟨_, ?_, Or.inr ⟨6, b + 1, rfl, rfl⟩⟩
      simp (disch := omega) only [s67_0, s67_1, s67_4, s67_5, s67_6, s67_8, s67_11, s67_12, s67_14, s67_17, s67_18, s67_20, s67_23, s67_24, s67_25, s67_26, s67_27, s67_30, s67_31, s67_32, s67_35, s67_36, s67_38, s67_41, s67_42, s67_45, s67_46, s67_49, s67_52, s67_53, s67_56, s67_57, s67_60, s67_61, s67_63, s67_66, s67_67, s67_68, s67_71, s67_72, s67_73, s67_76, s67_77, s67_79, s67_82, s67_85, s67_88, s67_91, s67_92, s67_93, s67_94, q_0, q_1, q_2, q_3, q_4, q_5, q_6, q_7, q_8, q_9, q_10, q_11, q_12, q_13, q_14, q_16, q_20, q_23, q_24, q_32, q_42, q_43, q_45, q_47, q_48, q_50, q_57, q_59, q_60, q_61, q_62, q_63, q_64, q_66, q_91, q_93, q_97, q_99, q_122, q_144, q_255, q_256, q_300, q_380, q_400, q_620, q_999, q_1000, q_4095, q_4096, q_9999, q_65536, q_99999, q_31, nI_add, pk_mul, nE, nL, nT, nM31, nShl, ib_nI, nI_clamp, bI_n0, bI_n1, bI_nar, uI_r, uI_l, uL_r, uL_i, uL_p, uA_r, uA_l, bV_some, bU_some, nar_n0, nar_n1, and_self, and_true, true_and, and_false, false_and, if_true, if_false, eq_self, Bool.false_eq_true, Bool.true_eq_false, not_true_eq_false, not_false_eq_true, ↓reduceIte, nlT, nlF, ntT, ntF, neT, neF, ieT, ieF, decide_true, decide_false, Bool.not_true, Bool.not_false, Bool.and_true, Bool.true_and, Bool.and_false, Bool.false_and, Bool.or_true, Bool.true_or, Bool.or_false, Bool.false_or, e1, ra]
      rfl
    · rw [if_neg c1]
      by_cases c2 : T.2 b = 60
      · rw [if_pos c2]
        rw [c2] at e1
        by_cases c3 : b + 1 < T.1
        · have r2 : S.1 25 0 (b + 1) = nI (T.2 (b + 1)) := hT.2 _ c3
          have hl2 : S.1 24 0 1 = nI T.1 := hT.1
          have hb2 := hK.2 _ c3
          by_cases c4 : T.2 (b + 1) = 61
          · rw [if_pos ⟨c3, c4⟩]
            rw [c4] at r2
            refine ⟨_, ?_, Or.inr ⟨5, b + 2, rfl, rfl⟩⟩
            simp (disch := omega) only [s67_0, s67_1, s67_4, s67_5, s67_6, s67_8, s67_11, s67_12, s67_14, s67_17, s67_18, s67_20, s67_23, s67_24, s67_25, s67_26, s67_27, s67_30, s67_31, s67_32, s67_35, s67_36, s67_38, s67_41, s67_42, s67_45, s67_46, s67_49, s67_52, s67_53, s67_56, s67_57, s67_60, s67_61, s67_63, s67_66, s67_67, s67_68, s67_71, s67_72, s67_73, s67_76, s67_77, s67_79, s67_82, s67_85, s67_88, s67_91, s67_92, s67_93, s67_94, q_0, q_1, q_2, q_3, q_4, q_5, q_6, q_7, q_8, q_9, q_10, q_11, q_12, q_13, q_14, q_16, q_20, q_23, q_24, q_32, q_42, q_43, q_45, q_47, q_48, q_50, q_57, q_59, q_60, q_61, q_62, q_63, q_64, q_66, q_91, q_93, q_97, q_99, q_122, q_144, q_255, q_256, q_300, q_380, q_400, q_620, q_999, q_1000, q_4095, q_4096, q_9999, q_65536, q_99999, q_31, nI_add, pk_mul, nE, nL, nT, nM31, nShl, ib_nI, nI_clamp, bI_n0, bI_n1, bI_nar, uI_r, uI_l, uL_r, uL_i, uL_p, uA_r, uA_l, bV_some, bU_some, nar_n0, nar_n1, and_self, and_true, true_and, and_false, false_and, if_true, if_false, eq_self, Bool.false_eq_true, Bool.true_eq_false, not_true_eq_false, not_false_eq_true, ↓reduceIte, nlT, nlF, ntT, ntF, neT, neF, ieT, ieF, decide_true, decide_false, Bool.not_true, Bool.not_false, Bool.and_true, Bool.true_and, Bool.and_false, Bool.false_and, Bool.or_true, Bool.true_or, Bool.or_false, Bool.false_or, e1, ra, hl2, r2, uI_uI]
            rfl
          · rw [if_neg (fun q => c4 q.2)]
            refine ⟨_, ?_, Or.inr ⟨4, b + 1, rfl, rfl⟩⟩
            simp (disch := omega) only [s67_0, s67_1, s67_4, s67_5, s67_6, s67_8, s67_11, s67_12, s67_14, s67_17, s67_18, s67_20, s67_23, s67_24, s67_25, s67_26, s67_27, s67_30, s67_31, s67_32, s67_35, s67_36, s67_38, s67_41, s67_42, s67_45, s67_46, s67_49, s67_52, s67_53, s67_56, s67_57, s67_60, s67_61, s67_63, s67_66, s67_67, s67_68, s67_71, s67_72, s67_73, s67_76, s67_77, s67_79, s67_82, s67_85, s67_88, s67_91, s67_92, s67_93, s67_94, q_0, q_1, q_2, q_3, q_4, q_5, q_6, q_7, q_8, q_9, q_10, q_11, q_12, q_13, q_14, q_16, q_20, q_23, q_24, q_32, q_42, q_43, q_45, q_47, q_48, q_50, q_57, q_59, q_60, q_61, q_62, q_63, q_64, q_66, q_91, q_93, q_97, q_99, q_122, q_144, q_255, q_256, q_300, q_380, q_400, q_620, q_999, q_1000, q_4095, q_4096, q_9999, q_65536, q_99999, q_31, nI_add, pk_mul, nE, nL, nT, nM31, nShl, ib_nI, nI_clamp, bI_n0, bI_n1, bI_nar, uI_r, uI_l, uL_r, uL_i, uL_p, uA_r, uA_l, bV_some, bU_some, nar_n0, nar_n1, and_self, and_true, true_and, and_false, false_and, if_true, if_false, eq_self, Bool.false_eq_true, Bool.true_eq_false, not_true_eq_false, not_false_eq_true, ↓reduceIte, nlT, nlF, ntT, ntF, neT, neF, ieT, ieF, decide_true, decide_false, Bool.not_true, Bool.not_false, Bool.and_true, Bool.true_and, Bool.and_false, Bool.false_and, Bool.or_true, Bool.true_or, Bool.or_false, Bool.false_or, e1, ra, hl2, r2, c4]
            rfl
        · rw [if_neg (fun q => c3 q.1)]
          have hl2 : S.1 24 0 1 = nI T.1 := hT.1
          refine ⟨_, ?_, Or.inr ⟨4, b + 1, rfl, rfl⟩⟩
          simp (disch := omega) only [s67_0, s67_1, s67_4, s67_5, s67_6, s67_8, s67_11, s67_12, s67_14, s67_17, s67_18, s67_20, s67_23, s67_24, s67_25, s67_26, s67_27, s67_30, s67_31, s67_32, s67_35, s67_36, s67_38, s67_41, s67_42, s67_45, s67_46, s67_49, s67_52, s67_53, s67_56, s67_57, s67_60, s67_61, s67_63, s67_66, s67_67, s67_68, s67_71, s67_72, s67_73, s67_76, s67_77, s67_79, s67_82, s67_85, s67_88, s67_91, s67_92, s67_93, s67_94, q_0, q_1, q_2, q_3, q_4, q_5, q_6, q_7, q_8, q_9, q_10, q_11, q_12, q_13, q_14, q_16, q_20, q_23, q_24, q_32, q_42, q_43, q_45, q_47, q_48, q_50, q_57, q_59, q_60, q_61, q_62, q_63, q_64, q_66, q_91, q_93, q_97, q_99, q_122, q_144, q_255, q_256, q_300, q_380, q_400, q_620, q_999, q_1000, q_4095, q_4096, q_9999, q_65536, q_99999, q_31, nI_add, pk_mul, nE, nL, nT, nM31, nShl, ib_nI, nI_clamp, bI_n0, bI_n1, bI_nar, uI_r, uI_l, uL_r, uL_i, uL_p, uA_r, uA_l, bV_some, bU_some, nar_n0, nar_n1, and_self, and_true, true_and, and_false, false_and, if_true, if_false, eq_self, Bool.false_eq_true, Bool.true_eq_false, not_true_eq_false, not_false_eq_true, ↓reduceIte, nlT, nlF, ntT, ntF, neT, neF, ieT, ieF, decide_true, decide_false, Bool.not_true, Bool.not_false, Bool.and_true, Bool.true_and, Bool.and_false, Bool.false_and, Bool.or_true, Bool.true_or, Bool.or_false, Bool.false_or, e1, ra, hl2]
          rfl
      · rw [if_neg c2]
        by_cases c5 : T.2 b = 62
        · rw [if_pos c5]
          rw [c5] at e1
          by_cases c3 : b + 1 < T.1
          · have r2 : S.1 25 0 (b + 1) = nI (T.2 (b + 1)) := hT.2 _ c3
            have hl2 : S.1 24 0 1 = nI T.1 := hT.1
            have hb2 := hK.2 _ c3
            by_cases c4 : T.2 (b + 1) = 61
            · rw [if_pos ⟨c3, c4⟩]
              rw [c4] at r2
              refine ⟨_, ?_, Or.inr ⟨7, b + 2, rfl, rfl⟩⟩
              simp (disch := omega) only [s67_0, s67_1, s67_4, s67_5, s67_6, s67_8, s67_11, s67_12, s67_14, s67_17, s67_18, s67_20, s67_23, s67_24, s67_25, s67_26, s67_27, s67_30, s67_31, s67_32, s67_35, s67_36, s67_38, s67_41, s67_42, s67_45, s67_46, s67_49, s67_52, s67_53, s67_56, s67_57, s67_60, s67_61, s67_63, s67_66, s67_67, s67_68, s67_71, s67_72, s67_73, s67_76, s67_77, s67_79, s67_82, s67_85, s67_88, s67_91, s67_92, s67_93, s67_94, q_0, q_1, q_2, q_3, q_4, q_5, q_6, q_7, q_8, q_9, q_10, q_11, q_12, q_13, q_14, q_16, q_20, q_23, q_24, q_32, q_42, q_43, q_45, q_47, q_48, q_50, q_57, q_59, q_60, q_61, q_62, q_63, q_64, q_66, q_91, q_93, q_97, q_99, q_122, q_144, q_255, q_256, q_300, q_380, q_400, q_620, q_999, q_1000, q_4095, q_4096, q_9999, q_65536, q_99999, q_31, nI_add, pk_mul, nE, nL, nT, nM31, nShl, ib_nI, nI_clamp, bI_n0, bI_n1, bI_nar, uI_r, uI_l, uL_r, uL_i, uL_p, uA_r, uA_l, bV_some, bU_some, nar_n0, nar_n1, and_self, and_true, true_and, and_false, false_and, if_true, if_false, eq_self, Bool.false_eq_true, Bool.true_eq_false, not_true_eq_false, not_false_eq_true, ↓reduceIte, nlT, nlF, ntT, ntF, neT, neF, ieT, ieF, decide_true, decide_false, Bool.not_true, Bool.not_false, Bool.and_true, Bool.true_and, Bool.and_false, Bool.false_and, Bool.or_true, Bool.true_or, Bool.or_false, Bool.false_or, e1, ra, hl2, r2, uI_uI]
              rfl
            · rw [if_neg (fun q => c4 q.2)]
              refine ⟨_, ?_, Or.inr ⟨8, b + 1, rfl, rfl⟩⟩
              simp (disch := omega) only [s67_0, s67_1, s67_4, s67_5, s67_6, s67_8, s67_11, s67_12, s67_14, s67_17, s67_18, s67_20, s67_23, s67_24, s67_25, s67_26, s67_27, s67_30, s67_31, s67_32, s67_35, s67_36, s67_38, s67_41, s67_42, s67_45, s67_46, s67_49, s67_52, s67_53, s67_56, s67_57, s67_60, s67_61, s67_63, s67_66, s67_67, s67_68, s67_71, s67_72, s67_73, s67_76, s67_77, s67_79, s67_82, s67_85, s67_88, s67_91, s67_92, s67_93, s67_94, q_0, q_1, q_2, q_3, q_4, q_5, q_6, q_7, q_8, q_9, q_10, q_11, q_12, q_13, q_14, q_16, q_20, q_23, q_24, q_32, q_42, q_43, q_45, q_47, q_48, q_50, q_57, q_59, q_60, q_61, q_62, q_63, q_64, q_66, q_91, q_93, q_97, q_99, q_122, q_144, q_255, q_256, q_300, q_380, q_400, q_620, q_999, q_1000, q_4095, q_4096, q_9999, q_65536, q_99999, q_31, nI_add, pk_mul, nE, nL, nT, nM31, nShl, ib_nI, nI_clamp, bI_n0, bI_n1, bI_nar, uI_r, uI_l, uL_r, uL_i, uL_p, uA_r, uA_l, bV_some, bU_some, nar_n0, nar_n1, and_self, and_true, true_and, and_false, false_and, if_true, if_false, eq_self, Bool.false_eq_true, Bool.true_eq_false, not_true_eq_false, not_false_eq_true, ↓reduceIte, nlT, nlF, ntT, ntF, neT, neF, ieT, ieF, decide_true, decide_false, Bool.not_true, Bool.not_false, Bool.and_true, Bool.true_and, Bool.and_false, Bool.false_and, Bool.or_true, Bool.true_or, Bool.or_false, Bool.false_or, e1, ra, hl2, r2, c4]
              rfl
          · rw [if_neg (fun q => c3 q.1)]
            have hl2 : S.1 24 0 1 = nI T.1 := hT.1
            refine ⟨_, ?_, Or.inr ⟨8, b + 1, rfl, rfl⟩⟩
            simp (disch := omega) only [s67_0, s67_1, s67_4, s67_5, s67_6, s67_8, s67_11, s67_12, s67_14, s67_17, s67_18, s67_20, s67_23, s67_24, s67_25, s67_26, s67_27, s67_30, s67_31, s67_32, s67_35, s67_36, s67_38, s67_41, s67_42, s67_45, s67_46, s67_49, s67_52, s67_53, s67_56, s67_57, s67_60, s67_61, s67_63, s67_66, s67_67, s67_68, s67_71, s67_72, s67_73, s67_76, s67_77, s67_79, s67_82, s67_85, s67_88, s67_91, s67_92, s67_93, s67_94, q_0, q_1, q_2, q_3, q_4, q_5, q_6, q_7, q_8, q_9, q_10, q_11, q_12, q_13, q_14, q_16, q_20, q_23, q_24, q_32, q_42, q_43, q_45, q_47, q_48, q_50, q_57, q_59, q_60, q_61, q_62, q_63, q_64, q_66, q_91, q_93, q_97, q_99, q_122, q_144, q_255, q_256, q_300, q_380, q_400, q_620, q_999, q_1000, q_4095, q_4096, q_9999, q_65536, q_99999, q_31, nI_add, pk_mul, nE, nL, nT, nM31, nShl, ib_nI, nI_clamp, bI_n0, bI_n1, bI_nar, uI_r, uI_l, uL_r, uL_i, uL_p, uA_r, uA_l, bV_some, bU_some, nar_n0, nar_n1, and_self, and_true, true_and, and_false, false_and, if_true, if_false, eq_self, Bool.false_eq_true, Bool.true_eq_false, not_true_eq_false, not_false_eq_true, ↓reduceIte, nlT, nlF, ntT, ntF, neT, neF, ieT, ieF, decide_true, decide_false, Bool.not_true, Bool.not_false, Bool.and_true, Bool.true_and, Bool.and_false, Bool.false_and, Bool.or_true, Bool.true_or, Bool.or_false, Bool.false_or, e1, ra, hl2]
            rfl
        · rw [if_neg c5]
          refine ⟨_, ?_, Or.inl ⟨rfl, rfl⟩⟩
          simp (disch := omega) only [s67_0, s67_1, s67_4, s67_5, s67_6, s67_8, s67_11, s67_12, s67_14, s67_17, s67_18, s67_20, s67_23, s67_24, s67_25, s67_26, s67_27, s67_30, s67_31, s67_32, s67_35, s67_36, s67_38, s67_41, s67_42, s67_45, s67_46, s67_49, s67_52, s67_53, s67_56, s67_57, s67_60, s67_61, s67_63, s67_66, s67_67, s67_68, s67_71, s67_72, s67_73, s67_76, s67_77, s67_79, s67_82, s67_85, s67_88, s67_91, s67_92, s67_93, s67_94, q_0, q_1, q_2, q_3, q_4, q_5, q_6, q_7, q_8, q_9, q_10, q_11, q_12, q_13, q_14, q_16, q_20, q_23, q_24, q_32, q_42, q_43, q_45, q_47, q_48, q_50, q_57, q_59, q_60, q_61, q_62, q_63, q_64, q_66, q_91, q_93, q_97, q_99, q_122, q_144, q_255, q_256, q_300, q_380, q_400, q_620, q_999, q_1000, q_4095, q_4096, q_9999, q_65536, q_99999, q_31, nI_add, pk_mul, nE, nL, nT, nM31, nShl, ib_nI, nI_clamp, bI_n0, bI_n1, bI_nar, uI_r, uI_l, uL_r, uL_i, uL_p, uA_r, uA_l, bV_some, bU_some, nar_n0, nar_n1, and_self, and_true, true_and, and_false, false_and, if_true, if_false, eq_self, Bool.false_eq_true, Bool.true_eq_false, not_true_eq_false, not_false_eq_true, ↓reduceIte, nlT, nlF, ntT, ntF, neT, neF, ieT, ieF, decide_true, decide_false, Bool.not_true, Bool.not_false, Bool.and_true, Bool.true_and, Bool.and_false, Bool.false_and, Bool.or_true, Bool.true_or, Bool.or_false, Bool.false_or, e1, c1, c2, c5]
          rfl
  · have ec : chI T b = -nI 1 := by unfold chI; rw [if_neg c0]
    rw [ec] at e1
    rw [if_neg c0]
    have n1 : (-nI 1 = nI 60) = False := by decide
    have n2 : (-nI 1 = nI 61) = False := by decide
    have n3 : (-nI 1 = nI 62) = False := by decide
    refine ⟨_, ?_, Or.inl ⟨rfl, rfl⟩⟩
    simp (disch := omega) only [s67_0, s67_1, s67_4, s67_5, s67_6, s67_8, s67_11, s67_12, s67_14, s67_17, s67_18, s67_20, s67_23, s67_24, s67_25, s67_26, s67_27, s67_30, s67_31, s67_32, s67_35, s67_36, s67_38, s67_41, s67_42, s67_45, s67_46, s67_49, s67_52, s67_53, s67_56, s67_57, s67_60, s67_61, s67_63, s67_66, s67_67, s67_68, s67_71, s67_72, s67_73, s67_76, s67_77, s67_79, s67_82, s67_85, s67_88, s67_91, s67_92, s67_93, s67_94, q_0, q_1, q_2, q_3, q_4, q_5, q_6, q_7, q_8, q_9, q_10, q_11, q_12, q_13, q_14, q_16, q_20, q_23, q_24, q_32, q_42, q_43, q_45, q_47, q_48, q_50, q_57, q_59, q_60, q_61, q_62, q_63, q_64, q_66, q_91, q_93, q_97, q_99, q_122, q_144, q_255, q_256, q_300, q_380, q_400, q_620, q_999, q_1000, q_4095, q_4096, q_9999, q_65536, q_99999, q_31, nI_add, pk_mul, nE, nL, nT, nM31, nShl, ib_nI, nI_clamp, bI_n0, bI_n1, bI_nar, uI_r, uI_l, uL_r, uL_i, uL_p, uA_r, uA_l, bV_some, bU_some, nar_n0, nar_n1, and_self, and_true, true_and, and_false, false_and, if_true, if_false, eq_self, Bool.false_eq_true, Bool.true_eq_false, not_true_eq_false, not_false_eq_true, ↓reduceIte, nlT, nlF, ntT, ntF, neT, neF, ieT, ieF, decide_true, decide_false, Bool.not_true, Bool.not_false, Bool.and_true, Bool.true_and, Bool.and_false, Bool.false_and, Bool.or_true, Bool.true_or, Bool.or_false, Bool.false_or, e1, n1, n2, n3]
    rfl
def flt (s p : Nat) : Nat := 1 + 8 * p + s
theorem x_fail {S : Sto} {p s : Nat} (hp : S.1 24 0 2 = nI p) : call 60 0 [vR 24 0, vI (nI s)] S = some (some (vI (nI 0)), uI S 24 0 5 (nI (flt s p))) := by
  show run 60 0 0 [vR 24 0, vI (nI s)] [] S = _
  unfold flt
  simp (disch := omega) only [s60_0, s60_1, s60_2, s60_4, s60_5, s60_8, s60_9, s60_10, s60_11, s60_12, s60_15, s60_16, q_0, q_1, q_2, q_3, q_4, q_5, q_6, q_7, q_8, q_9, q_10, q_11, q_12, q_13, q_14, q_16, q_20, q_23, q_24, q_32, q_42, q_43, q_45, q_47, q_48, q_50, q_57, q_59, q_60, q_61, q_62, q_63, q_64, q_66, q_91, q_93, q_97, q_99, q_122, q_144, q_255, q_256, q_300, q_380, q_400, q_620, q_999, q_1000, q_4095, q_4096, q_9999, q_65536, q_99999, q_31, nI_add, pk_mul, nE, nL, nT, nM31, nShl, ib_nI, nI_clamp, bI_n0, bI_n1, bI_nar, uI_r, uI_l, uL_r, uL_i, uL_p, uA_r, uA_l, bV_some, bU_some, nar_n0, nar_n1, and_self, and_true, true_and, and_false, false_and, if_true, if_false, eq_self, Bool.false_eq_true, Bool.true_eq_false, not_true_eq_false, not_false_eq_true, ↓reduceIte, nlT, nlF, ntT, ntF, neT, neF, ieT, ieF, decide_true, decide_false, Bool.not_true, Bool.not_false, Bool.and_true, Bool.true_and, Bool.and_false, Bool.false_and, Bool.or_true, Bool.true_or, Bool.or_false, Bool.false_or, hp]
theorem x_emit {S : Sto} {r n : Nat} (v : Int32) (hn : S.1 17 r 1 = nI n) (h4 : n < 400) : call 12 0 [vR 17 r, vI v] S = some (none, uI (uI S 17 r 1 (nI (n + 1))) 18 r n v) := by
  show run 12 0 0 [vR 17 r, vI v] [] S = _
  simp (disch := omega) only [s12_0, s12_1, s12_4, s12_5, s12_8, s12_9, s12_12, s12_13, s12_16, s12_17, s12_18, s12_21, s12_22, s12_23, s12_24, s12_27, s12_28, s12_29, q_0, q_1, q_2, q_3, q_4, q_5, q_6, q_7, q_8, q_9, q_10, q_11, q_12, q_13, q_14, q_16, q_20, q_23, q_24, q_32, q_42, q_43, q_45, q_47, q_48, q_50, q_57, q_59, q_60, q_61, q_62, q_63, q_64, q_66, q_91, q_93, q_97, q_99, q_122, q_144, q_255, q_256, q_300, q_380, q_400, q_620, q_999, q_1000, q_4095, q_4096, q_9999, q_65536, q_99999, q_31, nI_add, pk_mul, nE, nL, nT, nM31, nShl, ib_nI, nI_clamp, bI_n0, bI_n1, bI_nar, uI_r, uI_l, uL_r, uL_i, uL_p, uA_r, uA_l, bV_some, bU_some, nar_n0, nar_n1, and_self, and_true, true_and, and_false, false_and, if_true, if_false, eq_self, Bool.false_eq_true, Bool.true_eq_false, not_true_eq_false, not_false_eq_true, ↓reduceIte, nlT, nlF, ntT, ntF, neT, neF, ieT, ieF, decide_true, decide_false, Bool.not_true, Bool.not_false, Bool.and_true, Bool.true_and, Bool.and_false, Bool.false_and, Bool.or_true, Bool.true_or, Bool.or_false, Bool.false_or, hn]
/-- a byte as the reference keeps it -/
def sgB (b : Nat) : Int32 := (nI b).toInt8.toInt32
theorem sgB_p : ∀ b, b < 256 → (sgB b &&& nI 255 = nI b) ∧ (sgB b < nI 97 ↔ (b < 97 ∨ 128 ≤ b)) ∧ (nI 122 < sgB b ↔ (122 < b ∧ b < 128)) := by decide +kernel
theorem m_sign {S : Sto} {T : Tp} {p : Nat} (hK : TpK T) (hT : TpM S T) (hp : S.1 50 0 18 = nI p) (hp4 : p < 100000) : call 171 0 [vR 50 0] S = some (some (vI (chI T p)), S) := by
  have hK1 := hK.1
  show run 171 0 0 [vR 50 0] [] S = _
  unfold chI
  by_cases c : p < T.1
  · have r1 := hT.2 p c
    have r1' : S.1 67 0 p = sgB (T.2 p) := r1
    have e := (sgB_p _ (hK.2 p c)).1
    rw [if_pos c]
    simp (disch := omega) only [s171_0, s171_1, s171_4, s171_5, s171_8, s171_11, s171_12, s171_15, s171_16, s171_19, s171_20, s171_23, s171_24, s171_27, s171_28, q_0, q_1, q_2, q_3, q_4, q_5, q_6, q_7, q_8, q_9, q_10, q_11, q_12, q_13, q_14, q_16, q_20, q_23, q_24, q_32, q_42, q_43, q_45, q_47, q_48, q_50, q_57, q_59, q_60, q_61, q_62, q_63, q_64, q_66, q_91, q_93, q_97, q_99, q_122, q_144, q_255, q_256, q_300, q_380, q_400, q_620, q_999, q_1000, q_4095, q_4096, q_9999, q_65536, q_99999, q_31, nI_add, pk_mul, nE, nL, nT, nM31, nShl, ib_nI, nI_clamp, bI_n0, bI_n1, bI_nar, uI_r, uI_l, uL_r, uL_i, uL_p, uA_r, uA_l, bV_some, bU_some, nar_n0, nar_n1, and_self, and_true, true_and, and_false, false_and, if_true, if_false, eq_self, Bool.false_eq_true, Bool.true_eq_false, not_true_eq_false, not_false_eq_true, ↓reduceIte, nlT, nlF, ntT, ntF, neT, neF, ieT, ieF, decide_true, decide_false, Bool.not_true, Bool.not_false, Bool.and_true, Bool.true_and, Bool.and_false, Bool.false_and, Bool.or_true, Bool.true_or, Bool.or_false, Bool.false_or, hp, hT.1, r1', e]
  · rw [if_neg c]
    simp (disch := omega) only [s171_0, s171_1, s171_4, s171_5, s171_8, s171_11, s171_12, s171_15, s171_16, s171_19, s171_20, s171_23, s171_24, s171_27, s171_28, q_0, q_1, q_2, q_3, q_4, q_5, q_6, q_7, q_8, q_9, q_10, q_11, q_12, q_13, q_14, q_16, q_20, q_23, q_24, q_32, q_42, q_43, q_45, q_47, q_48, q_50, q_57, q_59, q_60, q_61, q_62, q_63, q_64, q_66, q_91, q_93, q_97, q_99, q_122, q_144, q_255, q_256, q_300, q_380, q_400, q_620, q_999, q_1000, q_4095, q_4096, q_9999, q_65536, q_99999, q_31, nI_add, pk_mul, nE, nL, nT, nM31, nShl, ib_nI, nI_clamp, bI_n0, bI_n1, bI_nar, uI_r, uI_l, uL_r, uL_i, uL_p, uA_r, uA_l, bV_some, bU_some, nar_n0, nar_n1, and_self, and_true, true_and, and_false, false_and, if_true, if_false, eq_self, Bool.false_eq_true, Bool.true_eq_false, not_true_eq_false, not_false_eq_true, ↓reduceIte, nlT, nlF, ntT, ntF, neT, neF, ieT, ieF, decide_true, decide_false, Bool.not_true, Bool.not_false, Bool.and_true, Bool.true_and, Bool.and_false, Bool.false_and, Bool.or_true, Bool.true_or, Bool.or_false, Bool.false_or, hp, hT.1]
theorem chI_eq {T : Tp} {p k : Nat} (hK : TpK T) (hk : k < 256) : (chI T p = nI k) = (p < T.1 ∧ T.2 p = k) := by
  unfold chI
  by_cases c : p < T.1
  · have := hK.2 p c
    rw [if_pos c, nE (by omega) (by omega)]
    simp [c]
  · rw [if_neg c]
    have n1 := nI_nm1 (b := k) (by omega)
    have n2 : (-nI 1 = nI k) = False := eq_false (fun e => by have h := e.symm; rw [n1] at h; exact h)
    rw [n2]
    simp [c]
theorem m_blanks {T : Tp} (hK : TpK T) : ∀ p {S : Sto}, TpM S T → S.1 50 0 18 = nI p → p < 10000 → call 170 0 [vR 50 0] S = some (none, uI S 50 0 18 (nI (sc T blP p))) := by
  have hK1 := hK.1
  refine sc_ind (T := T) (P := blP) (Q := fun p => ∀ {S : Sto}, TpM S T → S.1 50 0 18 = nI p → p < 10000 → call 170 0 [vR 50 0] S = some (none, uI S 50 0 18 (nI (sc T blP p)))) ?_ ?_
  · intro p h1 h2 ih S hT hp hp4
    have h3 : T.2 p = 32 := by simpa [blP] using h2
    have es := m_sign hK hT hp (by omega)
    have ec : chI T p = nI 32 := by rw [chI_eq hK (by decide)]; exact ⟨h1, h3⟩
    rw [ec] at es
    have e : run 170 0 0 [vR 50 0] [] (uI S 50 0 18 (nI (p + 1))) = _ := ih (S := uI S 50 0 18 (nI (p + 1))) (hT.u (by decide) (by decide)) (by rw [uI_r, if_pos ⟨rfl, rfl, rfl⟩]) (by omega)
    rw [uI_uI] at e
    show run 170 0 0 [vR 50 0] [] S = _
    rw [s170_0, sc_t h1 h2, ← e]
    simp (disch := omega) only [s170_1, s170_4, s170_6, s170_9, s170_10, s170_11, s170_14, s170_15, s170_16, s170_19, s170_22, q_0, q_1, q_2, q_3, q_4, q_5, q_6, q_7, q_8, q_9, q_10, q_11, q_12, q_13, q_14, q_16, q_20, q_23, q_24, q_32, q_42, q_43, q_45, q_47, q_48, q_50, q_57, q_59, q_60, q_61, q_62, q_63, q_64, q_66, q_91, q_93, q_97, q_99, q_122, q_144, q_255, q_256, q_300, q_380, q_400, q_620, q_999, q_1000, q_4095, q_4096, q_9999, q_65536, q_99999, q_31, nI_add, pk_mul, nE, nL, nT, nM31, nShl, ib_nI, nI_clamp, bI_n0, bI_n1, bI_nar, uI_r, uI_l, uL_r, uL_i, uL_p, uA_r, uA_l, bV_some, bU_some, nar_n0, nar_n1, and_self, and_true, true_and, and_false, false_and, if_true, if_false, eq_self, Bool.false_eq_true, Bool.true_eq_false, not_true_eq_false, not_false_eq_true, ↓reduceIte, nlT, nlF, ntT, ntF, neT, neF, ieT, ieF, decide_true, decide_false, Bool.not_true, Bool.not_false, Bool.and_true, Bool.true_and, Bool.and_false, Bool.false_and, Bool.or_true, Bool.true_or, Bool.or_false, Bool.false_or, es, hp]
  · intro p h S hT hp hp4
    have es := m_sign hK hT hp (by omega)
    have ec : (chI T p = nI 32) = False := by
      rw [chI_eq hK (by decide)]
      apply eq_false
      rintro ⟨g1, g2⟩
      exact h ⟨g1, by simp [blP, g2]⟩
    rw [sc_f h, uI_self hp]
    show run 170 0 0 [vR 50 0] [] S = _
    rw [s170_0]
    simp (disch := omega) only [s170_1, s170_4, s170_6, s170_9, s170_10, s170_11, s170_14, s170_15, s170_16, s170_19, s170_22, q_0, q_1, q_2, q_3, q_4, q_5, q_6, q_7, q_8, q_9, q_10, q_11, q_12, q_13, q_14, q_16, q_20, q_23, q_24, q_32, q_42, q_43, q_45, q_47, q_48, q_50, q_57, q_59, q_60, q_61, q_62, q_63, q_64, q_66, q_91, q_93, q_97, q_99, q_122, q_144, q_255, q_256, q_300, q_380, q_400, q_620, q_999, q_1000, q_4095, q_4096, q_9999, q_65536, q_99999, q_31, nI_add, pk_mul, nE, nL, nT, nM31, nShl, ib_nI, nI_clamp, bI_n0, bI_n1, bI_nar, uI_r, uI_l, uL_r, uL_i, uL_p, uA_r, uA_l, bV_some, bU_some, nar_n0, nar_n1, and_self, and_true, true_and, and_false, false_and, if_true, if_false, eq_self, Bool.false_eq_true, Bool.true_eq_false, not_true_eq_false, not_false_eq_true, ↓reduceIte, nlT, nlF, ntT, ntF, neT, neF, ieT, ieF, decide_true, decide_false, Bool.not_true, Bool.not_false, Bool.and_true, Bool.true_and, Bool.and_false, Bool.false_and, Bool.or_true, Bool.true_or, Bool.or_false, Bool.false_or, es, ec]
theorem m_isDig {S : Sto} {T : Tp} {p : Nat} (hK : TpK T) (hT : TpM S T) (hp : S.1 50 0 18 = nI p) (hp4 : p < 100000) : call 178 0 [vR 50 0] S = some (some (vI (bI (decide (p < T.1) && dgP (T.2 p)))), S) := by
  have es := m_sign hK hT hp hp4
  have e1 := m_inI S (chI T p) (nI 48) (nI 57) (a := 48) (b := 57) (by decide) (by decide)
  have e2 : (!decide (chI T p < nI 48) && !decide (nI 57 < chI T p)) = (decide (p < T.1) && dgP (T.2 p)) := by
    unfold chI dgP
    by_cases c : p < T.1
    · have := hK.2 p c
      rw [if_pos c]
      by_cases c1 : 48 ≤ T.2 p <;> by_cases c2 : T.2 p ≤ 57 <;> simp [c, c1, c2, nT (show T.2 p < 2 ^ 31 by omega) (show (48 : Nat) < 2 ^ 31 by decide), nT (show (57 : Nat) < 2 ^ 31 by decide) (show T.2 p < 2 ^ 31 by omega)] <;> omega
    · rw [if_neg c]
      have n1 : (-nI 1 < nI 48) = True := by decide
      simp [c, n1]
  rw [e2] at e1
  show run 178 0 0 [vR 50 0] [] S = _
  simp (disch := omega) only [s178_0, s178_1, s178_4, s178_5, s178_8, s178_11, s178_14, q_0, q_1, q_2, q_3, q_4, q_5, q_6, q_7, q_8, q_9, q_10, q_11, q_12, q_13, q_14, q_16, q_20, q_23, q_24, q_32, q_42, q_43, q_45, q_47, q_48, q_50, q_57, q_59, q_60, q_61, q_62, q_63, q_64, q_66, q_91, q_93, q_97, q_99, q_122, q_144, q_255, q_256, q_300, q_380, q_400, q_620, q_999, q_1000, q_4095, q_4096, q_9999, q_65536, q_99999, q_31, nI_add, pk_mul, nE, nL, nT, nM31, nShl, ib_nI, nI_clamp, bI_n0, bI_n1, bI_nar, uI_r, uI_l, uL_r, uL_i, uL_p, uA_r, uA_l, bV_some, bU_some, nar_n0, nar_n1, and_self, and_true, true_and, and_false, false_and, if_true, if_false, eq_self, Bool.false_eq_true, Bool.true_eq_false, not_true_eq_false, not_false_eq_true, ↓reduceIte, nlT, nlF, ntT, ntF, neT, neF, ieT, ieF, decide_true, decide_false, Bool.not_true, Bool.not_false, Bool.and_true, Bool.true_and, Bool.and_false, Bool.false_and, Bool.or_true, Bool.true_or, Bool.or_false, Bool.false_or, es, e1]
theorem m_standsE {S : Sto} {T : Tp} (hK : TpK T) (hT : TpM S T) (x1 x3 x4 : av) : ∀ e, e < 10000 → run 173 0 5 [vR 50 0, x1, vI (nI e), x3, x4] [] S = run 173 0 41 [vR 50 0, x1, vI (nI (sc T ltP e)), x3, x4] [] S := by
  have hK1 := hK.1
  refine sc_ind (T := T) (P := ltP) (Q := fun e => e < 10000 → run 173 0 5 [vR 50 0, x1, vI (nI e), x3, x4] [] S = run 173 0 41 [vR 50 0, x1, vI (nI (sc T ltP e)), x3, x4] [] S) ?_ ?_
  · intro p h1 h2 ih hp4
    have h3 : 97 ≤ T.2 p ∧ T.2 p ≤ 122 := by simpa [ltP] using h2
    have r1 : S.1 67 0 p = sgB (T.2 p) := hT.2 p h1
    obtain ⟨_, z2, z3⟩ := sgB_p _ (hK.2 p h1)
    have z2' : (sgB (T.2 p) < nI 97) = False := eq_false (by rw [z2]; omega)
    have z3' : (nI 122 < sgB (T.2 p)) = False := eq_false (by rw [z3]; omega)
    rw [s173_5, sc_t h1 h2, ← ih (by omega)]
    simp (disch := omega) only [s173_0, s173_1, s173_4, s173_6, s173_7, s173_10, s173_13, s173_14, s173_17, s173_18, s173_19, s173_21, s173_24, s173_25, s173_28, s173_29, s173_30, s173_32, s173_35, s173_38, s173_42, s173_43, s173_46, s173_47, s173_48, s173_51, s173_54, s173_55, s173_58, s173_59, s173_60, s173_61, s173_65, s173_66, s173_69, s173_72, s173_73, s173_76, s173_77, s173_80, s173_81, s173_84, s173_86, s173_87, s173_88, s173_89, s173_91, s173_94, s173_97, s173_98, s173_101, s173_102, s173_103, s173_106, s173_109, s173_110, q_0, q_1, q_2, q_3, q_4, q_5, q_6, q_7, q_8, q_9, q_10, q_11, q_12, q_13, q_14, q_16, q_20, q_23, q_24, q_32, q_42, q_43, q_45, q_47, q_48, q_50, q_57, q_59, q_60, q_61, q_62, q_63, q_64, q_66, q_91, q_93, q_97, q_99, q_122, q_144, q_255, q_256, q_300, q_380, q_400, q_620, q_999, q_1000, q_4095, q_4096, q_9999, q_65536, q_99999, q_31, nI_add, pk_mul, nE, nL, nT, nM31, nShl, ib_nI, nI_clamp, bI_n0, bI_n1, bI_nar, uI_r, uI_l, uL_r, uL_i, uL_p, uA_r, uA_l, bV_some, bU_some, nar_n0, nar_n1, and_self, and_true, true_and, and_false, false_and, if_true, if_false, eq_self, Bool.false_eq_true, Bool.true_eq_false, not_true_eq_false, not_false_eq_true, ↓reduceIte, nlT, nlF, ntT, ntF, neT, neF, ieT, ieF, decide_true, decide_false, Bool.not_true, Bool.not_false, Bool.and_true, Bool.true_and, Bool.and_false, Bool.false_and, Bool.or_true, Bool.true_or, Bool.or_false, Bool.false_or, hT.1, r1, z2', z3']
  · intro p h hp4
    rw [s173_5, sc_f h]
    by_cases c : p < T.1
    · have r1 : S.1 67 0 p = sgB (T.2 p) := hT.2 p c
      obtain ⟨_, z2, z3⟩ := sgB_p _ (hK.2 p c)
      have h3 : ¬ (97 ≤ T.2 p ∧ T.2 p ≤ 122) := fun e => h ⟨c, by simpa [ltP] using e⟩
      by_cases c2 : T.2 p < 97 ∨ 128 ≤ T.2 p
      · have z2' : (sgB (T.2 p) < nI 97) = True := eq_true (z2.mpr c2)
        simp (disch := omega) only [s173_0, s173_1, s173_4, s173_6, s173_7, s173_10, s173_13, s173_14, s173_17, s173_18, s173_19, s173_21, s173_24, s173_25, s173_28, s173_29, s173_30, s173_32, s173_35, s173_38, s173_42, s173_43, s173_46, s173_47, s173_48, s173_51, s173_54, s173_55, s173_58, s173_59, s173_60, s173_61, s173_65, s173_66, s173_69, s173_72, s173_73, s173_76, s173_77, s173_80, s173_81, s173_84, s173_86, s173_87, s173_88, s173_89, s173_91, s173_94, s173_97, s173_98, s173_101, s173_102, s173_103, s173_106, s173_109, s173_110, q_0, q_1, q_2, q_3, q_4, q_5, q_6, q_7, q_8, q_9, q_10, q_11, q_12, q_13, q_14, q_16, q_20, q_23, q_24, q_32, q_42, q_43, q_45, q_47, q_48, q_50, q_57, q_59, q_60, q_61, q_62, q_63, q_64, q_66, q_91, q_93, q_97, q_99, q_122, q_144, q_255, q_256, q_300, q_380, q_400, q_620, q_999, q_1000, q_4095, q_4096, q_9999, q_65536, q_99999, q_31, nI_add, pk_mul, nE, nL, nT, nM31, nShl, ib_nI, nI_clamp, bI_n0, bI_n1, bI_nar, uI_r, uI_l, uL_r, uL_i, uL_p, uA_r, uA_l, bV_some, bU_some, nar_n0, nar_n1, and_self, and_true, true_and, and_false, false_and, if_true, if_false, eq_self, Bool.false_eq_true, Bool.true_eq_false, not_true_eq_false, not_false_eq_true, ↓reduceIte, nlT, nlF, ntT, ntF, neT, neF, ieT, ieF, decide_true, decide_false, Bool.not_true, Bool.not_false, Bool.and_true, Bool.true_and, Bool.and_false, Bool.false_and, Bool.or_true, Bool.true_or, Bool.or_false, Bool.false_or, hT.1, r1, z2']
      · have z2' : (sgB (T.2 p) < nI 97) = False := eq_false (by rw [z2]; exact c2)
        have z3' : (nI 122 < sgB (T.2 p)) = True := eq_true (z3.mpr (by omega))
        simp (disch := omega) only [s173_0, s173_1, s173_4, s173_6, s173_7, s173_10, s173_13, s173_14, s173_17, s173_18, s173_19, s173_21, s173_24, s173_25, s173_28, s173_29, s173_30, s173_32, s173_35, s173_38, s173_42, s173_43, s173_46, s173_47, s173_48, s173_51, s173_54, s173_55, s173_58, s173_59, s173_60, s173_61, s173_65, s173_66, s173_69, s173_72, s173_73, s173_76, s173_77, s173_80, s173_81, s173_84, s173_86, s173_87, s173_88, s173_89, s173_91, s173_94, s173_97, s173_98, s173_101, s173_102, s173_103, s173_106, s173_109, s173_110, q_0, q_1, q_2, q_3, q_4, q_5, q_6, q_7, q_8, q_9, q_10, q_11, q_12, q_13, q_14, q_16, q_20, q_23, q_24, q_32, q_42, q_43, q_45, q_47, q_48, q_50, q_57, q_59, q_60, q_61, q_62, q_63, q_64, q_66, q_91, q_93, q_97, q_99, q_122, q_144, q_255, q_256, q_300, q_380, q_400, q_620, q_999, q_1000, q_4095, q_4096, q_9999, q_65536, q_99999, q_31, nI_add, pk_mul, nE, nL, nT, nM31, nShl, ib_nI, nI_clamp, bI_n0, bI_n1, bI_nar, uI_r, uI_l, uL_r, uL_i, uL_p, uA_r, uA_l, bV_some, bU_some, nar_n0, nar_n1, and_self, and_true, true_and, and_false, false_and, if_true, if_false, eq_self, Bool.false_eq_true, Bool.true_eq_false, not_true_eq_false, not_false_eq_true, ↓reduceIte, nlT, nlF, ntT, ntF, neT, neF, ieT, ieF, decide_true, decide_false, Bool.not_true, Bool.not_false, Bool.and_true, Bool.true_and, Bool.and_false, Bool.false_and, Bool.or_true, Bool.true_or, Bool.or_false, Bool.false_or, hT.1, r1, z2', z3']
    · simp (disch := omega) only [s173_0, s173_1, s173_4, s173_6, s173_7, s173_10, s173_13, s173_14, s173_17, s173_18, s173_19, s173_21, s173_24, s173_25, s173_28, s173_29, s173_30, s173_32, s173_35, s173_38, s173_42, s173_43, s173_46, s173_47, s173_48, s173_51, s173_54, s173_55, s173_58, s173_59, s173_60, s173_61, s173_65, s173_66, s173_69, s173_72, s173_73, s173_76, s173_77, s173_80, s173_81, s173_84, s173_86, s173_87, s173_88, s173_89, s173_91, s173_94, s173_97, s173_98, s173_101, s173_102, s173_103, s173_106, s173_109, s173_110, q_0, q_1, q_2, q_3, q_4, q_5, q_6, q_7, q_8, q_9, q_10, q_11, q_12, q_13, q_14, q_16, q_20, q_23, q_24, q_32, q_42, q_43, q_45, q_47, q_48, q_50, q_57, q_59, q_60, q_61, q_62, q_63, q_64, q_66, q_91, q_93, q_97, q_99, q_122, q_144, q_255, q_256, q_300, q_380, q_400, q_620, q_999, q_1000, q_4095, q_4096, q_9999, q_65536, q_99999, q_31, nI_add, pk_mul, nE, nL, nT, nM31, nShl, ib_nI, nI_clamp, bI_n0, bI_n1, bI_nar, uI_r, uI_l, uL_r, uL_i, uL_p, uA_r, uA_l, bV_some, bU_some, nar_n0, nar_n1, and_self, and_true, true_and, and_false, false_and, if_true, if_false, eq_self, Bool.false_eq_true, Bool.true_eq_false, not_true_eq_false, not_false_eq_true, ↓reduceIte, nlT, nlF, ntT, ntF, neT, neF, ieT, ieF, decide_true, decide_false, Bool.not_true, Bool.not_false, Bool.and_true, Bool.true_and, Bool.and_false, Bool.false_and, Bool.or_true, Bool.true_or, Bool.or_false, Bool.false_or, hT.1]
theorem fj_all {T : Tp} {p e : Nat} {w : List Nat} : ∀ {j : Nat}, fjB T p e w j = true ↔ p < e ∧ ∀ i, i < j → p + i < e ∧ T.2 (p + i) = w.getD i 0
  | 0 => by
    show decide (p < e) = true ↔ _
    rw [decide_eq_true_eq]
    exact ⟨fun h => ⟨h, fun i hi => by omega⟩, fun h => h.1⟩
  | j + 1 => by
    rw [fjB_s, Bool.and_eq_true, Bool.and_eq_true, fj_all (j := j), decide_eq_true_eq, beq_iff_eq]
    constructor
    · rintro ⟨⟨h1, h2⟩, h3, h4⟩
      refine ⟨h1, fun i hi => ?_⟩
      by_cases c : i = j
      · rw [c]; exact ⟨h3, h4⟩
      · exact h2 i (by omega)
    · rintro ⟨h1, h2⟩
      exact ⟨⟨h1, fun i hi => h2 i (by omega)⟩, h2 j (by omega)⟩
theorem m_stands {S : Sto} {T : Tp} {p q : Nat} {w : List Nat} (hK : TpK T) (hT : TpM S T) (hp : S.1 50 0 18 = nI p) (hp4 : p < 10000) (hq : strB q = w.map nI) (hw : w ≠ [] ∧ ∀ c, c ∈ w → 97 ≤ c ∧ c ≤ 122) (hl : w.length < 100) : call 173 0 [vR 50 0, vR 100 q] S = some (some (vI (bI (wEq T p w))), S) := by
  have hK1 := hK.1
  have hwl : 0 < w.length := List.length_pos_iff.mpr hw.1
  have hlen : (strB q).length = w.length := by rw [hq]; simp
  have eL := x_len S (q := q) (by omega)
  rw [hlen] at eL
  have hg := sc_ge T ltP p
  have hse : sc T ltP p < 10000 := by
    by_cases c : p ≤ T.1
    · have := sc_le T ltP p c; omega
    · rw [sc_mx T ltP (by omega)]; exact hp4
  show run 173 0 0 [vR 50 0, vR 100 q, vU, vU, vU] [] S = _
  simp (disch := omega) only [s173_0, s173_1, s173_4, q_0, q_1, q_2, q_3, q_4, q_5, q_6, q_7, q_8, q_9, q_10, q_11, q_12, q_13, q_14, q_16, q_20, q_23, q_24, q_32, q_42, q_43, q_45, q_47, q_48, q_50, q_57, q_59, q_60, q_61, q_62, q_63, q_64, q_66, q_91, q_93, q_97, q_99, q_122, q_144, q_255, q_256, q_300, q_380, q_400, q_620, q_999, q_1000, q_4095, q_4096, q_9999, q_65536, q_99999, q_31, nI_add, pk_mul, nE, nL, nT, nM31, nShl, ib_nI, nI_clamp, bI_n0, bI_n1, bI_nar, uI_r, uI_l, uL_r, uL_i, uL_p, uA_r, uA_l, bV_some, bU_some, nar_n0, nar_n1, and_self, and_true, true_and, and_false, false_and, if_true, if_false, eq_self, Bool.false_eq_true, Bool.true_eq_false, not_true_eq_false, not_false_eq_true, ↓reduceIte, nlT, nlF, ntT, ntF, neT, neF, ieT, ieF, decide_true, decide_false, Bool.not_true, Bool.not_false, Bool.and_true, Bool.true_and, Bool.and_false, Bool.false_and, Bool.or_true, Bool.true_or, Bool.or_false, Bool.false_or, hp]
  rw [m_standsE hK hT (vR 100 q) vU vU p hp4]
  by_cases c1 : sc T ltP p - p = w.length
  · have hE : sc T ltP p = p + w.length := by omega
    have key : run 173 0 63 [vR 50 0, vR 100 q, vI (nI (sc T ltP p)), vI (nI 1), vI (nI 0)] [] S = some (some (vI (bI (wEq T p w))), S) := by
      refine upS (σ := Bool) (I := fun j s => s = fjB T p (sc T ltP p) w j) (F := fun j s => run 173 0 63 [vR 50 0, vR 100 q, vI (nI (sc T ltP p)), vI (bI s), vI (nI j)] [] S) (Q := fun z => z = some (some (vI (bI (wEq T p w))), S)) (N := w.length) ?_ ?_ 0 true (by omega) ?_
      · intro j s hj hI
        have hpj : p + j < sc T ltP p := by omega
        obtain ⟨g1, g2⟩ := sc_b T ltP p (p + j) (by omega) hpj
        have g3 : 97 ≤ T.2 (p + j) ∧ T.2 (p + j) ≤ 122 := by simpa [ltP] using g2
        have r1 : S.1 67 0 (p + j) = nI (T.2 (p + j)) := by
          rw [hT.2 _ g1]
          exact byt2 (by omega)
        have hc := hw.2 _ (getD_m hj)
        have eC := x_chr S (q := q) (i := j) (c := w.getD j 0) (by omega) (by omega) (by rw [hq]; exact map_getD w hj) (by omega)
        show run 173 0 63 _ _ _ = _ ∨ ∃ s', _ ∧ run 173 0 63 _ _ _ = run 173 0 63 _ _ _
        rw [s173_63]
        cases s with
        | false =>
          have ew : wEq T p w = false := by
            unfold wEq
            cases c : fjB T p (sc T ltP p) w w.length with
            | false => rfl
            | true =>
              have h1 := fj_all.mp c
              have h2 : fjB T p (sc T ltP p) w j = true := fj_all.mpr ⟨h1.1, fun i hi => h1.2 i (by omega)⟩
              rw [← hI] at h2
              cases h2
          refine Or.inl ?_
          rw [ew]
          simp (disch := omega) only [s173_0, s173_1, s173_4, s173_6, s173_7, s173_10, s173_13, s173_14, s173_17, s173_18, s173_19, s173_21, s173_24, s173_25, s173_28, s173_29, s173_30, s173_32, s173_35, s173_38, s173_41, s173_42, s173_43, s173_46, s173_47, s173_48, s173_51, s173_54, s173_55, s173_58, s173_59, s173_60, s173_61, s173_65, s173_66, s173_69, s173_72, s173_73, s173_76, s173_77, s173_80, s173_81, s173_84, s173_86, s173_87, s173_88, s173_89, s173_91, s173_94, s173_97, s173_98, s173_101, s173_102, s173_103, s173_106, s173_109, s173_110, q_0, q_1, q_2, q_3, q_4, q_5, q_6, q_7, q_8, q_9, q_10, q_11, q_12, q_13, q_14, q_16, q_20, q_23, q_24, q_32, q_42, q_43, q_45, q_47, q_48, q_50, q_57, q_59, q_60, q_61, q_62, q_63, q_64, q_66, q_91, q_93, q_97, q_99, q_122, q_144, q_255, q_256, q_300, q_380, q_400, q_620, q_999, q_1000, q_4095, q_4096, q_9999, q_65536, q_99999, q_31, nI_add, pk_mul, nE, nL, nT, nM31, nShl, ib_nI, nI_clamp, bI_n0, bI_n1, bI_nar, uI_r, uI_l, uL_r, uL_i, uL_p, uA_r, uA_l, bV_some, bU_some, nar_n0, nar_n1, and_self, and_true, true_and, and_false, false_and, if_true, if_false, eq_self, Bool.false_eq_true, Bool.true_eq_false, not_true_eq_false, not_false_eq_true, ↓reduceIte, nlT, nlF, ntT, ntF, neT, neF, ieT, ieF, decide_true, decide_false, Bool.not_true, Bool.not_false, Bool.and_true, Bool.true_and, Bool.and_false, Bool.false_and, Bool.or_true, Bool.true_or, Bool.or_false, Bool.false_or, eL]
        | true =>
          refine Or.inr ⟨T.2 (p + j) == w.getD j 0, ?_, ?_⟩
          · rw [fjB_s, ← hI]
            simp [hpj]
          · by_cases c5 : T.2 (p + j) = w.getD j 0
            · have c5' : (T.2 (p + j) == w.getD j 0) = true := by rw [c5]; simp
              rw [c5']
              rw [c5] at r1
              simp (disch := omega) only [s173_0, s173_1, s173_4, s173_6, s173_7, s173_10, s173_13, s173_14, s173_17, s173_18, s173_19, s173_21, s173_24, s173_25, s173_28, s173_29, s173_30, s173_32, s173_35, s173_38, s173_41, s173_42, s173_43, s173_46, s173_47, s173_48, s173_51, s173_54, s173_55, s173_58, s173_59, s173_60, s173_61, s173_65, s173_66, s173_69, s173_72, s173_73, s173_76, s173_77, s173_80, s173_81, s173_84, s173_86, s173_87, s173_88, s173_89, s173_91, s173_94, s173_97, s173_98, s173_101, s173_102, s173_103, s173_106, s173_109, s173_110, q_0, q_1, q_2, q_3, q_4, q_5, q_6, q_7, q_8, q_9, q_10, q_11, q_12, q_13, q_14, q_16, q_20, q_23, q_24, q_32, q_42, q_43, q_45, q_47, q_48, q_50, q_57, q_59, q_60, q_61, q_62, q_63, q_64, q_66, q_91, q_93, q_97, q_99, q_122, q_144, q_255, q_256, q_300, q_380, q_400, q_620, q_999, q_1000, q_4095, q_4096, q_9999, q_65536, q_99999, q_31, nI_add, pk_mul, nE, nL, nT, nM31, nShl, ib_nI, nI_clamp, bI_n0, bI_n1, bI_nar, uI_r, uI_l, uL_r, uL_i, uL_p, uA_r, uA_l, bV_some, bU_some, nar_n0, nar_n1, and_self, and_true, true_and, and_false, false_and, if_true, if_false, eq_self, Bool.false_eq_true, Bool.true_eq_false, not_true_eq_false, not_false_eq_true, ↓reduceIte, nlT, nlF, ntT, ntF, neT, neF, ieT, ieF, decide_true, decide_false, Bool.not_true, Bool.not_false, Bool.and_true, Bool.true_and, Bool.and_false, Bool.false_and, Bool.or_true, Bool.true_or, Bool.or_false, Bool.false_or, eL, eC, hp, r1]
              rfl
            · have c5' : (T.2 (p + j) == w.getD j 0) = false := by rw [beq_eq_false_iff_ne]; exact c5
              rw [c5']
              simp (disch := omega) only [s173_0, s173_1, s173_4, s173_6, s173_7, s173_10, s173_13, s173_14, s173_17, s173_18, s173_19, s173_21, s173_24, s173_25, s173_28, s173_29, s173_30, s173_32, s173_35, s173_38, s173_41, s173_42, s173_43, s173_46, s173_47, s173_48, s173_51, s173_54, s173_55, s173_58, s173_59, s173_60, s173_61, s173_65, s173_66, s173_69, s173_72, s173_73, s173_76, s173_77, s173_80, s173_81, s173_84, s173_86, s173_87, s173_88, s173_89, s173_91, s173_94, s173_97, s173_98, s173_101, s173_102, s173_103, s173_106, s173_109, s173_110, q_0, q_1, q_2, q_3, q_4, q_5, q_6, q_7, q_8, q_9, q_10, q_11, q_12, q_13, q_14, q_16, q_20, q_23, q_24, q_32, q_42, q_43, q_45, q_47, q_48, q_50, q_57, q_59, q_60, q_61, q_62, q_63, q_64, q_66, q_91, q_93, q_97, q_99, q_122, q_144, q_255, q_256, q_300, q_380, q_400, q_620, q_999, q_1000, q_4095, q_4096, q_9999, q_65536, q_99999, q_31, nI_add, pk_mul, nE, nL, nT, nM31, nShl, ib_nI, nI_clamp, bI_n0, bI_n1, bI_nar, uI_r, uI_l, uL_r, uL_i, uL_p, uA_r, uA_l, bV_some, bU_some, nar_n0, nar_n1, and_self, and_true, true_and, and_false, false_and, if_true, if_false, eq_self, Bool.false_eq_true, Bool.true_eq_false, not_true_eq_false, not_false_eq_true, ↓reduceIte, nlT, nlF, ntT, ntF, neT, neF, ieT, ieF, decide_true, decide_false, Bool.not_true, Bool.not_false, Bool.and_true, Bool.true_and, Bool.and_false, Bool.false_and, Bool.or_true, Bool.true_or, Bool.or_false, Bool.false_or, eL, eC, hp, r1, c5]
              rfl
      · intro s hI
        have ew : wEq T p w = s := by
          unfold wEq
          rw [← hI, hE]
          simp
        show run 173 0 63 _ _ _ = _
        rw [s173_63, ew]
        simp (disch := omega) only [s173_0, s173_1, s173_4, s173_6, s173_7, s173_10, s173_13, s173_14, s173_17, s173_18, s173_19, s173_21, s173_24, s173_25, s173_28, s173_29, s173_30, s173_32, s173_35, s173_38, s173_41, s173_42, s173_43, s173_46, s173_47, s173_48, s173_51, s173_54, s173_55, s173_58, s173_59, s173_60, s173_61, s173_65, s173_66, s173_69, s173_72, s173_73, s173_76, s173_77, s173_80, s173_81, s173_84, s173_86, s173_87, s173_88, s173_89, s173_91, s173_94, s173_97, s173_98, s173_101, s173_102, s173_103, s173_106, s173_109, s173_110, q_0, q_1, q_2, q_3, q_4, q_5, q_6, q_7, q_8, q_9, q_10, q_11, q_12, q_13, q_14, q_16, q_20, q_23, q_24, q_32, q_42, q_43, q_45, q_47, q_48, q_50, q_57, q_59, q_60, q_61, q_62, q_63, q_64, q_66, q_91, q_93, q_97, q_99, q_122, q_144, q_255, q_256, q_300, q_380, q_400, q_620, q_999, q_1000, q_4095, q_4096, q_9999, q_65536, q_99999, q_31, nI_add, pk_mul, nE, nL, nT, nM31, nShl, ib_nI, nI_clamp, bI_n0, bI_n1, bI_nar, uI_r, uI_l, uL_r, uL_i, uL_p, uA_r, uA_l, bV_some, bU_some, nar_n0, nar_n1, and_self, and_true, true_and, and_false, false_and, if_true, if_false, eq_self, Bool.false_eq_true, Bool.true_eq_false, not_true_eq_false, not_false_eq_true, ↓reduceIte, nlT, nlF, ntT, ntF, neT, neF, ieT, ieF, decide_true, decide_false, Bool.not_true, Bool.not_false, Bool.and_true, Bool.true_and, Bool.and_false, Bool.false_and, Bool.or_true, Bool.true_or, Bool.or_false, Bool.false_or, eL]
      · show true = decide (p < sc T ltP p)
        simp
        omega
    simp (disch := omega) only [s173_0, s173_1, s173_4, s173_6, s173_7, s173_10, s173_13, s173_14, s173_17, s173_18, s173_19, s173_21, s173_24, s173_25, s173_28, s173_29, s173_30, s173_32, s173_35, s173_38, s173_41, s173_42, s173_43, s173_46, s173_47, s173_48, s173_51, s173_54, s173_55, s173_58, s173_59, s173_60, s173_61, s173_65, s173_66, s173_69, s173_72, s173_73, s173_76, s173_77, s173_80, s173_81, s173_84, s173_86, s173_87, s173_88, s173_89, s173_91, s173_94, s173_97, s173_98, s173_101, s173_102, s173_103, s173_106, s173_109, s173_110, q_0, q_1, q_2, q_3, q_4, q_5, q_6, q_7, q_8, q_9, q_10, q_11, q_12, q_13, q_14, q_16, q_20, q_23, q_24, q_32, q_42, q_43, q_45, q_47, q_48, q_50, q_57, q_59, q_60, q_61, q_62, q_63, q_64, q_66, q_91, q_93, q_97, q_99, q_122, q_144, q_255, q_256, q_300, q_380, q_400, q_620, q_999, q_1000, q_4095, q_4096, q_9999, q_65536, q_99999, q_31, nI_add, pk_mul, nE, nL, nT, nM31, nShl, ib_nI, nI_clamp, bI_n0, bI_n1, bI_nar, uI_r, uI_l, uL_r, uL_i, uL_p, uA_r, uA_l, bV_some, bU_some, nar_n0, nar_n1, and_self, and_true, true_and, and_false, false_and, if_true, if_false, eq_self, Bool.false_eq_true, Bool.true_eq_false, not_true_eq_false, not_false_eq_true, ↓reduceIte, nlT, nlF, ntT, ntF, neT, neF, ieT, ieF, decide_true, decide_false, Bool.not_true, Bool.not_false, Bool.and_true, Bool.true_and, Bool.and_false, Bool.false_and, Bool.or_true, Bool.true_or, Bool.or_false, Bool.false_or, hp, nSub, eL, c1]
    exact key
  · have ew : wEq T p w = false := by
      unfold wEq
      have : (p + w.length == sc T ltP p) = false := by
        rw [beq_eq_false_iff_ne]
        omega
      rw [this, Bool.and_false]
    rw [ew]
    simp (disch := omega) only [s173_0, s173_1, s173_4, s173_6, s173_7, s173_10, s173_13, s173_14, s173_17, s173_18, s173_19, s173_21, s173_24, s173_25, s173_28, s173_29, s173_30, s173_32, s173_35, s173_38, s173_41, s173_42, s173_43, s173_46, s173_47, s173_48, s173_51, s173_54, s173_55, s173_58, s173_59, s173_60, s173_61, s173_65, s173_66, s173_69, s173_72, s173_73, s173_76, s173_77, s173_80, s173_81, s173_84, s173_86, s173_87, s173_88, s173_89, s173_91, s173_94, s173_97, s173_98, s173_101, s173_102, s173_103, s173_106, s173_109, s173_110, q_0, q_1, q_2, q_3, q_4, q_5, q_6, q_7, q_8, q_9, q_10, q_11, q_12, q_13, q_14, q_16, q_20, q_23, q_24, q_32, q_42, q_43, q_45, q_47, q_48, q_50, q_57, q_59, q_60, q_61, q_62, q_63, q_64, q_66, q_91, q_93, q_97, q_99, q_122, q_144, q_255, q_256, q_300, q_380, q_400, q_620, q_999, q_1000, q_4095, q_4096, q_9999, q_65536, q_99999, q_31, nI_add, pk_mul, nE, nL, nT, nM31, nShl, ib_nI, nI_clamp, bI_n0, bI_n1, bI_nar, uI_r, uI_l, uL_r, uL_i, uL_p, uA_r, uA_l, bV_some, bU_some, nar_n0, nar_n1, and_self, and_true, true_and, and_false, false_and, if_true, if_false, eq_self, Bool.false_eq_true, Bool.true_eq_false, not_true_eq_false, not_false_eq_true, ↓reduceIte, nlT, nlF, ntT, ntF, neT, neF, ieT, ieF, decide_true, decide_false, Bool.not_true, Bool.not_false, Bool.and_true, Bool.true_and, Bool.and_false, Bool.false_and, Bool.or_true, Bool.true_or, Bool.or_false, Bool.false_or, hp, nSub, eL, c1]
    rw [s173_63]
    simp (disch := omega) only [s173_0, s173_1, s173_4, s173_6, s173_7, s173_10, s173_13, s173_14, s173_17, s173_18, s173_19, s173_21, s173_24, s173_25, s173_28, s173_29, s173_30, s173_32, s173_35, s173_38, s173_41, s173_42, s173_43, s173_46, s173_47, s173_48, s173_51, s173_54, s173_55, s173_58, s173_59, s173_60, s173_61, s173_65, s173_66, s173_69, s173_72, s173_73, s173_76, s173_77, s173_80, s173_81, s173_84, s173_86, s173_87, s173_88, s173_89, s173_91, s173_94, s173_97, s173_98, s173_101, s173_102, s173_103, s173_106, s173_109, s173_110, q_0, q_1, q_2, q_3, q_4, q_5, q_6, q_7, q_8, q_9, q_10, q_11, q_12, q_13, q_14, q_16, q_20, q_23, q_24, q_32, q_42, q_43, q_45, q_47, q_48, q_50, q_57, q_59, q_60, q_61, q_62, q_63, q_64, q_66, q_91, q_93, q_97, q_99, q_122, q_144, q_255, q_256, q_300, q_380, q_400, q_620, q_999, q_1000, q_4095, q_4096, q_9999, q_65536, q_99999, q_31, nI_add, pk_mul, nE, nL, nT, nM31, nShl, ib_nI, nI_clamp, bI_n0, bI_n1, bI_nar, uI_r, uI_l, uL_r, uL_i, uL_p, uA_r, uA_l, bV_some, bU_some, nar_n0, nar_n1, and_self, and_true, true_and, and_false, false_and, if_true, if_false, eq_self, Bool.false_eq_true, Bool.true_eq_false, not_true_eq_false, not_false_eq_true, ↓reduceIte, nlT, nlF, ntT, ntF, neT, neF, ieT, ieF, decide_true, decide_false, Bool.not_true, Bool.not_false, Bool.and_true, Bool.true_and, Bool.and_false, Bool.false_and, Bool.or_true, Bool.true_or, Bool.or_false, Bool.false_or, eL]
    rfl
theorem m_fails {S : Sto} {s q f : Nat} (hf : S.1 50 0 19 = nI f) (h1 : f < 100000) : call 174 0 [vR 50 0, vI (nI s), vI (nI q)] S = some (none, uI S 50 0 19 (nI (if f = 0 then flt s q else f))) := by
  show run 174 0 0 [vR 50 0, vI (nI s), vI (nI q)] [] S = _
  unfold flt
  by_cases c : f = 0
  · rw [if_pos c]
    simp (disch := omega) only [s174_0, s174_1, s174_2, s174_5, s174_8, s174_9, s174_11, s174_12, s174_13, s174_14, s174_15, s174_16, s174_19, s174_20, s174_23, s174_26, q_0, q_1, q_2, q_3, q_4, q_5, q_6, q_7, q_8, q_9, q_10, q_11, q_12, q_13, q_14, q_16, q_20, q_23, q_24, q_32, q_42, q_43, q_45, q_47, q_48, q_50, q_57, q_59, q_60, q_61, q_62, q_63, q_64, q_66, q_91, q_93, q_97, q_99, q_122, q_144, q_255, q_256, q_300, q_380, q_400, q_620, q_999, q_1000, q_4095, q_4096, q_9999, q_65536, q_99999, q_31, nI_add, pk_mul, nE, nL, nT, nM31, nShl, ib_nI, nI_clamp, bI_n0, bI_n1, bI_nar, uI_r, uI_l, uL_r, uL_i, uL_p, uA_r, uA_l, bV_some, bU_some, nar_n0, nar_n1, and_self, and_true, true_and, and_false, false_and, if_true, if_false, eq_self, Bool.false_eq_true, Bool.true_eq_false, not_true_eq_false, not_false_eq_true, ↓reduceIte, nlT, nlF, ntT, ntF, neT, neF, ieT, ieF, decide_true, decide_false, Bool.not_true, Bool.not_false, Bool.and_true, Bool.true_and, Bool.and_false, Bool.false_and, Bool.or_true, Bool.true_or, Bool.or_false, Bool.false_or, hf, c]
  · rw [if_neg c]
    simp (disch := omega) only [s174_0, s174_1, s174_2, s174_5, s174_8, s174_9, s174_11, s174_12, s174_13, s174_14, s174_15, s174_16, s174_19, s174_20, s174_23, s174_26, q_0, q_1, q_2, q_3, q_4, q_5, q_6, q_7, q_8, q_9, q_10, q_11, q_12, q_13, q_14, q_16, q_20, q_23, q_24, q_32, q_42, q_43, q_45, q_47, q_48, q_50, q_57, q_59, q_60, q_61, q_62, q_63, q_64, q_66, q_91, q_93, q_97, q_99, q_122, q_144, q_255, q_256, q_300, q_380, q_400, q_620, q_999, q_1000, q_4095, q_4096, q_9999, q_65536, q_99999, q_31, nI_add, pk_mul, nE, nL, nT, nM31, nShl, ib_nI, nI_clamp, bI_n0, bI_n1, bI_nar, uI_r, uI_l, uL_r, uL_i, uL_p, uA_r, uA_l, bV_some, bU_some, nar_n0, nar_n1, and_self, and_true, true_and, and_false, false_and, if_true, if_false, eq_self, Bool.false_eq_true, Bool.true_eq_false, not_true_eq_false, not_false_eq_true, ↓reduceIte, nlT, nlF, ntT, ntF, neT, neF, ieT, ieF, decide_true, decide_false, Bool.not_true, Bool.not_false, Bool.and_true, Bool.true_and, Bool.and_false, Bool.false_and, Bool.or_true, Bool.true_or, Bool.or_false, Bool.false_or, hf, c]
theorem m_entry0 {S : Sto} {sl n : Nat} {k v : Int32} (hf : S.1 50 0 19 = nI 0) (hs : S.1 50 0 20 = nI sl) (hn : S.1 50 0 22 = nI n) (hs6 : sl < 6) (hn3 : n < 300) : call 181 0 [vR 50 0, vI k, vI v] S = some (none, uI (uI (uI S 68 0 (300 * sl + n) k) 69 0 (300 * sl + n) v) 50 0 22 (nI (n + 1))) := by
  show run 181 0 0 [vR 50 0, vI k, vI v] [] S = _
  simp (disch := omega) only [s181_0, s181_1, s181_4, s181_7, s181_8, s181_11, s181_14, s181_15, s181_18, s181_19, s181_20, s181_23, s181_24, s181_25, s181_26, s181_27, s181_30, s181_33, s181_34, s181_37, s181_38, s181_39, s181_42, s181_43, s181_44, s181_45, s181_46, s181_47, s181_50, s181_51, s181_52, s181_55, q_0, q_1, q_2, q_3, q_4, q_5, q_6, q_7, q_8, q_9, q_10, q_11, q_12, q_13, q_14, q_16, q_20, q_23, q_24, q_32, q_42, q_43, q_45, q_47, q_48, q_50, q_57, q_59, q_60, q_61, q_62, q_63, q_64, q_66, q_91, q_93, q_97, q_99, q_122, q_144, q_255, q_256, q_300, q_380, q_400, q_620, q_999, q_1000, q_4095, q_4096, q_9999, q_65536, q_99999, q_31, nI_add, pk_mul, nE, nL, nT, nM31, nShl, ib_nI, nI_clamp, bI_n0, bI_n1, bI_nar, uI_r, uI_l, uL_r, uL_i, uL_p, uA_r, uA_l, bV_some, bU_some, nar_n0, nar_n1, and_self, and_true, true_and, and_false, false_and, if_true, if_false, eq_self, Bool.false_eq_true, Bool.true_eq_false, not_true_eq_false, not_false_eq_true, ↓reduceIte, nlT, nlF, ntT, ntF, neT, neF, ieT, ieF, decide_true, decide_false, Bool.not_true, Bool.not_false, Bool.and_true, Bool.true_and, Bool.and_false, Bool.false_and, Bool.or_true, Bool.true_or, Bool.or_false, Bool.false_or, hf, hs, hn]
theorem m_entryF {S : Sto} {f : Nat} {k v : Int32} (hf : S.1 50 0 19 = nI f) (h0 : f ≠ 0) (h1 : f < 100000) : call 181 0 [vR 50 0, vI k, vI v] S = some (none, S) := by
  show run 181 0 0 [vR 50 0, vI k, vI v] [] S = _
  simp (disch := omega) only [s181_0, s181_1, s181_4, s181_7, s181_8, s181_11, s181_14, s181_15, s181_18, s181_19, s181_20, s181_23, s181_24, s181_25, s181_26, s181_27, s181_30, s181_33, s181_34, s181_37, s181_38, s181_39, s181_42, s181_43, s181_44, s181_45, s181_46, s181_47, s181_50, s181_51, s181_52, s181_55, q_0, q_1, q_2, q_3, q_4, q_5, q_6, q_7, q_8, q_9, q_10, q_11, q_12, q_13, q_14, q_16, q_20, q_23, q_24, q_32, q_42, q_43, q_45, q_47, q_48, q_50, q_57, q_59, q_60, q_61, q_62, q_63, q_64, q_66, q_91, q_93, q_97, q_99, q_122, q_144, q_255, q_256, q_300, q_380, q_400, q_620, q_999, q_1000, q_4095, q_4096, q_9999, q_65536, q_99999, q_31, nI_add, pk_mul, nE, nL, nT, nM31, nShl, ib_nI, nI_clamp, bI_n0, bI_n1, bI_nar, uI_r, uI_l, uL_r, uL_i, uL_p, uA_r, uA_l, bV_some, bU_some, nar_n0, nar_n1, and_self, and_true, true_and, and_false, false_and, if_true, if_false, eq_self, Bool.false_eq_true, Bool.true_eq_false, not_true_eq_false, not_false_eq_true, ↓reduceIte, nlT, nlF, ntT, ntF, neT, neF, ieT, ieF, decide_true, decide_false, Bool.not_true, Bool.not_false, Bool.and_true, Bool.true_and, Bool.and_false, Bool.false_and, Bool.or_true, Bool.true_or, Bool.or_false, Bool.false_or, hf, h0]
theorem m_isCnt {S : Sto} {c q f : Nat} (hc : S.1 50 0 24 = nI c) (hf : S.1 50 0 19 = nI f) (h1 : f < 100000) (h2 : c < 100000) : call 180 0 [vR 50 0, vI (nI q)] S = some (none, uI (if c = 60 then uI S 50 0 19 (nI (if f = 0 then flt 3 q else f)) else S) 50 0 24 (nI (c + 1))) := by
  have e1 := m_fails (S := S) (s := 3) (q := q) hf h1
  show run 180 0 0 [vR 50 0, vI (nI q)] [] S = _
  by_cases c1 : c = 60
  · rw [if_pos c1]
    simp (disch := omega) only [s180_0, s180_1, s180_4, s180_6, s180_9, s180_10, s180_11, s180_12, s180_15, s180_16, s180_17, s180_20, s180_21, s180_22, s180_25, q_0, q_1, q_2, q_3, q_4, q_5, q_6, q_7, q_8, q_9, q_10, q_11, q_12, q_13, q_14, q_16, q_20, q_23, q_24, q_32, q_42, q_43, q_45, q_47, q_48, q_50, q_57, q_59, q_60, q_61, q_62, q_63, q_64, q_66, q_91, q_93, q_97, q_99, q_122, q_144, q_255, q_256, q_300, q_380, q_400, q_620, q_999, q_1000, q_4095, q_4096, q_9999, q_65536, q_99999, q_31, nI_add, pk_mul, nE, nL, nT, nM31, nShl, ib_nI, nI_clamp, bI_n0, bI_n1, bI_nar, uI_r, uI_l, uL_r, uL_i, uL_p, uA_r, uA_l, bV_some, bU_some, nar_n0, nar_n1, and_self, and_true, true_and, and_false, false_and, if_true, if_false, eq_self, Bool.false_eq_true, Bool.true_eq_false, not_true_eq_false, not_false_eq_true, ↓reduceIte, nlT, nlF, ntT, ntF, neT, neF, ieT, ieF, decide_true, decide_false, Bool.not_true, Bool.not_false, Bool.and_true, Bool.true_and, Bool.and_false, Bool.false_and, Bool.or_true, Bool.true_or, Bool.or_false, Bool.false_or, hc, c1, e1]
  · rw [if_neg c1]
    simp (disch := omega) only [s180_0, s180_1, s180_4, s180_6, s180_9, s180_10, s180_11, s180_12, s180_15, s180_16, s180_17, s180_20, s180_21, s180_22, s180_25, q_0, q_1, q_2, q_3, q_4, q_5, q_6, q_7, q_8, q_9, q_10, q_11, q_12, q_13, q_14, q_16, q_20, q_23, q_24, q_32, q_42, q_43, q_45, q_47, q_48, q_50, q_57, q_59, q_60, q_61, q_62, q_63, q_64, q_66, q_91, q_93, q_97, q_99, q_122, q_144, q_255, q_256, q_300, q_380, q_400, q_620, q_999, q_1000, q_4095, q_4096, q_9999, q_65536, q_99999, q_31, nI_add, pk_mul, nE, nL, nT, nM31, nShl, ib_nI, nI_clamp, bI_n0, bI_n1, bI_nar, uI_r, uI_l, uL_r, uL_i, uL_p, uA_r, uA_l, bV_some, bU_some, nar_n0, nar_n1, and_self, and_true, true_and, and_false, false_and, if_true, if_false, eq_self, Bool.false_eq_true, Bool.true_eq_false, not_true_eq_false, not_false_eq_true, ↓reduceIte, nlT, nlF, ntT, ntF, neT, neF, ieT, ieF, decide_true, decide_false, Bool.not_true, Bool.not_false, Bool.and_true, Bool.true_and, Bool.and_false, Bool.false_and, Bool.or_true, Bool.true_or, Bool.or_false, Bool.false_or, hc, c1]
