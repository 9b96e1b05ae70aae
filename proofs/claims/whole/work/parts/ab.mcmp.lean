/-! the reference reads a comparison -/
theorem sgn_n {T : Tp} {p : Nat} (hK : TpK T) (h : sgn T p = none) : (chI T p = nI 60) = False ∧ (chI T p = nI 61) = False ∧ (chI T p = nI 62) = False := by
  rw [chI_eq hK (by decide), chI_eq hK (by decide), chI_eq hK (by decide)]
  unfold sgn at h
  by_cases c0 : p < T.1
  · rw [if_pos c0] at h
    by_cases c1 : T.2 p = 61
    · rw [if_pos c1] at h
      cases h
    · rw [if_neg c1] at h
      by_cases c2 : T.2 p = 60
      · rw [if_pos c2] at h
        split at h <;> cases h
      · rw [if_neg c2] at h
        by_cases c3 : T.2 p = 62
        · rw [if_pos c3] at h
          split at h <;> cases h
        · exact ⟨eq_false (fun q => c2 q.2), eq_false (fun q => c1 q.2), eq_false (fun q => c3 q.2)⟩
  · exact ⟨eq_false (fun q => c0 q.1), eq_false (fun q => c0 q.1), eq_false (fun q => c0 q.1)⟩
theorem m_cmpT {T : Tp} {sl f p c k e : Nat} {l : Cd} {S : Sto} (hK : TpK T) (h : MP T sl S f (p, c, l)) (hs : sgn T p = some (k, e)) : p < T.1 ∧ (T.2 p = 60 ∨ T.2 p = 61 ∨ T.2 p = 62) ∧ ∃ S', MF sl S S' ∧ MP T sl S' f (e, c, l) ∧ ∀ a2, run 187 0 45 [vR 50 0, vI (nI (T.2 p)), a2] [] S = bU (call 175 0 [vR 50 0] S') (fun S1 => bU (call 181 0 [vR 50 0, vI (nI k), vI (nI 0)] S1) (fun S2 => some (none, S2))) := by
  have hK1 := hK.1
  have hp : S.1 50 0 18 = nI p := h.2.1
  have h1 : MP T sl (uI S 50 0 18 (nI (p + 1))) f (p + 1, c, l) := h.mp (p + 1)
  have h2 : MP T sl (uI (uI S 50 0 18 (nI (p + 1))) 50 0 18 (nI e)) f (e, c, l) := h1.mp e
  have hF : MF sl S (uI (uI S 50 0 18 (nI (p + 1))) 50 0 18 (nI e)) := (MF.rf.u (Or.inl ⟨rfl, by omega⟩)).u (Or.inl ⟨rfl, by omega⟩)
  have k61 := chI_eq (T := T) (p := p + 1) (k := 61) hK (by decide)
  unfold sgn at hs
  by_cases c0 : p < T.1
  · have hsg : call 171 0 [vR 50 0] (uI S 50 0 18 (nI (p + 1))) = some (some (vI (chI T (p + 1))), uI S 50 0 18 (nI (p + 1))) := h1.sg hK (show p + 1 < 10000 by omega)
    rw [if_pos c0] at hs
    by_cases c1 : T.2 p = 61
    · rw [if_pos c1] at hs
      have hk : (6, p + 1) = (k, e) := Option.some.inj hs
      injection hk with hk he
      subst hk he
      refine ⟨c0, by omega, _, hF, h2, fun a2 => ?_⟩
      rw [c1]
      simp (disch := omega) only [s187_0, s187_1, s187_4, s187_5, s187_8, s187_9, s187_10, s187_12, s187_15, s187_16, s187_18, s187_21, s187_22, s187_24, s187_27, s187_28, s187_29, s187_30, s187_33, s187_36, s187_37, s187_38, s187_39, s187_42, s187_45, s187_46, s187_47, s187_50, s187_51, s187_52, s187_55, s187_56, s187_58, s187_61, s187_62, s187_65, s187_67, s187_70, s187_71, s187_74, s187_75, s187_76, s187_77, s187_78, s187_81, s187_82, s187_85, s187_86, s187_89, s187_90, s187_91, s187_94, s187_95, s187_98, s187_99, s187_100, s187_102, s187_105, s187_107, s187_110, s187_111, s187_113, s187_116, s187_117, s187_120, s187_121, s187_124, s187_125, s187_128, s187_129, s187_132, s187_134, s187_137, s187_139, s187_140, s187_143, q_0, q_1, q_2, q_3, q_4, q_5, q_6, q_7, q_8, q_9, q_10, q_11, q_12, q_13, q_14, q_16, q_20, q_23, q_24, q_32, q_42, q_43, q_45, q_47, q_48, q_50, q_57, q_59, q_60, q_61, q_62, q_63, q_64, q_66, q_91, q_93, q_97, q_99, q_122, q_144, q_255, q_256, q_300, q_380, q_400, q_620, q_999, q_1000, q_4095, q_4096, q_9999, q_65536, q_99999, q_31, nI_add, pk_mul, nE, nL, nT, nM31, nShl, ib_nI, nI_clamp, bI_n0, bI_n1, bI_nar, uI_r, uI_l, uL_r, uL_i, uL_p, uA_r, uA_l, bV_some, bU_some, nar_n0, nar_n1, and_self, and_true, true_and, and_false, false_and, if_true, if_false, eq_self, Bool.false_eq_true, Bool.true_eq_false, not_true_eq_false, not_false_eq_true, ↓reduceIte, nlT, nlF, ntT, ntF, neT, neF, ieT, ieF, decide_true, decide_false, Bool.not_true, Bool.not_false, Bool.and_true, Bool.true_and, Bool.and_false, Bool.false_and, Bool.or_true, Bool.true_or, Bool.or_false, Bool.false_or, hp, hsg]
    · rw [if_neg c1] at hs
      by_cases c2 : T.2 p = 60
      · rw [if_pos c2] at hs
        by_cases c3 : p + 1 < T.1 ∧ T.2 (p + 1) = 61
        · rw [if_pos c3] at hs
          have hk : (5, p + 2) = (k, e) := Option.some.inj hs
          injection hk with hk he
          subst hk he
          have e1 : (chI T (p + 1) = nI 61) = True := by rw [k61]; exact eq_true c3
          refine ⟨c0, by omega, _, hF, h2, fun a2 => ?_⟩
          rw [c2]
          simp (disch := omega) only [s187_0, s187_1, s187_4, s187_5, s187_8, s187_9, s187_10, s187_12, s187_15, s187_16, s187_18, s187_21, s187_22, s187_24, s187_27, s187_28, s187_29, s187_30, s187_33, s187_36, s187_37, s187_38, s187_39, s187_42, s187_45, s187_46, s187_47, s187_50, s187_51, s187_52, s187_55, s187_56, s187_58, s187_61, s187_62, s187_65, s187_67, s187_70, s187_71, s187_74, s187_75, s187_76, s187_77, s187_78, s187_81, s187_82, s187_85, s187_86, s187_89, s187_90, s187_91, s187_94, s187_95, s187_98, s187_99, s187_100, s187_102, s187_105, s187_107, s187_110, s187_111, s187_113, s187_116, s187_117, s187_120, s187_121, s187_124, s187_125, s187_128, s187_129, s187_132, s187_134, s187_137, s187_139, s187_140, s187_143, q_0, q_1, q_2, q_3, q_4, q_5, q_6, q_7, q_8, q_9, q_10, q_11, q_12, q_13, q_14, q_16, q_20, q_23, q_24, q_32, q_42, q_43, q_45, q_47, q_48, q_50, q_57, q_59, q_60, q_61, q_62, q_63, q_64, q_66, q_91, q_93, q_97, q_99, q_122, q_144, q_255, q_256, q_300, q_380, q_400, q_620, q_999, q_1000, q_4095, q_4096, q_9999, q_65536, q_99999, q_31, nI_add, pk_mul, nE, nL, nT, nM31, nShl, ib_nI, nI_clamp, bI_n0, bI_n1, bI_nar, uI_r, uI_l, uL_r, uL_i, uL_p, uA_r, uA_l, bV_some, bU_some, nar_n0, nar_n1, and_self, and_true, true_and, and_false, false_and, if_true, if_false, eq_self, Bool.false_eq_true, Bool.true_eq_false, not_true_eq_false, not_false_eq_true, ↓reduceIte, nlT, nlF, ntT, ntF, neT, neF, ieT, ieF, decide_true, decide_false, Bool.not_true, Bool.not_false, Bool.and_true, Bool.true_and, Bool.and_false, Bool.false_and, Bool.or_true, Bool.true_or, Bool.or_false, Bool.false_or, hp, hsg, e1]
        · rw [if_neg c3] at hs
          have hk : (4, p + 1) = (k, e) := Option.some.inj hs
          injection hk with hk he
          subst hk he
          have e1 : (chI T (p + 1) = nI 61) = False := by rw [k61]; exact eq_false c3
          refine ⟨c0, by omega, _, hF, h2, fun a2 => ?_⟩
          rw [c2]
          simp (disch := omega) only [s187_0, s187_1, s187_4, s187_5, s187_8, s187_9, s187_10, s187_12, s187_15, s187_16, s187_18, s187_21, s187_22, s187_24, s187_27, s187_28, s187_29, s187_30, s187_33, s187_36, s187_37, s187_38, s187_39, s187_42, s187_45, s187_46, s187_47, s187_50, s187_51, s187_52, s187_55, s187_56, s187_58, s187_61, s187_62, s187_65, s187_67, s187_70, s187_71, s187_74, s187_75, s187_76, s187_77, s187_78, s187_81, s187_82, s187_85, s187_86, s187_89, s187_90, s187_91, s187_94, s187_95, s187_98, s187_99, s187_100, s187_102, s187_105, s187_107, s187_110, s187_111, s187_113, s187_116, s187_117, s187_120, s187_121, s187_124, s187_125, s187_128, s187_129, s187_132, s187_134, s187_137, s187_139, s187_140, s187_143, q_0, q_1, q_2, q_3, q_4, q_5, q_6, q_7, q_8, q_9, q_10, q_11, q_12, q_13, q_14, q_16, q_20, q_23, q_24, q_32, q_42, q_43, q_45, q_47, q_48, q_50, q_57, q_59, q_60, q_61, q_62, q_63, q_64, q_66, q_91, q_93, q_97, q_99, q_122, q_144, q_255, q_256, q_300, q_380, q_400, q_620, q_999, q_1000, q_4095, q_4096, q_9999, q_65536, q_99999, q_31, nI_add, pk_mul, nE, nL, nT, nM31, nShl, ib_nI, nI_clamp, bI_n0, bI_n1, bI_nar, uI_r, uI_l, uL_r, uL_i, uL_p, uA_r, uA_l, bV_some, bU_some, nar_n0, nar_n1, and_self, and_true, true_and, and_false, false_and, if_true, if_false, eq_self, Bool.false_eq_true, Bool.true_eq_false, not_true_eq_false, not_false_eq_true, ↓reduceIte, nlT, nlF, ntT, ntF, neT, neF, ieT, ieF, decide_true, decide_false, Bool.not_true, Bool.not_false, Bool.and_true, Bool.true_and, Bool.and_false, Bool.false_and, Bool.or_true, Bool.true_or, Bool.or_false, Bool.false_or, hp, hsg, e1]
      · rw [if_neg c2] at hs
        by_cases c4 : T.2 p = 62
        · rw [if_pos c4] at hs
          by_cases c3 : p + 1 < T.1 ∧ T.2 (p + 1) = 61
          · rw [if_pos c3] at hs
            have hk : (7, p + 2) = (k, e) := Option.some.inj hs
            injection hk with hk he
            subst hk he
            have e1 : (chI T (p + 1) = nI 61) = True := by rw [k61]; exact eq_true c3
            refine ⟨c0, by omega, _, hF, h2, fun a2 => ?_⟩
            rw [c4]
            simp (disch := omega) only [s187_0, s187_1, s187_4, s187_5, s187_8, s187_9, s187_10, s187_12, s187_15, s187_16, s187_18, s187_21, s187_22, s187_24, s187_27, s187_28, s187_29, s187_30, s187_33, s187_36, s187_37, s187_38, s187_39, s187_42, s187_45, s187_46, s187_47, s187_50, s187_51, s187_52, s187_55, s187_56, s187_58, s187_61, s187_62, s187_65, s187_67, s187_70, s187_71, s187_74, s187_75, s187_76, s187_77, s187_78, s187_81, s187_82, s187_85, s187_86, s187_89, s187_90, s187_91, s187_94, s187_95, s187_98, s187_99, s187_100, s187_102, s187_105, s187_107, s187_110, s187_111, s187_113, s187_116, s187_117, s187_120, s187_121, s187_124, s187_125, s187_128, s187_129, s187_132, s187_134, s187_137, s187_139, s187_140, s187_143, q_0, q_1, q_2, q_3, q_4, q_5, q_6, q_7, q_8, q_9, q_10, q_11, q_12, q_13, q_14, q_16, q_20, q_23, q_24, q_32, q_42, q_43, q_45, q_47, q_48, q_50, q_57, q_59, q_60, q_61, q_62, q_63, q_64, q_66, q_91, q_93, q_97, q_99, q_122, q_144, q_255, q_256, q_300, q_380, q_400, q_620, q_999, q_1000, q_4095, q_4096, q_9999, q_65536, q_99999, q_31, nI_add, pk_mul, nE, nL, nT, nM31, nShl, ib_nI, nI_clamp, bI_n0, bI_n1, bI_nar, uI_r, uI_l, uL_r, uL_i, uL_p, uA_r, uA_l, bV_some, bU_some, nar_n0, nar_n1, and_self, and_true, true_and, and_false, false_and, if_true, if_false, eq_self, Bool.false_eq_true, Bool.true_eq_false, not_true_eq_false, not_false_eq_true, ↓reduceIte, nlT, nlF, ntT, ntF, neT, neF, ieT, ieF, decide_true, decide_false, Bool.not_true, Bool.not_false, Bool.and_true, Bool.true_and, Bool.and_false, Bool.false_and, Bool.or_true, Bool.true_or, Bool.or_false, Bool.false_or, hp, hsg, e1]
          · rw [if_neg c3] at hs
            have hk : (8, p + 1) = (k, e) := Option.some.inj hs
            injection hk with hk he
            subst hk he
            have e1 : (chI T (p + 1) = nI 61) = False := by rw [k61]; exact eq_false c3
            refine ⟨c0, by omega, _, hF, h2, fun a2 => ?_⟩
            rw [c4]
            simp (disch := omega) only [s187_0, s187_1, s187_4, s187_5, s187_8, s187_9, s187_10, s187_12, s187_15, s187_16, s187_18, s187_21, s187_22, s187_24, s187_27, s187_28, s187_29, s187_30, s187_33, s187_36, s187_37, s187_38, s187_39, s187_42, s187_45, s187_46, s187_47, s187_50, s187_51, s187_52, s187_55, s187_56, s187_58, s187_61, s187_62, s187_65, s187_67, s187_70, s187_71, s187_74, s187_75, s187_76, s187_77, s187_78, s187_81, s187_82, s187_85, s187_86, s187_89, s187_90, s187_91, s187_94, s187_95, s187_98, s187_99, s187_100, s187_102, s187_105, s187_107, s187_110, s187_111, s187_113, s187_116, s187_117, s187_120, s187_121, s187_124, s187_125, s187_128, s187_129, s187_132, s187_134, s187_137, s187_139, s187_140, s187_143, q_0, q_1, q_2, q_3, q_4, q_5, q_6, q_7, q_8, q_9, q_10, q_11, q_12, q_13, q_14, q_16, q_20, q_23, q_24, q_32, q_42, q_43, q_45, q_47, q_48, q_50, q_57, q_59, q_60, q_61, q_62, q_63, q_64, q_66, q_91, q_93, q_97, q_99, q_122, q_144, q_255, q_256, q_300, q_380, q_400, q_620, q_999, q_1000, q_4095, q_4096, q_9999, q_65536, q_99999, q_31, nI_add, pk_mul, nE, nL, nT, nM31, nShl, ib_nI, nI_clamp, bI_n0, bI_n1, bI_nar, uI_r, uI_l, uL_r, uL_i, uL_p, uA_r, uA_l, bV_some, bU_some, nar_n0, nar_n1, and_self, and_true, true_and, and_false, false_and, if_true, if_false, eq_self, Bool.false_eq_true, Bool.true_eq_false, not_true_eq_false, not_false_eq_true, ↓reduceIte, nlT, nlF, ntT, ntF, neT, neF, ieT, ieF, decide_true, decide_false, Bool.not_true, Bool.not_false, Bool.and_true, Bool.true_and, Bool.and_false, Bool.false_and, Bool.or_true, Bool.true_or, Bool.or_false, Bool.false_or, hp, hsg, e1]
        · rw [if_neg c4] at hs
          cases hs
  · rw [if_neg c0] at hs
    cases hs
/-- from the sign on, a fault there already -/
theorem m_cmpX {T : Tp} {sl m f : Nat} {S : Sto} {st : Ps} (hK : TpK T) (hs : sl < 6) (hm : m ≤ 800) (h : MP T sl S f st) (hf : f ≠ 0) (hf1 : f < 100000) (hp : st.1 ≤ T.1) (hc : st.2.1 ≤ m) (hl : st.2.2.length < 300) {k e : Nat} (hq : sgn T st.1 = some (k, e)) (a2 : av) : MO T sl (m + 1) S (run 187 0 45 [vR 50 0, vI (nI (T.2 st.1)), a2] [] S) (Sum.inl f) := by
  obtain ⟨c0, _, S1, a1, b1, c1⟩ := m_cmpT (p := st.1) (c := st.2.1) (l := st.2.2) hK h hq
  have he : e ≤ T.1 := (sgn_e hq).2.2.1
  have hx : MX T sl m S1 f := ⟨_, b1, hf, hf1, he, hc, hl⟩
  obtain ⟨S2, v1, v2, v3⟩ := (m_sumX hK hs (by omega) hx).l
  have en := v3.en (nI k) (nI 0)
  refine ⟨S2, ?_, a1.tr v2, v3⟩
  rw [c1]
  simp (disch := omega) only [q_0, q_1, q_2, q_3, q_4, q_5, q_6, q_7, q_8, q_9, q_10, q_11, q_12, q_13, q_14, q_16, q_20, q_23, q_24, q_32, q_42, q_43, q_45, q_47, q_48, q_50, q_57, q_59, q_60, q_61, q_62, q_63, q_64, q_66, q_91, q_93, q_97, q_99, q_122, q_144, q_255, q_256, q_300, q_380, q_400, q_620, q_999, q_1000, q_4095, q_4096, q_9999, q_65536, q_99999, q_31, nI_add, pk_mul, nE, nL, nT, nM31, nShl, ib_nI, nI_clamp, bI_n0, bI_n1, bI_nar, uI_r, uI_l, uL_r, uL_i, uL_p, uA_r, uA_l, bV_some, bU_some, nar_n0, nar_n1, and_self, and_true, true_and, and_false, false_and, if_true, if_false, eq_self, Bool.false_eq_true, Bool.true_eq_false, not_true_eq_false, not_false_eq_true, ↓reduceIte, nlT, nlF, ntT, ntF, neT, neF, ieT, ieF, decide_true, decide_false, Bool.not_true, Bool.not_false, Bool.and_true, Bool.true_and, Bool.and_false, Bool.false_and, Bool.or_true, Bool.true_or, Bool.or_false, Bool.false_or, v1, en]
theorem m_cmp {T : Tp} {sl : Nat} {S : Sto} {st : Ps} (hK : TpK T) (hs : sl < 6) (h : MP T sl S 0 st) (hg : Gd T st) : MO T sl 63 S (call 187 0 [vR 50 0] S) (pCmp T st) := by
  have hK1 := hK.1
  have v := m_sum hK hs h hg
  have vo := (pSum_oc (T := T) hK hg.1).1
  show MO T sl 63 S (run 187 0 0 [vR 50 0, vU, vU] [] S) _
  unfold pCmp
  cases ev : pSum T st with
  | inl f =>
    rw [ev] at v
    obtain ⟨S1, v1, v2, s, w1, w2, w3, w4, w5, w6⟩ := v.l
    have hsg := w1.sg hK (show s.1 < 10000 by omega)
    have hp : S1.1 50 0 18 = nI s.1 := w1.2.1
    show MO T sl 63 S (run 187 0 0 [vR 50 0, vU, vU] [] S) (Sum.inl f)
    refine MO.pre ?_ v2
    cases eq : sgn T s.1 with
    | none =>
      obtain ⟨e1, e2, e3⟩ := sgn_n hK eq
      obtain ⟨S2, f1, f2, f3⟩ := w1.fl w3 0 s.1
      rw [ff_n w2] at f3
      refine ⟨S2, ?_, f2, s, f3, w2, w3, w4, by omega, w6⟩
      simp (disch := omega) only [s187_0, s187_1, s187_4, s187_5, s187_8, s187_9, s187_10, s187_12, s187_15, s187_16, s187_18, s187_21, s187_22, s187_24, s187_27, s187_28, s187_29, s187_30, s187_33, s187_36, s187_37, s187_38, s187_39, s187_42, s187_45, s187_46, s187_47, s187_50, s187_51, s187_52, s187_55, s187_56, s187_58, s187_61, s187_62, s187_65, s187_67, s187_70, s187_71, s187_74, s187_75, s187_76, s187_77, s187_78, s187_81, s187_82, s187_85, s187_86, s187_89, s187_90, s187_91, s187_94, s187_95, s187_98, s187_99, s187_100, s187_102, s187_105, s187_107, s187_110, s187_111, s187_113, s187_116, s187_117, s187_120, s187_121, s187_124, s187_125, s187_128, s187_129, s187_132, s187_134, s187_137, s187_139, s187_140, s187_143, q_0, q_1, q_2, q_3, q_4, q_5, q_6, q_7, q_8, q_9, q_10, q_11, q_12, q_13, q_14, q_16, q_20, q_23, q_24, q_32, q_42, q_43, q_45, q_47, q_48, q_50, q_57, q_59, q_60, q_61, q_62, q_63, q_64, q_66, q_91, q_93, q_97, q_99, q_122, q_144, q_255, q_256, q_300, q_380, q_400, q_620, q_999, q_1000, q_4095, q_4096, q_9999, q_65536, q_99999, q_31, nI_add, pk_mul, nE, nL, nT, nM31, nShl, ib_nI, nI_clamp, bI_n0, bI_n1, bI_nar, uI_r, uI_l, uL_r, uL_i, uL_p, uA_r, uA_l, bV_some, bU_some, nar_n0, nar_n1, and_self, and_true, true_and, and_false, false_and, if_true, if_false, eq_self, Bool.false_eq_true, Bool.true_eq_false, not_true_eq_false, not_false_eq_true, ↓reduceIte, nlT, nlF, ntT, ntF, neT, neF, ieT, ieF, decide_true, decide_false, Bool.not_true, Bool.not_false, Bool.and_true, Bool.true_and, Bool.and_false, Bool.false_and, Bool.or_true, Bool.true_or, Bool.or_false, Bool.false_or, v1, hsg, e1, e2, e3, hp, f1]
    | some ke =>
      obtain ⟨k, e⟩ := ke
      have q0 := sgn_e eq
      have ec : chI T s.1 = nI (T.2 s.1) := by unfold chI; rw [if_pos q0.1]
      rw [ec] at hsg
      have hb := hK.2 _ q0.1
      obtain ⟨S2, f1, f2, f3⟩ := w1.ct w3 (by omega) s.1
      have f3' : MP T sl S2 f (s.1, s.2.1 + 1, s.2.2) := by
        rw [ff_n w2] at f3
        split at f3 <;> exact f3
      have q1 := (m_cmpT (p := s.1) (c := s.2.1) (l := s.2.2) hK w1 eq).2.1
      have fin := m_cmpX (m := 62) (st := (s.1, s.2.1 + 1, s.2.2)) hK hs (by decide) f3' w2 w3 w4 (by show s.2.1 + 1 ≤ 62; omega) w6 eq vU
      refine MO.pre ?_ f2
      rcases q1 with q1 | q1 | q1
      · rw [q1] at hsg
        have fin' : MO T sl 63 S2 (run 187 0 45 [vR 50 0, vI (nI (T.2 s.1)), vU] [] S2) (Sum.inl f) := fin
        rw [q1] at fin'
        simp (disch := omega) only [s187_0, s187_1, s187_4, s187_5, s187_8, s187_9, s187_10, s187_12, s187_15, s187_16, s187_18, s187_21, s187_22, s187_24, s187_37, s187_38, s187_39, s187_42, q_0, q_1, q_2, q_3, q_4, q_5, q_6, q_7, q_8, q_9, q_10, q_11, q_12, q_13, q_14, q_16, q_20, q_23, q_24, q_32, q_42, q_43, q_45, q_47, q_48, q_50, q_57, q_59, q_60, q_61, q_62, q_63, q_64, q_66, q_91, q_93, q_97, q_99, q_122, q_144, q_255, q_256, q_300, q_380, q_400, q_620, q_999, q_1000, q_4095, q_4096, q_9999, q_65536, q_99999, q_31, nI_add, pk_mul, nE, nL, nT, nM31, nShl, ib_nI, nI_clamp, bI_n0, bI_n1, bI_nar, uI_r, uI_l, uL_r, uL_i, uL_p, uA_r, uA_l, bV_some, bU_some, nar_n0, nar_n1, and_self, and_true, true_and, and_false, false_and, if_true, if_false, eq_self, Bool.false_eq_true, Bool.true_eq_false, not_true_eq_false, not_false_eq_true, ↓reduceIte, nlT, nlF, ntT, ntF, neT, neF, ieT, ieF, decide_true, decide_false, Bool.not_true, Bool.not_false, Bool.and_true, Bool.true_and, Bool.and_false, Bool.false_and, Bool.or_true, Bool.true_or, Bool.or_false, Bool.false_or, v1, hsg, hp, f1]
        exact fin'
      · rw [q1] at hsg
        have fin' : MO T sl 63 S2 (run 187 0 45 [vR 50 0, vI (nI (T.2 s.1)), vU] [] S2) (Sum.inl f) := fin
        rw [q1] at fin'
        simp (disch := omega) only [s187_0, s187_1, s187_4, s187_5, s187_8, s187_9, s187_10, s187_12, s187_15, s187_16, s187_18, s187_21, s187_22, s187_24, s187_37, s187_38, s187_39, s187_42, q_0, q_1, q_2, q_3, q_4, q_5, q_6, q_7, q_8, q_9, q_10, q_11, q_12, q_13, q_14, q_16, q_20, q_23, q_24, q_32, q_42, q_43, q_45, q_47, q_48, q_50, q_57, q_59, q_60, q_61, q_62, q_63, q_64, q_66, q_91, q_93, q_97, q_99, q_122, q_144, q_255, q_256, q_300, q_380, q_400, q_620, q_999, q_1000, q_4095, q_4096, q_9999, q_65536, q_99999, q_31, nI_add, pk_mul, nE, nL, nT, nM31, nShl, ib_nI, nI_clamp, bI_n0, bI_n1, bI_nar, uI_r, uI_l, uL_r, uL_i, uL_p, uA_r, uA_l, bV_some, bU_some, nar_n0, nar_n1, and_self, and_true, true_and, and_false, false_and, if_true, if_false, eq_self, Bool.false_eq_true, Bool.true_eq_false, not_true_eq_false, not_false_eq_true, ↓reduceIte, nlT, nlF, ntT, ntF, neT, neF, ieT, ieF, decide_true, decide_false, Bool.not_true, Bool.not_false, Bool.and_true, Bool.true_and, Bool.and_false, Bool.false_and, Bool.or_true, Bool.true_or, Bool.or_false, Bool.false_or, v1, hsg, hp, f1]
        exact fin'
      · rw [q1] at hsg
        have fin' : MO T sl 63 S2 (run 187 0 45 [vR 50 0, vI (nI (T.2 s.1)), vU] [] S2) (Sum.inl f) := fin
        rw [q1] at fin'
        simp (disch := omega) only [s187_0, s187_1, s187_4, s187_5, s187_8, s187_9, s187_10, s187_12, s187_15, s187_16, s187_18, s187_21, s187_22, s187_24, s187_37, s187_38, s187_39, s187_42, q_0, q_1, q_2, q_3, q_4, q_5, q_6, q_7, q_8, q_9, q_10, q_11, q_12, q_13, q_14, q_16, q_20, q_23, q_24, q_32, q_42, q_43, q_45, q_47, q_48, q_50, q_57, q_59, q_60, q_61, q_62, q_63, q_64, q_66, q_91, q_93, q_97, q_99, q_122, q_144, q_255, q_256, q_300, q_380, q_400, q_620, q_999, q_1000, q_4095, q_4096, q_9999, q_65536, q_99999, q_31, nI_add, pk_mul, nE, nL, nT, nM31, nShl, ib_nI, nI_clamp, bI_n0, bI_n1, bI_nar, uI_r, uI_l, uL_r, uL_i, uL_p, uA_r, uA_l, bV_some, bU_some, nar_n0, nar_n1, and_self, and_true, true_and, and_false, false_and, if_true, if_false, eq_self, Bool.false_eq_true, Bool.true_eq_false, not_true_eq_false, not_false_eq_true, ↓reduceIte, nlT, nlF, ntT, ntF, neT, neF, ieT, ieF, decide_true, decide_false, Bool.not_true, Bool.not_false, Bool.and_true, Bool.true_and, Bool.and_false, Bool.false_and, Bool.or_true, Bool.true_or, Bool.or_false, Bool.false_or, v1, hsg, hp, f1]
        exact fin'
  | inr s =>
    rw [ev] at v vo
    obtain ⟨S1, v1, v2, w1⟩ := v.r
    have vo' : Oc T false st s := vo
    have hg2 := vo'.gd hg
    have z1 := hg2.1
    have z2 := hg2.2.1
    have z3 := hg2.2.2
    have hsg := w1.sg hK (show s.1 < 10000 by omega)
    have hp : S1.1 50 0 18 = nI s.1 := w1.2.1
    rw [bnd_r]
    refine MO.pre ?_ v2
    unfold pCmpS
    cases eq : sgn T s.1 with
    | none =>
      obtain ⟨e1, e2, e3⟩ := sgn_n hK eq
      obtain ⟨S2, f1, f2, f3⟩ := w1.fl (by decide) 0 s.1
      rw [ff_0] at f3
      refine ⟨S2, ?_, f2, s, f3, by unfold flt; omega, by unfold flt; omega, z1, by omega, by omega⟩
      simp (disch := omega) only [s187_0, s187_1, s187_4, s187_5, s187_8, s187_9, s187_10, s187_12, s187_15, s187_16, s187_18, s187_21, s187_22, s187_24, s187_27, s187_28, s187_29, s187_30, s187_33, s187_36, s187_37, s187_38, s187_39, s187_42, s187_45, s187_46, s187_47, s187_50, s187_51, s187_52, s187_55, s187_56, s187_58, s187_61, s187_62, s187_65, s187_67, s187_70, s187_71, s187_74, s187_75, s187_76, s187_77, s187_78, s187_81, s187_82, s187_85, s187_86, s187_89, s187_90, s187_91, s187_94, s187_95, s187_98, s187_99, s187_100, s187_102, s187_105, s187_107, s187_110, s187_111, s187_113, s187_116, s187_117, s187_120, s187_121, s187_124, s187_125, s187_128, s187_129, s187_132, s187_134, s187_137, s187_139, s187_140, s187_143, q_0, q_1, q_2, q_3, q_4, q_5, q_6, q_7, q_8, q_9, q_10, q_11, q_12, q_13, q_14, q_16, q_20, q_23, q_24, q_32, q_42, q_43, q_45, q_47, q_48, q_50, q_57, q_59, q_60, q_61, q_62, q_63, q_64, q_66, q_91, q_93, q_97, q_99, q_122, q_144, q_255, q_256, q_300, q_380, q_400, q_620, q_999, q_1000, q_4095, q_4096, q_9999, q_65536, q_99999, q_31, nI_add, pk_mul, nE, nL, nT, nM31, nShl, ib_nI, nI_clamp, bI_n0, bI_n1, bI_nar, uI_r, uI_l, uL_r, uL_i, uL_p, uA_r, uA_l, bV_some, bU_some, nar_n0, nar_n1, and_self, and_true, true_and, and_false, false_and, if_true, if_false, eq_self, Bool.false_eq_true, Bool.true_eq_false, not_true_eq_false, not_false_eq_true, ↓reduceIte, nlT, nlF, ntT, ntF, neT, neF, ieT, ieF, decide_true, decide_false, Bool.not_true, Bool.not_false, Bool.and_true, Bool.true_and, Bool.and_false, Bool.false_and, Bool.or_true, Bool.true_or, Bool.or_false, Bool.false_or, v1, hsg, e1, e2, e3, hp, f1]
    | some ke =>
      obtain ⟨k, e⟩ := ke
      have q0 := sgn_e eq
      have ec : chI T s.1 = nI (T.2 s.1) := by unfold chI; rw [if_pos q0.1]
      rw [ec] at hsg
      have he : e ≤ T.1 := q0.2.2.1
      have he1 : s.1 < e := q0.2.1
      obtain ⟨S2, f1, f2, f3⟩ := w1.ct (by decide) (by omega) s.1
      have q1 := (m_cmpT (p := s.1) (c := s.2.1) (l := s.2.2) hK w1 eq).2.1
      have s1 : run 187 0 0 [vR 50 0, vU, vU] [] S = run 187 0 45 [vR 50 0, vI (nI (T.2 s.1)), vU] [] S2 := by
        rcases q1 with q1 | q1 | q1 <;> (rw [q1] at hsg ⊢; simp (disch := omega) only [s187_0, s187_1, s187_4, s187_5, s187_8, s187_9, s187_10, s187_12, s187_15, s187_16, s187_18, s187_21, s187_22, s187_24, s187_37, s187_38, s187_39, s187_42, q_0, q_1, q_2, q_3, q_4, q_5, q_6, q_7, q_8, q_9, q_10, q_11, q_12, q_13, q_14, q_16, q_20, q_23, q_24, q_32, q_42, q_43, q_45, q_47, q_48, q_50, q_57, q_59, q_60, q_61, q_62, q_63, q_64, q_66, q_91, q_93, q_97, q_99, q_122, q_144, q_255, q_256, q_300, q_380, q_400, q_620, q_999, q_1000, q_4095, q_4096, q_9999, q_65536, q_99999, q_31, nI_add, pk_mul, nE, nL, nT, nM31, nShl, ib_nI, nI_clamp, bI_n0, bI_n1, bI_nar, uI_r, uI_l, uL_r, uL_i, uL_p, uA_r, uA_l, bV_some, bU_some, nar_n0, nar_n1, and_self, and_true, true_and, and_false, false_and, if_true, if_false, eq_self, Bool.false_eq_true, Bool.true_eq_false, not_true_eq_false, not_false_eq_true, ↓reduceIte, nlT, nlF, ntT, ntF, neT, neF, ieT, ieF, decide_true, decide_false, Bool.not_true, Bool.not_false, Bool.and_true, Bool.true_and, Bool.and_false, Bool.false_and, Bool.or_true, Bool.true_or, Bool.or_false, Bool.false_or, v1, hsg, hp, f1])
      rw [s1]
      refine MO.pre ?_ f2
      show MO T sl 63 S2 _ (if 60 ≤ s.2.1 then Sum.inl (flt 3 s.1) else bnd (pSum T (e, s.2.1 + 1, s.2.2)) (fun s' => Sum.inr (put s' k)))
      by_cases c : 60 ≤ s.2.1
      · rw [if_pos c]
        rw [if_pos (show s.2.1 = 60 by omega), ff_0] at f3
        exact m_cmpX (m := 62) (st := (s.1, s.2.1 + 1, s.2.2)) hK hs (by decide) f3 (by unfold flt; omega) (by unfold flt; omega) z1 (by show s.2.1 + 1 ≤ 62; omega) (show s.2.2.length < 300 by omega) eq vU
      · rw [if_neg c]
        rw [if_neg (show ¬ s.2.1 = 60 by omega)] at f3
        obtain ⟨_, _, S3, a1, b1, c1⟩ := m_cmpT (p := s.1) (c := s.2.1 + 1) (l := s.2.2) hK f3 eq
        have hg3 : Gd T (e, s.2.1 + 1, s.2.2) := ⟨he, by show s.2.1 + 1 ≤ 60; omega, by show 3 * s.2.2.length ≤ 6 * (s.2.1 + 1) + e; omega⟩
        have u := m_sum hK hs b1 hg3
        have uo := (pSum_oc (T := T) hK (st := (e, s.2.1 + 1, s.2.2)) he).1
        rw [c1]
        refine MO.pre ?_ a1
        cases eu : pSum T (e, s.2.1 + 1, s.2.2) with
        | inl f =>
          rw [eu] at u
          obtain ⟨S4, u1, u2, u3⟩ := u.l
          have en := u3.en (nI k) (nI 0)
          refine ⟨S4, ?_, u2, u3.mn (by decide)⟩
          simp (disch := omega) only [q_0, q_1, q_2, q_3, q_4, q_5, q_6, q_7, q_8, q_9, q_10, q_11, q_12, q_13, q_14, q_16, q_20, q_23, q_24, q_32, q_42, q_43, q_45, q_47, q_48, q_50, q_57, q_59, q_60, q_61, q_62, q_63, q_64, q_66, q_91, q_93, q_97, q_99, q_122, q_144, q_255, q_256, q_300, q_380, q_400, q_620, q_999, q_1000, q_4095, q_4096, q_9999, q_65536, q_99999, q_31, nI_add, pk_mul, nE, nL, nT, nM31, nShl, ib_nI, nI_clamp, bI_n0, bI_n1, bI_nar, uI_r, uI_l, uL_r, uL_i, uL_p, uA_r, uA_l, bV_some, bU_some, nar_n0, nar_n1, and_self, and_true, true_and, and_false, false_and, if_true, if_false, eq_self, Bool.false_eq_true, Bool.true_eq_false, not_true_eq_false, not_false_eq_true, ↓reduceIte, nlT, nlF, ntT, ntF, neT, neF, ieT, ieF, decide_true, decide_false, Bool.not_true, Bool.not_false, Bool.and_true, Bool.true_and, Bool.and_false, Bool.false_and, Bool.or_true, Bool.true_or, Bool.or_false, Bool.false_or, u1, en]
        | inr s' =>
          rw [eu] at u uo
          obtain ⟨S4, u1, u2, u3⟩ := u.r
          have hg4 := (show Oc T false (e, s.2.1 + 1, s.2.2) s' from uo).gd hg3
          have y1 := hg4.1
          have y2 := hg4.2.1
          have y3 := hg4.2.2
          obtain ⟨S5, t1, t2, t3⟩ := u3.en (by decide) hs (by omega) k 0
          refine ⟨S5, ?_, u2.tr t2, t3⟩
          simp (disch := omega) only [q_0, q_1, q_2, q_3, q_4, q_5, q_6, q_7, q_8, q_9, q_10, q_11, q_12, q_13, q_14, q_16, q_20, q_23, q_24, q_32, q_42, q_43, q_45, q_47, q_48, q_50, q_57, q_59, q_60, q_61, q_62, q_63, q_64, q_66, q_91, q_93, q_97, q_99, q_122, q_144, q_255, q_256, q_300, q_380, q_400, q_620, q_999, q_1000, q_4095, q_4096, q_9999, q_65536, q_99999, q_31, nI_add, pk_mul, nE, nL, nT, nM31, nShl, ib_nI, nI_clamp, bI_n0, bI_n1, bI_nar, uI_r, uI_l, uL_r, uL_i, uL_p, uA_r, uA_l, bV_some, bU_some, nar_n0, nar_n1, and_self, and_true, true_and, and_false, false_and, if_true, if_false, eq_self, Bool.false_eq_true, Bool.true_eq_false, not_true_eq_false, not_false_eq_true, ↓reduceIte, nlT, nlF, ntT, ntF, neT, neF, ieT, ieF, decide_true, decide_false, Bool.not_true, Bool.not_false, Bool.and_true, Bool.true_and, Bool.and_false, Bool.false_and, Bool.or_true, Bool.true_or, Bool.or_false, Bool.false_or, u1, t1]
