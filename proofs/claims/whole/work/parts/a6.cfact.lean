/-! the class reads a FACT, a TEST -/
theorem sg_nz {k : Nat} (h : k = 4 ∨ k = 5 ∨ k = 6 ∨ k = 7 ∨ k = 8) : (enc k 0 = nI 0) = False := by
  rcases h with rfl | rfl | rfl | rfl | rfl <;> decide
theorem x_cmpS {T : Tp} {r : Nat} {S : Sto} {st : Ps} (hK : TpK T) (h : CP T r S st) (hg : Gd T st) (hb : sc T blP st.1 = st.1) (j : Nat) (a1 a2 a3 a4 : av) : RC T r S (run 65 j 46 [vR 24 0, a1, a2, a3, a4] [] S) (pCmpS T st) := by
  have hK1 := hK.1
  have g1 := hg.1
  have g2 := hg.2.1
  have g3 := hg.2.2
  obtain ⟨S1, e1, e2⟩ := x_sign hK h.1 h.2.1 (by omega)
  rw [hb] at e1 e2
  unfold pCmpS
  rcases e2 with ⟨e3, e4⟩ | ⟨k, e, e3, e4⟩
  · rw [e3] at e1 ⊢
    have e1' : call 67 0 [vR 24 0] S = some (some (vI (nI 0)), S1) := e1
    have h1 : CP T r S1 st := by rw [e4]; exact h.at' st.1
    have f1 : CF r S S1 := by rw [e4]; exact CF.rf.u (Or.inl ⟨rfl, by decide⟩)
    have ef := x_fail (S := S1) (s := 0) h1.2.1
    simp (disch := omega) only [s65_0, s65_1, s65_4, s65_5, s65_6, s65_8, s65_11, s65_14, s65_15, s65_18, s65_19, s65_20, s65_21, s65_24, s65_25, s65_27, s65_30, s65_31, s65_32, s65_33, s65_36, s65_37, s65_38, s65_41, s65_44, s65_45, s65_46, s65_47, s65_50, s65_52, s65_54, s65_57, s65_58, s65_59, s65_62, s65_63, s65_64, s65_67, s65_69, s65_72, s65_73, s65_74, s65_77, s65_78, s65_79, s65_80, s65_83, s65_84, s65_85, s65_88, s65_89, s65_90, s65_93, s65_96, s65_97, s65_100, s65_103, s65_104, s65_105, s65_106, s65_109, s65_111, s65_114, s65_115, q_0, q_1, q_2, q_3, q_4, q_5, q_6, q_7, q_8, q_9, q_10, q_11, q_12, q_13, q_14, q_16, q_20, q_23, q_24, q_32, q_42, q_43, q_45, q_47, q_48, q_50, q_57, q_59, q_60, q_61, q_62, q_63, q_64, q_66, q_91, q_93, q_97, q_99, q_122, q_144, q_255, q_256, q_300, q_380, q_400, q_620, q_999, q_1000, q_4095, q_4096, q_9999, q_65536, q_99999, q_31, nI_add, pk_mul, nE, nL, nT, nM31, nShl, ib_nI, nI_clamp, bI_n0, bI_n1, bI_nar, uI_r, uI_l, uL_r, uL_i, uL_p, uA_r, uA_l, bV_some, bU_some, nar_n0, nar_n1, and_self, and_true, true_and, and_false, false_and, if_true, if_false, eq_self, Bool.false_eq_true, Bool.true_eq_false, not_true_eq_false, not_false_eq_true, ↓reduceIte, nlT, nlF, ntT, ntF, neT, neF, ieT, ieF, decide_true, decide_false, Bool.not_true, Bool.not_false, Bool.and_true, Bool.true_and, Bool.and_false, Bool.false_and, Bool.or_true, Bool.true_or, Bool.or_false, Bool.false_or, e1', ef]
    exact RC.fl h1.1 f1
  · rw [e3] at e1 ⊢
    obtain ⟨q1, q2, q3, q4⟩ := sgn_e e3
    have q3' : e ≤ T.1 := q3
    have q2' : st.1 < e := q2
    have hz := sg_nz q4
    have hz' : (enc k 0 = nI 0) = False := hz
    have e1' : call 67 0 [vR 24 0] S = some (some (vI (enc k 0)), S1) := e1
    have h1 : CP T r S1 st := by rw [e4]; exact (h.at' st.1).bh (nI e)
    have hb3 : S1.1 24 0 3 = nI e := by rw [e4, uI_r, if_pos ⟨rfl, rfl, rfl⟩]
    have f1 : CF r S S1 := by rw [e4]; exact (CF.rf.u (Or.inl ⟨rfl, by decide⟩)).u (Or.inl ⟨rfl, by decide⟩)
    refine RC.pre ?_ f1
    have h4 : S1.1 24 0 4 = nI st.2.1 := h1.2.2.1
    show RC T r S1 _ (if 60 ≤ st.2.1 then Sum.inl (flt 3 st.1) else bnd (pSum T (e, st.2.1 + 1, st.2.2)) (fun s' => Sum.inr (put s' k)))
    by_cases c : 60 ≤ st.2.1
    · rw [if_pos c]
      have ef := x_fail (S := S1) (s := 3) h1.2.1
      simp (disch := omega) only [s65_0, s65_1, s65_4, s65_5, s65_6, s65_8, s65_11, s65_14, s65_15, s65_18, s65_19, s65_20, s65_21, s65_24, s65_25, s65_27, s65_30, s65_31, s65_32, s65_33, s65_36, s65_37, s65_38, s65_41, s65_44, s65_45, s65_46, s65_47, s65_50, s65_52, s65_54, s65_57, s65_58, s65_59, s65_62, s65_63, s65_64, s65_67, s65_69, s65_72, s65_73, s65_74, s65_77, s65_78, s65_79, s65_80, s65_83, s65_84, s65_85, s65_88, s65_89, s65_90, s65_93, s65_96, s65_97, s65_100, s65_103, s65_104, s65_105, s65_106, s65_109, s65_111, s65_114, s65_115, q_0, q_1, q_2, q_3, q_4, q_5, q_6, q_7, q_8, q_9, q_10, q_11, q_12, q_13, q_14, q_16, q_20, q_23, q_24, q_32, q_42, q_43, q_45, q_47, q_48, q_50, q_57, q_59, q_60, q_61, q_62, q_63, q_64, q_66, q_91, q_93, q_97, q_99, q_122, q_144, q_255, q_256, q_300, q_380, q_400, q_620, q_999, q_1000, q_4095, q_4096, q_9999, q_65536, q_99999, q_31, nI_add, pk_mul, nE, nL, nT, nM31, nShl, ib_nI, nI_clamp, bI_n0, bI_n1, bI_nar, uI_r, uI_l, uL_r, uL_i, uL_p, uA_r, uA_l, bV_some, bU_some, nar_n0, nar_n1, and_self, and_true, true_and, and_false, false_and, if_true, if_false, eq_self, Bool.false_eq_true, Bool.true_eq_false, not_true_eq_false, not_false_eq_true, ↓reduceIte, nlT, nlF, ntT, ntF, neT, neF, ieT, ieF, decide_true, decide_false, Bool.not_true, Bool.not_false, Bool.and_true, Bool.true_and, Bool.and_false, Bool.false_and, Bool.or_true, Bool.true_or, Bool.or_false, Bool.false_or, e1', hz', h4, ef]
      exact RC.fl h1.1 CF.rf
    · rw [if_neg c]
      have hC : CP T r (uI (uI S1 24 0 4 (nI (st.2.1 + 1))) 24 0 2 (nI e)) (e, st.2.1 + 1, st.2.2) := (h1.ct (st.2.1 + 1)).at' e
      have hF : CF r S1 (uI (uI S1 24 0 4 (nI (st.2.1 + 1))) 24 0 2 (nI e)) := (CF.rf.u (Or.inl ⟨rfl, by decide⟩)).u (Or.inl ⟨rfl, by decide⟩)
      have hg2 : Gd T (e, st.2.1 + 1, st.2.2) := ⟨q3', by show st.2.1 + 1 ≤ 60; omega, by show 3 * st.2.2.length ≤ 6 * (st.2.1 + 1) + e; omega⟩
      have v := x_sum hK hC hg2
      have vo := (pSum_oc (T := T) hK (st := (e, st.2.1 + 1, st.2.2)) q3').1
      cases ev : pSum T (e, st.2.1 + 1, st.2.2) with
      | inl f =>
        rw [ev] at v
        obtain ⟨S4, v1, v2, v3, v4⟩ := v.l
        simp (disch := omega) only [s65_0, s65_1, s65_4, s65_5, s65_6, s65_8, s65_11, s65_14, s65_15, s65_18, s65_19, s65_20, s65_21, s65_24, s65_25, s65_27, s65_30, s65_31, s65_32, s65_33, s65_36, s65_37, s65_38, s65_41, s65_44, s65_45, s65_46, s65_47, s65_50, s65_52, s65_54, s65_57, s65_58, s65_59, s65_62, s65_63, s65_64, s65_67, s65_69, s65_72, s65_73, s65_74, s65_77, s65_78, s65_79, s65_80, s65_83, s65_84, s65_85, s65_88, s65_89, s65_90, s65_93, s65_96, s65_97, s65_100, s65_103, s65_104, s65_105, s65_106, s65_109, s65_111, s65_114, s65_115, q_0, q_1, q_2, q_3, q_4, q_5, q_6, q_7, q_8, q_9, q_10, q_11, q_12, q_13, q_14, q_16, q_20, q_23, q_24, q_32, q_42, q_43, q_45, q_47, q_48, q_50, q_57, q_59, q_60, q_61, q_62, q_63, q_64, q_66, q_91, q_93, q_97, q_99, q_122, q_144, q_255, q_256, q_300, q_380, q_400, q_620, q_999, q_1000, q_4095, q_4096, q_9999, q_65536, q_99999, q_31, nI_add, pk_mul, nE, nL, nT, nM31, nShl, ib_nI, nI_clamp, bI_n0, bI_n1, bI_nar, uI_r, uI_l, uL_r, uL_i, uL_p, uA_r, uA_l, bV_some, bU_some, nar_n0, nar_n1, and_self, and_true, true_and, and_false, false_and, if_true, if_false, eq_self, Bool.false_eq_true, Bool.true_eq_false, not_true_eq_false, not_false_eq_true, ↓reduceIte, nlT, nlF, ntT, ntF, neT, neF, ieT, ieF, decide_true, decide_false, Bool.not_true, Bool.not_false, Bool.and_true, Bool.true_and, Bool.and_false, Bool.false_and, Bool.or_true, Bool.true_or, Bool.or_false, Bool.false_or, e1', hz', h4, hb3, v1]
        exact RC.f0 (hF.tr v2) v3 v4
      | inr s =>
        rw [ev] at v vo
        obtain ⟨S4, v1, v2, v3⟩ := v.r
        have hg4 := (show Oc T false (e, st.2.1 + 1, st.2.2) s from vo).gd hg2
        have z1 := hg4.1
        have z2 := hg4.2.1
        have z3 := hg4.2.2
        obtain ⟨S5, m1, m2, m3⟩ := v3.em k 0 (by omega)
        simp (disch := omega) only [s65_46, s65_47, s65_50, s65_52, s65_54, s65_63, s65_64, s65_67, s65_69, s65_78, s65_79, s65_80, s65_83, s65_84, s65_85, s65_88, s65_89, s65_90, s65_93, s65_96, s65_97, s65_100, s65_105, q_0, q_1, q_2, q_3, q_4, q_5, q_6, q_7, q_8, q_9, q_10, q_11, q_12, q_13, q_14, q_16, q_20, q_23, q_24, q_32, q_42, q_43, q_45, q_47, q_48, q_50, q_57, q_59, q_60, q_61, q_62, q_63, q_64, q_66, q_91, q_93, q_97, q_99, q_122, q_144, q_255, q_256, q_300, q_380, q_400, q_620, q_999, q_1000, q_4095, q_4096, q_9999, q_65536, q_99999, q_31, nI_add, pk_mul, nE, nL, nT, nM31, nShl, ib_nI, nI_clamp, bI_n0, bI_n1, bI_nar, uI_r, uI_l, uL_r, uL_i, uL_p, uA_r, uA_l, bV_some, bU_some, nar_n0, nar_n1, and_self, and_true, true_and, and_false, false_and, if_true, if_false, eq_self, Bool.false_eq_true, Bool.true_eq_false, not_true_eq_false, not_false_eq_true, ↓reduceIte, nlT, nlF, ntT, ntF, neT, neF, ieT, ieF, decide_true, decide_false, Bool.not_true, Bool.not_false, Bool.and_true, Bool.true_and, Bool.and_false, Bool.false_and, Bool.or_true, Bool.true_or, Bool.or_false, Bool.false_or, e1', hz', h4, hb3, v1]
        rw [s65_106 (w := r) (hw := v3.2.2.2.2.1)]
        simp (disch := omega) only [s65_109, s65_111, s65_114, s65_115, q_0, q_1, q_2, q_3, q_4, q_5, q_6, q_7, q_8, q_9, q_10, q_11, q_12, q_13, q_14, q_16, q_20, q_23, q_24, q_32, q_42, q_43, q_45, q_47, q_48, q_50, q_57, q_59, q_60, q_61, q_62, q_63, q_64, q_66, q_91, q_93, q_97, q_99, q_122, q_144, q_255, q_256, q_300, q_380, q_400, q_620, q_999, q_1000, q_4095, q_4096, q_9999, q_65536, q_99999, q_31, nI_add, pk_mul, nE, nL, nT, nM31, nShl, ib_nI, nI_clamp, bI_n0, bI_n1, bI_nar, uI_r, uI_l, uL_r, uL_i, uL_p, uA_r, uA_l, bV_some, bU_some, nar_n0, nar_n1, and_self, and_true, true_and, and_false, false_and, if_true, if_false, eq_self, Bool.false_eq_true, Bool.true_eq_false, not_true_eq_false, not_false_eq_true, ↓reduceIte, nlT, nlF, ntT, ntF, neT, neF, ieT, ieF, decide_true, decide_false, Bool.not_true, Bool.not_false, Bool.and_true, Bool.true_and, Bool.and_false, Bool.false_and, Bool.or_true, Bool.true_or, Bool.or_false, Bool.false_or, m1]
        exact RC.ok m3 ((hF.tr v2).tr m2)
theorem x_cmp {T : Tp} {r : Nat} {S : Sto} {st : Ps} (hK : TpK T) (h : CP T r S st) (hg : Gd T st) (j : Nat) (a1 a2 a3 a4 : av) : RC T r S (run 65 j 37 [vR 24 0, a1, a2, a3, a4] [] S) (pCmp T st) := by
  have v := x_sum hK h hg
  have vo := pSum_oc (T := T) hK hg.1
  unfold pCmp
  cases ev : pSum T st with
  | inl f =>
    rw [ev] at v
    obtain ⟨S4, v1, v2, v3, v4⟩ := v.l
    simp (disch := omega) only [s65_37, s65_38, s65_41, s65_44, s65_45, q_0, q_1, q_2, q_3, q_4, q_5, q_6, q_7, q_8, q_9, q_10, q_11, q_12, q_13, q_14, q_16, q_20, q_23, q_24, q_32, q_42, q_43, q_45, q_47, q_48, q_50, q_57, q_59, q_60, q_61, q_62, q_63, q_64, q_66, q_91, q_93, q_97, q_99, q_122, q_144, q_255, q_256, q_300, q_380, q_400, q_620, q_999, q_1000, q_4095, q_4096, q_9999, q_65536, q_99999, q_31, nI_add, pk_mul, nE, nL, nT, nM31, nShl, ib_nI, nI_clamp, bI_n0, bI_n1, bI_nar, uI_r, uI_l, uL_r, uL_i, uL_p, uA_r, uA_l, bV_some, bU_some, nar_n0, nar_n1, and_self, and_true, true_and, and_false, false_and, if_true, if_false, eq_self, Bool.false_eq_true, Bool.true_eq_false, not_true_eq_false, not_false_eq_true, ↓reduceIte, nlT, nlF, ntT, ntF, neT, neF, ieT, ieF, decide_true, decide_false, Bool.not_true, Bool.not_false, Bool.and_true, Bool.true_and, Bool.and_false, Bool.false_and, Bool.or_true, Bool.true_or, Bool.or_false, Bool.false_or, v1]
    exact RC.f0 v2 v3 v4
  | inr s =>
    rw [ev] at v vo
    obtain ⟨S4, v1, v2, v3⟩ := v.r
    simp (disch := omega) only [s65_37, s65_38, s65_41, q_0, q_1, q_2, q_3, q_4, q_5, q_6, q_7, q_8, q_9, q_10, q_11, q_12, q_13, q_14, q_16, q_20, q_23, q_24, q_32, q_42, q_43, q_45, q_47, q_48, q_50, q_57, q_59, q_60, q_61, q_62, q_63, q_64, q_66, q_91, q_93, q_97, q_99, q_122, q_144, q_255, q_256, q_300, q_380, q_400, q_620, q_999, q_1000, q_4095, q_4096, q_9999, q_65536, q_99999, q_31, nI_add, pk_mul, nE, nL, nT, nM31, nShl, ib_nI, nI_clamp, bI_n0, bI_n1, bI_nar, uI_r, uI_l, uL_r, uL_i, uL_p, uA_r, uA_l, bV_some, bU_some, nar_n0, nar_n1, and_self, and_true, true_and, and_false, false_and, if_true, if_false, eq_self, Bool.false_eq_true, Bool.true_eq_false, not_true_eq_false, not_false_eq_true, ↓reduceIte, nlT, nlF, ntT, ntF, neT, neF, ieT, ieF, decide_true, decide_false, Bool.not_true, Bool.not_false, Bool.and_true, Bool.true_and, Bool.and_false, Bool.false_and, Bool.or_true, Bool.true_or, Bool.or_false, Bool.false_or, v1]
    exact RC.pre (x_cmpS hK v3 ((show Oc T false st s from vo.1).gd hg) (vo.2 s rfl) j a1 a2 a3 a4) v2
theorem wdk_N : WdK [wNot] := by
  unfold WdK
  decide
theorem wdk_A : WdK [wAnd, wOr] := by
  unfold WdK
  decide
theorem wdk_I : WdK [wIf] := by
  unfold WdK
  decide
theorem wInF_1 (T : Tp) (b : Nat) (w : List Nat) : wInF T b [w] 0 = if wEq T b w = true then some 0 else none := rfl
theorem wInF_2 (T : Tp) (b : Nat) (w v : List Nat) : wInF T b [w, v] 0 = if wEq T b w = true then some 0 else if wEq T b v = true then some 1 else none := rfl
theorem m1_0 : (-nI 1 = nI 0) = False := by decide
theorem x_factH {T : Tp} {r : Nat} {S : Sto} {st : Ps} (hK : TpK T) (h : CP T r S st) (hg : Gd T st) (j : Nat) (d : Int32) : ∃ S2, CF r S S2 ∧ CP T r S2 (sc T blP st.1, st.2) ∧ S2.1 24 0 3 = nI (sc T ltP (sc T blP st.1)) ∧ run 65 j 0 [vR 24 0, vI d, vU, vU, vU] [] S = (if wEq T (sc T blP st.1) wNot = true then run 65 j 30 [vR 24 0, vI d, vI (chI T (sc T blP st.1)), vI (nI 1), vU] [] S2 else if sc T blP st.1 < T.1 ∧ T.2 (sc T blP st.1) = 91 then run 65 j 30 [vR 24 0, vI d, vI (chI T (sc T blP st.1)), vI (nI 0), vU] [] S2 else run 65 j 37 [vR 24 0, vI d, vI (chI T (sc T blP st.1)), vI (nI 0), vU] [] S2) := by
  have hK1 := hK.1
  have g1 := hg.1
  have e1 := x_next hK st.1 h.1 h.2.1 (by omega)
  have h6 := sc_le T blP st.1 g1
  have hC : CP T r (uI S 24 0 2 (nI (sc T blP st.1))) (sc T blP st.1, st.2) := h.at' _
  have hF : CF r S (uI S 24 0 2 (nI (sc T blP st.1))) := CF.rf.u (Or.inl ⟨rfl, by decide⟩)
  generalize sc T blP st.1 = b at e1 h6 hC hF
  generalize uI S 24 0 2 (nI b) = S1 at e1 hC hF
  have e2 := x_wordIn (S := S1) (q := 3) (ws := [wNot]) hK hC.1 hC.2.1 (show b ≤ 400 by omega) (by decide) (by decide) wdk_N (by decide)
  refine ⟨uI S1 24 0 3 (nI (sc T ltP b)), hF.u (Or.inl ⟨rfl, by decide⟩), hC.bh _, by rw [uI_r, if_pos ⟨rfl, rfl, rfl⟩], ?_⟩
  rw [wInF_1] at e2
  by_cases c : wEq T b wNot = true
  · rw [if_pos c]
    rw [if_pos c, oK_s] at e2
    simp (disch := omega) only [s65_0, s65_1, s65_4, s65_5, s65_6, s65_8, s65_11, s65_14, s65_15, s65_19, s65_20, s65_21, q_0, q_1, q_2, q_3, q_4, q_5, q_6, q_7, q_8, q_9, q_10, q_11, q_12, q_13, q_14, q_16, q_20, q_23, q_24, q_32, q_42, q_43, q_45, q_47, q_48, q_50, q_57, q_59, q_60, q_61, q_62, q_63, q_64, q_66, q_91, q_93, q_97, q_99, q_122, q_144, q_255, q_256, q_300, q_380, q_400, q_620, q_999, q_1000, q_4095, q_4096, q_9999, q_65536, q_99999, q_31, nI_add, pk_mul, nE, nL, nT, nM31, nShl, ib_nI, nI_clamp, bI_n0, bI_n1, bI_nar, uI_r, uI_l, uL_r, uL_i, uL_p, uA_r, uA_l, bV_some, bU_some, nar_n0, nar_n1, and_self, and_true, true_and, and_false, false_and, if_true, if_false, eq_self, Bool.false_eq_true, Bool.true_eq_false, not_true_eq_false, not_false_eq_true, ↓reduceIte, nlT, nlF, ntT, ntF, neT, neF, ieT, ieF, decide_true, decide_false, Bool.not_true, Bool.not_false, Bool.and_true, Bool.true_and, Bool.and_false, Bool.false_and, Bool.or_true, Bool.true_or, Bool.or_false, Bool.false_or, e1, e2]
  · rw [if_neg c]
    rw [if_neg c, oK_n] at e2
    have ec := chI_eq (T := T) (p := b) (k := 91) hK (by decide)
    by_cases c2 : b < T.1 ∧ T.2 b = 91
    · rw [if_pos c2]
      have ec' : (chI T b = nI 91) = True := by rw [ec]; exact eq_true c2
      simp (disch := omega) only [s65_0, s65_1, s65_4, s65_5, s65_6, s65_8, s65_11, s65_18, s65_19, s65_20, s65_21, s65_24, s65_25, s65_27, q_0, q_1, q_2, q_3, q_4, q_5, q_6, q_7, q_8, q_9, q_10, q_11, q_12, q_13, q_14, q_16, q_20, q_23, q_24, q_32, q_42, q_43, q_45, q_47, q_48, q_50, q_57, q_59, q_60, q_61, q_62, q_63, q_64, q_66, q_91, q_93, q_97, q_99, q_122, q_144, q_255, q_256, q_300, q_380, q_400, q_620, q_999, q_1000, q_4095, q_4096, q_9999, q_65536, q_99999, q_31, nI_add, pk_mul, nE, nL, nT, nM31, nShl, ib_nI, nI_clamp, bI_n0, bI_n1, bI_nar, uI_r, uI_l, uL_r, uL_i, uL_p, uA_r, uA_l, bV_some, bU_some, nar_n0, nar_n1, and_self, and_true, true_and, and_false, false_and, if_true, if_false, eq_self, Bool.false_eq_true, Bool.true_eq_false, not_true_eq_false, not_false_eq_true, ↓reduceIte, nlT, nlF, ntT, ntF, neT, neF, ieT, ieF, decide_true, decide_false, Bool.not_true, Bool.not_false, Bool.and_true, Bool.true_and, Bool.and_false, Bool.false_and, Bool.or_true, Bool.true_or, Bool.or_false, Bool.false_or, e1, e2, m1_0, ec']
    · rw [if_neg c2]
      have ec' : (chI T b = nI 91) = False := by rw [ec]; exact eq_false c2
      simp (disch := omega) only [s65_0, s65_1, s65_4, s65_5, s65_6, s65_8, s65_11, s65_18, s65_19, s65_20, s65_21, s65_24, s65_25, s65_27, q_0, q_1, q_2, q_3, q_4, q_5, q_6, q_7, q_8, q_9, q_10, q_11, q_12, q_13, q_14, q_16, q_20, q_23, q_24, q_32, q_42, q_43, q_45, q_47, q_48, q_50, q_57, q_59, q_60, q_61, q_62, q_63, q_64, q_66, q_91, q_93, q_97, q_99, q_122, q_144, q_255, q_256, q_300, q_380, q_400, q_620, q_999, q_1000, q_4095, q_4096, q_9999, q_65536, q_99999, q_31, nI_add, pk_mul, nE, nL, nT, nM31, nShl, ib_nI, nI_clamp, bI_n0, bI_n1, bI_nar, uI_r, uI_l, uL_r, uL_i, uL_p, uA_r, uA_l, bV_some, bU_some, nar_n0, nar_n1, and_self, and_true, true_and, and_false, false_and, if_true, if_false, eq_self, Bool.false_eq_true, Bool.true_eq_false, not_true_eq_false, not_false_eq_true, ↓reduceIte, nlT, nlF, ntT, ntF, neT, neF, ieT, ieF, decide_true, decide_false, Bool.not_true, Bool.not_false, Bool.and_true, Bool.true_and, Bool.and_false, Bool.false_and, Bool.or_true, Bool.true_or, Bool.or_false, Bool.false_or, e1, e2, m1_0, ec']
theorem x_deep0 {T : Tp} {r : Nat} {S : Sto} {st : Ps} (h : CP T r S st) (j : Nat) (x : Int32) : RC T r S (call 66 j [vR 24 0, vI (nI 10), vI x] S) (Sum.inl (flt 2 st.1)) := by
  have ef := x_fail (S := S) (s := 2) h.2.1
  show RC T r S (run 66 j 0 [vR 24 0, vI (nI 10), vI x] [] S) _
  simp (disch := omega) only [s66_0, s66_1, s66_3, s66_6, s66_7, s66_8, s66_11, q_0, q_1, q_2, q_3, q_4, q_5, q_6, q_7, q_8, q_9, q_10, q_11, q_12, q_13, q_14, q_16, q_20, q_23, q_24, q_32, q_42, q_43, q_45, q_47, q_48, q_50, q_57, q_59, q_60, q_61, q_62, q_63, q_64, q_66, q_91, q_93, q_97, q_99, q_122, q_144, q_255, q_256, q_300, q_380, q_400, q_620, q_999, q_1000, q_4095, q_4096, q_9999, q_65536, q_99999, q_31, nI_add, pk_mul, nE, nL, nT, nM31, nShl, ib_nI, nI_clamp, bI_n0, bI_n1, bI_nar, uI_r, uI_l, uL_r, uL_i, uL_p, uA_r, uA_l, bV_some, bU_some, nar_n0, nar_n1, and_self, and_true, true_and, and_false, false_and, if_true, if_false, eq_self, Bool.false_eq_true, Bool.true_eq_false, not_true_eq_false, not_false_eq_true, ↓reduceIte, nlT, nlF, ntT, ntF, neT, neF, ieT, ieF, decide_true, decide_false, Bool.not_true, Bool.not_false, Bool.and_true, Bool.true_and, Bool.and_false, Bool.false_and, Bool.or_true, Bool.true_or, Bool.or_false, Bool.false_or, ef]
  exact RC.fl h.1 CF.rf
/-- how a FACT is read, d deep -/
def FS (T : Tp) (r j d : Nat) (F : Ps → Sum Nat Ps) : Prop := ∀ S st, CP T r S st → Gd T st → RC T r S (call 65 j [vR 24 0, vI (nI d)] S) (F st)
theorem bI_w (w : Bool) : (bI w = nI 0) = (w = false) := bI_n0 w
theorem x_testE {T : Tp} {r : Nat} {S : Sto} {st : Ps} (h : CP T r S st) (w : Bool) (hl : st.2.2.length < 400) (j : Nat) (a1 a3 a4 a5 : av) : RC T r S (run 64 j 128 [vR 24 0, a1, vI (bI w), a3, a4, a5] [] S) (Sum.inr (st.1, st.2.1, st.2.2 ++ wo w)) := by
  cases w with
  | false =>
    show RC T r S _ (Sum.inr (st.1, st.2.1, st.2.2 ++ []))
    rw [List.append_nil]
    simp (disch := omega) only [s64_128, s64_129, s64_142, s64_143, q_0, q_1, q_2, q_3, q_4, q_5, q_6, q_7, q_8, q_9, q_10, q_11, q_12, q_13, q_14, q_16, q_20, q_23, q_24, q_32, q_42, q_43, q_45, q_47, q_48, q_50, q_57, q_59, q_60, q_61, q_62, q_63, q_64, q_66, q_91, q_93, q_97, q_99, q_122, q_144, q_255, q_256, q_300, q_380, q_400, q_620, q_999, q_1000, q_4095, q_4096, q_9999, q_65536, q_99999, q_31, nI_add, pk_mul, nE, nL, nT, nM31, nShl, ib_nI, nI_clamp, bI_n0, bI_n1, bI_nar, uI_r, uI_l, uL_r, uL_i, uL_p, uA_r, uA_l, bV_some, bU_some, nar_n0, nar_n1, and_self, and_true, true_and, and_false, false_and, if_true, if_false, eq_self, Bool.false_eq_true, Bool.true_eq_false, not_true_eq_false, not_false_eq_true, ↓reduceIte, nlT, nlF, ntT, ntF, neT, neF, ieT, ieF, decide_true, decide_false, Bool.not_true, Bool.not_false, Bool.and_true, Bool.true_and, Bool.and_false, Bool.false_and, Bool.or_true, Bool.true_or, Bool.or_false, Bool.false_or]
    exact RC.ok h CF.rf
  | true =>
    obtain ⟨S', e1, e2, e3⟩ := h.em 11 0 hl
    have e1' : call 12 0 [vR 17 r, vI (-204)] S = some (none, S') := e1
    show RC T r S _ (Sum.inr (st.1, st.2.1, st.2.2 ++ [(11, 0)]))
    simp (disch := omega) only [s64_128, s64_129, s64_132, q_0, q_1, q_2, q_3, q_4, q_5, q_6, q_7, q_8, q_9, q_10, q_11, q_12, q_13, q_14, q_16, q_20, q_23, q_24, q_32, q_42, q_43, q_45, q_47, q_48, q_50, q_57, q_59, q_60, q_61, q_62, q_63, q_64, q_66, q_91, q_93, q_97, q_99, q_122, q_144, q_255, q_256, q_300, q_380, q_400, q_620, q_999, q_1000, q_4095, q_4096, q_9999, q_65536, q_99999, q_31, nI_add, pk_mul, nE, nL, nT, nM31, nShl, ib_nI, nI_clamp, bI_n0, bI_n1, bI_nar, uI_r, uI_l, uL_r, uL_i, uL_p, uA_r, uA_l, bV_some, bU_some, nar_n0, nar_n1, and_self, and_true, true_and, and_false, false_and, if_true, if_false, eq_self, Bool.false_eq_true, Bool.true_eq_false, not_true_eq_false, not_false_eq_true, ↓reduceIte, nlT, nlF, ntT, ntF, neT, neF, ieT, ieF, decide_true, decide_false, Bool.not_true, Bool.not_false, Bool.and_true, Bool.true_and, Bool.and_false, Bool.false_and, Bool.or_true, Bool.true_or, Bool.or_false, Bool.false_or]
    rw [s64_133 (w := r) (hw := h.2.2.2.2.1)]
    simp (disch := omega) only [s64_136, s64_139, e1', s64_142, s64_143, q_0, q_1, q_2, q_3, q_4, q_5, q_6, q_7, q_8, q_9, q_10, q_11, q_12, q_13, q_14, q_16, q_20, q_23, q_24, q_32, q_42, q_43, q_45, q_47, q_48, q_50, q_57, q_59, q_60, q_61, q_62, q_63, q_64, q_66, q_91, q_93, q_97, q_99, q_122, q_144, q_255, q_256, q_300, q_380, q_400, q_620, q_999, q_1000, q_4095, q_4096, q_9999, q_65536, q_99999, q_31, nI_add, pk_mul, nE, nL, nT, nM31, nShl, ib_nI, nI_clamp, bI_n0, bI_n1, bI_nar, uI_r, uI_l, uL_r, uL_i, uL_p, uA_r, uA_l, bV_some, bU_some, nar_n0, nar_n1, and_self, and_true, true_and, and_false, false_and, if_true, if_false, eq_self, Bool.false_eq_true, Bool.true_eq_false, not_true_eq_false, not_false_eq_true, ↓reduceIte, nlT, nlF, ntT, ntF, neT, neF, ieT, ieF, decide_true, decide_false, Bool.not_true, Bool.not_false, Bool.and_true, Bool.true_and, Bool.and_false, Bool.false_and, Bool.or_true, Bool.true_or, Bool.or_false, Bool.false_or]
    exact RC.ok e3 e2
theorem tsI_gd {T : Tp} {p : Ps} {x : Bool × Ps} (h : tsI T p x) (hp : Gd T p) : Gd T (x.2.1, x.2.2.1, x.2.2.2 ++ wo x.1) := (tsI_w h).gd hp
theorem x_testL {T : Tp} {r j d : Nat} {F : Ps → Sum Nat Ps} {p : Ps} (hK : TpK T) (hd : d < 100) (hFO : FOK T F) (hFS : FS T r j d F) (hp : Gd T p) : ∀ n {S : Sto} {x : Bool × Ps} {i : Nat} (a4 a5 : av), 400 - x.2.1 < n → CP T r S x.2 → tsI T p x → i ≤ x.2.1 → RC T r S (run 64 (j + 1) 14 [vR 24 0, vI (nI d), vI (bI x.1), vI (nI i), a4, a5] [] S) (tsL T F x) := by
  intro n
  have hK1 := hK.1
  induction n with
  | zero => intro S x i a4 a5 hn; omega
  | succ n ih =>
    intro S x i a4 a5 hn h hI hi
    obtain ⟨w, st⟩ := x
    have hn' : 400 - st.1 < n + 1 := hn
    have hC0 : CP T r S st := h
    have hi' : i ≤ st.1 := hi
    have hgw : Gd T (st.1, st.2.1, st.2.2 ++ wo w) := tsI_gd hI hp
    have g1 : st.1 ≤ T.1 := hgw.1
    have g2 : st.2.1 ≤ 60 := hgw.2.1
    have g3 : 3 * (st.2.2 ++ wo w).length ≤ 6 * st.2.1 + st.1 := hgw.2.2
    rw [List.length_append] at g3
    show RC T r S (run 64 (j + 1) 14 [vR 24 0, vI (nI d), vI (bI w), vI (nI i), a4, a5] [] S) (tsL T F (w, st))
    by_cases ci : i < 400
    · have e1 := x_next hK st.1 hC0.1 hC0.2.1 (by omega)
      have h6 := sc_le T blP st.1 g1
      have h5 := sc_ge T blP st.1
      have hC : CP T r (uI S 24 0 2 (nI (sc T blP st.1))) (sc T blP st.1, st.2) := hC0.at' _
      have hF : CF r S (uI S 24 0 2 (nI (sc T blP st.1))) := CF.rf.u (Or.inl ⟨rfl, by decide⟩)
      have ta : wEq T (sc T blP st.1) wAnd = true → tsL T F (w, st) = bnd (F (sc T blP st.1 + 3, st.2)) (fun s => tsL T F (w, put s 10)) := fun q => tsL_a (x := (w, st)) hK hFO q
      have to : wEq T (sc T blP st.1) wAnd = false → wEq T (sc T blP st.1) wOr = true → tsL T F (w, st) = bnd (F (sc T blP st.1 + 2, st.2.1, st.2.2 ++ wo w)) (fun s => tsL T F (true, s)) := fun q q' => tsL_o (x := (w, st)) hK hFO q q'
      have te : wEq T (sc T blP st.1) wAnd = false → wEq T (sc T blP st.1) wOr = false → tsL T F (w, st) = Sum.inr (sc T blP st.1, st.2.1, st.2.2 ++ wo w) := fun q q' => tsL_e (x := (w, st)) q q'
      refine RC.pre ?_ hF
      generalize sc T blP st.1 = b at e1 h6 h5 hC hF ta to te
      generalize uI S 24 0 2 (nI b) = S1 at e1 hC hF
      have e2 := x_wordIn (S := S1) (q := 4) (ws := [wAnd, wOr]) hK hC.1 hC.2.1 (show b ≤ 400 by omega) (by decide) (by decide) wdk_A (by decide)
      have hC2 := hC.bh (nI (sc T ltP b))
      have hb3 : (uI S1 24 0 3 (nI (sc T ltP b))).1 24 0 3 = nI (sc T ltP b) := by rw [uI_r, if_pos ⟨rfl, rfl, rfl⟩]
      refine RC.pre ?_ (show CF r S1 (uI S1 24 0 3 (nI (sc T ltP b))) from CF.rf.u (Or.inl ⟨rfl, by decide⟩))
      generalize uI S1 24 0 3 (nI (sc T ltP b)) = S2 at e2 hC2 hb3
      rw [wInF_2] at e2
      cases ca : wEq T b wAnd with
      | true =>
        rw [ta ca]
        rw [if_pos ca, oK_s] at e2
        have hl3 : sc T ltP b = b + 3 := (wEq_e ca).1
        rw [hl3] at hb3
        have hb4 : b + 3 ≤ T.1 := wEq_l ca
        have hC3 : CP T r (uI S2 24 0 2 (nI (b + 3))) (b + 3, st.2) := hC2.at' (b + 3)
        have hg3 : Gd T (b + 3, st.2) := ⟨hb4, g2, by show 3 * st.2.2.length ≤ 6 * st.2.1 + (b + 3); omega⟩
        refine RC.pre ?_ (show CF r S2 (uI S2 24 0 2 (nI (b + 3))) from CF.rf.u (Or.inl ⟨rfl, by decide⟩))
        have s1 : run 64 (j + 1) 14 [vR 24 0, vI (nI d), vI (bI w), vI (nI i), a4, a5] [] S = run 64 (j + 1) 97 [vR 24 0, vI (nI d), vI (bI w), vI (nI i), vI (nI 0), vI (nI 0)] [] (uI S2 24 0 2 (nI (b + 3))) := by
          rw [s64_14]
          cases w <;> (simp (disch := omega) only [s64_0, s64_1, s64_2, s64_5, s64_8, s64_9, s64_10, s64_11, s64_12, s64_13, s64_15, s64_18, s64_21, s64_22, s64_25, s64_26, s64_27, s64_29, s64_32, s64_34, s64_36, s64_39, s64_42, s64_43, s64_44, s64_47, s64_50, s64_52, s64_53, s64_56, s64_57, s64_60, s64_61, s64_63, s64_65, s64_68, s64_69, s64_72, s64_73, s64_76, s64_79, s64_82, s64_83, s64_86, s64_88, s64_91, s64_92, s64_95, s64_96, s64_98, s64_99, s64_102, s64_105, s64_106, s64_107, s64_109, s64_112, s64_113, s64_116, s64_119, s64_122, s64_125, s64_128, s64_129, s64_132, s64_133, s64_136, s64_139, s64_142, s64_143, q_0, q_1, q_2, q_3, q_4, q_5, q_6, q_7, q_8, q_9, q_10, q_11, q_12, q_13, q_14, q_16, q_20, q_23, q_24, q_32, q_42, q_43, q_45, q_47, q_48, q_50, q_57, q_59, q_60, q_61, q_62, q_63, q_64, q_66, q_91, q_93, q_97, q_99, q_122, q_144, q_255, q_256, q_300, q_380, q_400, q_620, q_999, q_1000, q_4095, q_4096, q_9999, q_65536, q_99999, q_31, nI_add, pk_mul, nE, nL, nT, nM31, nShl, ib_nI, nI_clamp, bI_n0, bI_n1, bI_nar, uI_r, uI_l, uL_r, uL_i, uL_p, uA_r, uA_l, bV_some, bU_some, nar_n0, nar_n1, and_self, and_true, true_and, and_false, false_and, if_true, if_false, eq_self, Bool.false_eq_true, Bool.true_eq_false, not_true_eq_false, not_false_eq_true, ↓reduceIte, nlT, nlF, ntT, ntF, neT, neF, ieT, ieF, decide_true, decide_false, Bool.not_true, Bool.not_false, Bool.and_true, Bool.true_and, Bool.and_false, Bool.false_and, Bool.or_true, Bool.true_or, Bool.or_false, Bool.false_or, e1, e2, hb3]; rfl)
        rw [s1]
        generalize uI S2 24 0 2 (nI (b + 3)) = S3 at hC3
        have v := hFS S3 _ hC3 hg3
        have vo := hFO (b + 3, st.2) hb4
        cases ev : F (b + 3, st.2) with
        | inl f =>
          rw [ev] at v
          obtain ⟨S4, v1, v2, v3, v4⟩ := v.l
          simp (disch := omega) only [s64_97, s64_98, s64_99, s64_102, s64_105, s64_106, q_0, q_1, q_2, q_3, q_4, q_5, q_6, q_7, q_8, q_9, q_10, q_11, q_12, q_13, q_14, q_16, q_20, q_23, q_24, q_32, q_42, q_43, q_45, q_47, q_48, q_50, q_57, q_59, q_60, q_61, q_62, q_63, q_64, q_66, q_91, q_93, q_97, q_99, q_122, q_144, q_255, q_256, q_300, q_380, q_400, q_620, q_999, q_1000, q_4095, q_4096, q_9999, q_65536, q_99999, q_31, nI_add, pk_mul, nE, nL, nT, nM31, nShl, ib_nI, nI_clamp, bI_n0, bI_n1, bI_nar, uI_r, uI_l, uL_r, uL_i, uL_p, uA_r, uA_l, bV_some, bU_some, nar_n0, nar_n1, and_self, and_true, true_and, and_false, false_and, if_true, if_false, eq_self, Bool.false_eq_true, Bool.true_eq_false, not_true_eq_false, not_false_eq_true, ↓reduceIte, nlT, nlF, ntT, ntF, neT, neF, ieT, ieF, decide_true, decide_false, Bool.not_true, Bool.not_false, Bool.and_true, Bool.true_and, Bool.and_false, Bool.false_and, Bool.or_true, Bool.true_or, Bool.or_false, Bool.false_or, v1]
          exact RC.f0 v2 v3 v4
        | inr s =>
          rw [ev] at v vo
          obtain ⟨S4, v1, v2, v3⟩ := v.r
          have vo' : Oc T true (b + 3, st.2) s := vo
          have p1 : b + 3 < s.1 := vo'.1
          have hg4 := vo'.gd hg3
          have z1 := hg4.1
          have z2 := hg4.2.1
          have z3 := hg4.2.2
          obtain ⟨S5, m1, m2, m3⟩ := v3.em 10 0 (by omega)
          have m1' : call 12 0 [vR 17 r, vI (-203)] S4 = some (none, S5) := m1
          simp (disch := omega) only [s64_97, s64_98, s64_99, s64_102, s64_107, s64_109, s64_112, q_0, q_1, q_2, q_3, q_4, q_5, q_6, q_7, q_8, q_9, q_10, q_11, q_12, q_13, q_14, q_16, q_20, q_23, q_24, q_32, q_42, q_43, q_45, q_47, q_48, q_50, q_57, q_59, q_60, q_61, q_62, q_63, q_64, q_66, q_91, q_93, q_97, q_99, q_122, q_144, q_255, q_256, q_300, q_380, q_400, q_620, q_999, q_1000, q_4095, q_4096, q_9999, q_65536, q_99999, q_31, nI_add, pk_mul, nE, nL, nT, nM31, nShl, ib_nI, nI_clamp, bI_n0, bI_n1, bI_nar, uI_r, uI_l, uL_r, uL_i, uL_p, uA_r, uA_l, bV_some, bU_some, nar_n0, nar_n1, and_self, and_true, true_and, and_false, false_and, if_true, if_false, eq_self, Bool.false_eq_true, Bool.true_eq_false, not_true_eq_false, not_false_eq_true, ↓reduceIte, nlT, nlF, ntT, ntF, neT, neF, ieT, ieF, decide_true, decide_false, Bool.not_true, Bool.not_false, Bool.and_true, Bool.true_and, Bool.and_false, Bool.false_and, Bool.or_true, Bool.true_or, Bool.or_false, Bool.false_or, v1]
          rw [s64_113 (w := r) (hw := v3.2.2.2.2.1)]
          simp (disch := omega) only [s64_116, s64_119, s64_122, s64_125, m1', q_0, q_1, q_2, q_3, q_4, q_5, q_6, q_7, q_8, q_9, q_10, q_11, q_12, q_13, q_14, q_16, q_20, q_23, q_24, q_32, q_42, q_43, q_45, q_47, q_48, q_50, q_57, q_59, q_60, q_61, q_62, q_63, q_64, q_66, q_91, q_93, q_97, q_99, q_122, q_144, q_255, q_256, q_300, q_380, q_400, q_620, q_999, q_1000, q_4095, q_4096, q_9999, q_65536, q_99999, q_31, nI_add, pk_mul, nE, nL, nT, nM31, nShl, ib_nI, nI_clamp, bI_n0, bI_n1, bI_nar, uI_r, uI_l, uL_r, uL_i, uL_p, uA_r, uA_l, bV_some, bU_some, nar_n0, nar_n1, and_self, and_true, true_and, and_false, false_and, if_true, if_false, eq_self, Bool.false_eq_true, Bool.true_eq_false, not_true_eq_false, not_false_eq_true, ↓reduceIte, nlT, nlF, ntT, ntF, neT, neF, ieT, ieF, decide_true, decide_false, Bool.not_true, Bool.not_false, Bool.and_true, Bool.true_and, Bool.and_false, Bool.false_and, Bool.or_true, Bool.true_or, Bool.or_false, Bool.false_or]
          refine RC.pre ?_ (v2.tr m2)
          have hI2 : tsI T p (w, put s 10) := tsI_a hI vo' (by show st.1 < b + 3; omega) rfl
          exact ih (x := (w, put s 10)) _ _ (by show 400 - s.1 < n; omega) m3 hI2 (by show i + 1 ≤ s.1; omega)
      | false =>
        rw [if_neg (by rw [ca]; decide)] at e2
        cases co : wEq T b wOr with
        | true =>
          rw [to ca co]
          rw [if_pos co, oK_s] at e2
          have hl3 : sc T ltP b = b + 2 := (wEq_e co).1
          rw [hl3] at hb3
          have hb4 : b + 2 ≤ T.1 := wEq_l co
          have hC3 : CP T r (uI S2 24 0 2 (nI (b + 2))) (b + 2, st.2) := hC2.at' (b + 2)
          refine RC.pre ?_ (show CF r S2 (uI S2 24 0 2 (nI (b + 2))) from CF.rf.u (Or.inl ⟨rfl, by decide⟩))
          have hg3 : Gd T (b + 2, st.2.1, st.2.2 ++ wo w) := ⟨hb4, g2, by show 3 * (st.2.2 ++ wo w).length ≤ 6 * st.2.1 + (b + 2); rw [List.length_append]; omega⟩
          have s1 : ∃ S3, CF r (uI S2 24 0 2 (nI (b + 2))) S3 ∧ CP T r S3 (b + 2, st.2.1, st.2.2 ++ wo w) ∧ run 64 (j + 1) 14 [vR 24 0, vI (nI d), vI (bI w), vI (nI i), a4, a5] [] S = run 64 (j + 1) 97 [vR 24 0, vI (nI d), vI (nI 1), vI (nI i), vI (nI 1), vI (nI 1)] [] S3 := by
            rw [s64_14]
            cases w with
            | false =>
              refine ⟨_, CF.rf, ?_, ?_⟩
              · show CP T r (uI S2 24 0 2 (nI (b + 2))) (b + 2, st.2.1, st.2.2 ++ [])
                rw [List.append_nil]
                exact hC3
              · simp (disch := omega) only [s64_0, s64_1, s64_2, s64_5, s64_8, s64_9, s64_10, s64_11, s64_12, s64_13, s64_15, s64_18, s64_21, s64_22, s64_25, s64_26, s64_27, s64_29, s64_32, s64_34, s64_36, s64_39, s64_42, s64_43, s64_44, s64_47, s64_50, s64_52, s64_53, s64_56, s64_57, s64_60, s64_61, s64_63, s64_65, s64_68, s64_69, s64_72, s64_73, s64_76, s64_79, s64_82, s64_83, s64_86, s64_88, s64_91, s64_92, s64_95, s64_96, s64_98, s64_99, s64_102, s64_105, s64_106, s64_107, s64_109, s64_112, s64_113, s64_116, s64_119, s64_122, s64_125, s64_128, s64_129, s64_132, s64_133, s64_136, s64_139, s64_142, s64_143, q_0, q_1, q_2, q_3, q_4, q_5, q_6, q_7, q_8, q_9, q_10, q_11, q_12, q_13, q_14, q_16, q_20, q_23, q_24, q_32, q_42, q_43, q_45, q_47, q_48, q_50, q_57, q_59, q_60, q_61, q_62, q_63, q_64, q_66, q_91, q_93, q_97, q_99, q_122, q_144, q_255, q_256, q_300, q_380, q_400, q_620, q_999, q_1000, q_4095, q_4096, q_9999, q_65536, q_99999, q_31, nI_add, pk_mul, nE, nL, nT, nM31, nShl, ib_nI, nI_clamp, bI_n0, bI_n1, bI_nar, uI_r, uI_l, uL_r, uL_i, uL_p, uA_r, uA_l, bV_some, bU_some, nar_n0, nar_n1, and_self, and_true, true_and, and_false, false_and, if_true, if_false, eq_self, Bool.false_eq_true, Bool.true_eq_false, not_true_eq_false, not_false_eq_true, ↓reduceIte, nlT, nlF, ntT, ntF, neT, neF, ieT, ieF, decide_true, decide_false, Bool.not_true, Bool.not_false, Bool.and_true, Bool.true_and, Bool.and_false, Bool.false_and, Bool.or_true, Bool.true_or, Bool.or_false, Bool.false_or, e1, e2, hb3]
            | true =>
              obtain ⟨S3, m1, m2, m3⟩ := hC3.em 11 0 (show st.2.2.length < 400 by omega)
              have m1' : call 12 0 [vR 17 r, vI (-204)] (uI S2 24 0 2 (nI (b + 2))) = some (none, S3) := m1
              refine ⟨S3, m2, m3, ?_⟩
              simp (disch := omega) only [s64_15, s64_18, s64_21, s64_22, s64_25, s64_26, s64_27, s64_29, s64_32, s64_34, s64_36, s64_42, s64_43, s64_44, s64_47, s64_50, s64_52, s64_53, s64_56, s64_57, s64_61, s64_63, s64_65, s64_68, s64_69, s64_72, q_0, q_1, q_2, q_3, q_4, q_5, q_6, q_7, q_8, q_9, q_10, q_11, q_12, q_13, q_14, q_16, q_20, q_23, q_24, q_32, q_42, q_43, q_45, q_47, q_48, q_50, q_57, q_59, q_60, q_61, q_62, q_63, q_64, q_66, q_91, q_93, q_97, q_99, q_122, q_144, q_255, q_256, q_300, q_380, q_400, q_620, q_999, q_1000, q_4095, q_4096, q_9999, q_65536, q_99999, q_31, nI_add, pk_mul, nE, nL, nT, nM31, nShl, ib_nI, nI_clamp, bI_n0, bI_n1, bI_nar, uI_r, uI_l, uL_r, uL_i, uL_p, uA_r, uA_l, bV_some, bU_some, nar_n0, nar_n1, and_self, and_true, true_and, and_false, false_and, if_true, if_false, eq_self, Bool.false_eq_true, Bool.true_eq_false, not_true_eq_false, not_false_eq_true, ↓reduceIte, nlT, nlF, ntT, ntF, neT, neF, ieT, ieF, decide_true, decide_false, Bool.not_true, Bool.not_false, Bool.and_true, Bool.true_and, Bool.and_false, Bool.false_and, Bool.or_true, Bool.true_or, Bool.or_false, Bool.false_or, e1, e2, hb3]
              rw [s64_73 (w := r) (hw := hC3.2.2.2.2.1)]
              simp (disch := omega) only [s64_76, s64_79, s64_82, s64_83, s64_86, s64_88, s64_91, s64_92, s64_96, m1', q_0, q_1, q_2, q_3, q_4, q_5, q_6, q_7, q_8, q_9, q_10, q_11, q_12, q_13, q_14, q_16, q_20, q_23, q_24, q_32, q_42, q_43, q_45, q_47, q_48, q_50, q_57, q_59, q_60, q_61, q_62, q_63, q_64, q_66, q_91, q_93, q_97, q_99, q_122, q_144, q_255, q_256, q_300, q_380, q_400, q_620, q_999, q_1000, q_4095, q_4096, q_9999, q_65536, q_99999, q_31, nI_add, pk_mul, nE, nL, nT, nM31, nShl, ib_nI, nI_clamp, bI_n0, bI_n1, bI_nar, uI_r, uI_l, uL_r, uL_i, uL_p, uA_r, uA_l, bV_some, bU_some, nar_n0, nar_n1, and_self, and_true, true_and, and_false, false_and, if_true, if_false, eq_self, Bool.false_eq_true, Bool.true_eq_false, not_true_eq_false, not_false_eq_true, ↓reduceIte, nlT, nlF, ntT, ntF, neT, neF, ieT, ieF, decide_true, decide_false, Bool.not_true, Bool.not_false, Bool.and_true, Bool.true_and, Bool.and_false, Bool.false_and, Bool.or_true, Bool.true_or, Bool.or_false, Bool.false_or]
          obtain ⟨S3, f1, f2, f3⟩ := s1
          rw [f3]
          refine RC.pre ?_ f1
          have v := hFS S3 _ f2 hg3
          have vo := hFO (b + 2, st.2.1, st.2.2 ++ wo w) hb4
          cases ev : F (b + 2, st.2.1, st.2.2 ++ wo w) with
          | inl f =>
            rw [ev] at v
            obtain ⟨S4, v1, v2, v3, v4⟩ := v.l
            simp (disch := omega) only [s64_97, s64_98, s64_99, s64_102, s64_105, s64_106, q_0, q_1, q_2, q_3, q_4, q_5, q_6, q_7, q_8, q_9, q_10, q_11, q_12, q_13, q_14, q_16, q_20, q_23, q_24, q_32, q_42, q_43, q_45, q_47, q_48, q_50, q_57, q_59, q_60, q_61, q_62, q_63, q_64, q_66, q_91, q_93, q_97, q_99, q_122, q_144, q_255, q_256, q_300, q_380, q_400, q_620, q_999, q_1000, q_4095, q_4096, q_9999, q_65536, q_99999, q_31, nI_add, pk_mul, nE, nL, nT, nM31, nShl, ib_nI, nI_clamp, bI_n0, bI_n1, bI_nar, uI_r, uI_l, uL_r, uL_i, uL_p, uA_r, uA_l, bV_some, bU_some, nar_n0, nar_n1, and_self, and_true, true_and, and_false, false_and, if_true, if_false, eq_self, Bool.false_eq_true, Bool.true_eq_false, not_true_eq_false, not_false_eq_true, ↓reduceIte, nlT, nlF, ntT, ntF, neT, neF, ieT, ieF, decide_true, decide_false, Bool.not_true, Bool.not_false, Bool.and_true, Bool.true_and, Bool.and_false, Bool.false_and, Bool.or_true, Bool.true_or, Bool.or_false, Bool.false_or, v1]
            exact RC.f0 v2 v3 v4
          | inr s =>
            rw [ev] at v vo
            obtain ⟨S4, v1, v2, v3⟩ := v.r
            have vo' : Oc T true (b + 2, st.2.1, st.2.2 ++ wo w) s := vo
            have p1 : b + 2 < s.1 := vo'.1
            have hg4 := vo'.gd hg3
            have z1 := hg4.1
            simp (disch := omega) only [s64_97, s64_98, s64_99, s64_102, s64_107, s64_109, s64_122, s64_125, q_0, q_1, q_2, q_3, q_4, q_5, q_6, q_7, q_8, q_9, q_10, q_11, q_12, q_13, q_14, q_16, q_20, q_23, q_24, q_32, q_42, q_43, q_45, q_47, q_48, q_50, q_57, q_59, q_60, q_61, q_62, q_63, q_64, q_66, q_91, q_93, q_97, q_99, q_122, q_144, q_255, q_256, q_300, q_380, q_400, q_620, q_999, q_1000, q_4095, q_4096, q_9999, q_65536, q_99999, q_31, nI_add, pk_mul, nE, nL, nT, nM31, nShl, ib_nI, nI_clamp, bI_n0, bI_n1, bI_nar, uI_r, uI_l, uL_r, uL_i, uL_p, uA_r, uA_l, bV_some, bU_some, nar_n0, nar_n1, and_self, and_true, true_and, and_false, false_and, if_true, if_false, eq_self, Bool.false_eq_true, Bool.true_eq_false, not_true_eq_false, not_false_eq_true, ↓reduceIte, nlT, nlF, ntT, ntF, neT, neF, ieT, ieF, decide_true, decide_false, Bool.not_true, Bool.not_false, Bool.and_true, Bool.true_and, Bool.and_false, Bool.false_and, Bool.or_true, Bool.true_or, Bool.or_false, Bool.false_or, v1]
            refine RC.pre ?_ v2
            have hI2 : tsI T p (true, s) := Or.inr ⟨rfl, _, (b + 2, st.2.1, st.2.2 ++ wo w), tsI_w hI, by show st.1 < b + 2; omega, rfl, vo'⟩
            exact ih (x := (true, s)) _ _ (by show 400 - s.1 < n; omega) v3 hI2 (by show i + 1 ≤ s.1; omega)
        | false =>
          rw [te ca co]
          rw [if_neg (by rw [co]; decide), oK_n] at e2
          rw [s64_14]
          simp (disch := omega) only [s64_15, s64_18, s64_21, s64_22, s64_25, s64_26, s64_27, s64_29, s64_32, s64_34, s64_36, s64_39, q_0, q_1, q_2, q_3, q_4, q_5, q_6, q_7, q_8, q_9, q_10, q_11, q_12, q_13, q_14, q_16, q_20, q_23, q_24, q_32, q_42, q_43, q_45, q_47, q_48, q_50, q_57, q_59, q_60, q_61, q_62, q_63, q_64, q_66, q_91, q_93, q_97, q_99, q_122, q_144, q_255, q_256, q_300, q_380, q_400, q_620, q_999, q_1000, q_4095, q_4096, q_9999, q_65536, q_99999, q_31, nI_add, pk_mul, nE, nL, nT, nM31, nShl, ib_nI, nI_clamp, bI_n0, bI_n1, bI_nar, uI_r, uI_l, uL_r, uL_i, uL_p, uA_r, uA_l, bV_some, bU_some, nar_n0, nar_n1, and_self, and_true, true_and, and_false, false_and, if_true, if_false, eq_self, Bool.false_eq_true, Bool.true_eq_false, not_true_eq_false, not_false_eq_true, ↓reduceIte, nlT, nlF, ntT, ntF, neT, neF, ieT, ieF, decide_true, decide_false, Bool.not_true, Bool.not_false, Bool.and_true, Bool.true_and, Bool.and_false, Bool.false_and, Bool.or_true, Bool.true_or, Bool.or_false, Bool.false_or, e1, e2, m1_ge]
          exact x_testE hC2 w (show st.2.2.length < 400 by omega) _ _ _ _ _
    · have e0 : sc T blP st.1 = st.1 := sc_mx T blP (by omega)
      have nw : ∀ v, wEq T (sc T blP st.1) v = false := by
        intro v
        cases q : wEq T (sc T blP st.1) v with
        | false => rfl
        | true =>
          have := (wEq_e q).2.2
          omega
      have te : tsL T F (w, st) = Sum.inr (sc T blP st.1, st.2.1, st.2.2 ++ wo w) := tsL_e (x := (w, st)) (nw _) (nw _)
      rw [te, e0, s64_14]
      simp (disch := omega) only [s64_15, s64_18, q_0, q_1, q_2, q_3, q_4, q_5, q_6, q_7, q_8, q_9, q_10, q_11, q_12, q_13, q_14, q_16, q_20, q_23, q_24, q_32, q_42, q_43, q_45, q_47, q_48, q_50, q_57, q_59, q_60, q_61, q_62, q_63, q_64, q_66, q_91, q_93, q_97, q_99, q_122, q_144, q_255, q_256, q_300, q_380, q_400, q_620, q_999, q_1000, q_4095, q_4096, q_9999, q_65536, q_99999, q_31, nI_add, pk_mul, nE, nL, nT, nM31, nShl, ib_nI, nI_clamp, bI_n0, bI_n1, bI_nar, uI_r, uI_l, uL_r, uL_i, uL_p, uA_r, uA_l, bV_some, bU_some, nar_n0, nar_n1, and_self, and_true, true_and, and_false, false_and, if_true, if_false, eq_self, Bool.false_eq_true, Bool.true_eq_false, not_true_eq_false, not_false_eq_true, ↓reduceIte, nlT, nlF, ntT, ntF, neT, neF, ieT, ieF, decide_true, decide_false, Bool.not_true, Bool.not_false, Bool.and_true, Bool.true_and, Bool.and_false, Bool.false_and, Bool.or_true, Bool.true_or, Bool.or_false, Bool.false_or]
      exact x_testE hC0 w (show st.2.2.length < 400 by omega) _ _ _ _ _
theorem x_test {T : Tp} {r j d : Nat} {F : Ps → Sum Nat Ps} (hK : TpK T) (hd : d < 100) (hFO : FOK T F) (hFS : FS T r j d F) {S : Sto} {st : Ps} (h : CP T r S st) (hg : Gd T st) : RC T r S (call 64 (j + 1) [vR 24 0, vI (nI d)] S) (pTst T F st) := by
  show RC T r S (run 64 (j + 1) 0 [vR 24 0, vI (nI d), vU, vU, vU, vU] [] S) _
  have v := hFS S st h hg
  have vo := hFO st hg.1
  unfold pTst
  cases ev : F st with
  | inl f =>
    rw [ev] at v
    obtain ⟨S4, v1, v2, v3, v4⟩ := v.l
    simp (disch := omega) only [s64_0, s64_1, s64_2, s64_5, s64_8, s64_9, q_0, q_1, q_2, q_3, q_4, q_5, q_6, q_7, q_8, q_9, q_10, q_11, q_12, q_13, q_14, q_16, q_20, q_23, q_24, q_32, q_42, q_43, q_45, q_47, q_48, q_50, q_57, q_59, q_60, q_61, q_62, q_63, q_64, q_66, q_91, q_93, q_97, q_99, q_122, q_144, q_255, q_256, q_300, q_380, q_400, q_620, q_999, q_1000, q_4095, q_4096, q_9999, q_65536, q_99999, q_31, nI_add, pk_mul, nE, nL, nT, nM31, nShl, ib_nI, nI_clamp, bI_n0, bI_n1, bI_nar, uI_r, uI_l, uL_r, uL_i, uL_p, uA_r, uA_l, bV_some, bU_some, nar_n0, nar_n1, and_self, and_true, true_and, and_false, false_and, if_true, if_false, eq_self, Bool.false_eq_true, Bool.true_eq_false, not_true_eq_false, not_false_eq_true, ↓reduceIte, nlT, nlF, ntT, ntF, neT, neF, ieT, ieF, decide_true, decide_false, Bool.not_true, Bool.not_false, Bool.and_true, Bool.true_and, Bool.and_false, Bool.false_and, Bool.or_true, Bool.true_or, Bool.or_false, Bool.false_or, v1]
    exact RC.f0 v2 v3 v4
  | inr s =>
    rw [ev] at v vo
    obtain ⟨S4, v1, v2, v3⟩ := v.r
    have vo' : Oc T true st s := vo
    simp (disch := omega) only [s64_0, s64_1, s64_2, s64_5, s64_10, s64_11, s64_12, s64_13, q_0, q_1, q_2, q_3, q_4, q_5, q_6, q_7, q_8, q_9, q_10, q_11, q_12, q_13, q_14, q_16, q_20, q_23, q_24, q_32, q_42, q_43, q_45, q_47, q_48, q_50, q_57, q_59, q_60, q_61, q_62, q_63, q_64, q_66, q_91, q_93, q_97, q_99, q_122, q_144, q_255, q_256, q_300, q_380, q_400, q_620, q_999, q_1000, q_4095, q_4096, q_9999, q_65536, q_99999, q_31, nI_add, pk_mul, nE, nL, nT, nM31, nShl, ib_nI, nI_clamp, bI_n0, bI_n1, bI_nar, uI_r, uI_l, uL_r, uL_i, uL_p, uA_r, uA_l, bV_some, bU_some, nar_n0, nar_n1, and_self, and_true, true_and, and_false, false_and, if_true, if_false, eq_self, Bool.false_eq_true, Bool.true_eq_false, not_true_eq_false, not_false_eq_true, ↓reduceIte, nlT, nlF, ntT, ntF, neT, neF, ieT, ieF, decide_true, decide_false, Bool.not_true, Bool.not_false, Bool.and_true, Bool.true_and, Bool.and_false, Bool.false_and, Bool.or_true, Bool.true_or, Bool.or_false, Bool.false_or, v1]
    refine RC.pre ?_ v2
    exact x_testL hK hd hFO hFS hg 401 (x := (false, s)) (i := 0) vU vU (by show 400 - s.1 < 401; omega) v3 (Or.inl ⟨rfl, vo'⟩) (Nat.zero_le _)
theorem x_deepN {T : Tp} {r j d : Nat} {F : Ps → Sum Nat Ps} (hd : d < 10) (hK : TpK T) (hFO : FOK T F) (hFS : FS T r j (d + 1) F) {S : Sto} {st : Ps} {q : Nat} (h : CP T r S st) (hg : Gd T st) (hb : S.1 24 0 3 = nI q) (hq : q ≤ T.1) (hq1 : st.1 ≤ q) : RC T r S (call 66 (j + 1) [vR 24 0, vI (nI d), vI (nI 1)] S) (bnd (F (q, st.2)) (fun s => Sum.inr (put s 9))) := by
  have hK1 := hK.1
  show RC T r S (run 66 (j + 1) 0 [vR 24 0, vI (nI d), vI (nI 1)] [] S) _
  have hC : CP T r (uI S 24 0 2 (nI q)) (q, st.2) := h.at' q
  have hg2 : Gd T (q, st.2) := hg.up hq1 hq rfl
  have v := hFS _ _ hC hg2
  have vo := hFO (q, st.2) hq
  have hF : CF r S (uI S 24 0 2 (nI q)) := CF.rf.u (Or.inl ⟨rfl, by decide⟩)
  cases ev : F (q, st.2) with
  | inl f =>
    rw [ev] at v
    obtain ⟨S4, v1, v2, v3, v4⟩ := v.l
    simp (disch := omega) only [s66_0, s66_1, s66_3, s66_12, s66_13, s66_16, s66_17, s66_18, s66_21, s66_24, s66_25, s66_26, s66_27, s66_28, s66_31, s66_34, s66_35, q_0, q_1, q_2, q_3, q_4, q_5, q_6, q_7, q_8, q_9, q_10, q_11, q_12, q_13, q_14, q_16, q_20, q_23, q_24, q_32, q_42, q_43, q_45, q_47, q_48, q_50, q_57, q_59, q_60, q_61, q_62, q_63, q_64, q_66, q_91, q_93, q_97, q_99, q_122, q_144, q_255, q_256, q_300, q_380, q_400, q_620, q_999, q_1000, q_4095, q_4096, q_9999, q_65536, q_99999, q_31, nI_add, pk_mul, nE, nL, nT, nM31, nShl, ib_nI, nI_clamp, bI_n0, bI_n1, bI_nar, uI_r, uI_l, uL_r, uL_i, uL_p, uA_r, uA_l, bV_some, bU_some, nar_n0, nar_n1, and_self, and_true, true_and, and_false, false_and, if_true, if_false, eq_self, Bool.false_eq_true, Bool.true_eq_false, not_true_eq_false, not_false_eq_true, ↓reduceIte, nlT, nlF, ntT, ntF, neT, neF, ieT, ieF, decide_true, decide_false, Bool.not_true, Bool.not_false, Bool.and_true, Bool.true_and, Bool.and_false, Bool.false_and, Bool.or_true, Bool.true_or, Bool.or_false, Bool.false_or, hb, v1]
    exact RC.f0 (hF.tr v2) v3 v4
  | inr s =>
    rw [ev] at v vo
    obtain ⟨S4, v1, v2, v3⟩ := v.r
    have hg4 := (show Oc T true (q, st.2) s from vo).gd hg2
    have z1 := hg4.1
    have z2 := hg4.2.1
    have z3 := hg4.2.2
    obtain ⟨S5, m1, m2, m3⟩ := v3.em 9 0 (by omega)
    have m1' : call 12 0 [vR 17 r, vI (-202)] S4 = some (none, S5) := m1
    simp (disch := omega) only [s66_0, s66_1, s66_3, s66_12, s66_13, s66_16, s66_17, s66_18, s66_21, s66_24, s66_25, s66_26, s66_27, s66_28, s66_31, s66_36, q_0, q_1, q_2, q_3, q_4, q_5, q_6, q_7, q_8, q_9, q_10, q_11, q_12, q_13, q_14, q_16, q_20, q_23, q_24, q_32, q_42, q_43, q_45, q_47, q_48, q_50, q_57, q_59, q_60, q_61, q_62, q_63, q_64, q_66, q_91, q_93, q_97, q_99, q_122, q_144, q_255, q_256, q_300, q_380, q_400, q_620, q_999, q_1000, q_4095, q_4096, q_9999, q_65536, q_99999, q_31, nI_add, pk_mul, nE, nL, nT, nM31, nShl, ib_nI, nI_clamp, bI_n0, bI_n1, bI_nar, uI_r, uI_l, uL_r, uL_i, uL_p, uA_r, uA_l, bV_some, bU_some, nar_n0, nar_n1, and_self, and_true, true_and, and_false, false_and, if_true, if_false, eq_self, Bool.false_eq_true, Bool.true_eq_false, not_true_eq_false, not_false_eq_true, ↓reduceIte, nlT, nlF, ntT, ntF, neT, neF, ieT, ieF, decide_true, decide_false, Bool.not_true, Bool.not_false, Bool.and_true, Bool.true_and, Bool.and_false, Bool.false_and, Bool.or_true, Bool.true_or, Bool.or_false, Bool.false_or, hb, v1]
    rw [s66_37 (w := r) (hw := v3.2.2.2.2.1)]
    simp (disch := omega) only [s66_40, s66_43, s66_46, s66_47, m1', q_0, q_1, q_2, q_3, q_4, q_5, q_6, q_7, q_8, q_9, q_10, q_11, q_12, q_13, q_14, q_16, q_20, q_23, q_24, q_32, q_42, q_43, q_45, q_47, q_48, q_50, q_57, q_59, q_60, q_61, q_62, q_63, q_64, q_66, q_91, q_93, q_97, q_99, q_122, q_144, q_255, q_256, q_300, q_380, q_400, q_620, q_999, q_1000, q_4095, q_4096, q_9999, q_65536, q_99999, q_31, nI_add, pk_mul, nE, nL, nT, nM31, nShl, ib_nI, nI_clamp, bI_n0, bI_n1, bI_nar, uI_r, uI_l, uL_r, uL_i, uL_p, uA_r, uA_l, bV_some, bU_some, nar_n0, nar_n1, and_self, and_true, true_and, and_false, false_and, if_true, if_false, eq_self, Bool.false_eq_true, Bool.true_eq_false, not_true_eq_false, not_false_eq_true, ↓reduceIte, nlT, nlF, ntT, ntF, neT, neF, ieT, ieF, decide_true, decide_false, Bool.not_true, Bool.not_false, Bool.and_true, Bool.true_and, Bool.and_false, Bool.false_and, Bool.or_true, Bool.true_or, Bool.or_false, Bool.false_or]
    exact RC.ok m3 ((hF.tr v2).tr m2)
theorem x_deepB {T : Tp} {r j d : Nat} {F : Ps → Sum Nat Ps} (hd : d < 10) (hK : TpK T) (hFO : FOK T F) (hFS : FS T r j (d + 1) F) {S : Sto} {st : Ps} (h : CP T r S st) (hg : Gd T st) (hq : st.1 < T.1) : RC T r S (call 66 (j + 2) [vR 24 0, vI (nI d), vI (nI 0)] S) (bnd (pTst T F (st.1 + 1, st.2)) (pBr T)) := by
  have hK1 := hK.1
  show RC T r S (run 66 (j + 1 + 1) 0 [vR 24 0, vI (nI d), vI (nI 0)] [] S) _
  have ra : S.1 24 0 2 = nI st.1 := h.2.1
  have hC : CP T r (uI S 24 0 2 (nI (st.1 + 1))) (st.1 + 1, st.2) := h.at' (st.1 + 1)
  have hg2 : Gd T (st.1 + 1, st.2) := hg.up (Nat.le_succ _) hq rfl
  have v := x_test hK (by omega) hFO hFS hC hg2
  have vo := pTst_oc (T := T) hK hFO (st := (st.1 + 1, st.2)) hq
  have hF : CF r S (uI S 24 0 2 (nI (st.1 + 1))) := CF.rf.u (Or.inl ⟨rfl, by decide⟩)
  cases ev : pTst T F (st.1 + 1, st.2) with
  | inl f =>
    rw [ev] at v
    obtain ⟨S4, v1, v2, v3, v4⟩ := v.l
    simp (disch := omega) only [s66_0, s66_1, s66_3, s66_12, s66_13, s66_48, s66_49, s66_50, s66_53, s66_54, s66_55, s66_58, s66_59, s66_60, s66_61, s66_62, s66_65, s66_68, s66_69, q_0, q_1, q_2, q_3, q_4, q_5, q_6, q_7, q_8, q_9, q_10, q_11, q_12, q_13, q_14, q_16, q_20, q_23, q_24, q_32, q_42, q_43, q_45, q_47, q_48, q_50, q_57, q_59, q_60, q_61, q_62, q_63, q_64, q_66, q_91, q_93, q_97, q_99, q_122, q_144, q_255, q_256, q_300, q_380, q_400, q_620, q_999, q_1000, q_4095, q_4096, q_9999, q_65536, q_99999, q_31, nI_add, pk_mul, nE, nL, nT, nM31, nShl, ib_nI, nI_clamp, bI_n0, bI_n1, bI_nar, uI_r, uI_l, uL_r, uL_i, uL_p, uA_r, uA_l, bV_some, bU_some, nar_n0, nar_n1, and_self, and_true, true_and, and_false, false_and, if_true, if_false, eq_self, Bool.false_eq_true, Bool.true_eq_false, not_true_eq_false, not_false_eq_true, ↓reduceIte, nlT, nlF, ntT, ntF, neT, neF, ieT, ieF, decide_true, decide_false, Bool.not_true, Bool.not_false, Bool.and_true, Bool.true_and, Bool.and_false, Bool.false_and, Bool.or_true, Bool.true_or, Bool.or_false, Bool.false_or, ra, v1]
    exact RC.f0 (hF.tr v2) v3 v4
  | inr s =>
    rw [ev] at v vo
    obtain ⟨S4, v1, v2, v3⟩ := v.r
    have vo' : Oc T true (st.1 + 1, st.2) s := vo.1
    have z1 := vo'.2.1
    have e0 := vo.2 s rfl
    have e1 := x_next hK s.1 v3.1 v3.2.1 (by omega)
    rw [e0] at e1
    have hC5 : CP T r (uI S4 24 0 2 (nI s.1)) s := v3.at' s.1
    have hF5 : CF r S (uI S4 24 0 2 (nI s.1)) := (hF.tr v2).u (Or.inl ⟨rfl, by decide⟩)
    have ra5 : (uI S4 24 0 2 (nI s.1)).1 24 0 2 = nI s.1 := hC5.2.1
    generalize uI S4 24 0 2 (nI s.1) = S5 at e1 hC5 hF5 ra5
    have ec := chI_eq (T := T) (p := s.1) (k := 93) hK (by decide)
    rw [bnd_r]
    unfold pBr
    by_cases c : s.1 < T.1 ∧ T.2 s.1 = 93
    · rw [if_pos c]
      have ec' : (chI T s.1 = nI 93) = True := by rw [ec]; exact eq_true c
      simp (disch := omega) only [s66_0, s66_1, s66_3, s66_12, s66_13, s66_48, s66_49, s66_50, s66_53, s66_54, s66_55, s66_58, s66_59, s66_60, s66_61, s66_62, s66_65, s66_70, s66_71, s66_74, s66_76, s66_85, s66_86, s66_87, s66_90, s66_91, s66_92, s66_95, s66_96, q_0, q_1, q_2, q_3, q_4, q_5, q_6, q_7, q_8, q_9, q_10, q_11, q_12, q_13, q_14, q_16, q_20, q_23, q_24, q_32, q_42, q_43, q_45, q_47, q_48, q_50, q_57, q_59, q_60, q_61, q_62, q_63, q_64, q_66, q_91, q_93, q_97, q_99, q_122, q_144, q_255, q_256, q_300, q_380, q_400, q_620, q_999, q_1000, q_4095, q_4096, q_9999, q_65536, q_99999, q_31, nI_add, pk_mul, nE, nL, nT, nM31, nShl, ib_nI, nI_clamp, bI_n0, bI_n1, bI_nar, uI_r, uI_l, uL_r, uL_i, uL_p, uA_r, uA_l, bV_some, bU_some, nar_n0, nar_n1, and_self, and_true, true_and, and_false, false_and, if_true, if_false, eq_self, Bool.false_eq_true, Bool.true_eq_false, not_true_eq_false, not_false_eq_true, ↓reduceIte, nlT, nlF, ntT, ntF, neT, neF, ieT, ieF, decide_true, decide_false, Bool.not_true, Bool.not_false, Bool.and_true, Bool.true_and, Bool.and_false, Bool.false_and, Bool.or_true, Bool.true_or, Bool.or_false, Bool.false_or, ra, v1, e1, ec', ra5]
      exact RC.ok (hC5.at' (s.1 + 1)) (hF5.u (Or.inl ⟨rfl, by decide⟩))
    · rw [if_neg c]
      have ec' : (chI T s.1 = nI 93) = False := by rw [ec]; exact eq_false c
      have ef := x_fail (S := S5) (s := 0) ra5
      simp (disch := omega) only [s66_0, s66_1, s66_3, s66_12, s66_13, s66_48, s66_49, s66_50, s66_53, s66_54, s66_55, s66_58, s66_59, s66_60, s66_61, s66_62, s66_65, s66_70, s66_71, s66_74, s66_76, s66_79, s66_80, s66_81, s66_84, q_0, q_1, q_2, q_3, q_4, q_5, q_6, q_7, q_8, q_9, q_10, q_11, q_12, q_13, q_14, q_16, q_20, q_23, q_24, q_32, q_42, q_43, q_45, q_47, q_48, q_50, q_57, q_59, q_60, q_61, q_62, q_63, q_64, q_66, q_91, q_93, q_97, q_99, q_122, q_144, q_255, q_256, q_300, q_380, q_400, q_620, q_999, q_1000, q_4095, q_4096, q_9999, q_65536, q_99999, q_31, nI_add, pk_mul, nE, nL, nT, nM31, nShl, ib_nI, nI_clamp, bI_n0, bI_n1, bI_nar, uI_r, uI_l, uL_r, uL_i, uL_p, uA_r, uA_l, bV_some, bU_some, nar_n0, nar_n1, and_self, and_true, true_and, and_false, false_and, if_true, if_false, eq_self, Bool.false_eq_true, Bool.true_eq_false, not_true_eq_false, not_false_eq_true, ↓reduceIte, nlT, nlF, ntT, ntF, neT, neF, ieT, ieF, decide_true, decide_false, Bool.not_true, Bool.not_false, Bool.and_true, Bool.true_and, Bool.and_false, Bool.false_and, Bool.or_true, Bool.true_or, Bool.or_false, Bool.false_or, ra, v1, e1, ec', ef]
      exact RC.fl hC5.1 hF5
theorem x_back {T : Tp} {r j : Nat} {S : Sto} {a1 a2 a3 a4 : av} {x0 x1 : Int32} {res : Sum Nat Ps} (h : RC T r S (call 66 j [vR 24 0, vI x1, vI x0] S) res) : RC T r S (bV (call 66 j [vR 24 0, vI x1, vI x0] S) (fun v S' => run 65 (j + 1) 36 [vR 24 0, a1, a2, a3, a4] (v :: []) S')) res := by
  obtain ⟨b, S', h1, h2, h3⟩ := h
  refine ⟨b, S', ?_, h2, h3⟩
  rw [h1]
  simp (disch := omega) only [s65_36, q_0, q_1, q_2, q_3, q_4, q_5, q_6, q_7, q_8, q_9, q_10, q_11, q_12, q_13, q_14, q_16, q_20, q_23, q_24, q_32, q_42, q_43, q_45, q_47, q_48, q_50, q_57, q_59, q_60, q_61, q_62, q_63, q_64, q_66, q_91, q_93, q_97, q_99, q_122, q_144, q_255, q_256, q_300, q_380, q_400, q_620, q_999, q_1000, q_4095, q_4096, q_9999, q_65536, q_99999, q_31, nI_add, pk_mul, nE, nL, nT, nM31, nShl, ib_nI, nI_clamp, bI_n0, bI_n1, bI_nar, uI_r, uI_l, uL_r, uL_i, uL_p, uA_r, uA_l, bV_some, bU_some, nar_n0, nar_n1, and_self, and_true, true_and, and_false, false_and, if_true, if_false, eq_self, Bool.false_eq_true, Bool.true_eq_false, not_true_eq_false, not_false_eq_true, ↓reduceIte, nlT, nlF, ntT, ntF, neT, neF, ieT, ieF, decide_true, decide_false, Bool.not_true, Bool.not_false, Bool.and_true, Bool.true_and, Bool.and_false, Bool.false_and, Bool.or_true, Bool.true_or, Bool.or_false, Bool.false_or]
theorem x_fact {T : Tp} {r : Nat} (hK : TpK T) : ∀ k j, k ≤ 10 → 3 * k + 1 ≤ j → FS T r j (10 - k) (pFact T k) := by
  intro k
  have hK1 := hK.1
  induction k with
  | zero =>
    intro j _ hj S st h hg
    obtain ⟨m, rfl⟩ : ∃ m, j = m + 1 := ⟨j - 1, by omega⟩
    obtain ⟨S2, f1, f2, f3, f4⟩ := x_factH hK h hg (m + 1) (nI (10 - 0))
    show RC T r S (run 65 (m + 1) 0 [vR 24 0, vI (nI (10 - 0)), vU, vU, vU] [] S) _
    rw [f4, pFact_0]
    have h6 := sc_le T blP st.1 hg.1
    have h5 := sc_ge T blP st.1
    have hg2 : Gd T (sc T blP st.1, st.2) := hg.up h5 h6 rfl
    refine RC.pre ?_ f1
    by_cases c : wEq T (sc T blP st.1) wNot = true
    · rw [if_pos c, if_pos (Or.inl c)]
      have := x_deep0 f2 m (nI 1)
      simp (disch := omega) only [s65_30, s65_31, s65_32, s65_33]
      exact x_back this
    · rw [if_neg c]
      by_cases c2 : sc T blP st.1 < T.1 ∧ T.2 (sc T blP st.1) = 91
      · rw [if_pos c2, if_pos (Or.inr c2)]
        have := x_deep0 f2 m (nI 0)
        simp (disch := omega) only [s65_30, s65_31, s65_32, s65_33]
        exact x_back this
      · rw [if_neg c2, if_neg (fun q => q.elim c c2)]
        exact x_cmp hK f2 hg2 (m + 1) _ _ _ _
  | succ k ih =>
    intro j hk hj S st h hg
    obtain ⟨m, rfl⟩ : ∃ m, j = m + 1 + 1 + 1 := ⟨j - 3, by omega⟩
    have ed : 10 - (k + 1) + 1 = 10 - k := by omega
    obtain ⟨S2, f1, f2, f3, f4⟩ := x_factH hK h hg (m + 1 + 1 + 1) (nI (10 - (k + 1)))
    show RC T r S (run 65 (m + 1 + 1 + 1) 0 [vR 24 0, vI (nI (10 - (k + 1))), vU, vU, vU] [] S) _
    rw [f4, pFact_s]
    have h6 := sc_le T blP st.1 hg.1
    have h5 := sc_ge T blP st.1
    have hg2 : Gd T (sc T blP st.1, st.2) := hg.up h5 h6 rfl
    refine RC.pre ?_ f1
    by_cases c : wEq T (sc T blP st.1) wNot = true
    · rw [if_pos c, if_pos c]
      have hl3 : sc T ltP (sc T blP st.1) = sc T blP st.1 + 3 := (wEq_e c).1
      rw [hl3] at f3
      have hb4 : sc T blP st.1 + 3 ≤ T.1 := wEq_l c
      have i1 := ih (m + 1) (by omega) (by omega)
      rw [← ed] at i1
      have := x_deepN (by omega) hK (pFact_oc hK k) i1 f2 hg2 f3 hb4 (by show sc T blP st.1 ≤ sc T blP st.1 + 3; omega)
      simp (disch := omega) only [s65_30, s65_31, s65_32, s65_33]
      exact x_back this
    · rw [if_neg c, if_neg c]
      by_cases c2 : sc T blP st.1 < T.1 ∧ T.2 (sc T blP st.1) = 91
      · rw [if_pos c2, if_pos c2]
        have i1 := ih m (by omega) (by omega)
        rw [← ed] at i1
        have := x_deepB (by omega) hK (pFact_oc hK k) i1 f2 hg2 c2.1
        simp (disch := omega) only [s65_30, s65_31, s65_32, s65_33]
        exact x_back this
      · rw [if_neg c2, if_neg c2]
        exact x_cmp hK f2 hg2 _ _ _ _ _
