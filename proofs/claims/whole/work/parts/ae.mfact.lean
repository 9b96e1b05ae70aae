/-! the reference reads a FACT -/
theorem m_hd0 {S : Sto} {x y : av} (hf : S.1 50 0 19 = nI 0) : hdR 0 x y S = bU (call 188 0 [vR 50 0, vI (nI 9)] S) (fun S' => run 184 0 46 [vR 50 0, vI (nI 0), vI (nI 1), x, y] [] S') := by
  show run 184 0 9 [vR 50 0, vI (nI 0), vI (nI 1), x, y] [] S = _
  rw [s184_9]
  simp (disch := omega) only [s184_10, s184_13, s184_14, s184_17, s184_20, s184_21, s184_40, s184_41, s184_43, q_0, q_1, q_2, q_3, q_4, q_5, q_6, q_7, q_8, q_9, q_10, q_11, q_12, q_13, q_14, q_16, q_20, q_23, q_24, q_32, q_42, q_43, q_45, q_47, q_48, q_50, q_57, q_59, q_60, q_61, q_62, q_63, q_64, q_66, q_91, q_93, q_97, q_99, q_122, q_144, q_255, q_256, q_300, q_380, q_400, q_620, q_999, q_1000, q_4095, q_4096, q_9999, q_65536, q_99999, q_31, nI_add, pk_mul, nE, nL, nT, nM31, nShl, ib_nI, nI_clamp, bI_n0, bI_n1, bI_nar, uI_r, uI_l, uL_r, uL_i, uL_p, uA_r, uA_l, bV_some, bU_some, nar_n0, nar_n1, and_self, and_true, true_and, and_false, false_and, if_true, if_false, eq_self, Bool.false_eq_true, Bool.true_eq_false, not_true_eq_false, not_false_eq_true, ↓reduceIte, nlT, nlF, ntT, ntF, neT, neF, ieT, ieF, decide_true, decide_false, Bool.not_true, Bool.not_false, Bool.and_true, Bool.true_and, Bool.and_false, Bool.false_and, Bool.or_true, Bool.true_or, Bool.or_false, Bool.false_or, hf]
theorem m_fN {S S1 S2 : Sto} {b : Nat} {x y : av} (hf : S.1 50 0 19 = nI 0) (b1 : call 170 0 [vR 50 0] S = some (none, S1)) (es : call 173 0 [vR 50 0, vR 100 3] S1 = some (some (vI (bI true)), S1)) (d1 : call 186 0 [vR 50 0, vI (nI 9)] S1 = some (none, S2)) (hp : S2.1 50 0 18 = nI b) : hdR 1 x y S = hdR 1 x y (uI S2 50 0 18 (nI (b + 3))) := by
  have e1 : call 185 0 [vR 50 0] S = some (some (vI (nI 0)), uI S2 50 0 18 (nI (b + 3))) := by
    show run 185 0 0 [vR 50 0] [] S = _
    simp (disch := omega) only [s185_0, s185_1, s185_4, s185_5, s185_8, s185_11, s185_14, s185_15, s185_17, s185_20, s185_21, s185_22, s185_25, s185_26, s185_27, s185_30, s185_31, s185_32, s185_33, s185_36, s185_38, s185_41, s185_42, s185_44, s185_47, s185_48, s185_49, s185_52, s185_53, s185_54, s185_57, s185_58, s185_59, s185_60, s185_63, s185_64, q_0, q_1, q_2, q_3, q_4, q_5, q_6, q_7, q_8, q_9, q_10, q_11, q_12, q_13, q_14, q_16, q_20, q_23, q_24, q_32, q_42, q_43, q_45, q_47, q_48, q_50, q_57, q_59, q_60, q_61, q_62, q_63, q_64, q_66, q_91, q_93, q_97, q_99, q_122, q_144, q_255, q_256, q_300, q_380, q_400, q_620, q_999, q_1000, q_4095, q_4096, q_9999, q_65536, q_99999, q_31, nI_add, pk_mul, nE, nL, nT, nM31, nShl, ib_nI, nI_clamp, bI_n0, bI_n1, bI_nar, uI_r, uI_l, uL_r, uL_i, uL_p, uA_r, uA_l, bV_some, bU_some, nar_n0, nar_n1, and_self, and_true, true_and, and_false, false_and, if_true, if_false, eq_self, Bool.false_eq_true, Bool.true_eq_false, not_true_eq_false, not_false_eq_true, ↓reduceIte, nlT, nlF, ntT, ntF, neT, neF, ieT, ieF, decide_true, decide_false, Bool.not_true, Bool.not_false, Bool.and_true, Bool.true_and, Bool.and_false, Bool.false_and, Bool.or_true, Bool.true_or, Bool.or_false, Bool.false_or, b1, es, d1, hp]
  show run 184 0 9 [vR 50 0, vI (nI 1), vI (nI 1), x, y] [] S = run 184 0 9 [vR 50 0, vI (nI 1), vI (nI 1), x, y] [] _
  rw [s184_9 (S := S)]
  simp (disch := omega) only [s184_10, s184_13, s184_14, s184_17, s184_20, s184_21, s184_24, s184_25, s184_28, s184_31, s184_32, s184_36, s184_37, q_0, q_1, q_2, q_3, q_4, q_5, q_6, q_7, q_8, q_9, q_10, q_11, q_12, q_13, q_14, q_16, q_20, q_23, q_24, q_32, q_42, q_43, q_45, q_47, q_48, q_50, q_57, q_59, q_60, q_61, q_62, q_63, q_64, q_66, q_91, q_93, q_97, q_99, q_122, q_144, q_255, q_256, q_300, q_380, q_400, q_620, q_999, q_1000, q_4095, q_4096, q_9999, q_65536, q_99999, q_31, nI_add, pk_mul, nE, nL, nT, nM31, nShl, ib_nI, nI_clamp, bI_n0, bI_n1, bI_nar, uI_r, uI_l, uL_r, uL_i, uL_p, uA_r, uA_l, bV_some, bU_some, nar_n0, nar_n1, and_self, and_true, true_and, and_false, false_and, if_true, if_false, eq_self, Bool.false_eq_true, Bool.true_eq_false, not_true_eq_false, not_false_eq_true, ↓reduceIte, nlT, nlF, ntT, ntF, neT, neF, ieT, ieF, decide_true, decide_false, Bool.not_true, Bool.not_false, Bool.and_true, Bool.true_and, Bool.and_false, Bool.false_and, Bool.or_true, Bool.true_or, Bool.or_false, Bool.false_or, hf, e1]
theorem m_fB {S S1 S2 : Sto} {b : Nat} {x y : av} {c : Int32} (hf : S.1 50 0 19 = nI 0) (b1 : call 170 0 [vR 50 0] S = some (none, S1)) (es : call 173 0 [vR 50 0, vR 100 3] S1 = some (some (vI (bI false)), S1)) (eg : call 171 0 [vR 50 0] S1 = some (some (vI c), S1)) (hc : (c = nI 91) = True) (d1 : call 186 0 [vR 50 0, vI (nI 12)] S1 = some (none, S2)) (hp : S2.1 50 0 18 = nI b) : hdR 1 x y S = hdR 1 x y (uI S2 50 0 18 (nI (b + 1))) := by
  have e1 : call 185 0 [vR 50 0] S = some (some (vI (nI 0)), uI S2 50 0 18 (nI (b + 1))) := by
    show run 185 0 0 [vR 50 0] [] S = _
    simp (disch := omega) only [s185_0, s185_1, s185_4, s185_5, s185_8, s185_11, s185_14, s185_15, s185_17, s185_20, s185_21, s185_22, s185_25, s185_26, s185_27, s185_30, s185_31, s185_32, s185_33, s185_36, s185_38, s185_41, s185_42, s185_44, s185_47, s185_48, s185_49, s185_52, s185_53, s185_54, s185_57, s185_58, s185_59, s185_60, s185_63, s185_64, q_0, q_1, q_2, q_3, q_4, q_5, q_6, q_7, q_8, q_9, q_10, q_11, q_12, q_13, q_14, q_16, q_20, q_23, q_24, q_32, q_42, q_43, q_45, q_47, q_48, q_50, q_57, q_59, q_60, q_61, q_62, q_63, q_64, q_66, q_91, q_93, q_97, q_99, q_122, q_144, q_255, q_256, q_300, q_380, q_400, q_620, q_999, q_1000, q_4095, q_4096, q_9999, q_65536, q_99999, q_31, nI_add, pk_mul, nE, nL, nT, nM31, nShl, ib_nI, nI_clamp, bI_n0, bI_n1, bI_nar, uI_r, uI_l, uL_r, uL_i, uL_p, uA_r, uA_l, bV_some, bU_some, nar_n0, nar_n1, and_self, and_true, true_and, and_false, false_and, if_true, if_false, eq_self, Bool.false_eq_true, Bool.true_eq_false, not_true_eq_false, not_false_eq_true, ↓reduceIte, nlT, nlF, ntT, ntF, neT, neF, ieT, ieF, decide_true, decide_false, Bool.not_true, Bool.not_false, Bool.and_true, Bool.true_and, Bool.and_false, Bool.false_and, Bool.or_true, Bool.true_or, Bool.or_false, Bool.false_or, b1, es, eg, hc, d1, hp]
  show run 184 0 9 [vR 50 0, vI (nI 1), vI (nI 1), x, y] [] S = run 184 0 9 [vR 50 0, vI (nI 1), vI (nI 1), x, y] [] _
  rw [s184_9 (S := S)]
  simp (disch := omega) only [s184_10, s184_13, s184_14, s184_17, s184_20, s184_21, s184_24, s184_25, s184_28, s184_31, s184_32, s184_36, s184_37, q_0, q_1, q_2, q_3, q_4, q_5, q_6, q_7, q_8, q_9, q_10, q_11, q_12, q_13, q_14, q_16, q_20, q_23, q_24, q_32, q_42, q_43, q_45, q_47, q_48, q_50, q_57, q_59, q_60, q_61, q_62, q_63, q_64, q_66, q_91, q_93, q_97, q_99, q_122, q_144, q_255, q_256, q_300, q_380, q_400, q_620, q_999, q_1000, q_4095, q_4096, q_9999, q_65536, q_99999, q_31, nI_add, pk_mul, nE, nL, nT, nM31, nShl, ib_nI, nI_clamp, bI_n0, bI_n1, bI_nar, uI_r, uI_l, uL_r, uL_i, uL_p, uA_r, uA_l, bV_some, bU_some, nar_n0, nar_n1, and_self, and_true, true_and, and_false, false_and, if_true, if_false, eq_self, Bool.false_eq_true, Bool.true_eq_false, not_true_eq_false, not_false_eq_true, ↓reduceIte, nlT, nlF, ntT, ntF, neT, neF, ieT, ieF, decide_true, decide_false, Bool.not_true, Bool.not_false, Bool.and_true, Bool.true_and, Bool.and_false, Bool.false_and, Bool.or_true, Bool.true_or, Bool.or_false, Bool.false_or, hf, e1]
theorem m_fC {S S1 S2 : Sto} {x y : av} {c : Int32} (hf : S.1 50 0 19 = nI 0) (b1 : call 170 0 [vR 50 0] S = some (none, S1)) (es : call 173 0 [vR 50 0, vR 100 3] S1 = some (some (vI (bI false)), S1)) (eg : call 171 0 [vR 50 0] S1 = some (some (vI c), S1)) (hc : (c = nI 91) = False) (d1 : call 187 0 [vR 50 0] S1 = some (none, S2)) : hdR 1 x y S = hdR 0 x y S2 := by
  have e1 : call 185 0 [vR 50 0] S = some (some (vI (nI 1)), S2) := by
    show run 185 0 0 [vR 50 0] [] S = _
    simp (disch := omega) only [s185_0, s185_1, s185_4, s185_5, s185_8, s185_11, s185_14, s185_15, s185_17, s185_20, s185_21, s185_22, s185_25, s185_26, s185_27, s185_30, s185_31, s185_32, s185_33, s185_36, s185_38, s185_41, s185_42, s185_44, s185_47, s185_48, s185_49, s185_52, s185_53, s185_54, s185_57, s185_58, s185_59, s185_60, s185_63, s185_64, q_0, q_1, q_2, q_3, q_4, q_5, q_6, q_7, q_8, q_9, q_10, q_11, q_12, q_13, q_14, q_16, q_20, q_23, q_24, q_32, q_42, q_43, q_45, q_47, q_48, q_50, q_57, q_59, q_60, q_61, q_62, q_63, q_64, q_66, q_91, q_93, q_97, q_99, q_122, q_144, q_255, q_256, q_300, q_380, q_400, q_620, q_999, q_1000, q_4095, q_4096, q_9999, q_65536, q_99999, q_31, nI_add, pk_mul, nE, nL, nT, nM31, nShl, ib_nI, nI_clamp, bI_n0, bI_n1, bI_nar, uI_r, uI_l, uL_r, uL_i, uL_p, uA_r, uA_l, bV_some, bU_some, nar_n0, nar_n1, and_self, and_true, true_and, and_false, false_and, if_true, if_false, eq_self, Bool.false_eq_true, Bool.true_eq_false, not_true_eq_false, not_false_eq_true, ↓reduceIte, nlT, nlF, ntT, ntF, neT, neF, ieT, ieF, decide_true, decide_false, Bool.not_true, Bool.not_false, Bool.and_true, Bool.true_and, Bool.and_false, Bool.false_and, Bool.or_true, Bool.true_or, Bool.or_false, Bool.false_or, b1, es, eg, hc, d1]
  show run 184 0 9 [vR 50 0, vI (nI 1), vI (nI 1), x, y] [] S = run 184 0 9 [vR 50 0, vI (nI 0), vI (nI 1), x, y] [] _
  rw [s184_9 (S := S)]
  simp (disch := omega) only [s184_10, s184_13, s184_14, s184_17, s184_20, s184_21, s184_24, s184_25, s184_28, s184_35, s184_36, s184_37, q_0, q_1, q_2, q_3, q_4, q_5, q_6, q_7, q_8, q_9, q_10, q_11, q_12, q_13, q_14, q_16, q_20, q_23, q_24, q_32, q_42, q_43, q_45, q_47, q_48, q_50, q_57, q_59, q_60, q_61, q_62, q_63, q_64, q_66, q_91, q_93, q_97, q_99, q_122, q_144, q_255, q_256, q_300, q_380, q_400, q_620, q_999, q_1000, q_4095, q_4096, q_9999, q_65536, q_99999, q_31, nI_add, pk_mul, nE, nL, nT, nM31, nShl, ib_nI, nI_clamp, bI_n0, bI_n1, bI_nar, uI_r, uI_l, uL_r, uL_i, uL_p, uA_r, uA_l, bV_some, bU_some, nar_n0, nar_n1, and_self, and_true, true_and, and_false, false_and, if_true, if_false, eq_self, Bool.false_eq_true, Bool.true_eq_false, not_true_eq_false, not_false_eq_true, ↓reduceIte, nlT, nlF, ntT, ntF, neT, neF, ieT, ieF, decide_true, decide_false, Bool.not_true, Bool.not_false, Bool.and_true, Bool.true_and, Bool.and_false, Bool.false_and, Bool.or_true, Bool.true_or, Bool.or_false, Bool.false_or, hf, e1]
theorem m_fCmp {T : Tp} {sl : Nat} {S S1 : Sto} {x y : av} {b : Nat} {st : Ps} {stk : List Nat} {c : Int32} (hK : TpK T) (hs : sl < 6) (hf : S.1 50 0 19 = nI 0) (b1 : call 170 0 [vR 50 0] S = some (none, S1)) (es : call 173 0 [vR 50 0, vR 100 3] S1 = some (some (vI (bI false)), S1)) (eg : call 171 0 [vR 50 0] S1 = some (some (vI c), S1)) (hc : (c = nI 91) = False) (h : MP T sl S1 0 (b, st.2)) (hg : Gd T (b, st.2)) (hk : MK S1 stk) (hl : stk.length ≤ b) : FR T sl S1 (hdR 1 x y S) stk (pCmp T (b, st.2)) := by
  have v := m_cmp hK hs h hg
  have vo := pCmp_oc (T := T) hK (st := (b, st.2)) hg.1
  cases ev : pCmp T (b, st.2) with
  | inl f =>
    rw [ev] at v
    obtain ⟨S2, v1, v2, v3⟩ := v.l
    have w := v3.y hK (by decide)
    refine ⟨S2, ?_, v2.g, w⟩
    rw [m_fC hf b1 es eg hc v1]
    exact m_hdX w x y
  | inr s =>
    rw [ev] at v vo
    obtain ⟨S2, v1, v2, v3⟩ := v.r
    have vo' : Oc T true (b, st.2) s := vo
    have p1 : b < s.1 := vo'.1
    exact ⟨S2, x, y, m_fC hf b1 es eg hc v1, v2.g, v3, hk.mf v2, by omega⟩
theorem m_brY {T : Tp} {sl : Nat} {S : Sto} {s : Ps} {stk : List Nat} (hK : TpK T) (h : MS T sl S s (12 :: stk)) (hp : s.1 < T.1) (h93 : T.2 s.1 = 93) : ∃ S', enR S = hdR 0 (vI (nI 0)) (vI (nI 0)) S' ∧ MG sl S S' ∧ MS T sl S' (s.1 + 1, s.2) stk := by
  have hK1 := hK.1
  obtain ⟨h1, h2, h3⟩ := h
  have h3' : stk.length + 1 ≤ s.1 := h3
  have e1 := m_top h2 (by show stk.length + 1 < 402; omega)
  have e1' : call 189 0 [vR 50 0] S = some (some (vI (nI 12)), S) := e1
  have e2 := h1.sg hK (show s.1 < 10000 by omega)
  have ec : (chI T s.1 = nI 93) = True := by rw [chI_eq hK (by decide)]; exact eq_true ⟨hp, h93⟩
  have hpp : S.1 50 0 18 = nI s.1 := h1.2.1
  have h25 : S.1 50 0 25 = nI (stk.length + 1) := h2.1
  have h23 : S.1 50 0 23 = nI (1 + dpO stk) := h2.2.1
  refine ⟨uI (uI (uI S 50 0 18 (nI (s.1 + 1))) 50 0 25 (nI stk.length)) 50 0 23 (nI (dpO stk)), ?_, ((MG.rf.u (Or.inl (by omega))).u (Or.inl (by omega))).u (Or.inl (by omega)), ((h1.mp (s.1 + 1)).ot (Or.inl (by omega))).ot (Or.inl (by omega)), ⟨?_, ?_, ?_⟩, by show stk.length ≤ s.1 + 1; omega⟩
  · show run 184 0 137 [vR 50 0, vI (nI 0), vI (nI 1), vI (nI 0), vI (nI 0)] [] S = run 184 0 9 [vR 50 0, vI (nI 0), vI (nI 1), vI (nI 0), vI (nI 0)] [] _
    simp (disch := omega) only [s184_137, s184_138, s184_141, s184_143, s184_146, s184_147, s184_150, s184_152, s184_164, s184_165, s184_166, s184_169, s184_170, s184_171, s184_174, s184_175, s184_176, s184_179, s184_180, s184_181, s184_184, s184_185, s184_186, s184_189, s184_190, s184_191, s184_194, s184_199, q_0, q_1, q_2, q_3, q_4, q_5, q_6, q_7, q_8, q_9, q_10, q_11, q_12, q_13, q_14, q_16, q_20, q_23, q_24, q_32, q_42, q_43, q_45, q_47, q_48, q_50, q_57, q_59, q_60, q_61, q_62, q_63, q_64, q_66, q_91, q_93, q_97, q_99, q_122, q_144, q_255, q_256, q_300, q_380, q_400, q_620, q_999, q_1000, q_4095, q_4096, q_9999, q_65536, q_99999, q_31, nI_add, pk_mul, nE, nL, nT, nM31, nShl, ib_nI, nI_clamp, bI_n0, bI_n1, bI_nar, uI_r, uI_l, uL_r, uL_i, uL_p, uA_r, uA_l, bV_some, bU_some, nar_n0, nar_n1, and_self, and_true, true_and, and_false, false_and, if_true, if_false, eq_self, Bool.false_eq_true, Bool.true_eq_false, not_true_eq_false, not_false_eq_true, ↓reduceIte, nlT, nlF, ntT, ntF, neT, neF, ieT, ieF, decide_true, decide_false, Bool.not_true, Bool.not_false, Bool.and_true, Bool.true_and, Bool.and_false, Bool.false_and, Bool.or_true, Bool.true_or, Bool.or_false, Bool.false_or, e1', e2, ec, hpp, h25, h23, nSub, Nat.add_sub_cancel, Nat.add_sub_cancel_left]
  · rw [uI_r, if_neg (by omega), uI_r, if_pos ⟨rfl, rfl, rfl⟩]
  · rw [uI_r, if_pos ⟨rfl, rfl, rfl⟩]
  · refine h2.2.2.2.cg (fun k _ => ?_)
    rw [uI_r, if_neg (by omega), uI_r, if_neg (by omega), uI_r, if_neg (by omega)]
theorem m_brN {T : Tp} {sl : Nat} {S : Sto} {s : Ps} {stk : List Nat} (hK : TpK T) (h : MS T sl S s (12 :: stk)) (hg : Gd T s) (hn : ¬ (s.1 < T.1 ∧ T.2 s.1 = 93)) : TX T sl S (enR S) (flt 0 s.1) := by
  have hK1 := hK.1
  have g1 := hg.1
  have g2 := hg.2.1
  have g3 := hg.2.2
  obtain ⟨h1, h2, h3⟩ := h
  have h3' : stk.length + 1 ≤ s.1 := h3
  have e1 := m_top h2 (by show stk.length + 1 < 402; omega)
  have e1' : call 189 0 [vR 50 0] S = some (some (vI (nI 12)), S) := e1
  have e2 := h1.sg hK (show s.1 < 10000 by omega)
  have ec : (chI T s.1 = nI 93) = False := by rw [chI_eq hK (by decide)]; exact eq_false hn
  obtain ⟨S1, f1, f2, f3⟩ := h1.fl (by decide) 0 s.1
  rw [ff_0] at f3
  have h2' := h2.mf f2
  have hpp0 : S.1 50 0 18 = nI s.1 := h1.2.1
  have hpp : S1.1 50 0 18 = nI s.1 := f3.2.1
  have h25 : S1.1 50 0 25 = nI (stk.length + 1) := h2'.1
  have h23 : S1.1 50 0 23 = nI (1 + dpO stk) := h2'.2.1
  have w : MY T sl (uI (uI (uI S1 50 0 18 (nI (s.1 + 1))) 50 0 25 (nI stk.length)) 50 0 23 (nI (dpO stk))) (flt 0 s.1) := ⟨_, ((f3.mp (s.1 + 1)).ot (Or.inl (by omega))).ot (Or.inl (by omega)), by unfold flt; omega, by unfold flt; omega, by show s.1 + 1 ≤ 410; omega, by show s.2.1 ≤ 100; omega, by show s.2.2.length < 300; omega⟩
  refine ⟨_, ?_, ((f2.g.u (Or.inl (by omega))).u (Or.inl (by omega))).u (Or.inl (by omega)), w⟩
  have e9 := m_hdX (w := 0) w (vI (nI 0)) (vI (nI 0))
  rw [← e9]
  show run 184 0 137 [vR 50 0, vI (nI 0), vI (nI 1), vI (nI 0), vI (nI 0)] [] S = run 184 0 9 [vR 50 0, vI (nI 0), vI (nI 1), vI (nI 0), vI (nI 0)] [] _
  simp (disch := omega) only [s184_137, s184_138, s184_141, s184_143, s184_146, s184_147, s184_150, s184_152, s184_155, s184_156, s184_157, s184_158, s184_161, s184_164, s184_165, s184_166, s184_169, s184_170, s184_171, s184_174, s184_175, s184_176, s184_179, s184_180, s184_181, s184_184, s184_185, s184_186, s184_189, s184_190, s184_191, s184_194, s184_199, q_0, q_1, q_2, q_3, q_4, q_5, q_6, q_7, q_8, q_9, q_10, q_11, q_12, q_13, q_14, q_16, q_20, q_23, q_24, q_32, q_42, q_43, q_45, q_47, q_48, q_50, q_57, q_59, q_60, q_61, q_62, q_63, q_64, q_66, q_91, q_93, q_97, q_99, q_122, q_144, q_255, q_256, q_300, q_380, q_400, q_620, q_999, q_1000, q_4095, q_4096, q_9999, q_65536, q_99999, q_31, nI_add, pk_mul, nE, nL, nT, nM31, nShl, ib_nI, nI_clamp, bI_n0, bI_n1, bI_nar, uI_r, uI_l, uL_r, uL_i, uL_p, uA_r, uA_l, bV_some, bU_some, nar_n0, nar_n1, and_self, and_true, true_and, and_false, false_and, if_true, if_false, eq_self, Bool.false_eq_true, Bool.true_eq_false, not_true_eq_false, not_false_eq_true, ↓reduceIte, nlT, nlF, ntT, ntF, neT, neF, ieT, ieF, decide_true, decide_false, Bool.not_true, Bool.not_false, Bool.and_true, Bool.true_and, Bool.and_false, Bool.false_and, Bool.or_true, Bool.true_or, Bool.or_false, Bool.false_or, e1', e2, ec, hpp0, f1, hpp, h25, h23, nSub, Nat.add_sub_cancel, Nat.add_sub_cancel_left]
theorem m_factS {T : Tp} {sl : Nat} (hK : TpK T) (hs : sl < 6) : ∀ k, k ≤ 10 → FSm T sl (10 - k) (pFact T k) := by
  have hK1 := hK.1
  intro k
  induction k with
  | zero =>
    intro _ S st stk x y h hg hd
    obtain ⟨h1, h2, h3⟩ := h
    have g1 := hg.1
    have g2 := hg.2.1
    have g3 := hg.2.2
    have hd' : dpO stk = 10 := hd
    have hf : S.1 50 0 19 = nI 0 := h1.2.2.2.1
    obtain ⟨S1, b1, b2, b3⟩ := h1.bl hK (by omega)
    have hk1 := h2.mf b2
    have h6 := sc_le T blP st.1 g1
    have h5 := sc_ge T blP st.1
    have hg1 : Gd T (sc T blP st.1, st.2) := hg.up h5 h6 rfl
    rw [pFact_0]
    generalize sc T blP st.1 = b at b3 h6 h5 hg1
    have es := m_stands (q := 3) (w := wNot) hK b3.1 b3.2.1 (show b < 10000 by omega) (by decide) (by decide) (by decide)
    have eg := b3.sg hK (show b < 10000 by omega)
    have eg' : call 171 0 [vR 50 0] S1 = some (some (vI (chI T b)), S1) := eg
    refine FR.pre ?_ b2.g
    have k91 := chI_eq (T := T) (p := b) (k := 91) hK (by decide)
    cases cn : wEq T b wNot with
    | true =>
      rw [cn] at es
      rw [if_pos (Or.inl rfl)]
      obtain ⟨S2, d1, d2, d3⟩ := m_openF (a := 9) b3 hk1 (by omega) (Or.inl rfl) hd'
      have w : MY T sl (uI S2 50 0 18 (nI (b + 3))) (flt 2 b) := ⟨_, d3.mp (b + 3), by unfold flt; omega, by unfold flt; omega, by show b + 3 ≤ 410; omega, by show st.2.1 ≤ 100; omega, by show st.2.2.length < 300; omega⟩
      refine ⟨_, ?_, d2.u (Or.inl (by omega)), w⟩
      rw [m_fN hf b1 es d1 d3.2.1]
      exact m_hdX w x y
    | false =>
      rw [cn] at es
      by_cases c2 : b < T.1 ∧ T.2 b = 91
      · rw [if_pos (Or.inr c2)]
        have ec : (chI T b = nI 91) = True := by rw [k91]; exact eq_true c2
        obtain ⟨S2, d1, d2, d3⟩ := m_openF (a := 12) b3 hk1 (by omega) (Or.inr rfl) hd'
        have w : MY T sl (uI S2 50 0 18 (nI (b + 1))) (flt 2 b) := ⟨_, d3.mp (b + 1), by unfold flt; omega, by unfold flt; omega, by show b + 1 ≤ 410; omega, by show st.2.1 ≤ 100; omega, by show st.2.2.length < 300; omega⟩
        refine ⟨_, ?_, d2.u (Or.inl (by omega)), w⟩
        rw [m_fB hf b1 es eg' ec d1 d3.2.1]
        exact m_hdX w x y
      · rw [if_neg (fun q => q.elim (by decide) c2)]
        have ec : (chI T b = nI 91) = False := by rw [k91]; exact eq_false c2
        exact m_fCmp hK hs hf b1 es eg' ec b3 hg1 hk1 (by omega)
  | succ k ih =>
    intro hk S st stk x y h hg hd
    have ih' := ih (by omega)
    obtain ⟨h1, h2, h3⟩ := h
    have g1 := hg.1
    have g2 := hg.2.1
    have g3 := hg.2.2
    have hf : S.1 50 0 19 = nI 0 := h1.2.2.2.1
    obtain ⟨S1, b1, b2, b3⟩ := h1.bl hK (by omega)
    have hk1 := h2.mf b2
    have h6 := sc_le T blP st.1 g1
    have h5 := sc_ge T blP st.1
    have hg1 : Gd T (sc T blP st.1, st.2) := hg.up h5 h6 rfl
    rw [pFact_s]
    generalize sc T blP st.1 = b at b3 h6 h5 hg1
    have es := m_stands (q := 3) (w := wNot) hK b3.1 b3.2.1 (show b < 10000 by omega) (by decide) (by decide) (by decide)
    have eg := b3.sg hK (show b < 10000 by omega)
    have eg' : call 171 0 [vR 50 0] S1 = some (some (vI (chI T b)), S1) := eg
    refine FR.pre ?_ b2.g
    have k91 := chI_eq (T := T) (p := b) (k := 91) hK (by decide)
    cases cn : wEq T b wNot with
    | true =>
      rw [cn] at es
      rw [if_pos rfl]
      have hb3 : b + 3 ≤ T.1 := wEq_l cn
      obtain ⟨S2, d1, d2, d3, d4⟩ := m_openD (a := 9) b3 hk1 (by omega) (Or.inl rfl) (by omega)
      have d5 : MP T sl (uI S2 50 0 18 (nI (b + 3))) 0 (b + 3, st.2) := d3.mp (b + 3)
      have d6 : MF sl S2 (uI S2 50 0 18 (nI (b + 3))) := MF.rf.u (Or.inl ⟨rfl, by omega⟩)
      have hg3 : Gd T (b + 3, st.2) := hg1.up (by show b ≤ b + 3; omega) hb3 rfl
      have hd9 : dpO (9 :: stk) = 10 - k := by show 1 + dpO stk = 10 - k; omega
      have v := ih' (uI S2 50 0 18 (nI (b + 3))) (b + 3, st.2) (9 :: stk) x y ⟨d5, d4.mf d6, by show stk.length + 1 ≤ b + 3; omega⟩ hg3 hd9
      have vo := pFact_oc hK k (b + 3, st.2) hb3
      rw [m_fN hf b1 es d1 d3.2.1]
      refine FR.pre ?_ (d2.tr d6.g)
      cases ev : pFact T k (b + 3, st.2) with
      | inl f =>
        rw [ev] at v
        exact v
      | inr s =>
        rw [ev] at v vo
        obtain ⟨S4, x', y', v1, v2, v3, v4, v5⟩ := v
        have vo' : Oc T true (b + 3, st.2) s := vo
        have p1 : b + 3 < s.1 := vo'.1
        have hg4 := vo'.gd hg3
        have z1 := hg4.1
        have z2 := hg4.2.1
        have z3 := hg4.2.2
        obtain ⟨S5, r1, r2, r3, r4⟩ := m_ansY v3 v4 hs (by omega) (by omega) (Or.inl rfl)
        refine ⟨S5, x', y', ?_, v2.tr r2, r3, r4, by show stk.length ≤ s.1; omega⟩
        rw [v1, m_hd0 v3.2.2.2.1, m_hd0 r3.2.2.2.1, r1]
    | false =>
      rw [cn] at es
      rw [if_neg (by decide)]
      by_cases c2 : b < T.1 ∧ T.2 b = 91
      · rw [if_pos c2]
        have hb3 : b + 1 ≤ T.1 := c2.1
        have ec : (chI T b = nI 91) = True := by rw [k91]; exact eq_true c2
        obtain ⟨S2, d1, d2, d3, d4⟩ := m_openD (a := 12) b3 hk1 (by omega) (Or.inr rfl) (by omega)
        have d5 : MP T sl (uI S2 50 0 18 (nI (b + 1))) 0 (b + 1, st.2) := d3.mp (b + 1)
        have d6 : MF sl S2 (uI S2 50 0 18 (nI (b + 1))) := MF.rf.u (Or.inl ⟨rfl, by omega⟩)
        have hg3 : Gd T (b + 1, st.2) := hg1.up (by show b ≤ b + 1; omega) hb3 rfl
        have hd9 : dpO (12 :: stk) = 10 - k := by show 1 + dpO stk = 10 - k; omega
        have v := m_test (x := x) (y := y) hK hs (pFact_oc hK k) ih' (Or.inr ⟨stk, rfl⟩) hd9 (S := uI S2 50 0 18 (nI (b + 1))) (st := (b + 1, st.2)) ⟨d5, d4.mf d6, by show stk.length + 1 ≤ b + 1; omega⟩ hg3
        have vo := (pTst_oc (T := T) hK (pFact_oc hK k) (st := (b + 1, st.2)) hb3).1
        rw [m_fB hf b1 es eg' ec d1 d3.2.1]
        refine FR.pre ?_ (d2.tr d6.g)
        cases ev : pTst T (pFact T k) (b + 1, st.2) with
        | inl f =>
          rw [ev] at v
          exact v
        | inr s =>
          rw [ev] at v vo
          obtain ⟨S4, v1, v2, v3⟩ := v
          have vo' : Oc T true (b + 1, st.2) s := vo
          have hg4 := vo'.gd hg3
          rw [bnd_r, v1]
          refine FR.pre ?_ v2
          unfold pBr
          by_cases c93 : s.1 < T.1 ∧ T.2 s.1 = 93
          · rw [if_pos c93]
            obtain ⟨S5, r1, r2, r3⟩ := m_brY hK v3 c93.1 c93.2
            exact ⟨S5, _, _, r1, r2, r3⟩
          · rw [if_neg c93]
            exact m_brN hK v3 hg4 c93
      · rw [if_neg c2]
        have ec : (chI T b = nI 91) = False := by rw [k91]; exact eq_false c2
        exact m_fCmp hK hs hf b1 es eg' ec b3 hg1 hk1 (by omega)
theorem m_testT {T : Tp} {sl : Nat} {S : Sto} {st : Ps} (hK : TpK T) (hs : sl < 6) (h : MP T sl S 0 st) (hg : Gd T st) (h23 : S.1 50 0 23 = nI 0) : (match pTst T (pFact T 10) st with
    | Sum.inl f => TX T sl S (call 184 0 [vR 50 0] S) f
    | Sum.inr s => ∃ S', call 184 0 [vR 50 0] S = some (none, S') ∧ MG sl S S' ∧ MP T sl S' 0 s ∧ S'.1 50 0 23 = nI 0) := by
  have h1 : MP T sl (uI S 50 0 25 (nI 0)) 0 st := h.ot (Or.inl (by omega))
  have hk : MK (uI S 50 0 25 (nI 0)) [] := ⟨by rw [uI_r, if_pos ⟨rfl, rfl, rfl⟩]; rfl, by rw [uI_r, if_neg (by omega)]; exact h23, trivial⟩
  have hF : MG sl S (uI S 50 0 25 (nI 0)) := MG.rf.u (Or.inl (by omega))
  have e0 : call 184 0 [vR 50 0] S = hdR 1 vU vU (uI S 50 0 25 (nI 0)) := by
    show run 184 0 0 [vR 50 0, vU, vU, vU, vU] [] S = run 184 0 9 [vR 50 0, vI (nI 1), vI (nI 1), vU, vU] [] _
    simp (disch := omega) only [s184_0, s184_1, s184_2, s184_5, s184_6, s184_7, s184_8, q_0, q_1, q_2, q_3, q_4, q_5, q_6, q_7, q_8, q_9, q_10, q_11, q_12, q_13, q_14, q_16, q_20, q_23, q_24, q_32, q_42, q_43, q_45, q_47, q_48, q_50, q_57, q_59, q_60, q_61, q_62, q_63, q_64, q_66, q_91, q_93, q_97, q_99, q_122, q_144, q_255, q_256, q_300, q_380, q_400, q_620, q_999, q_1000, q_4095, q_4096, q_9999, q_65536, q_99999, q_31, nI_add, pk_mul, nE, nL, nT, nM31, nShl, ib_nI, nI_clamp, bI_n0, bI_n1, bI_nar, uI_r, uI_l, uL_r, uL_i, uL_p, uA_r, uA_l, bV_some, bU_some, nar_n0, nar_n1, and_self, and_true, true_and, and_false, false_and, if_true, if_false, eq_self, Bool.false_eq_true, Bool.true_eq_false, not_true_eq_false, not_false_eq_true, ↓reduceIte, nlT, nlF, ntT, ntF, neT, neF, ieT, ieF, decide_true, decide_false, Bool.not_true, Bool.not_false, Bool.and_true, Bool.true_and, Bool.and_false, Bool.false_and, Bool.or_true, Bool.true_or, Bool.or_false, Bool.false_or]
  have v := m_test (x := vU) (y := vU) hK hs (pFact_oc hK 10) (m_factS hK hs 10 (by decide)) (Or.inl rfl) rfl ⟨h1, hk, Nat.zero_le _⟩ hg
  rw [e0]
  cases ev : pTst T (pFact T 10) st with
  | inl f =>
    rw [ev] at v
    exact TX.pre v hF
  | inr s =>
    rw [ev] at v
    obtain ⟨S', v1, v2, v3, v4, v5⟩ := v
    refine ⟨S', ?_, hF.tr v2, v3, v4.2.1⟩
    have e1 := m_top v4 (by decide)
    have e1' : call 189 0 [vR 50 0] S' = some (some (vI (-nI 1)), S') := e1
    have e12 : (-nI 1 = nI 12) = False := by decide
    rw [v1]
    show run 184 0 137 [vR 50 0, vI (nI 0), vI (nI 1), vI (nI 0), vI (nI 0)] [] S' = _
    simp (disch := omega) only [s184_137, s184_138, s184_141, s184_143, s184_197, s184_198, s184_199, q_0, q_1, q_2, q_3, q_4, q_5, q_6, q_7, q_8, q_9, q_10, q_11, q_12, q_13, q_14, q_16, q_20, q_23, q_24, q_32, q_42, q_43, q_45, q_47, q_48, q_50, q_57, q_59, q_60, q_61, q_62, q_63, q_64, q_66, q_91, q_93, q_97, q_99, q_122, q_144, q_255, q_256, q_300, q_380, q_400, q_620, q_999, q_1000, q_4095, q_4096, q_9999, q_65536, q_99999, q_31, nI_add, pk_mul, nE, nL, nT, nM31, nShl, ib_nI, nI_clamp, bI_n0, bI_n1, bI_nar, uI_r, uI_l, uL_r, uL_i, uL_p, uA_r, uA_l, bV_some, bU_some, nar_n0, nar_n1, and_self, and_true, true_and, and_false, false_and, if_true, if_false, eq_self, Bool.false_eq_true, Bool.true_eq_false, not_true_eq_false, not_false_eq_true, ↓reduceIte, nlT, nlF, ntT, ntF, neT, neF, ieT, ieF, decide_true, decide_false, Bool.not_true, Bool.not_false, Bool.and_true, Bool.true_and, Bool.and_false, Bool.false_and, Bool.or_true, Bool.true_or, Bool.or_false, Bool.false_or, e1', e12]
    rw [s184_9]
    simp (disch := omega) only [s184_10, s184_202, q_0, q_1, q_2, q_3, q_4, q_5, q_6, q_7, q_8, q_9, q_10, q_11, q_12, q_13, q_14, q_16, q_20, q_23, q_24, q_32, q_42, q_43, q_45, q_47, q_48, q_50, q_57, q_59, q_60, q_61, q_62, q_63, q_64, q_66, q_91, q_93, q_97, q_99, q_122, q_144, q_255, q_256, q_300, q_380, q_400, q_620, q_999, q_1000, q_4095, q_4096, q_9999, q_65536, q_99999, q_31, nI_add, pk_mul, nE, nL, nT, nM31, nShl, ib_nI, nI_clamp, bI_n0, bI_n1, bI_nar, uI_r, uI_l, uL_r, uL_i, uL_p, uA_r, uA_l, bV_some, bU_some, nar_n0, nar_n1, and_self, and_true, true_and, and_false, false_and, if_true, if_false, eq_self, Bool.false_eq_true, Bool.true_eq_false, not_true_eq_false, not_false_eq_true, ↓reduceIte, nlT, nlF, ntT, ntF, neT, neF, ieT, ieF, decide_true, decide_false, Bool.not_true, Bool.not_false, Bool.and_true, Bool.true_and, Bool.and_false, Bool.false_and, Bool.or_true, Bool.true_or, Bool.or_false, Bool.false_or]
