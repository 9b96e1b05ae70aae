/-! the reference's lay -/
def lyS (f : Nat → Nat) (w : Nat) : Int32 := if w = 0 then -nI 1 else nI (amI f w).2
def LyI (A : Tn) (m : Nat) (L : List Nat) (S S1 : Sto) (w : Nat) : Prop := Fr (pL [58, 59, 88, 89, 90, 91, 92, 93]) S S1 ∧ (∃ B, RepM S1 B ∧ (B = A ∨ ∃ w', B = layT A m L w')) ∧ (∀ t, t < 24 → S1.1 88 0 t = nI (A 7 t) ∧ S1.1 89 0 t = nI (A 8 t)) ∧ PmS S1 L ∧ (0 < w → ∀ t, t < 24 → S1.1 92 0 t = nI (layT A m L (amI (lyF A m L) w).1 7 t) ∧ S1.1 93 0 t = nI (layT A m L (amI (lyF A m L) w).1 8 t))
theorem m_lyStep {S S1 : Sto} {A : Tn} {m w ways : Nat} {L : List Nat} {p k x8 : av} (hw : WF A) (hm : m < 2 ^ A 0 1) (hn1 : 1 ≤ L.length) (hn6 : L.length ≤ 6) (hL : ∀ x, x ∈ L → x / 16 < x % 16 ∧ x % 16 < 12 ∧ A 2 (x / 16) = 1 ∧ A 2 (x % 16) = 1) (hL2 : ∀ x, x ∈ L → x < 200) (hI : LyI A m L S S1 w) (hlt : w < ways) (hwy : ways ≤ 1296) : ∃ S2 x, run 237 0 125 [vR 50 0, vI (nI m), p, k, vI (nI L.length), vI (nI ways), vI (lyS (lyF A m L) w), vI (nI w), x8] [] S1 = run 237 0 125 [vR 50 0, vI (nI m), p, k, vI (nI L.length), vI (nI ways), vI (lyS (lyF A m L) (w + 1)), vI (nI (w + 1)), x] [] S2 ∧ LyI A m L S S2 (w + 1) := by
  have hT := hw.th
  have hT2 : 2 ^ A 0 1 ≤ 2 ^ 24 := Nat.pow_le_pow_right (by decide) hT
  obtain ⟨i1, ⟨B, b1, b2⟩, i3, i4, i5⟩ := hI
  obtain ⟨S2, a1, a2, a3⟩ := m_lays (m := m) (way := w) b1 i4 (by omega) hn1 hn6 hL2 (by omega)
  have a3' : RepM S2 (layT A m L w) := by
    rcases b2 with rfl | ⟨w', rfl⟩
    · exact a3
    · rw [layT_T] at a3
      exact a3
  have hwl : WF (layT A m L w) := layT_W hw hn1 hL
  have e1 := m_stopped a3' hwl
  rw [← br_stopped hwl, stW_lay hT hm] at e1
  have e1' : call 234 0 [vR 50 0] S2 = some (some (vI (nI (lyF A m L w))), S2) := e1
  have l2 := lyF_le hw m L w
  have l3 := amI_le (lyF_le hw m L) w
  obtain ⟨S3, c1, c2, c3⟩ := m_copy (S := S2) (t0 := 58) (t1 := 92) (n := 24) rfl rfl rfl rfl (by decide) (by decide)
  obtain ⟨S4, d1, d2, d3⟩ := m_copy (S := S3) (t0 := 59) (t1 := 93) (n := 24) rfl rfl rfl rfl (by decide) (by decide)
  rw [s237_125]
  have upg : lyF A m L w < (amI (lyF A m L) w).2 → LyI A m L S S4 (w + 1) := by
    intro c
    refine ⟨((i1.tr (a2.pl (by simp))).tr (c2.pl (by simp))).tr (d2.pl (by simp)), ⟨_, ((a3'.fr c2 (fun t g1 g2 => by simp [pL]; omega)).fr d2 (fun t g1 g2 => by simp [pL]; omega)), Or.inr ⟨w, rfl⟩⟩, fun t ht => ?_, fun i hi => ?_, fun _ t ht => ?_⟩
    · rw [d2.i rfl, c2.i rfl, a2.i rfl, d2.i rfl, c2.i rfl, a2.i rfl]
      exact i3 t ht
    · rw [d2.i rfl, c2.i rfl, a2.i rfl, d2.i rfl, c2.i rfl, a2.i rfl]
      exact i4 i hi
    · rw [amI_s, if_pos c, d2.i rfl, c3 t ht, d3 t ht, c2.i rfl]
      exact ⟨a3'.o1 ht, a3'.o2 ht⟩
  have stay : ¬ lyF A m L w < (amI (lyF A m L) w).2 → 0 < w → LyI A m L S S2 (w + 1) := by
    intro c hw0
    refine ⟨i1.tr (a2.pl (by simp)), ⟨_, a3', Or.inr ⟨w, rfl⟩⟩, fun t ht => ?_, fun i hi => ?_, fun _ t ht => ?_⟩
    · rw [a2.i rfl, a2.i rfl]
      exact i3 t ht
    · rw [a2.i rfl, a2.i rfl]
      exact i4 i hi
    · rw [amI_s, if_neg c, a2.i rfl, a2.i rfl]
      exact i5 hw0 t ht
  have es : lyS (lyF A m L) (w + 1) = nI (amI (lyF A m L) (w + 1)).2 := by
    unfold lyS
    rw [if_neg (by omega)]
  by_cases hw0 : w = 0
  · subst hw0
    have c : lyF A m L 0 < (amI (lyF A m L) 0).2 := by show lyF A m L 0 < 13; omega
    have e0 : lyS (lyF A m L) 0 = -nI 1 := rfl
    refine ⟨S4, vI (nI (lyF A m L 0)), ?_, upg c⟩
    rw [es, amI_s, if_pos c, e0]
    simp (disch := omega) only [s237_0, s237_1, s237_2, s237_5, s237_6, s237_7, s237_10, s237_11, s237_12, s237_13, s237_16, s237_17, s237_20, s237_21, s237_24, s237_25, s237_26, s237_27, s237_28, s237_31, s237_34, s237_35, s237_36, s237_39, s237_42, s237_43, s237_44, s237_47, s237_48, s237_51, s237_52, s237_53, s237_54, s237_57, s237_60, s237_61, s237_62, s237_63, s237_66, s237_67, s237_70, s237_73, s237_74, s237_77, s237_78, s237_81, s237_84, s237_85, s237_86, s237_89, s237_91, s237_92, s237_94, s237_95, s237_99, s237_100, s237_103, s237_106, s237_108, s237_110, s237_111, s237_113, s237_116, s237_119, s237_120, s237_122, s237_123, s237_127, s237_129, s237_132, s237_133, s237_134, s237_136, s237_138, s237_141, s237_142, s237_145, s237_147, s237_149, s237_150, s237_153, s237_155, s237_157, s237_160, s237_162, s237_164, s237_165, s237_168, s237_169, s237_172, s237_175, s237_176, s237_179, s237_180, s237_183, s237_186, s237_189, s237_192, s237_193, s237_196, s237_197, s237_200, s237_203, s237_204, s237_207, s237_208, s237_211, s237_214, s237_215, s237_217, s237_218, s237_222, s237_224, s237_227, s237_228, s237_231, s237_233, s237_234, s237_236, s237_239, s237_242, s237_243, s237_246, s237_247, s237_248, s237_250, s237_251, s237_253, s237_256, s237_259, s237_261, s237_262, s237_265, s237_267, s237_268, s237_271, s237_273, s237_274, s237_275, s237_276, s237_279, s237_281, s237_282, s237_283, s237_284, s237_287, s237_290, s237_292, q_0, q_1, q_2, q_3, q_4, q_5, q_6, q_7, q_8, q_9, q_10, q_11, q_12, q_13, q_14, q_16, q_20, q_23, q_24, q_32, q_42, q_43, q_45, q_47, q_48, q_50, q_57, q_59, q_60, q_61, q_62, q_63, q_64, q_66, q_91, q_93, q_97, q_99, q_122, q_144, q_255, q_256, q_300, q_380, q_400, q_620, q_999, q_1000, q_4095, q_4096, q_9999, q_65536, q_99999, q_31, nI_add, pk_mul, nE, nL, nT, nM31, nShl, ib_nI, nI_clamp, bI_n0, bI_n1, bI_nar, uI_r, uI_l, uL_r, uL_i, uL_p, uA_r, uA_l, bV_some, bU_some, nar_n0, nar_n1, and_self, and_true, true_and, and_false, false_and, if_true, if_false, eq_self, Bool.false_eq_true, Bool.true_eq_false, not_true_eq_false, not_false_eq_true, ↓reduceIte, nlT, nlF, ntT, ntF, neT, neF, ieT, ieF, decide_true, decide_false, Bool.not_true, Bool.not_false, Bool.and_true, Bool.true_and, Bool.and_false, Bool.false_and, Bool.or_true, Bool.true_or, Bool.or_false, Bool.false_or, a1, e1', c1, d1]
  · have e0 : lyS (lyF A m L) w = nI (amI (lyF A m L) w).2 := by
      unfold lyS
      rw [if_neg hw0]
    by_cases c : lyF A m L w < (amI (lyF A m L) w).2
    · refine ⟨S4, vI (nI (lyF A m L w)), ?_, upg c⟩
      rw [es, amI_s, if_pos c, e0]
      simp (disch := omega) only [s237_0, s237_1, s237_2, s237_5, s237_6, s237_7, s237_10, s237_11, s237_12, s237_13, s237_16, s237_17, s237_20, s237_21, s237_24, s237_25, s237_26, s237_27, s237_28, s237_31, s237_34, s237_35, s237_36, s237_39, s237_42, s237_43, s237_44, s237_47, s237_48, s237_51, s237_52, s237_53, s237_54, s237_57, s237_60, s237_61, s237_62, s237_63, s237_66, s237_67, s237_70, s237_73, s237_74, s237_77, s237_78, s237_81, s237_84, s237_85, s237_86, s237_89, s237_91, s237_92, s237_94, s237_95, s237_99, s237_100, s237_103, s237_106, s237_108, s237_110, s237_111, s237_113, s237_116, s237_119, s237_120, s237_122, s237_123, s237_127, s237_129, s237_132, s237_133, s237_134, s237_136, s237_138, s237_141, s237_142, s237_145, s237_147, s237_149, s237_150, s237_153, s237_155, s237_157, s237_160, s237_162, s237_164, s237_165, s237_168, s237_169, s237_172, s237_175, s237_176, s237_179, s237_180, s237_183, s237_186, s237_189, s237_192, s237_193, s237_196, s237_197, s237_200, s237_203, s237_204, s237_207, s237_208, s237_211, s237_214, s237_215, s237_217, s237_218, s237_222, s237_224, s237_227, s237_228, s237_231, s237_233, s237_234, s237_236, s237_239, s237_242, s237_243, s237_246, s237_247, s237_248, s237_250, s237_251, s237_253, s237_256, s237_259, s237_261, s237_262, s237_265, s237_267, s237_268, s237_271, s237_273, s237_274, s237_275, s237_276, s237_279, s237_281, s237_282, s237_283, s237_284, s237_287, s237_290, s237_292, q_0, q_1, q_2, q_3, q_4, q_5, q_6, q_7, q_8, q_9, q_10, q_11, q_12, q_13, q_14, q_16, q_20, q_23, q_24, q_32, q_42, q_43, q_45, q_47, q_48, q_50, q_57, q_59, q_60, q_61, q_62, q_63, q_64, q_66, q_91, q_93, q_97, q_99, q_122, q_144, q_255, q_256, q_300, q_380, q_400, q_620, q_999, q_1000, q_4095, q_4096, q_9999, q_65536, q_99999, q_31, nI_add, pk_mul, nE, nL, nT, nM31, nShl, ib_nI, nI_clamp, bI_n0, bI_n1, bI_nar, uI_r, uI_l, uL_r, uL_i, uL_p, uA_r, uA_l, bV_some, bU_some, nar_n0, nar_n1, and_self, and_true, true_and, and_false, false_and, if_true, if_false, eq_self, Bool.false_eq_true, Bool.true_eq_false, not_true_eq_false, not_false_eq_true, ↓reduceIte, nlT, nlF, ntT, ntF, neT, neF, ieT, ieF, decide_true, decide_false, Bool.not_true, Bool.not_false, Bool.and_true, Bool.true_and, Bool.and_false, Bool.false_and, Bool.or_true, Bool.true_or, Bool.or_false, Bool.false_or, a1, e1', c1, d1, nN1]
    · refine ⟨S2, vI (nI (lyF A m L w)), ?_, stay c (by omega)⟩
      rw [es, amI_s, if_neg c, e0]
      simp (disch := omega) only [s237_0, s237_1, s237_2, s237_5, s237_6, s237_7, s237_10, s237_11, s237_12, s237_13, s237_16, s237_17, s237_20, s237_21, s237_24, s237_25, s237_26, s237_27, s237_28, s237_31, s237_34, s237_35, s237_36, s237_39, s237_42, s237_43, s237_44, s237_47, s237_48, s237_51, s237_52, s237_53, s237_54, s237_57, s237_60, s237_61, s237_62, s237_63, s237_66, s237_67, s237_70, s237_73, s237_74, s237_77, s237_78, s237_81, s237_84, s237_85, s237_86, s237_89, s237_91, s237_92, s237_94, s237_95, s237_99, s237_100, s237_103, s237_106, s237_108, s237_110, s237_111, s237_113, s237_116, s237_119, s237_120, s237_122, s237_123, s237_127, s237_129, s237_132, s237_133, s237_134, s237_136, s237_138, s237_141, s237_142, s237_145, s237_147, s237_149, s237_150, s237_153, s237_155, s237_157, s237_160, s237_162, s237_164, s237_165, s237_168, s237_169, s237_172, s237_175, s237_176, s237_179, s237_180, s237_183, s237_186, s237_189, s237_192, s237_193, s237_196, s237_197, s237_200, s237_203, s237_204, s237_207, s237_208, s237_211, s237_214, s237_215, s237_217, s237_218, s237_222, s237_224, s237_227, s237_228, s237_231, s237_233, s237_234, s237_236, s237_239, s237_242, s237_243, s237_246, s237_247, s237_248, s237_250, s237_251, s237_253, s237_256, s237_259, s237_261, s237_262, s237_265, s237_267, s237_268, s237_271, s237_273, s237_274, s237_275, s237_276, s237_279, s237_281, s237_282, s237_283, s237_284, s237_287, s237_290, s237_292, q_0, q_1, q_2, q_3, q_4, q_5, q_6, q_7, q_8, q_9, q_10, q_11, q_12, q_13, q_14, q_16, q_20, q_23, q_24, q_32, q_42, q_43, q_45, q_47, q_48, q_50, q_57, q_59, q_60, q_61, q_62, q_63, q_64, q_66, q_91, q_93, q_97, q_99, q_122, q_144, q_255, q_256, q_300, q_380, q_400, q_620, q_999, q_1000, q_4095, q_4096, q_9999, q_65536, q_99999, q_31, nI_add, pk_mul, nE, nL, nT, nM31, nShl, ib_nI, nI_clamp, bI_n0, bI_n1, bI_nar, uI_r, uI_l, uL_r, uL_i, uL_p, uA_r, uA_l, bV_some, bU_some, nar_n0, nar_n1, and_self, and_true, true_and, and_false, false_and, if_true, if_false, eq_self, Bool.false_eq_true, Bool.true_eq_false, not_true_eq_false, not_false_eq_true, ↓reduceIte, nlT, nlF, ntT, ntF, neT, neF, ieT, ieF, decide_true, decide_false, Bool.not_true, Bool.not_false, Bool.and_true, Bool.true_and, Bool.and_false, Bool.false_and, Bool.or_true, Bool.true_or, Bool.or_false, Bool.false_or, a1, e1', nN1]
theorem m_lyEnd {S : Sto} {A : Tn} {m j b : Nat} {L : List Nat} {p p4 p5 p6 : av} (hm : m < 2 ^ 24) (hj : j < ctp m 24) (hn1 : 1 ≤ L.length) (hL2 : ∀ x, x ∈ L → x < 200) (hs : ∀ t, t < 24 → S.1 92 0 t = nI (layT A m L b 7 t) ∧ S.1 93 0 t = nI (layT A m L b 8 t)) : run 237 0 220 [vR 50 0, vI (nI m), p, vI (nI j), p4, p5, p6, vI (nI (ctp m 0) - nI 1), vI (nI 0)] [] S = some (some (vI (nI (L.getD (b / L.length ^ (ctp m 24 - 1 - j) % L.length) 0))), S) := by
  have hc := ct_le (fun i => m.testBit i) 24
  have hc' : ctp m 24 ≤ 24 := hc
  refine upS (σ := Unit) (I := fun t _ => ∀ s, s < t → m.testBit s = true → ctp m s ≠ j) (F := fun t _ => run 237 0 220 [vR 50 0, vI (nI m), p, vI (nI j), p4, p5, p6, vI (nI (ctp m t) - nI 1), vI (nI t)] [] S) (Q := fun z => z = some (some (vI (nI (L.getD (b / L.length ^ (ctp m 24 - 1 - j) % L.length) 0))), S)) (N := 24) ?_ ?_ 0 () (by omega) (fun s hs => by omega)
  · intro t _ ht hI
    have g6 : ctp m t ≤ ctp m 24 := ct_mo _ (by omega)
    show (run 237 0 220 _ _ _ = _) ∨ ∃ s', _ ∧ run 237 0 220 _ _ _ = run 237 0 220 _ _ _
    rw [s237_220, ctp_s m t]
    cases c1 : m.testBit t with
    | false =>
      refine Or.inr ⟨(), fun s hs hb => ?_, ?_⟩
      · by_cases e : s = t
        · rw [e, c1] at hb; cases hb
        · exact hI s (by omega) hb
      · have e2 : nI (ctp m t) - nI 1 + nI 0 = nI (ctp m t) - nI 1 := Int32.add_zero _
        simp (disch := omega) only [s237_0, s237_1, s237_2, s237_5, s237_6, s237_7, s237_10, s237_11, s237_12, s237_13, s237_16, s237_17, s237_20, s237_21, s237_24, s237_25, s237_26, s237_27, s237_28, s237_31, s237_34, s237_35, s237_36, s237_39, s237_42, s237_43, s237_44, s237_47, s237_48, s237_51, s237_52, s237_53, s237_54, s237_57, s237_60, s237_61, s237_62, s237_63, s237_66, s237_67, s237_70, s237_73, s237_74, s237_77, s237_78, s237_81, s237_84, s237_85, s237_86, s237_89, s237_91, s237_92, s237_94, s237_95, s237_99, s237_100, s237_103, s237_106, s237_108, s237_110, s237_111, s237_113, s237_116, s237_119, s237_120, s237_122, s237_123, s237_127, s237_129, s237_132, s237_133, s237_134, s237_136, s237_138, s237_141, s237_142, s237_145, s237_147, s237_149, s237_150, s237_153, s237_155, s237_157, s237_160, s237_162, s237_164, s237_165, s237_168, s237_169, s237_172, s237_175, s237_176, s237_179, s237_180, s237_183, s237_186, s237_189, s237_192, s237_193, s237_196, s237_197, s237_200, s237_203, s237_204, s237_207, s237_208, s237_211, s237_214, s237_215, s237_217, s237_218, s237_222, s237_224, s237_227, s237_228, s237_231, s237_233, s237_234, s237_236, s237_239, s237_242, s237_243, s237_246, s237_247, s237_248, s237_250, s237_251, s237_253, s237_256, s237_259, s237_261, s237_262, s237_265, s237_267, s237_268, s237_271, s237_273, s237_274, s237_275, s237_276, s237_279, s237_281, s237_282, s237_283, s237_284, s237_287, s237_290, s237_292, q_0, q_1, q_2, q_3, q_4, q_5, q_6, q_7, q_8, q_9, q_10, q_11, q_12, q_13, q_14, q_16, q_20, q_23, q_24, q_32, q_42, q_43, q_45, q_47, q_48, q_50, q_57, q_59, q_60, q_61, q_62, q_63, q_64, q_66, q_91, q_93, q_97, q_99, q_122, q_144, q_255, q_256, q_300, q_380, q_400, q_620, q_999, q_1000, q_4095, q_4096, q_9999, q_65536, q_99999, q_31, nI_add, pk_mul, nE, nL, nT, nM31, nShl, ib_nI, nI_clamp, bI_n0, bI_n1, bI_nar, uI_r, uI_l, uL_r, uL_i, uL_p, uA_r, uA_l, bV_some, bU_some, nar_n0, nar_n1, and_self, and_true, true_and, and_false, false_and, if_true, if_false, eq_self, Bool.false_eq_true, Bool.true_eq_false, not_true_eq_false, not_false_eq_true, ↓reduceIte, nlT, nlF, ntT, ntF, neT, neF, ieT, ieF, decide_true, decide_false, Bool.not_true, Bool.not_false, Bool.and_true, Bool.true_and, Bool.and_false, Bool.false_and, Bool.or_true, Bool.true_or, Bool.or_false, Bool.false_or, m_has, c1, e2, Nat.add_zero]
    | true =>
      have e2 : nI (ctp m t) - nI 1 + nI 1 = nI (ctp m t) := Int32.sub_add_cancel _ _
      have e3 : nI (ctp m t + 1) - nI 1 = nI (ctp m t) := by rw [nSub (by omega)]; rfl
      by_cases c2 : ctp m t = j
      · have r1 := hs t ht
        rw [layT_7 ht c1, layT_8 ht c1] at r1
        unfold dgT at r1
        subst c2
        have hx := hL2 _ (getD_mem (i := b / L.length ^ (ctp m 24 - 1 - ctp m t) % L.length) (Nat.mod_lt _ (by omega)))
        have e4 : 16 * (L.getD (b / L.length ^ (ctp m 24 - 1 - ctp m t) % L.length) 0 / 16) + L.getD (b / L.length ^ (ctp m 24 - 1 - ctp m t) % L.length) 0 % 16 = L.getD (b / L.length ^ (ctp m 24 - 1 - ctp m t) % L.length) 0 := by omega
        refine Or.inl ?_
        simp (disch := omega) only [s237_0, s237_1, s237_2, s237_5, s237_6, s237_7, s237_10, s237_11, s237_12, s237_13, s237_16, s237_17, s237_20, s237_21, s237_24, s237_25, s237_26, s237_27, s237_28, s237_31, s237_34, s237_35, s237_36, s237_39, s237_42, s237_43, s237_44, s237_47, s237_48, s237_51, s237_52, s237_53, s237_54, s237_57, s237_60, s237_61, s237_62, s237_63, s237_66, s237_67, s237_70, s237_73, s237_74, s237_77, s237_78, s237_81, s237_84, s237_85, s237_86, s237_89, s237_91, s237_92, s237_94, s237_95, s237_99, s237_100, s237_103, s237_106, s237_108, s237_110, s237_111, s237_113, s237_116, s237_119, s237_120, s237_122, s237_123, s237_127, s237_129, s237_132, s237_133, s237_134, s237_136, s237_138, s237_141, s237_142, s237_145, s237_147, s237_149, s237_150, s237_153, s237_155, s237_157, s237_160, s237_162, s237_164, s237_165, s237_168, s237_169, s237_172, s237_175, s237_176, s237_179, s237_180, s237_183, s237_186, s237_189, s237_192, s237_193, s237_196, s237_197, s237_200, s237_203, s237_204, s237_207, s237_208, s237_211, s237_214, s237_215, s237_217, s237_218, s237_222, s237_224, s237_227, s237_228, s237_231, s237_233, s237_234, s237_236, s237_239, s237_242, s237_243, s237_246, s237_247, s237_248, s237_250, s237_251, s237_253, s237_256, s237_259, s237_261, s237_262, s237_265, s237_267, s237_268, s237_271, s237_273, s237_274, s237_275, s237_276, s237_279, s237_281, s237_282, s237_283, s237_284, s237_287, s237_290, s237_292, q_0, q_1, q_2, q_3, q_4, q_5, q_6, q_7, q_8, q_9, q_10, q_11, q_12, q_13, q_14, q_16, q_20, q_23, q_24, q_32, q_42, q_43, q_45, q_47, q_48, q_50, q_57, q_59, q_60, q_61, q_62, q_63, q_64, q_66, q_91, q_93, q_97, q_99, q_122, q_144, q_255, q_256, q_300, q_380, q_400, q_620, q_999, q_1000, q_4095, q_4096, q_9999, q_65536, q_99999, q_31, nI_add, pk_mul, nE, nL, nT, nM31, nShl, ib_nI, nI_clamp, bI_n0, bI_n1, bI_nar, uI_r, uI_l, uL_r, uL_i, uL_p, uA_r, uA_l, bV_some, bU_some, nar_n0, nar_n1, and_self, and_true, true_and, and_false, false_and, if_true, if_false, eq_self, Bool.false_eq_true, Bool.true_eq_false, not_true_eq_false, not_false_eq_true, ↓reduceIte, nlT, nlF, ntT, ntF, neT, neF, ieT, ieF, decide_true, decide_false, Bool.not_true, Bool.not_false, Bool.and_true, Bool.true_and, Bool.and_false, Bool.false_and, Bool.or_true, Bool.true_or, Bool.or_false, Bool.false_or, m_has, c1, e2, r1.1, r1.2, e4]
      · refine Or.inr ⟨(), fun s hs hb => ?_, ?_⟩
        · by_cases e : s = t
          · rw [e]; exact c2
          · exact hI s (by omega) hb
        · simp (disch := omega) only [s237_0, s237_1, s237_2, s237_5, s237_6, s237_7, s237_10, s237_11, s237_12, s237_13, s237_16, s237_17, s237_20, s237_21, s237_24, s237_25, s237_26, s237_27, s237_28, s237_31, s237_34, s237_35, s237_36, s237_39, s237_42, s237_43, s237_44, s237_47, s237_48, s237_51, s237_52, s237_53, s237_54, s237_57, s237_60, s237_61, s237_62, s237_63, s237_66, s237_67, s237_70, s237_73, s237_74, s237_77, s237_78, s237_81, s237_84, s237_85, s237_86, s237_89, s237_91, s237_92, s237_94, s237_95, s237_99, s237_100, s237_103, s237_106, s237_108, s237_110, s237_111, s237_113, s237_116, s237_119, s237_120, s237_122, s237_123, s237_127, s237_129, s237_132, s237_133, s237_134, s237_136, s237_138, s237_141, s237_142, s237_145, s237_147, s237_149, s237_150, s237_153, s237_155, s237_157, s237_160, s237_162, s237_164, s237_165, s237_168, s237_169, s237_172, s237_175, s237_176, s237_179, s237_180, s237_183, s237_186, s237_189, s237_192, s237_193, s237_196, s237_197, s237_200, s237_203, s237_204, s237_207, s237_208, s237_211, s237_214, s237_215, s237_217, s237_218, s237_222, s237_224, s237_227, s237_228, s237_231, s237_233, s237_234, s237_236, s237_239, s237_242, s237_243, s237_246, s237_247, s237_248, s237_250, s237_251, s237_253, s237_256, s237_259, s237_261, s237_262, s237_265, s237_267, s237_268, s237_271, s237_273, s237_274, s237_275, s237_276, s237_279, s237_281, s237_282, s237_283, s237_284, s237_287, s237_290, s237_292, q_0, q_1, q_2, q_3, q_4, q_5, q_6, q_7, q_8, q_9, q_10, q_11, q_12, q_13, q_14, q_16, q_20, q_23, q_24, q_32, q_42, q_43, q_45, q_47, q_48, q_50, q_57, q_59, q_60, q_61, q_62, q_63, q_64, q_66, q_91, q_93, q_97, q_99, q_122, q_144, q_255, q_256, q_300, q_380, q_400, q_620, q_999, q_1000, q_4095, q_4096, q_9999, q_65536, q_99999, q_31, nI_add, pk_mul, nE, nL, nT, nM31, nShl, ib_nI, nI_clamp, bI_n0, bI_n1, bI_nar, uI_r, uI_l, uL_r, uL_i, uL_p, uA_r, uA_l, bV_some, bU_some, nar_n0, nar_n1, and_self, and_true, true_and, and_false, false_and, if_true, if_false, eq_self, Bool.false_eq_true, Bool.true_eq_false, not_true_eq_false, not_false_eq_true, ↓reduceIte, nlT, nlF, ntT, ntF, neT, neF, ieT, ieF, decide_true, decide_false, Bool.not_true, Bool.not_false, Bool.and_true, Bool.true_and, Bool.and_false, Bool.false_and, Bool.or_true, Bool.true_or, Bool.or_false, Bool.false_or, m_has, c1, e2, c2, e3]
  · intro _ hI
    obtain ⟨t, h1, h2, h3⟩ := ct_nth hj
    exact absurd h3 (hI t h1 h2)
theorem m_layGo {S : Sto} {A : Tn} {m p : Nat} {k : Int32} (h : RepM S A) (hw : WF A) (hm : m < 2 ^ A 0 1) (hc1 : 1 ≤ ctp m 24) (hc : ctp m 24 ≤ 4) (hp : p < 2 ^ A 0 0) (hp2 : 2 ≤ ctp p 12) (hp4 : ctp p 12 ≤ 4) (hlv : dif p (livB A) = 0) (hk : k = -nI 1 ∨ ∃ j, j < ctp m 24 ∧ k = nI j) : ∃ S1, run 237 0 62 [vR 50 0, vI (nI m), vI (nI p), vI k, vU, vU, vU, vU, vU] [] S = some (some (vI (lyV A m p k)), S1) ∧ FM S S1 ∧ RepM S1 A := by
  have hT := hw.th
  have hP := hw.pe
  have hT2 : 2 ^ A 0 1 ≤ 2 ^ 24 := Nat.pow_le_pow_right (by decide) hT
  have hP2 : 2 ^ A 0 0 ≤ 2 ^ 12 := Nat.pow_le_pow_right (by decide) hP
  have hl := plL_len hp4 hp2
  have hl1 := hl.1
  have hl6 := hl.2
  have hL : ∀ x, x ∈ plL p → x / 16 < x % 16 ∧ x % 16 < 12 ∧ A 2 (x / 16) = 1 ∧ A 2 (x % 16) = 1 := by
    intro x hx
    have g := plE_mem hx (by decide)
    have g2 := (dif_0 (by omega)).mp hlv
    have g3 := g2 _ g.2.2.1
    have g4 := g2 _ g.2.2.2.1
    rw [livB_bit A (by omega)] at g3
    rw [livB_bit A g.2.1] at g4
    exact ⟨g.1, g.2.1, by simpa using g3, by simpa using g4⟩
  have hL2 : ∀ x, x ∈ plL p → x < 200 := fun x hx => (plE_mem hx (by decide)).2.2.2.2
  have hpw : ∀ j, j ≤ 4 → (plL p).length ^ j ≤ 1296 ∧ 0 < (plL p).length ^ j := by
    intro j hj
    have e1 : (plL p).length ^ j ≤ 6 ^ j := Nat.pow_le_pow_left hl.2 j
    have e2 : 6 ^ j ≤ 6 ^ 4 := Nat.pow_le_pow_right (by decide) hj
    have e3 : (6 : Nat) ^ 4 = 1296 := by decide
    exact ⟨by omega, Nat.pow_pos (by omega)⟩
  obtain ⟨S1, a1, a2, a3⟩ := m_copy (S := S) (t0 := 58) (t1 := 88) (n := 24) rfl rfl rfl rfl (by decide) (by decide)
  obtain ⟨S2, b1, b2, b3⟩ := m_copy (S := S1) (t0 := 59) (t1 := 89) (n := 24) rfl rfl rfl rfl (by decide) (by decide)
  obtain ⟨S3, c1, c2, c3⟩ := m_pairsOf (S := S2) (p := p) (by omega) hp4
  have ep := pop_24 (m := m) (by omega)
  have L3 : ∀ S6, LyI A m (plL p) S S6 ((plL p).length ^ ctp m 24) → ∀ x8, ∃ S1, run 237 0 192 [vR 50 0, vI (nI m), vI (nI p), vI k, vI (nI (plL p).length), vI (nI ((plL p).length ^ ctp m 24)), vI (lyS (lyF A m (plL p)) ((plL p).length ^ ctp m 24)), vI (nI ((plL p).length ^ ctp m 24)), x8] [] S6 = some (some (vI (lyV A m p k)), S1) ∧ FM S S1 ∧ RepM S1 A := by
    intro S6 hI x8
    obtain ⟨i1, ⟨B, B1, B2⟩, i3, i4, i5⟩ := hI
    have hw4 := hpw (ctp m 24) hc
    have i5' := i5 hw4.2
    obtain ⟨S7, d1, d2, d3⟩ := m_copy (S := S6) (t0 := 88) (t1 := 58) (n := 24) rfl rfl rfl rfl (by decide) (by decide)
    obtain ⟨S8, f1, f2, f3⟩ := m_copy (S := S7) (t0 := 89) (t1 := 59) (n := 24) rfl rfl rfl rfl (by decide) (by decide)
    have hR : RepM S8 A := by
      intro f i hf hi
      by_cases c7 : f = 7
      · subst c7
        show S8.1 58 0 i = nI (A 7 i)
        have hi' : i < 24 := hi
        rw [f2.i rfl, d3 i hi']
        exact (i3 i hi').1
      · by_cases c8 : f = 8
        · subst c8
          show S8.1 59 0 i = nI (A 8 i)
          have hi' : i < 24 := hi
          rw [f3 i hi', d2.i rfl]
          exact (i3 i hi').2
        · have e : B f i = A f i := by
            rcases B2 with rfl | ⟨w', rfl⟩
            · rfl
            · rw [layT_f c7 c8]
          rw [f2.i (by simp [pL]; omega), d2.i (by simp [pL]; omega), ← e]
          exact B1 f i hf hi
    have hs8 : ∀ t, t < 24 → S8.1 92 0 t = nI (layT A m (plL p) (lyB A m p) 7 t) ∧ S8.1 93 0 t = nI (layT A m (plL p) (lyB A m p) 8 t) := by
      intro t ht
      rw [f2.i rfl, d2.i rfl, f2.i rfl, d2.i rfl]
      exact i5' t ht
    have hF : FM S S8 := FM.pl ((i1.tr (d2.pl (L' := [58, 59, 88, 89, 90, 91, 92, 93]) (by simp))).tr (f2.pl (by simp))) (by decide)
    have el : lyS (lyF A m (plL p)) ((plL p).length ^ ctp m 24) = nI (lyF A m (plL p) (lyB A m p)) := by
      unfold lyS
      rw [if_neg (by omega)]
      have := (amI_p (lyF_le hw m (plL p)) hw4.2).2
      rw [this]
      rfl
    refine ⟨S8, ?_, hF, hR⟩
    unfold lyV
    rw [el]
    rcases hk with rfl | ⟨j, hj, rfl⟩
    · have c0 : (-nI 1 < nI 0) = True := by decide
      simp (disch := omega) only [s237_0, s237_1, s237_2, s237_5, s237_6, s237_7, s237_10, s237_11, s237_12, s237_13, s237_16, s237_17, s237_20, s237_21, s237_24, s237_25, s237_26, s237_27, s237_28, s237_31, s237_34, s237_35, s237_36, s237_39, s237_42, s237_43, s237_44, s237_47, s237_48, s237_51, s237_52, s237_53, s237_54, s237_57, s237_60, s237_61, s237_62, s237_63, s237_66, s237_67, s237_70, s237_73, s237_74, s237_77, s237_78, s237_81, s237_84, s237_85, s237_86, s237_89, s237_91, s237_92, s237_94, s237_95, s237_99, s237_100, s237_103, s237_106, s237_108, s237_110, s237_111, s237_113, s237_116, s237_119, s237_120, s237_122, s237_123, s237_127, s237_129, s237_132, s237_133, s237_134, s237_136, s237_138, s237_141, s237_142, s237_145, s237_147, s237_149, s237_150, s237_153, s237_155, s237_157, s237_160, s237_162, s237_164, s237_165, s237_168, s237_169, s237_172, s237_175, s237_176, s237_179, s237_180, s237_183, s237_186, s237_189, s237_192, s237_193, s237_196, s237_197, s237_200, s237_203, s237_204, s237_207, s237_208, s237_211, s237_214, s237_215, s237_217, s237_218, s237_222, s237_224, s237_227, s237_228, s237_231, s237_233, s237_234, s237_236, s237_239, s237_242, s237_243, s237_246, s237_247, s237_248, s237_250, s237_251, s237_253, s237_256, s237_259, s237_261, s237_262, s237_265, s237_267, s237_268, s237_271, s237_273, s237_274, s237_275, s237_276, s237_279, s237_281, s237_282, s237_283, s237_284, s237_287, s237_290, s237_292, q_0, q_1, q_2, q_3, q_4, q_5, q_6, q_7, q_8, q_9, q_10, q_11, q_12, q_13, q_14, q_16, q_20, q_23, q_24, q_32, q_42, q_43, q_45, q_47, q_48, q_50, q_57, q_59, q_60, q_61, q_62, q_63, q_64, q_66, q_91, q_93, q_97, q_99, q_122, q_144, q_255, q_256, q_300, q_380, q_400, q_620, q_999, q_1000, q_4095, q_4096, q_9999, q_65536, q_99999, q_31, nI_add, pk_mul, nE, nL, nT, nM31, nShl, ib_nI, nI_clamp, bI_n0, bI_n1, bI_nar, uI_r, uI_l, uL_r, uL_i, uL_p, uA_r, uA_l, bV_some, bU_some, nar_n0, nar_n1, and_self, and_true, true_and, and_false, false_and, if_true, if_false, eq_self, Bool.false_eq_true, Bool.true_eq_false, not_true_eq_false, not_false_eq_true, ↓reduceIte, nlT, nlF, ntT, ntF, neT, neF, ieT, ieF, decide_true, decide_false, Bool.not_true, Bool.not_false, Bool.and_true, Bool.true_and, Bool.and_false, Bool.false_and, Bool.or_true, Bool.true_or, Bool.or_false, Bool.false_or, d1, f1, c0]
      rw [s237_220]
      simp (disch := omega) only [s237_0, s237_1, s237_2, s237_5, s237_6, s237_7, s237_10, s237_11, s237_12, s237_13, s237_16, s237_17, s237_20, s237_21, s237_24, s237_25, s237_26, s237_27, s237_28, s237_31, s237_34, s237_35, s237_36, s237_39, s237_42, s237_43, s237_44, s237_47, s237_48, s237_51, s237_52, s237_53, s237_54, s237_57, s237_60, s237_61, s237_62, s237_63, s237_66, s237_67, s237_70, s237_73, s237_74, s237_77, s237_78, s237_81, s237_84, s237_85, s237_86, s237_89, s237_91, s237_92, s237_94, s237_95, s237_99, s237_100, s237_103, s237_106, s237_108, s237_110, s237_111, s237_113, s237_116, s237_119, s237_120, s237_122, s237_123, s237_127, s237_129, s237_132, s237_133, s237_134, s237_136, s237_138, s237_141, s237_142, s237_145, s237_147, s237_149, s237_150, s237_153, s237_155, s237_157, s237_160, s237_162, s237_164, s237_165, s237_168, s237_169, s237_172, s237_175, s237_176, s237_179, s237_180, s237_183, s237_186, s237_189, s237_192, s237_193, s237_196, s237_197, s237_200, s237_203, s237_204, s237_207, s237_208, s237_211, s237_214, s237_215, s237_217, s237_218, s237_222, s237_224, s237_227, s237_228, s237_231, s237_233, s237_234, s237_236, s237_239, s237_242, s237_243, s237_246, s237_247, s237_248, s237_250, s237_251, s237_253, s237_256, s237_259, s237_261, s237_262, s237_265, s237_267, s237_268, s237_271, s237_273, s237_274, s237_275, s237_276, s237_279, s237_281, s237_282, s237_283, s237_284, s237_287, s237_290, s237_292, q_0, q_1, q_2, q_3, q_4, q_5, q_6, q_7, q_8, q_9, q_10, q_11, q_12, q_13, q_14, q_16, q_20, q_23, q_24, q_32, q_42, q_43, q_45, q_47, q_48, q_50, q_57, q_59, q_60, q_61, q_62, q_63, q_64, q_66, q_91, q_93, q_97, q_99, q_122, q_144, q_255, q_256, q_300, q_380, q_400, q_620, q_999, q_1000, q_4095, q_4096, q_9999, q_65536, q_99999, q_31, nI_add, pk_mul, nE, nL, nT, nM31, nShl, ib_nI, nI_clamp, bI_n0, bI_n1, bI_nar, uI_r, uI_l, uL_r, uL_i, uL_p, uA_r, uA_l, bV_some, bU_some, nar_n0, nar_n1, and_self, and_true, true_and, and_false, false_and, if_true, if_false, eq_self, Bool.false_eq_true, Bool.true_eq_false, not_true_eq_false, not_false_eq_true, ↓reduceIte, nlT, nlF, ntT, ntF, neT, neF, ieT, ieF, decide_true, decide_false, Bool.not_true, Bool.not_false, Bool.and_true, Bool.true_and, Bool.and_false, Bool.false_and, Bool.or_true, Bool.true_or, Bool.or_false, Bool.false_or, c0]
    · have em := m_lyEnd (S := S8) (A := A) (m := m) (j := j) (b := lyB A m p) (L := plL p) (p := vI (nI p)) (p4 := vI (nI (plL p).length)) (p5 := vI (nI ((plL p).length ^ ctp m 24))) (p6 := vI (nI (lyF A m (plL p) (lyB A m p)))) (by omega) hj hl1 hL2 hs8
      have ez : (nI (ctp m 0) - nI 1 : Int32) = -nI 1 := by show (nI 0 - nI 1 : Int32) = -nI 1; decide
      rw [ez] at em
      rw [nI_clamp (by omega)]
      simp (disch := omega) only [s237_0, s237_1, s237_2, s237_5, s237_6, s237_7, s237_10, s237_11, s237_12, s237_13, s237_16, s237_17, s237_20, s237_21, s237_24, s237_25, s237_26, s237_27, s237_28, s237_31, s237_34, s237_35, s237_36, s237_39, s237_42, s237_43, s237_44, s237_47, s237_48, s237_51, s237_52, s237_53, s237_54, s237_57, s237_60, s237_61, s237_62, s237_63, s237_66, s237_67, s237_70, s237_73, s237_74, s237_77, s237_78, s237_81, s237_84, s237_85, s237_86, s237_89, s237_91, s237_92, s237_94, s237_95, s237_99, s237_100, s237_103, s237_106, s237_108, s237_110, s237_111, s237_113, s237_116, s237_119, s237_120, s237_122, s237_123, s237_127, s237_129, s237_132, s237_133, s237_134, s237_136, s237_138, s237_141, s237_142, s237_145, s237_147, s237_149, s237_150, s237_153, s237_155, s237_157, s237_160, s237_162, s237_164, s237_165, s237_168, s237_169, s237_172, s237_175, s237_176, s237_179, s237_180, s237_183, s237_186, s237_189, s237_192, s237_193, s237_196, s237_197, s237_200, s237_203, s237_204, s237_207, s237_208, s237_211, s237_214, s237_215, s237_217, s237_218, s237_222, s237_224, s237_227, s237_228, s237_231, s237_233, s237_234, s237_236, s237_239, s237_242, s237_243, s237_246, s237_247, s237_248, s237_250, s237_251, s237_253, s237_256, s237_259, s237_261, s237_262, s237_265, s237_267, s237_268, s237_271, s237_273, s237_274, s237_275, s237_276, s237_279, s237_281, s237_282, s237_283, s237_284, s237_287, s237_290, s237_292, q_0, q_1, q_2, q_3, q_4, q_5, q_6, q_7, q_8, q_9, q_10, q_11, q_12, q_13, q_14, q_16, q_20, q_23, q_24, q_32, q_42, q_43, q_45, q_47, q_48, q_50, q_57, q_59, q_60, q_61, q_62, q_63, q_64, q_66, q_91, q_93, q_97, q_99, q_122, q_144, q_255, q_256, q_300, q_380, q_400, q_620, q_999, q_1000, q_4095, q_4096, q_9999, q_65536, q_99999, q_31, nI_add, pk_mul, nE, nL, nT, nM31, nShl, ib_nI, nI_clamp, bI_n0, bI_n1, bI_nar, uI_r, uI_l, uL_r, uL_i, uL_p, uA_r, uA_l, bV_some, bU_some, nar_n0, nar_n1, and_self, and_true, true_and, and_false, false_and, if_true, if_false, eq_self, Bool.false_eq_true, Bool.true_eq_false, not_true_eq_false, not_false_eq_true, ↓reduceIte, nlT, nlF, ntT, ntF, neT, neF, ieT, ieF, decide_true, decide_false, Bool.not_true, Bool.not_false, Bool.and_true, Bool.true_and, Bool.and_false, Bool.false_and, Bool.or_true, Bool.true_or, Bool.or_false, Bool.false_or, d1, f1]
      exact em
  have hI0 : LyI A m (plL p) S S3 0 := by
    refine ⟨((a2.pl (by simp)).tr (b2.pl (by simp))).tr (c2.pl (by simp)), ⟨A, ((h.pl a2 (by decide)).pl b2 (by decide)).pl c2 (by decide), Or.inl rfl⟩, fun t ht => ?_, c3, fun h0 => by omega⟩
    rw [c2.i rfl, b2.i rfl, a3 t ht, c2.i rfl, b3 t ht, a2.i rfl]
    exact ⟨h.o1 ht, h.o2 ht⟩
  have L2 : ∃ S1, run 237 0 125 [vR 50 0, vI (nI m), vI (nI p), vI k, vI (nI (plL p).length), vI (nI ((plL p).length ^ ctp m 24)), vI (-nI 1), vI (nI 0), vU] [] S3 = some (some (vI (lyV A m p k)), S1) ∧ FM S S1 ∧ RepM S1 A := by
    have hw4 := hpw (ctp m 24) hc
    refine upS (σ := Sto × av) (I := fun w s => LyI A m (plL p) S s.1 w) (F := fun w s => run 237 0 125 [vR 50 0, vI (nI m), vI (nI p), vI k, vI (nI (plL p).length), vI (nI ((plL p).length ^ ctp m 24)), vI (lyS (lyF A m (plL p)) w), vI (nI w), s.2] [] s.1) (Q := fun z => ∃ S1, z = some (some (vI (lyV A m p k)), S1) ∧ FM S S1 ∧ RepM S1 A) (N := (plL p).length ^ ctp m 24) ?_ ?_ 0 (S3, vU) (by omega) hI0
    · intro w s hlt hI
      obtain ⟨S4, x⟩ := s
      obtain ⟨S5, x', d1, d2⟩ := m_lyStep (p := vI (nI p)) (k := vI k) (x8 := x) hw hm hl1 hl6 hL hL2 hI hlt (by omega)
      exact Or.inr ⟨(S5, x'), d2, d1⟩
    · intro s hI
      obtain ⟨S4, x⟩ := s
      have key := L3 S4 hI x
      show ∃ S1, run 237 0 125 [vR 50 0, vI (nI m), vI (nI p), vI k, vI (nI (plL p).length), vI (nI ((plL p).length ^ ctp m 24)), vI (lyS (lyF A m (plL p)) ((plL p).length ^ ctp m 24)), vI (nI ((plL p).length ^ ctp m 24)), x] [] S4 = _ ∧ _
      rw [s237_125]
      simp (disch := omega) only [s237_127, s237_129, q_0, q_1, q_2, q_3, q_4, q_5, q_6, q_7, q_8, q_9, q_10, q_11, q_12, q_13, q_14, q_16, q_20, q_23, q_24, q_32, q_42, q_43, q_45, q_47, q_48, q_50, q_57, q_59, q_60, q_61, q_62, q_63, q_64, q_66, q_91, q_93, q_97, q_99, q_122, q_144, q_255, q_256, q_300, q_380, q_400, q_620, q_999, q_1000, q_4095, q_4096, q_9999, q_65536, q_99999, q_31, nI_add, pk_mul, nE, nL, nT, nM31, nShl, ib_nI, nI_clamp, bI_n0, bI_n1, bI_nar, uI_r, uI_l, uL_r, uL_i, uL_p, uA_r, uA_l, bV_some, bU_some, nar_n0, nar_n1, and_self, and_true, true_and, and_false, false_and, if_true, if_false, eq_self, Bool.false_eq_true, Bool.true_eq_false, not_true_eq_false, not_false_eq_true, ↓reduceIte, nlT, nlF, ntT, ntF, neT, neF, ieT, ieF, decide_true, decide_false, Bool.not_true, Bool.not_false, Bool.and_true, Bool.true_and, Bool.and_false, Bool.false_and, Bool.or_true, Bool.true_or, Bool.or_false, Bool.false_or]
      exact key
  simp (disch := omega) only [s237_0, s237_1, s237_2, s237_5, s237_6, s237_7, s237_10, s237_11, s237_12, s237_13, s237_16, s237_17, s237_20, s237_21, s237_24, s237_25, s237_26, s237_27, s237_28, s237_31, s237_34, s237_35, s237_36, s237_39, s237_42, s237_43, s237_44, s237_47, s237_48, s237_51, s237_52, s237_53, s237_54, s237_57, s237_60, s237_61, s237_62, s237_63, s237_66, s237_67, s237_70, s237_73, s237_74, s237_77, s237_78, s237_81, s237_84, s237_85, s237_86, s237_89, s237_91, s237_92, s237_94, s237_95, s237_99, s237_100, s237_103, s237_106, s237_108, s237_110, s237_111, s237_113, s237_116, s237_119, s237_120, s237_122, s237_123, s237_127, s237_129, s237_132, s237_133, s237_134, s237_136, s237_138, s237_141, s237_142, s237_145, s237_147, s237_149, s237_150, s237_153, s237_155, s237_157, s237_160, s237_162, s237_164, s237_165, s237_168, s237_169, s237_172, s237_175, s237_176, s237_179, s237_180, s237_183, s237_186, s237_189, s237_192, s237_193, s237_196, s237_197, s237_200, s237_203, s237_204, s237_207, s237_208, s237_211, s237_214, s237_215, s237_217, s237_218, s237_222, s237_224, s237_227, s237_228, s237_231, s237_233, s237_234, s237_236, s237_239, s237_242, s237_243, s237_246, s237_247, s237_248, s237_250, s237_251, s237_253, s237_256, s237_259, s237_261, s237_262, s237_265, s237_267, s237_268, s237_271, s237_273, s237_274, s237_275, s237_276, s237_279, s237_281, s237_282, s237_283, s237_284, s237_287, s237_290, s237_292, q_0, q_1, q_2, q_3, q_4, q_5, q_6, q_7, q_8, q_9, q_10, q_11, q_12, q_13, q_14, q_16, q_20, q_23, q_24, q_32, q_42, q_43, q_45, q_47, q_48, q_50, q_57, q_59, q_60, q_61, q_62, q_63, q_64, q_66, q_91, q_93, q_97, q_99, q_122, q_144, q_255, q_256, q_300, q_380, q_400, q_620, q_999, q_1000, q_4095, q_4096, q_9999, q_65536, q_99999, q_31, nI_add, pk_mul, nE, nL, nT, nM31, nShl, ib_nI, nI_clamp, bI_n0, bI_n1, bI_nar, uI_r, uI_l, uL_r, uL_i, uL_p, uA_r, uA_l, bV_some, bU_some, nar_n0, nar_n1, and_self, and_true, true_and, and_false, false_and, if_true, if_false, eq_self, Bool.false_eq_true, Bool.true_eq_false, not_true_eq_false, not_false_eq_true, ↓reduceIte, nlT, nlF, ntT, ntF, neT, neF, ieT, ieF, decide_true, decide_false, Bool.not_true, Bool.not_false, Bool.and_true, Bool.true_and, Bool.and_false, Bool.false_and, Bool.or_true, Bool.true_or, Bool.or_false, Bool.false_or, a1, b1, c1]
  have key := up_ (F := fun i => run 237 0 97 [vR 50 0, vI (nI m), vI (nI p), vI k, vI (nI (plL p).length), vI (nI ((plL p).length ^ i)), vI (nI i), vU, vU] [] S3) (N := ctp m 24) (R := run 237 0 125 [vR 50 0, vI (nI m), vI (nI p), vI k, vI (nI (plL p).length), vI (nI ((plL p).length ^ ctp m 24)), vI (-nI 1), vI (nI 0), vU] [] S3) ?_ ?_ 0 (by omega)
  · rw [Nat.pow_zero] at key
    rw [key]
    exact L2
  · intro i hi
    have e1 := m_bits S3 (m := m) (by omega)
    rw [ep] at e1
    show run 237 0 97 _ _ _ = run 237 0 97 _ _ _
    rw [s237_97]
    simp (disch := omega) only [s237_0, s237_1, s237_2, s237_5, s237_6, s237_7, s237_10, s237_11, s237_12, s237_13, s237_16, s237_17, s237_20, s237_21, s237_24, s237_25, s237_26, s237_27, s237_28, s237_31, s237_34, s237_35, s237_36, s237_39, s237_42, s237_43, s237_44, s237_47, s237_48, s237_51, s237_52, s237_53, s237_54, s237_57, s237_60, s237_61, s237_62, s237_63, s237_66, s237_67, s237_70, s237_73, s237_74, s237_77, s237_78, s237_81, s237_84, s237_85, s237_86, s237_89, s237_91, s237_92, s237_94, s237_95, s237_99, s237_100, s237_103, s237_106, s237_108, s237_110, s237_111, s237_113, s237_116, s237_119, s237_120, s237_122, s237_123, s237_127, s237_129, s237_132, s237_133, s237_134, s237_136, s237_138, s237_141, s237_142, s237_145, s237_147, s237_149, s237_150, s237_153, s237_155, s237_157, s237_160, s237_162, s237_164, s237_165, s237_168, s237_169, s237_172, s237_175, s237_176, s237_179, s237_180, s237_183, s237_186, s237_189, s237_192, s237_193, s237_196, s237_197, s237_200, s237_203, s237_204, s237_207, s237_208, s237_211, s237_214, s237_215, s237_217, s237_218, s237_222, s237_224, s237_227, s237_228, s237_231, s237_233, s237_234, s237_236, s237_239, s237_242, s237_243, s237_246, s237_247, s237_248, s237_250, s237_251, s237_253, s237_256, s237_259, s237_261, s237_262, s237_265, s237_267, s237_268, s237_271, s237_273, s237_274, s237_275, s237_276, s237_279, s237_281, s237_282, s237_283, s237_284, s237_287, s237_290, s237_292, q_0, q_1, q_2, q_3, q_4, q_5, q_6, q_7, q_8, q_9, q_10, q_11, q_12, q_13, q_14, q_16, q_20, q_23, q_24, q_32, q_42, q_43, q_45, q_47, q_48, q_50, q_57, q_59, q_60, q_61, q_62, q_63, q_64, q_66, q_91, q_93, q_97, q_99, q_122, q_144, q_255, q_256, q_300, q_380, q_400, q_620, q_999, q_1000, q_4095, q_4096, q_9999, q_65536, q_99999, q_31, nI_add, pk_mul, nE, nL, nT, nM31, nShl, ib_nI, nI_clamp, bI_n0, bI_n1, bI_nar, uI_r, uI_l, uL_r, uL_i, uL_p, uA_r, uA_l, bV_some, bU_some, nar_n0, nar_n1, and_self, and_true, true_and, and_false, false_and, if_true, if_false, eq_self, Bool.false_eq_true, Bool.true_eq_false, not_true_eq_false, not_false_eq_true, ↓reduceIte, nlT, nlF, ntT, ntF, neT, neF, ieT, ieF, decide_true, decide_false, Bool.not_true, Bool.not_false, Bool.and_true, Bool.true_and, Bool.and_false, Bool.false_and, Bool.or_true, Bool.true_or, Bool.or_false, Bool.false_or, e1, Nat.pow_succ]
  · have e1 := m_bits S3 (m := m) (by omega)
    rw [ep] at e1
    show run 237 0 97 _ _ _ = _
    rw [s237_97]
    simp (disch := omega) only [s237_0, s237_1, s237_2, s237_5, s237_6, s237_7, s237_10, s237_11, s237_12, s237_13, s237_16, s237_17, s237_20, s237_21, s237_24, s237_25, s237_26, s237_27, s237_28, s237_31, s237_34, s237_35, s237_36, s237_39, s237_42, s237_43, s237_44, s237_47, s237_48, s237_51, s237_52, s237_53, s237_54, s237_57, s237_60, s237_61, s237_62, s237_63, s237_66, s237_67, s237_70, s237_73, s237_74, s237_77, s237_78, s237_81, s237_84, s237_85, s237_86, s237_89, s237_91, s237_92, s237_94, s237_95, s237_99, s237_100, s237_103, s237_106, s237_108, s237_110, s237_111, s237_113, s237_116, s237_119, s237_120, s237_122, s237_123, s237_127, s237_129, s237_132, s237_133, s237_134, s237_136, s237_138, s237_141, s237_142, s237_145, s237_147, s237_149, s237_150, s237_153, s237_155, s237_157, s237_160, s237_162, s237_164, s237_165, s237_168, s237_169, s237_172, s237_175, s237_176, s237_179, s237_180, s237_183, s237_186, s237_189, s237_192, s237_193, s237_196, s237_197, s237_200, s237_203, s237_204, s237_207, s237_208, s237_211, s237_214, s237_215, s237_217, s237_218, s237_222, s237_224, s237_227, s237_228, s237_231, s237_233, s237_234, s237_236, s237_239, s237_242, s237_243, s237_246, s237_247, s237_248, s237_250, s237_251, s237_253, s237_256, s237_259, s237_261, s237_262, s237_265, s237_267, s237_268, s237_271, s237_273, s237_274, s237_275, s237_276, s237_279, s237_281, s237_282, s237_283, s237_284, s237_287, s237_290, s237_292, q_0, q_1, q_2, q_3, q_4, q_5, q_6, q_7, q_8, q_9, q_10, q_11, q_12, q_13, q_14, q_16, q_20, q_23, q_24, q_32, q_42, q_43, q_45, q_47, q_48, q_50, q_57, q_59, q_60, q_61, q_62, q_63, q_64, q_66, q_91, q_93, q_97, q_99, q_122, q_144, q_255, q_256, q_300, q_380, q_400, q_620, q_999, q_1000, q_4095, q_4096, q_9999, q_65536, q_99999, q_31, nI_add, pk_mul, nE, nL, nT, nM31, nShl, ib_nI, nI_clamp, bI_n0, bI_n1, bI_nar, uI_r, uI_l, uL_r, uL_i, uL_p, uA_r, uA_l, bV_some, bU_some, nar_n0, nar_n1, and_self, and_true, true_and, and_false, false_and, if_true, if_false, eq_self, Bool.false_eq_true, Bool.true_eq_false, not_true_eq_false, not_false_eq_true, ↓reduceIte, nlT, nlF, ntT, ntF, neT, neF, ieT, ieF, decide_true, decide_false, Bool.not_true, Bool.not_false, Bool.and_true, Bool.true_and, Bool.and_false, Bool.false_and, Bool.or_true, Bool.true_or, Bool.or_false, Bool.false_or, e1]
theorem r_lay {S : Sto} {A : Tn} (h : RepM S A) (hw : WF A) (s p k : Int32) : ∃ S1, call 237 0 [vR 50 0, vI s, vI p, vI k] S = some (some (vI (o_lay A s p k)), S1) ∧ FM S S1 ∧ RepM S1 A := by
  have hT := hw.th
  have hP := hw.pe
  have hT2 : 2 ^ A 0 1 ≤ 2 ^ 24 := Nat.pow_le_pow_right (by decide) hT
  have hP2 : 2 ^ A 0 0 ≤ 2 ^ 12 := Nat.pow_le_pow_right (by decide) hP
  show ∃ S1, run 237 0 0 [vR 50 0, vI s, vI p, vI k, vU, vU, vU, vU, vU] [] S = _ ∧ _
  unfold o_lay
  by_cases f1 : s < nI 1
  · have f2 : stB s (A 0 1) 1 4 = false := by
      cases q : stB s (A 0 1) 1 4 with
      | false => rfl
      | true =>
        obtain ⟨m, hm, rfl, m1, m2, m3⟩ := stB_t hT q
        rw [nT (by omega) (by decide)] at f1
        have : m = 0 := by omega
        subst this
        rw [pop_0] at m1
        omega
    simp (disch := omega) only [s237_0, s237_1, s237_2, s237_5, s237_6, s237_7, s237_10, s237_11, s237_12, s237_13, s237_16, s237_17, s237_20, s237_21, s237_24, s237_25, s237_26, s237_27, s237_28, s237_31, s237_34, s237_35, s237_36, s237_39, s237_42, s237_43, s237_44, s237_47, s237_48, s237_51, s237_52, s237_53, s237_54, s237_57, s237_60, s237_61, s237_62, s237_63, s237_66, s237_67, s237_70, s237_73, s237_74, s237_77, s237_78, s237_81, s237_84, s237_85, s237_86, s237_89, s237_91, s237_92, s237_94, s237_95, s237_99, s237_100, s237_103, s237_106, s237_108, s237_110, s237_111, s237_113, s237_116, s237_119, s237_120, s237_122, s237_123, s237_127, s237_129, s237_132, s237_133, s237_134, s237_136, s237_138, s237_141, s237_142, s237_145, s237_147, s237_149, s237_150, s237_153, s237_155, s237_157, s237_160, s237_162, s237_164, s237_165, s237_168, s237_169, s237_172, s237_175, s237_176, s237_179, s237_180, s237_183, s237_186, s237_189, s237_192, s237_193, s237_196, s237_197, s237_200, s237_203, s237_204, s237_207, s237_208, s237_211, s237_214, s237_215, s237_217, s237_218, s237_222, s237_224, s237_227, s237_228, s237_231, s237_233, s237_234, s237_236, s237_239, s237_242, s237_243, s237_246, s237_247, s237_248, s237_250, s237_251, s237_253, s237_256, s237_259, s237_261, s237_262, s237_265, s237_267, s237_268, s237_271, s237_273, s237_274, s237_275, s237_276, s237_279, s237_281, s237_282, s237_283, s237_284, s237_287, s237_290, s237_292, q_0, q_1, q_2, q_3, q_4, q_5, q_6, q_7, q_8, q_9, q_10, q_11, q_12, q_13, q_14, q_16, q_20, q_23, q_24, q_32, q_42, q_43, q_45, q_47, q_48, q_50, q_57, q_59, q_60, q_61, q_62, q_63, q_64, q_66, q_91, q_93, q_97, q_99, q_122, q_144, q_255, q_256, q_300, q_380, q_400, q_620, q_999, q_1000, q_4095, q_4096, q_9999, q_65536, q_99999, q_31, nI_add, pk_mul, nE, nL, nT, nM31, nShl, ib_nI, nI_clamp, bI_n0, bI_n1, bI_nar, uI_r, uI_l, uL_r, uL_i, uL_p, uA_r, uA_l, bV_some, bU_some, nar_n0, nar_n1, and_self, and_true, true_and, and_false, false_and, if_true, if_false, eq_self, Bool.false_eq_true, Bool.true_eq_false, not_true_eq_false, not_false_eq_true, ↓reduceIte, nlT, nlF, ntT, ntF, neT, neF, ieT, ieF, decide_true, decide_false, Bool.not_true, Bool.not_false, Bool.and_true, Bool.true_and, Bool.and_false, Bool.false_and, Bool.or_true, Bool.true_or, Bool.or_false, Bool.false_or, f1, f2]
    exact ⟨_, rfl, FM.rf, h⟩
  · have f3 : nI 1 ≤ s := Int32.not_lt.mp f1
    obtain ⟨m, hm, rfl⟩ := nI_of (x := s) (by
      intro q
      have q2 : s < nI 1 := by
        rw [Int32.lt_iff_toInt_lt] at q ⊢
        have e0 : (0 : Int32).toInt = 0 := rfl
        have e1 : (nI 1 : Int32).toInt = 1 := by decide
        rw [e0] at q
        rw [e1]
        omega
      exact f1 q2)
    rw [nL (by decide) hm] at f3
    have hp := pop_le m
    have h3 : m / 2 ^ A 0 1 = 0 ↔ m < 2 ^ A 0 1 := by
      rw [Nat.div_eq_zero_iff]
      have := Nat.two_pow_pos (A 0 1)
      omega
    have h4 : m / 2 ^ A 0 1 < 2 ^ 31 := Nat.lt_of_le_of_lt (Nat.div_le_self _ _) hm
    have hpos : 1 ≤ pop m := by
      have := (and_pred (m := m) (by omega) (by omega)).1
      omega
    have h5 : stB (nI m) (A 0 1) 1 4 = (decide (m < 2 ^ A 0 1) && decide (pop m ≤ 4)) := by
      unfold stB
      rw [lsB_n hm (by omega), nI_clamp hm]
      simp [hpos]
    have f1' : (m < 1) = False := eq_false (by omega)
    by_cases g1 : m < 2 ^ A 0 1
    · have g2 := h3.mpr g1
      by_cases g3 : pop m ≤ 4
      · have e6 := m_isGroup h hw p (lo := 2) (hi := 4) (by decide) (by decide)
        cases e2 : stB p (A 0 0) 2 4 with
        | false =>
          rw [e2] at e6
          simp (disch := omega) only [s237_0, s237_1, s237_2, s237_5, s237_6, s237_7, s237_10, s237_11, s237_12, s237_13, s237_16, s237_17, s237_20, s237_21, s237_24, s237_25, s237_26, s237_27, s237_28, s237_31, s237_34, s237_35, s237_36, s237_39, s237_42, s237_43, s237_44, s237_47, s237_48, s237_51, s237_52, s237_53, s237_54, s237_57, s237_60, s237_61, s237_62, s237_63, s237_66, s237_67, s237_70, s237_73, s237_74, s237_77, s237_78, s237_81, s237_84, s237_85, s237_86, s237_89, s237_91, s237_92, s237_94, s237_95, s237_99, s237_100, s237_103, s237_106, s237_108, s237_110, s237_111, s237_113, s237_116, s237_119, s237_120, s237_122, s237_123, s237_127, s237_129, s237_132, s237_133, s237_134, s237_136, s237_138, s237_141, s237_142, s237_145, s237_147, s237_149, s237_150, s237_153, s237_155, s237_157, s237_160, s237_162, s237_164, s237_165, s237_168, s237_169, s237_172, s237_175, s237_176, s237_179, s237_180, s237_183, s237_186, s237_189, s237_192, s237_193, s237_196, s237_197, s237_200, s237_203, s237_204, s237_207, s237_208, s237_211, s237_214, s237_215, s237_217, s237_218, s237_222, s237_224, s237_227, s237_228, s237_231, s237_233, s237_234, s237_236, s237_239, s237_242, s237_243, s237_246, s237_247, s237_248, s237_250, s237_251, s237_253, s237_256, s237_259, s237_261, s237_262, s237_265, s237_267, s237_268, s237_271, s237_273, s237_274, s237_275, s237_276, s237_279, s237_281, s237_282, s237_283, s237_284, s237_287, s237_290, s237_292, q_0, q_1, q_2, q_3, q_4, q_5, q_6, q_7, q_8, q_9, q_10, q_11, q_12, q_13, q_14, q_16, q_20, q_23, q_24, q_32, q_42, q_43, q_45, q_47, q_48, q_50, q_57, q_59, q_60, q_61, q_62, q_63, q_64, q_66, q_91, q_93, q_97, q_99, q_122, q_144, q_255, q_256, q_300, q_380, q_400, q_620, q_999, q_1000, q_4095, q_4096, q_9999, q_65536, q_99999, q_31, nI_add, pk_mul, nE, nL, nT, nM31, nShl, ib_nI, nI_clamp, bI_n0, bI_n1, bI_nar, uI_r, uI_l, uL_r, uL_i, uL_p, uA_r, uA_l, bV_some, bU_some, nar_n0, nar_n1, and_self, and_true, true_and, and_false, false_and, if_true, if_false, eq_self, Bool.false_eq_true, Bool.true_eq_false, not_true_eq_false, not_false_eq_true, ↓reduceIte, nlT, nlF, ntT, ntF, neT, neF, ieT, ieF, decide_true, decide_false, Bool.not_true, Bool.not_false, Bool.and_true, Bool.true_and, Bool.and_false, Bool.false_and, Bool.or_true, Bool.true_or, Bool.or_false, Bool.false_or, h.sc, h5, nShr, g2, m_bits, e6]
          exact ⟨_, rfl, FM.rf, h⟩
        | true =>
          rw [e2] at e6
          obtain ⟨w, w1, rfl, w2, w3, w4⟩ := stB_t (by omega) e2
          have e7 := m_allLive (p := w) h hw (by omega)
          rw [br_allL (by omega)] at e7
          have e8 := m_inI S k (-nI 1) (nI (pop m - 1)) (a := -1) (b := (nI (pop m - 1)).toInt64) (by decide) rfl
          have e9 : (!decide (k < -nI 1) && !decide (nI (pop m - 1) < k)) = (!decide (k < -nI 1) && decide (k < nI (pop m))) := by
            congr 1
            have q0 := lt_le (m := pop m - 1) (x := k) (by omega)
            rw [show pop m - 1 + 1 = pop m by omega] at q0
            by_cases q : k < nI (pop m)
            · have q2 : ¬ nI (pop m) ≤ k := Int32.not_le.mpr q
              simp [q0, q, q2]
            · have q2 : nI (pop m) ≤ k := Int32.not_lt.mp q
              simp [q0, q, q2]
          rw [e9] at e8
          rw [nI_clamp (by omega), nI_clamp (by omega)]
          cases e3 : (dif w (livB A) == 0) with
          | false =>
            rw [e3] at e7
            simp (disch := omega) only [s237_0, s237_1, s237_2, s237_5, s237_6, s237_7, s237_10, s237_11, s237_12, s237_13, s237_16, s237_17, s237_20, s237_21, s237_24, s237_25, s237_26, s237_27, s237_28, s237_31, s237_34, s237_35, s237_36, s237_39, s237_42, s237_43, s237_44, s237_47, s237_48, s237_51, s237_52, s237_53, s237_54, s237_57, s237_60, s237_61, s237_62, s237_63, s237_66, s237_67, s237_70, s237_73, s237_74, s237_77, s237_78, s237_81, s237_84, s237_85, s237_86, s237_89, s237_91, s237_92, s237_94, s237_95, s237_99, s237_100, s237_103, s237_106, s237_108, s237_110, s237_111, s237_113, s237_116, s237_119, s237_120, s237_122, s237_123, s237_127, s237_129, s237_132, s237_133, s237_134, s237_136, s237_138, s237_141, s237_142, s237_145, s237_147, s237_149, s237_150, s237_153, s237_155, s237_157, s237_160, s237_162, s237_164, s237_165, s237_168, s237_169, s237_172, s237_175, s237_176, s237_179, s237_180, s237_183, s237_186, s237_189, s237_192, s237_193, s237_196, s237_197, s237_200, s237_203, s237_204, s237_207, s237_208, s237_211, s237_214, s237_215, s237_217, s237_218, s237_222, s237_224, s237_227, s237_228, s237_231, s237_233, s237_234, s237_236, s237_239, s237_242, s237_243, s237_246, s237_247, s237_248, s237_250, s237_251, s237_253, s237_256, s237_259, s237_261, s237_262, s237_265, s237_267, s237_268, s237_271, s237_273, s237_274, s237_275, s237_276, s237_279, s237_281, s237_282, s237_283, s237_284, s237_287, s237_290, s237_292, q_0, q_1, q_2, q_3, q_4, q_5, q_6, q_7, q_8, q_9, q_10, q_11, q_12, q_13, q_14, q_16, q_20, q_23, q_24, q_32, q_42, q_43, q_45, q_47, q_48, q_50, q_57, q_59, q_60, q_61, q_62, q_63, q_64, q_66, q_91, q_93, q_97, q_99, q_122, q_144, q_255, q_256, q_300, q_380, q_400, q_620, q_999, q_1000, q_4095, q_4096, q_9999, q_65536, q_99999, q_31, nI_add, pk_mul, nE, nL, nT, nM31, nShl, ib_nI, nI_clamp, bI_n0, bI_n1, bI_nar, uI_r, uI_l, uL_r, uL_i, uL_p, uA_r, uA_l, bV_some, bU_some, nar_n0, nar_n1, and_self, and_true, true_and, and_false, false_and, if_true, if_false, eq_self, Bool.false_eq_true, Bool.true_eq_false, not_true_eq_false, not_false_eq_true, ↓reduceIte, nlT, nlF, ntT, ntF, neT, neF, ieT, ieF, decide_true, decide_false, Bool.not_true, Bool.not_false, Bool.and_true, Bool.true_and, Bool.and_false, Bool.false_and, Bool.or_true, Bool.true_or, Bool.or_false, Bool.false_or, h.sc, h5, nShr, g2, m_bits, e6, e7]
            exact ⟨_, rfl, FM.rf, h⟩
          | true =>
            rw [e3] at e7
            cases e4 : (!decide (k < -nI 1) && decide (k < nI (pop m))) with
            | false =>
              rw [e4] at e8
              have e4' : (decide (m < 2 ^ A 0 1) && decide (pop m ≤ 4) && true && true && !decide (k < -nI 1) && decide (k < nI (pop m))) = false := by
                rw [Bool.and_assoc, e4, Bool.and_false]
              rw [h5, e4']
              simp (disch := omega) only [s237_0, s237_1, s237_2, s237_5, s237_6, s237_7, s237_10, s237_11, s237_12, s237_13, s237_16, s237_17, s237_20, s237_21, s237_24, s237_25, s237_26, s237_27, s237_28, s237_31, s237_34, s237_35, s237_36, s237_39, s237_42, s237_43, s237_44, s237_47, s237_48, s237_51, s237_52, s237_53, s237_54, s237_57, s237_60, s237_61, s237_62, s237_63, s237_66, s237_67, s237_70, s237_73, s237_74, s237_77, s237_78, s237_81, s237_84, s237_85, s237_86, s237_89, s237_91, s237_92, s237_94, s237_95, s237_99, s237_100, s237_103, s237_106, s237_108, s237_110, s237_111, s237_113, s237_116, s237_119, s237_120, s237_122, s237_123, s237_127, s237_129, s237_132, s237_133, s237_134, s237_136, s237_138, s237_141, s237_142, s237_145, s237_147, s237_149, s237_150, s237_153, s237_155, s237_157, s237_160, s237_162, s237_164, s237_165, s237_168, s237_169, s237_172, s237_175, s237_176, s237_179, s237_180, s237_183, s237_186, s237_189, s237_192, s237_193, s237_196, s237_197, s237_200, s237_203, s237_204, s237_207, s237_208, s237_211, s237_214, s237_215, s237_217, s237_218, s237_222, s237_224, s237_227, s237_228, s237_231, s237_233, s237_234, s237_236, s237_239, s237_242, s237_243, s237_246, s237_247, s237_248, s237_250, s237_251, s237_253, s237_256, s237_259, s237_261, s237_262, s237_265, s237_267, s237_268, s237_271, s237_273, s237_274, s237_275, s237_276, s237_279, s237_281, s237_282, s237_283, s237_284, s237_287, s237_290, s237_292, q_0, q_1, q_2, q_3, q_4, q_5, q_6, q_7, q_8, q_9, q_10, q_11, q_12, q_13, q_14, q_16, q_20, q_23, q_24, q_32, q_42, q_43, q_45, q_47, q_48, q_50, q_57, q_59, q_60, q_61, q_62, q_63, q_64, q_66, q_91, q_93, q_97, q_99, q_122, q_144, q_255, q_256, q_300, q_380, q_400, q_620, q_999, q_1000, q_4095, q_4096, q_9999, q_65536, q_99999, q_31, nI_add, pk_mul, nE, nL, nT, nM31, nShl, ib_nI, nI_clamp, bI_n0, bI_n1, bI_nar, uI_r, uI_l, uL_r, uL_i, uL_p, uA_r, uA_l, bV_some, bU_some, nar_n0, nar_n1, and_self, and_true, true_and, and_false, false_and, if_true, if_false, eq_self, Bool.false_eq_true, Bool.true_eq_false, not_true_eq_false, not_false_eq_true, ↓reduceIte, nlT, nlF, ntT, ntF, neT, neF, ieT, ieF, decide_true, decide_false, Bool.not_true, Bool.not_false, Bool.and_true, Bool.true_and, Bool.and_false, Bool.false_and, Bool.or_true, Bool.true_or, Bool.or_false, Bool.false_or, h.sc, nShr, g2, m_bits, e6, e7, nSub, e8]
              exact ⟨_, rfl, FM.rf, h⟩
            | true =>
              rw [e4] at e8
              have e4' : (decide (m < 2 ^ A 0 1) && decide (pop m ≤ 4) && true && true && !decide (k < -nI 1) && decide (k < nI (pop m))) = true := by
                rw [Bool.and_assoc, e4]
                simp [g1, g3]
              rw [h5, e4', if_pos rfl]
              simp only [Bool.and_eq_true, Bool.not_eq_true', decide_eq_false_iff_not, decide_eq_true_eq] at e4
              have hpos' := hpos
              rw [pop_24 (by omega)] at hpos g3
              rw [pop_12 (by omega)] at w2 w3
              have hk := k_v (n := ctp m 24) (by omega) e4.1 (by rw [← pop_24 (by omega)]; exact e4.2)
              have key := m_layGo h hw g1 hpos g3 w1 w2 w3 (by simpa using e3) hk
              have g3' : pop m ≤ 4 := by rw [pop_24 (by omega)]; exact g3
              simp (disch := omega) only [s237_0, s237_1, s237_2, s237_5, s237_6, s237_7, s237_10, s237_11, s237_12, s237_13, s237_16, s237_17, s237_20, s237_21, s237_24, s237_25, s237_26, s237_27, s237_28, s237_31, s237_34, s237_35, s237_36, s237_39, s237_42, s237_43, s237_44, s237_47, s237_48, s237_51, s237_52, s237_53, s237_54, s237_57, q_0, q_1, q_2, q_3, q_4, q_5, q_6, q_7, q_8, q_9, q_10, q_11, q_12, q_13, q_14, q_16, q_20, q_23, q_24, q_32, q_42, q_43, q_45, q_47, q_48, q_50, q_57, q_59, q_60, q_61, q_62, q_63, q_64, q_66, q_91, q_93, q_97, q_99, q_122, q_144, q_255, q_256, q_300, q_380, q_400, q_620, q_999, q_1000, q_4095, q_4096, q_9999, q_65536, q_99999, q_31, nI_add, pk_mul, nE, nL, nT, nM31, nShl, ib_nI, nI_clamp, bI_n0, bI_n1, bI_nar, uI_r, uI_l, uL_r, uL_i, uL_p, uA_r, uA_l, bV_some, bU_some, nar_n0, nar_n1, and_self, and_true, true_and, and_false, false_and, if_true, if_false, eq_self, Bool.false_eq_true, Bool.true_eq_false, not_true_eq_false, not_false_eq_true, ↓reduceIte, nlT, nlF, ntT, ntF, neT, neF, ieT, ieF, decide_true, decide_false, Bool.not_true, Bool.not_false, Bool.and_true, Bool.true_and, Bool.and_false, Bool.false_and, Bool.or_true, Bool.true_or, Bool.or_false, Bool.false_or, h.sc, nShr, g2, m_bits, e6, e7, nSub, e8]
              exact key
      · simp (disch := omega) only [s237_0, s237_1, s237_2, s237_5, s237_6, s237_7, s237_10, s237_11, s237_12, s237_13, s237_16, s237_17, s237_20, s237_21, s237_24, s237_25, s237_26, s237_27, s237_28, s237_31, s237_34, s237_35, s237_36, s237_39, s237_42, s237_43, s237_44, s237_47, s237_48, s237_51, s237_52, s237_53, s237_54, s237_57, s237_60, s237_61, s237_62, s237_63, s237_66, s237_67, s237_70, s237_73, s237_74, s237_77, s237_78, s237_81, s237_84, s237_85, s237_86, s237_89, s237_91, s237_92, s237_94, s237_95, s237_99, s237_100, s237_103, s237_106, s237_108, s237_110, s237_111, s237_113, s237_116, s237_119, s237_120, s237_122, s237_123, s237_127, s237_129, s237_132, s237_133, s237_134, s237_136, s237_138, s237_141, s237_142, s237_145, s237_147, s237_149, s237_150, s237_153, s237_155, s237_157, s237_160, s237_162, s237_164, s237_165, s237_168, s237_169, s237_172, s237_175, s237_176, s237_179, s237_180, s237_183, s237_186, s237_189, s237_192, s237_193, s237_196, s237_197, s237_200, s237_203, s237_204, s237_207, s237_208, s237_211, s237_214, s237_215, s237_217, s237_218, s237_222, s237_224, s237_227, s237_228, s237_231, s237_233, s237_234, s237_236, s237_239, s237_242, s237_243, s237_246, s237_247, s237_248, s237_250, s237_251, s237_253, s237_256, s237_259, s237_261, s237_262, s237_265, s237_267, s237_268, s237_271, s237_273, s237_274, s237_275, s237_276, s237_279, s237_281, s237_282, s237_283, s237_284, s237_287, s237_290, s237_292, q_0, q_1, q_2, q_3, q_4, q_5, q_6, q_7, q_8, q_9, q_10, q_11, q_12, q_13, q_14, q_16, q_20, q_23, q_24, q_32, q_42, q_43, q_45, q_47, q_48, q_50, q_57, q_59, q_60, q_61, q_62, q_63, q_64, q_66, q_91, q_93, q_97, q_99, q_122, q_144, q_255, q_256, q_300, q_380, q_400, q_620, q_999, q_1000, q_4095, q_4096, q_9999, q_65536, q_99999, q_31, nI_add, pk_mul, nE, nL, nT, nM31, nShl, ib_nI, nI_clamp, bI_n0, bI_n1, bI_nar, uI_r, uI_l, uL_r, uL_i, uL_p, uA_r, uA_l, bV_some, bU_some, nar_n0, nar_n1, and_self, and_true, true_and, and_false, false_and, if_true, if_false, eq_self, Bool.false_eq_true, Bool.true_eq_false, not_true_eq_false, not_false_eq_true, ↓reduceIte, nlT, nlF, ntT, ntF, neT, neF, ieT, ieF, decide_true, decide_false, Bool.not_true, Bool.not_false, Bool.and_true, Bool.true_and, Bool.and_false, Bool.false_and, Bool.or_true, Bool.true_or, Bool.or_false, Bool.false_or, h.sc, h5, nShr, g2, m_bits]
        exact ⟨_, rfl, FM.rf, h⟩
    · have g2 : ¬ m / 2 ^ A 0 1 = 0 := fun q => g1 (h3.mp q)
      simp (disch := omega) only [s237_0, s237_1, s237_2, s237_5, s237_6, s237_7, s237_10, s237_11, s237_12, s237_13, s237_16, s237_17, s237_20, s237_21, s237_24, s237_25, s237_26, s237_27, s237_28, s237_31, s237_34, s237_35, s237_36, s237_39, s237_42, s237_43, s237_44, s237_47, s237_48, s237_51, s237_52, s237_53, s237_54, s237_57, s237_60, s237_61, s237_62, s237_63, s237_66, s237_67, s237_70, s237_73, s237_74, s237_77, s237_78, s237_81, s237_84, s237_85, s237_86, s237_89, s237_91, s237_92, s237_94, s237_95, s237_99, s237_100, s237_103, s237_106, s237_108, s237_110, s237_111, s237_113, s237_116, s237_119, s237_120, s237_122, s237_123, s237_127, s237_129, s237_132, s237_133, s237_134, s237_136, s237_138, s237_141, s237_142, s237_145, s237_147, s237_149, s237_150, s237_153, s237_155, s237_157, s237_160, s237_162, s237_164, s237_165, s237_168, s237_169, s237_172, s237_175, s237_176, s237_179, s237_180, s237_183, s237_186, s237_189, s237_192, s237_193, s237_196, s237_197, s237_200, s237_203, s237_204, s237_207, s237_208, s237_211, s237_214, s237_215, s237_217, s237_218, s237_222, s237_224, s237_227, s237_228, s237_231, s237_233, s237_234, s237_236, s237_239, s237_242, s237_243, s237_246, s237_247, s237_248, s237_250, s237_251, s237_253, s237_256, s237_259, s237_261, s237_262, s237_265, s237_267, s237_268, s237_271, s237_273, s237_274, s237_275, s237_276, s237_279, s237_281, s237_282, s237_283, s237_284, s237_287, s237_290, s237_292, q_0, q_1, q_2, q_3, q_4, q_5, q_6, q_7, q_8, q_9, q_10, q_11, q_12, q_13, q_14, q_16, q_20, q_23, q_24, q_32, q_42, q_43, q_45, q_47, q_48, q_50, q_57, q_59, q_60, q_61, q_62, q_63, q_64, q_66, q_91, q_93, q_97, q_99, q_122, q_144, q_255, q_256, q_300, q_380, q_400, q_620, q_999, q_1000, q_4095, q_4096, q_9999, q_65536, q_99999, q_31, nI_add, pk_mul, nE, nL, nT, nM31, nShl, ib_nI, nI_clamp, bI_n0, bI_n1, bI_nar, uI_r, uI_l, uL_r, uL_i, uL_p, uA_r, uA_l, bV_some, bU_some, nar_n0, nar_n1, and_self, and_true, true_and, and_false, false_and, if_true, if_false, eq_self, Bool.false_eq_true, Bool.true_eq_false, not_true_eq_false, not_false_eq_true, ↓reduceIte, nlT, nlF, ntT, ntF, neT, neF, ieT, ieF, decide_true, decide_false, Bool.not_true, Bool.not_false, Bool.and_true, Bool.true_and, Bool.and_false, Bool.false_and, Bool.or_true, Bool.true_or, Bool.or_false, Bool.false_or, h.sc, h5, nShr, g2, m_bits]
      exact ⟨_, rfl, FM.rf, h⟩
