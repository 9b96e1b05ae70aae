/-! laws reckoned: the reference -/
section EW
variable {L : Lw} {W : Nat → Int64} {r : Nat}
theorem m_rk1 {S : Sto} {i to k n : Nat} {fr : Int32} {a6 a7 : av} {ts ts' : List Bool} {st : List Int64} (hr : r < 6) (hW : ∀ c, c < 11 → S.2.1 76 0 c = W c) (hc : S.1 68 0 (300 * r + i) = nI k ∧ S.1 69 0 (300 * r + i) = nI n) (hi : i < to) (hto : to ≤ 300) (h : tyO k n ts = some ts') (hv : tyV ts st) (hl : ts'.length ≤ 60) (hl0 : ts.length ≤ 60) (hs : stk (S.2.1 77 0) st) : ∃ S', run 197 0 6 [vR 50 0, vI (nI r), vI fr, vI (nI to), vI (nI st.length), vI (nI i), a6, a7] [] S = run 197 0 6 [vR 50 0, vI (nI r), vI fr, vI (nI to), vI (nI (evO W k n st).length), vI (nI (i + 1)), vI (nI k), vI (nI n)] [] S' ∧ Fr (pL [77]) S S' ∧ stk (S'.2.1 77 0) (evO W k n st) := by
  have hlen := tyV_len hv
  obtain ⟨c1, c2⟩ := hc
  rcases tyO_inv h with ⟨rfl, h1, rfl⟩ | ⟨rfl, h1, rfl⟩ | ⟨rfl, s, rfl, rfl⟩ | ⟨hb, x, y, s, rfl, rfl, h2⟩
  · rw [s197_6]
    simp (disch := omega) only [s197_0, s197_1, s197_3, s197_4, s197_8, s197_9, s197_12, s197_13, s197_16, s197_19, s197_20, s197_21, s197_23, s197_24, s197_25, s197_27, s197_28, s197_31, s197_34, s197_35, s197_36, s197_38, s197_39, s197_40, s197_42, s197_44, s197_47, s197_49, s197_50, s197_53, s197_54, s197_57, s197_59, s197_61, s197_64, s197_66, s197_67, s197_70, s197_71, s197_74, s197_76, s197_77, s197_78, s197_81, s197_84, s197_86, s197_88, s197_91, s197_92, s197_95, s197_97, s197_98, s197_99, s197_100, s197_101, s197_104, s197_106, s197_107, s197_108, s197_109, s197_110, s197_111, s197_114, s197_117, s197_118, s197_121, s197_123, s197_124, s197_125, s197_127, s197_128, s197_131, s197_133, s197_134, s197_135, s197_136, s197_137, s197_140, s197_142, s197_143, s197_146, s197_147, s197_150, s197_153, s197_154, s197_157, s197_158, s197_159, q_0, q_1, q_2, q_3, q_4, q_5, q_6, q_7, q_8, q_9, q_10, q_11, q_12, q_13, q_14, q_16, q_20, q_23, q_24, q_32, q_42, q_43, q_45, q_47, q_48, q_50, q_57, q_59, q_60, q_61, q_62, q_63, q_64, q_66, q_91, q_93, q_97, q_99, q_122, q_144, q_255, q_256, q_300, q_380, q_400, q_620, q_999, q_1000, q_4095, q_4096, q_9999, q_65536, q_99999, q_31, nI_add, pk_mul, nE, nL, nT, nM31, nShl, ib_nI, nI_clamp, bI_n0, bI_n1, bI_nar, uI_r, uI_l, uL_r, uL_i, uL_p, uA_r, uA_l, bV_some, bU_some, nar_n0, nar_n1, and_self, and_true, true_and, and_false, false_and, if_true, if_false, eq_self, Bool.false_eq_true, Bool.true_eq_false, not_true_eq_false, not_false_eq_true, ↓reduceIte, nlT, nlF, ntT, ntF, neT, neF, ieT, ieF, decide_true, decide_false, Bool.not_true, Bool.not_false, Bool.and_true, Bool.true_and, Bool.and_false, Bool.false_and, Bool.or_true, Bool.true_or, Bool.or_false, Bool.false_or, c1, c2]
    refine ⟨_, rfl, Fr.rfl'.uL rfl, ?_⟩
    rw [uL_row]
    exact ⟨by show (if st.length = st.length then _ else _) = _; rw [if_pos rfl], stk_u hs (Nat.le_refl _)⟩
  · rw [s197_6]
    simp (disch := omega) only [s197_0, s197_1, s197_3, s197_4, s197_8, s197_9, s197_12, s197_13, s197_16, s197_19, s197_20, s197_21, s197_23, s197_24, s197_25, s197_27, s197_28, s197_31, s197_34, s197_35, s197_36, s197_38, s197_39, s197_40, s197_42, s197_44, s197_47, s197_49, s197_50, s197_53, s197_54, s197_57, s197_59, s197_61, s197_64, s197_66, s197_67, s197_70, s197_71, s197_74, s197_76, s197_77, s197_78, s197_81, s197_84, s197_86, s197_88, s197_91, s197_92, s197_95, s197_97, s197_98, s197_99, s197_100, s197_101, s197_104, s197_106, s197_107, s197_108, s197_109, s197_110, s197_111, s197_114, s197_117, s197_118, s197_121, s197_123, s197_124, s197_125, s197_127, s197_128, s197_131, s197_133, s197_134, s197_135, s197_136, s197_137, s197_140, s197_142, s197_143, s197_146, s197_147, s197_150, s197_153, s197_154, s197_157, s197_158, s197_159, q_0, q_1, q_2, q_3, q_4, q_5, q_6, q_7, q_8, q_9, q_10, q_11, q_12, q_13, q_14, q_16, q_20, q_23, q_24, q_32, q_42, q_43, q_45, q_47, q_48, q_50, q_57, q_59, q_60, q_61, q_62, q_63, q_64, q_66, q_91, q_93, q_97, q_99, q_122, q_144, q_255, q_256, q_300, q_380, q_400, q_620, q_999, q_1000, q_4095, q_4096, q_9999, q_65536, q_99999, q_31, nI_add, pk_mul, nE, nL, nT, nM31, nShl, ib_nI, nI_clamp, bI_n0, bI_n1, bI_nar, uI_r, uI_l, uL_r, uL_i, uL_p, uA_r, uA_l, bV_some, bU_some, nar_n0, nar_n1, and_self, and_true, true_and, and_false, false_and, if_true, if_false, eq_self, Bool.false_eq_true, Bool.true_eq_false, not_true_eq_false, not_false_eq_true, ↓reduceIte, nlT, nlF, ntT, ntF, neT, neF, ieT, ieF, decide_true, decide_false, Bool.not_true, Bool.not_false, Bool.and_true, Bool.true_and, Bool.and_false, Bool.false_and, Bool.or_true, Bool.true_or, Bool.or_false, Bool.false_or, c1, c2, hW]
    refine ⟨_, rfl, Fr.rfl'.uL rfl, ?_⟩
    rw [uL_row]
    exact ⟨by show (if st.length = st.length then _ else _) = _; rw [if_pos rfl], stk_u hs (Nat.le_refl _)⟩
  · match st, hv, hs, hlen with
    | a :: q, hv, hs, hlen =>
      have hlen' : s.length = q.length := by simpa using hlen
      have hl0' : s.length + 1 ≤ 60 := hl0
      have e3 : (a :: q).length = q.length + 1 := rfl
      have e4 := hs.1
      rw [s197_6, e3]
      simp (disch := omega) only [s197_0, s197_1, s197_3, s197_4, s197_8, s197_9, s197_12, s197_13, s197_16, s197_19, s197_20, s197_21, s197_23, s197_24, s197_25, s197_27, s197_28, s197_31, s197_34, s197_35, s197_36, s197_38, s197_39, s197_40, s197_42, s197_44, s197_47, s197_49, s197_50, s197_53, s197_54, s197_57, s197_59, s197_61, s197_64, s197_66, s197_67, s197_70, s197_71, s197_74, s197_76, s197_77, s197_78, s197_81, s197_84, s197_86, s197_88, s197_91, s197_92, s197_95, s197_97, s197_98, s197_99, s197_100, s197_101, s197_104, s197_106, s197_107, s197_108, s197_109, s197_110, s197_111, s197_114, s197_117, s197_118, s197_121, s197_123, s197_124, s197_125, s197_127, s197_128, s197_131, s197_133, s197_134, s197_135, s197_136, s197_137, s197_140, s197_142, s197_143, s197_146, s197_147, s197_150, s197_153, s197_154, s197_157, s197_158, s197_159, q_0, q_1, q_2, q_3, q_4, q_5, q_6, q_7, q_8, q_9, q_10, q_11, q_12, q_13, q_14, q_16, q_20, q_23, q_24, q_32, q_42, q_43, q_45, q_47, q_48, q_50, q_57, q_59, q_60, q_61, q_62, q_63, q_64, q_66, q_91, q_93, q_97, q_99, q_122, q_144, q_255, q_256, q_300, q_380, q_400, q_620, q_999, q_1000, q_4095, q_4096, q_9999, q_65536, q_99999, q_31, nI_add, pk_mul, nE, nL, nT, nM31, nShl, ib_nI, nI_clamp, bI_n0, bI_n1, bI_nar, uI_r, uI_l, uL_r, uL_i, uL_p, uA_r, uA_l, bV_some, bU_some, nar_n0, nar_n1, and_self, and_true, true_and, and_false, false_and, if_true, if_false, eq_self, Bool.false_eq_true, Bool.true_eq_false, not_true_eq_false, not_false_eq_true, ↓reduceIte, nlT, nlF, ntT, ntF, neT, neF, ieT, ieF, decide_true, decide_false, Bool.not_true, Bool.not_false, Bool.and_true, Bool.true_and, Bool.and_false, Bool.false_and, Bool.or_true, Bool.true_or, Bool.or_false, Bool.false_or, c1, c2, nSub, Nat.add_sub_cancel, e4]
      refine ⟨_, rfl, Fr.rfl'.uL rfl, ?_⟩
      rw [uL_row]
      exact ⟨by show (if q.length = q.length then _ else _) = _; rw [if_pos rfl], stk_u hs.2 (Nat.le_refl _)⟩
  · match st, hv, hs, hlen with
    | b :: a :: q, hv, hs, hlen =>
      have hlen' : s.length = q.length := by simpa using hlen
      have hl0' : s.length + 1 + 1 ≤ 60 := hl0
      have e3 : (b :: a :: q).length = q.length + 2 := rfl
      have e4 : S.2.1 77 0 (q.length + 1) = b := hs.1
      have e5 : S.2.1 77 0 q.length = a := hs.2.1
      have e6 : q.length + 2 - 1 = q.length + 1 := by omega
      have e7 : q.length + 1 - 1 = q.length := by omega
      have hb' := hb
      unfold isBn at hb'
      rw [s197_6, e3, evO_bn hb]
      simp (disch := omega) only [s197_0, s197_1, s197_3, s197_4, s197_8, s197_9, s197_12, s197_13, s197_16, s197_19, s197_20, s197_21, s197_23, s197_24, s197_25, s197_27, s197_28, s197_31, s197_34, s197_35, s197_36, s197_38, s197_39, s197_40, s197_42, s197_44, s197_47, s197_49, s197_50, s197_53, s197_54, s197_57, s197_59, s197_61, s197_64, s197_66, s197_67, s197_70, s197_71, s197_74, s197_76, s197_77, s197_78, s197_81, s197_84, s197_86, s197_88, s197_91, s197_92, s197_95, s197_97, s197_98, s197_99, s197_100, s197_101, s197_104, s197_106, s197_107, s197_108, s197_109, s197_110, s197_111, s197_114, s197_117, s197_118, s197_121, s197_123, s197_124, s197_125, s197_127, s197_128, s197_131, s197_133, s197_134, s197_135, s197_136, s197_137, s197_140, s197_142, s197_143, s197_146, s197_147, s197_150, s197_153, s197_154, s197_157, s197_158, s197_159, q_0, q_1, q_2, q_3, q_4, q_5, q_6, q_7, q_8, q_9, q_10, q_11, q_12, q_13, q_14, q_16, q_20, q_23, q_24, q_32, q_42, q_43, q_45, q_47, q_48, q_50, q_57, q_59, q_60, q_61, q_62, q_63, q_64, q_66, q_91, q_93, q_97, q_99, q_122, q_144, q_255, q_256, q_300, q_380, q_400, q_620, q_999, q_1000, q_4095, q_4096, q_9999, q_65536, q_99999, q_31, nI_add, pk_mul, nE, nL, nT, nM31, nShl, ib_nI, nI_clamp, bI_n0, bI_n1, bI_nar, uI_r, uI_l, uL_r, uL_i, uL_p, uA_r, uA_l, bV_some, bU_some, nar_n0, nar_n1, and_self, and_true, true_and, and_false, false_and, if_true, if_false, eq_self, Bool.false_eq_true, Bool.true_eq_false, not_true_eq_false, not_false_eq_true, ↓reduceIte, nlT, nlF, ntT, ntF, neT, neF, ieT, ieF, decide_true, decide_false, Bool.not_true, Bool.not_false, Bool.and_true, Bool.true_and, Bool.and_false, Bool.false_and, Bool.or_true, Bool.true_or, Bool.or_false, Bool.false_or, c1, c2, nI_m1, nSub, e6, e7, e4, e5, fun S => m_both S hb]
      refine ⟨_, rfl, Fr.rfl'.uL rfl, ?_⟩
      rw [uL_row]
      exact ⟨by show (if q.length = q.length then _ else _) = _; rw [if_pos rfl], stk_u hs.2.2 (Nat.le_refl _)⟩
theorem m_answer {S : Sto} {e m : Nat} {ty : Bool} (hr : r < 6) (hW : ∀ c, c < 11 → S.2.1 76 0 c = W c) (hc : ∀ i, i < e + m → S.1 68 0 (300 * r + i) = nI (L 5 i) ∧ S.1 69 0 (300 * r + i) = nI (L 6 i)) (hto : e + m ≤ 300) (ht : tyR L m e [] = some [ty]) : ∃ S', call 197 0 [vR 50 0, vI (nI r), vI (nI e), vI (nI (e + m))] S = some (some (vL (pv L W e m)), S') ∧ Fr (pL [77]) S S' := by
  show ∃ S', run 197 0 0 [vR 50 0, vI (nI r), vI (nI e), vI (nI (e + m)), vU, vU, vU, vU] [] S = _ ∧ _
  simp (disch := omega) only [s197_0, s197_1, s197_3, s197_4, q_0, q_1, q_2, q_3, q_4, q_5, q_6, q_7, q_8, q_9, q_10, q_11, q_12, q_13, q_14, q_16, q_20, q_23, q_24, q_32, q_42, q_43, q_45, q_47, q_48, q_50, q_57, q_59, q_60, q_61, q_62, q_63, q_64, q_66, q_91, q_93, q_97, q_99, q_122, q_144, q_255, q_256, q_300, q_380, q_400, q_620, q_999, q_1000, q_4095, q_4096, q_9999, q_65536, q_99999, q_31, nI_add, pk_mul, nE, nL, nT, nM31, nShl, ib_nI, nI_clamp, bI_n0, bI_n1, bI_nar, uI_r, uI_l, uL_r, uL_i, uL_p, uA_r, uA_l, bV_some, bU_some, nar_n0, nar_n1, and_self, and_true, true_and, and_false, false_and, if_true, if_false, eq_self, Bool.false_eq_true, Bool.true_eq_false, not_true_eq_false, not_false_eq_true, ↓reduceIte, nlT, nlF, ntT, ntF, neT, neF, ieT, ieF, decide_true, decide_false, Bool.not_true, Bool.not_false, Bool.and_true, Bool.true_and, Bool.and_false, Bool.false_and, Bool.or_true, Bool.true_or, Bool.or_false, Bool.false_or]
  have key := upS (σ := (Sto × av × av) × List Int64 × List Bool) (I := fun j s => tyR L (m - j) (e + j) s.2.2 = some [ty] ∧ tyV s.2.2 s.2.1 ∧ s.2.2.length ≤ 60 ∧ evR L W (m - j) (e + j) s.2.1 = evR L W m e [] ∧ stk (s.1.1.2.1 77 0) s.2.1 ∧ Fr (pL [77]) S s.1.1) (F := fun j s => run 197 0 6 [vR 50 0, vI (nI r), vI (nI e), vI (nI (e + m)), vI (nI s.2.1.length), vI (nI (e + j)), s.1.2.1, s.1.2.2] [] s.1.1) (Q := fun x => ∃ S', x = some (some (vL (pv L W e m)), S') ∧ Fr (pL [77]) S S') (N := m) ?_ ?_ 0 ((S, vU, vU), [], []) (by omega) ⟨ht, trivial, by simp, rfl, trivial, Fr.rfl'⟩
  · exact key
  · intro j s hj hI
    obtain ⟨⟨S1, a6, a7⟩, st, ts⟩ := s
    obtain ⟨i1, i2, i3, i4, i5, i6⟩ := hI
    simp only at i1 i2 i3 i4 i5 i6
    have em : m - j = (m - (j + 1)) + 1 := by omega
    rw [em] at i1 i4
    obtain ⟨ts', t1, t2, t3⟩ := tyR_s i1
    obtain ⟨S2, r1, r2, r3⟩ := m_rk1 (W := W) (r := r) (S := S1) (i := e + j) (to := e + m) (fr := nI e) (a6 := a6) (a7 := a7) hr (fun c hcc => by rw [i6.l rfl]; exact hW c hcc) (by rw [i6.i rfl, i6.i rfl]; exact hc (e + j) (by omega)) (by omega) hto t1 i2 t2 i3 i5
    refine Or.inr ⟨((S2, vI (nI (L 5 (e + j))), vI (nI (L 6 (e + j)))), evO W (L 5 (e + j)) (L 6 (e + j)) st, ts'), ⟨t3, ty_step t1 i2, t2, ?_, r3, i6.tr r2⟩, r1⟩
    exact i4
  · intro s hI
    obtain ⟨⟨S1, a6, a7⟩, st, ts⟩ := s
    obtain ⟨i1, i2, i3, i4, i5, i6⟩ := hI
    simp only [Nat.sub_self] at i1 i2 i3 i4 i5 i6
    have e1 : ts = [ty] := Option.some.inj i1
    subst e1
    match st, i2, i4, i5 with
    | [v], i2, i4, i5 =>
      have ev : pv L W e m = v := by unfold pv; rw [← i4]; rfl
      have e2 : S1.2.1 77 0 0 = v := i5.1
      show ∃ S', run 197 0 6 [vR 50 0, vI (nI r), vI (nI e), vI (nI (e + m)), vI (nI 1), vI (nI (e + m)), a6, a7] [] S1 = _ ∧ _
      rw [s197_6]
      simp (disch := omega) only [s197_0, s197_1, s197_3, s197_4, s197_8, s197_9, s197_12, s197_13, s197_16, s197_19, s197_20, s197_21, s197_23, s197_24, s197_25, s197_27, s197_28, s197_31, s197_34, s197_35, s197_36, s197_38, s197_39, s197_40, s197_42, s197_44, s197_47, s197_49, s197_50, s197_53, s197_54, s197_57, s197_59, s197_61, s197_64, s197_66, s197_67, s197_70, s197_71, s197_74, s197_76, s197_77, s197_78, s197_81, s197_84, s197_86, s197_88, s197_91, s197_92, s197_95, s197_97, s197_98, s197_99, s197_100, s197_101, s197_104, s197_106, s197_107, s197_108, s197_109, s197_110, s197_111, s197_114, s197_117, s197_118, s197_121, s197_123, s197_124, s197_125, s197_127, s197_128, s197_131, s197_133, s197_134, s197_135, s197_136, s197_137, s197_140, s197_142, s197_143, s197_146, s197_147, s197_150, s197_153, s197_154, s197_157, s197_158, s197_159, q_0, q_1, q_2, q_3, q_4, q_5, q_6, q_7, q_8, q_9, q_10, q_11, q_12, q_13, q_14, q_16, q_20, q_23, q_24, q_32, q_42, q_43, q_45, q_47, q_48, q_50, q_57, q_59, q_60, q_61, q_62, q_63, q_64, q_66, q_91, q_93, q_97, q_99, q_122, q_144, q_255, q_256, q_300, q_380, q_400, q_620, q_999, q_1000, q_4095, q_4096, q_9999, q_65536, q_99999, q_31, nI_add, pk_mul, nE, nL, nT, nM31, nShl, ib_nI, nI_clamp, bI_n0, bI_n1, bI_nar, uI_r, uI_l, uL_r, uL_i, uL_p, uA_r, uA_l, bV_some, bU_some, nar_n0, nar_n1, and_self, and_true, true_and, and_false, false_and, if_true, if_false, eq_self, Bool.false_eq_true, Bool.true_eq_false, not_true_eq_false, not_false_eq_true, ↓reduceIte, nlT, nlF, ntT, ntF, neT, neF, ieT, ieF, decide_true, decide_false, Bool.not_true, Bool.not_false, Bool.and_true, Bool.true_and, Bool.and_false, Bool.false_and, Bool.or_true, Bool.true_or, Bool.or_false, Bool.false_or, e2, ev]
      exact ⟨_, rfl, i6⟩
theorem m_sumOf {S : Sto} {s : Nat} {d : Int64} (hr : r < 6) (hW : ∀ c, c < 11 → S.2.1 76 0 c = W c) (hL : RepLM S r L) (hf : WFL L) (hs : s < 5) : ∃ S', call 196 0 [vR 50 0, vI (nI r), vI (nI s), vL d] S = some (some (vL (sumL L W s d)), S') ∧ Fr (pL [77]) S S' := by
  obtain ⟨f1, f2, f3⟩ := hf
  show ∃ S', run 196 0 0 [vR 50 0, vI (nI r), vI (nI s), vL d, vU, vU] [] S = _ ∧ _
  simp (disch := omega) only [s196_0, s196_2, s196_3, s196_4, q_0, q_1, q_2, q_3, q_4, q_5, q_6, q_7, q_8, q_9, q_10, q_11, q_12, q_13, q_14, q_16, q_20, q_23, q_24, q_32, q_42, q_43, q_45, q_47, q_48, q_50, q_57, q_59, q_60, q_61, q_62, q_63, q_64, q_66, q_91, q_93, q_97, q_99, q_122, q_144, q_255, q_256, q_300, q_380, q_400, q_620, q_999, q_1000, q_4095, q_4096, q_9999, q_65536, q_99999, q_31, nI_add, pk_mul, nE, nL, nT, nM31, nShl, ib_nI, nI_clamp, bI_n0, bI_n1, bI_nar, uI_r, uI_l, uL_r, uL_i, uL_p, uA_r, uA_l, bV_some, bU_some, nar_n0, nar_n1, and_self, and_true, true_and, and_false, false_and, if_true, if_false, eq_self, Bool.false_eq_true, Bool.true_eq_false, not_true_eq_false, not_false_eq_true, ↓reduceIte, nlT, nlF, ntT, ntF, neT, neF, ieT, ieF, decide_true, decide_false, Bool.not_true, Bool.not_false, Bool.and_true, Bool.true_and, Bool.and_false, Bool.false_and, Bool.or_true, Bool.true_or, Bool.or_false, Bool.false_or]
  have key := upS (σ := Sto) (I := fun c S1 => sumF L W s d (L 0 0 - c) c = sumL L W s d ∧ Fr (pL [77]) S S1) (F := fun c S1 => run 196 0 6 [vR 50 0, vI (nI r), vI (nI s), vL d, vU, vI (nI (12 * r + c))] [] S1) (Q := fun x => ∃ S', x = some (some (vL (sumL L W s d)), S') ∧ Fr (pL [77]) S S') (N := L 0 0) ?_ ?_ 0 S (by omega) ⟨rfl, Fr.rfl'⟩
  · exact key
  · intro c S1 hc hI
    obtain ⟨i1, i2⟩ := hI
    obtain ⟨g1, g2, g3, g4, g5, g6⟩ := f3 c hc
    have hL1 : RepLM S1 r L := hL.fr (fun t _ _ => (i2 t 0 (by simp only [pL]; simp; omega)).1)
    obtain ⟨l1, l2, l3⟩ := hL1
    obtain ⟨k1, k2, k3, k4⟩ := l2 c hc
    have hW1 : ∀ c, c < 11 → S1.2.1 76 0 c = W c := fun c hcc => by rw [i2.l rfl]; exact hW c hcc
    have em : L 0 0 - c = (L 0 0 - (c + 1)) + 1 := by omega
    rw [em] at i1
    unfold sumF at i1
    show (∃ S', run 196 0 6 [vR 50 0, vI (nI r), vI (nI s), vL d, vU, vI (nI (12 * r + c))] [] S1 = _ ∧ _) ∨ ∃ s', _ ∧ run 196 0 6 [vR 50 0, vI (nI r), vI (nI s), vL d, vU, vI (nI (12 * r + c))] [] S1 = _
    by_cases e1 : L 1 c = s
    · by_cases e2 : L 3 c = L 4 c
      · rw [if_pos ⟨e1, Or.inl e2⟩] at i1
        obtain ⟨S2, r1, r2⟩ := m_answer (W := W) (r := r) (S := S1) (L := L) (e := L 2 c) (m := L 3 c - L 2 c) (ty := false) hr hW1 (fun i hi => l3 i (by omega)) (by omega) g5
        rw [show L 2 c + (L 3 c - L 2 c) = L 3 c by omega] at r1
        refine Or.inl ?_
        rw [s196_6]
        simp (disch := omega) only [s196_0, s196_2, s196_3, s196_4, s196_8, s196_10, s196_11, s196_12, s196_13, s196_16, s196_17, s196_18, s196_19, s196_22, s196_23, s196_26, s196_28, s196_29, s196_30, s196_33, s196_34, s196_37, s196_39, s196_40, s196_41, s196_44, s196_46, s196_47, s196_50, s196_51, s196_52, s196_53, s196_56, s196_58, s196_59, s196_60, s196_63, s196_65, s196_66, s196_69, s196_70, s196_71, s196_74, s196_75, s196_76, s196_77, s196_80, s196_82, s196_83, s196_84, s196_87, s196_89, s196_90, s196_93, s196_94, s196_97, s196_100, s196_101, q_0, q_1, q_2, q_3, q_4, q_5, q_6, q_7, q_8, q_9, q_10, q_11, q_12, q_13, q_14, q_16, q_20, q_23, q_24, q_32, q_42, q_43, q_45, q_47, q_48, q_50, q_57, q_59, q_60, q_61, q_62, q_63, q_64, q_66, q_91, q_93, q_97, q_99, q_122, q_144, q_255, q_256, q_300, q_380, q_400, q_620, q_999, q_1000, q_4095, q_4096, q_9999, q_65536, q_99999, q_31, nI_add, pk_mul, nE, nL, nT, nM31, nShl, ib_nI, nI_clamp, bI_n0, bI_n1, bI_nar, uI_r, uI_l, uL_r, uL_i, uL_p, uA_r, uA_l, bV_some, bU_some, nar_n0, nar_n1, and_self, and_true, true_and, and_false, false_and, if_true, if_false, eq_self, Bool.false_eq_true, Bool.true_eq_false, not_true_eq_false, not_false_eq_true, ↓reduceIte, nlT, nlF, ntT, ntF, neT, neF, ieT, ieF, decide_true, decide_false, Bool.not_true, Bool.not_false, Bool.and_true, Bool.true_and, Bool.and_false, Bool.false_and, Bool.or_true, Bool.true_or, Bool.or_false, Bool.false_or, l1, k1, k2, k3, k4, r1, i1]
        exact ⟨_, rfl, i2.tr r2⟩
      · have g7 := g6.resolve_left e2
        obtain ⟨S2, r1, r2⟩ := m_answer (W := W) (r := r) (S := S1) (L := L) (e := L 3 c) (m := L 4 c - L 3 c) (ty := true) hr hW1 (fun i hi => l3 i (by omega)) (by omega) g7
        rw [show L 3 c + (L 4 c - L 3 c) = L 4 c by omega] at r1
        have hL2 : RepLM S2 r L := hL.fr (fun t _ _ => ((i2.tr r2) t 0 (by simp only [pL]; simp; omega)).1)
        obtain ⟨l1', l2', l3'⟩ := hL2
        obtain ⟨k1', k2', k3', k4'⟩ := l2' c hc
        have hW2 : ∀ c, c < 11 → S2.2.1 76 0 c = W c := fun c hcc => by rw [(i2.tr r2).l rfl]; exact hW c hcc
        obtain ⟨S3, q1, q2⟩ := m_answer (W := W) (r := r) (S := S2) (L := L) (e := L 2 c) (m := L 3 c - L 2 c) (ty := false) hr hW2 (fun i hi => l3' i (by omega)) (by omega) g5
        rw [show L 2 c + (L 3 c - L 2 c) = L 3 c by omega] at q1
        rcases pv_01 (W := W) g7 with z | z
        · rw [if_neg (fun q => q.2.elim e2 (fun q => by rw [z] at q; exact absurd q (by decide)))] at i1
          have z0 : ((0 : Int64) = 1) = False := eq_false (by decide)
          refine Or.inr ⟨S2, ⟨i1, i2.tr r2⟩, ?_⟩
          rw [s196_6]
          simp (disch := omega) only [s196_0, s196_2, s196_3, s196_4, s196_8, s196_10, s196_11, s196_12, s196_13, s196_16, s196_17, s196_18, s196_19, s196_22, s196_23, s196_26, s196_28, s196_29, s196_30, s196_33, s196_34, s196_37, s196_39, s196_40, s196_41, s196_44, s196_46, s196_47, s196_50, s196_51, s196_52, s196_53, s196_56, s196_58, s196_59, s196_60, s196_63, s196_65, s196_66, s196_69, s196_70, s196_71, s196_74, s196_75, s196_76, s196_77, s196_80, s196_82, s196_83, s196_84, s196_87, s196_89, s196_90, s196_93, s196_94, s196_97, s196_100, s196_101, q_0, q_1, q_2, q_3, q_4, q_5, q_6, q_7, q_8, q_9, q_10, q_11, q_12, q_13, q_14, q_16, q_20, q_23, q_24, q_32, q_42, q_43, q_45, q_47, q_48, q_50, q_57, q_59, q_60, q_61, q_62, q_63, q_64, q_66, q_91, q_93, q_97, q_99, q_122, q_144, q_255, q_256, q_300, q_380, q_400, q_620, q_999, q_1000, q_4095, q_4096, q_9999, q_65536, q_99999, q_31, nI_add, pk_mul, nE, nL, nT, nM31, nShl, ib_nI, nI_clamp, bI_n0, bI_n1, bI_nar, uI_r, uI_l, uL_r, uL_i, uL_p, uA_r, uA_l, bV_some, bU_some, nar_n0, nar_n1, and_self, and_true, true_and, and_false, false_and, if_true, if_false, eq_self, Bool.false_eq_true, Bool.true_eq_false, not_true_eq_false, not_false_eq_true, ↓reduceIte, nlT, nlF, ntT, ntF, neT, neF, ieT, ieF, decide_true, decide_false, Bool.not_true, Bool.not_false, Bool.and_true, Bool.true_and, Bool.and_false, Bool.false_and, Bool.or_true, Bool.true_or, Bool.or_false, Bool.false_or, l1, k1, k2, k3, k4, r1, z, lc_eqn, z0]
          rfl
        · rw [if_pos ⟨e1, Or.inr z⟩] at i1
          refine Or.inl ?_
          rw [s196_6]
          simp (disch := omega) only [s196_0, s196_2, s196_3, s196_4, s196_8, s196_10, s196_11, s196_12, s196_13, s196_16, s196_17, s196_18, s196_19, s196_22, s196_23, s196_26, s196_28, s196_29, s196_30, s196_33, s196_34, s196_37, s196_39, s196_40, s196_41, s196_44, s196_46, s196_47, s196_50, s196_51, s196_52, s196_53, s196_56, s196_58, s196_59, s196_60, s196_63, s196_65, s196_66, s196_69, s196_70, s196_71, s196_74, s196_75, s196_76, s196_77, s196_80, s196_82, s196_83, s196_84, s196_87, s196_89, s196_90, s196_93, s196_94, s196_97, s196_100, s196_101, q_0, q_1, q_2, q_3, q_4, q_5, q_6, q_7, q_8, q_9, q_10, q_11, q_12, q_13, q_14, q_16, q_20, q_23, q_24, q_32, q_42, q_43, q_45, q_47, q_48, q_50, q_57, q_59, q_60, q_61, q_62, q_63, q_64, q_66, q_91, q_93, q_97, q_99, q_122, q_144, q_255, q_256, q_300, q_380, q_400, q_620, q_999, q_1000, q_4095, q_4096, q_9999, q_65536, q_99999, q_31, nI_add, pk_mul, nE, nL, nT, nM31, nShl, ib_nI, nI_clamp, bI_n0, bI_n1, bI_nar, uI_r, uI_l, uL_r, uL_i, uL_p, uA_r, uA_l, bV_some, bU_some, nar_n0, nar_n1, and_self, and_true, true_and, and_false, false_and, if_true, if_false, eq_self, Bool.false_eq_true, Bool.true_eq_false, not_true_eq_false, not_false_eq_true, ↓reduceIte, nlT, nlF, ntT, ntF, neT, neF, ieT, ieF, decide_true, decide_false, Bool.not_true, Bool.not_false, Bool.and_true, Bool.true_and, Bool.and_false, Bool.false_and, Bool.or_true, Bool.true_or, Bool.or_false, Bool.false_or, l1, k1, k2, k3, k4, r1, z, lc_eqn, k2', k3', q1, i1]
          exact ⟨_, rfl, (i2.tr r2).tr q2⟩
    · rw [if_neg (fun q => e1 q.1)] at i1
      refine Or.inr ⟨S1, ⟨i1, i2⟩, ?_⟩
      rw [s196_6]
      simp (disch := omega) only [s196_0, s196_2, s196_3, s196_4, s196_8, s196_10, s196_11, s196_12, s196_13, s196_16, s196_17, s196_18, s196_19, s196_22, s196_23, s196_26, s196_28, s196_29, s196_30, s196_33, s196_34, s196_37, s196_39, s196_40, s196_41, s196_44, s196_46, s196_47, s196_50, s196_51, s196_52, s196_53, s196_56, s196_58, s196_59, s196_60, s196_63, s196_65, s196_66, s196_69, s196_70, s196_71, s196_74, s196_75, s196_76, s196_77, s196_80, s196_82, s196_83, s196_84, s196_87, s196_89, s196_90, s196_93, s196_94, s196_97, s196_100, s196_101, q_0, q_1, q_2, q_3, q_4, q_5, q_6, q_7, q_8, q_9, q_10, q_11, q_12, q_13, q_14, q_16, q_20, q_23, q_24, q_32, q_42, q_43, q_45, q_47, q_48, q_50, q_57, q_59, q_60, q_61, q_62, q_63, q_64, q_66, q_91, q_93, q_97, q_99, q_122, q_144, q_255, q_256, q_300, q_380, q_400, q_620, q_999, q_1000, q_4095, q_4096, q_9999, q_65536, q_99999, q_31, nI_add, pk_mul, nE, nL, nT, nM31, nShl, ib_nI, nI_clamp, bI_n0, bI_n1, bI_nar, uI_r, uI_l, uL_r, uL_i, uL_p, uA_r, uA_l, bV_some, bU_some, nar_n0, nar_n1, and_self, and_true, true_and, and_false, false_and, if_true, if_false, eq_self, Bool.false_eq_true, Bool.true_eq_false, not_true_eq_false, not_false_eq_true, ↓reduceIte, nlT, nlF, ntT, ntF, neT, neF, ieT, ieF, decide_true, decide_false, Bool.not_true, Bool.not_false, Bool.and_true, Bool.true_and, Bool.and_false, Bool.false_and, Bool.or_true, Bool.true_or, Bool.or_false, Bool.false_or, l1, k1, k2, k3, k4]
      rfl
  · intro S1 hI
    obtain ⟨i1, i2⟩ := hI
    rw [Nat.sub_self] at i1
    have hL1 : RepLM S1 r L := hL.fr (fun t _ _ => (i2 t 0 (by simp only [pL]; simp; omega)).1)
    have l1 := hL1.1
    have i1' : d = sumL L W s d := i1
    show ∃ S', run 196 0 6 [vR 50 0, vI (nI r), vI (nI s), vL d, vU, vI (nI (12 * r + L 0 0))] [] S1 = _ ∧ _
    rw [s196_6, ← i1']
    simp (disch := omega) only [s196_0, s196_2, s196_3, s196_4, s196_8, s196_10, s196_11, s196_12, s196_13, s196_16, s196_17, s196_18, s196_19, s196_22, s196_23, s196_26, s196_28, s196_29, s196_30, s196_33, s196_34, s196_37, s196_39, s196_40, s196_41, s196_44, s196_46, s196_47, s196_50, s196_51, s196_52, s196_53, s196_56, s196_58, s196_59, s196_60, s196_63, s196_65, s196_66, s196_69, s196_70, s196_71, s196_74, s196_75, s196_76, s196_77, s196_80, s196_82, s196_83, s196_84, s196_87, s196_89, s196_90, s196_93, s196_94, s196_97, s196_100, s196_101, q_0, q_1, q_2, q_3, q_4, q_5, q_6, q_7, q_8, q_9, q_10, q_11, q_12, q_13, q_14, q_16, q_20, q_23, q_24, q_32, q_42, q_43, q_45, q_47, q_48, q_50, q_57, q_59, q_60, q_61, q_62, q_63, q_64, q_66, q_91, q_93, q_97, q_99, q_122, q_144, q_255, q_256, q_300, q_380, q_400, q_620, q_999, q_1000, q_4095, q_4096, q_9999, q_65536, q_99999, q_31, nI_add, pk_mul, nE, nL, nT, nM31, nShl, ib_nI, nI_clamp, bI_n0, bI_n1, bI_nar, uI_r, uI_l, uL_r, uL_i, uL_p, uA_r, uA_l, bV_some, bU_some, nar_n0, nar_n1, and_self, and_true, true_and, and_false, false_and, if_true, if_false, eq_self, Bool.false_eq_true, Bool.true_eq_false, not_true_eq_false, not_false_eq_true, ↓reduceIte, nlT, nlF, ntT, ntF, neT, neF, ieT, ieF, decide_true, decide_false, Bool.not_true, Bool.not_false, Bool.and_true, Bool.true_and, Bool.and_false, Bool.false_and, Bool.or_true, Bool.true_or, Bool.or_false, Bool.false_or, l1]
    exact ⟨_, rfl, i2⟩
end EW
