/-! the class reads a SUM -/
def wI (w : Nat) : Int32 := match w with
  | 0 => nI 0
  | 2 => -nI 43
  | _ => -nI 45
theorem z43 : (-nI 43 = nI 0) = False := by decide
theorem z45 : (-nI 45 = nI 0) = False := by decide
theorem x_sumE {T : Tp} {r : Nat} {S : Sto} {st : Ps} {w : Nat} (h : CP T r S st) (hw : w = 0 ∨ w = 2 ∨ w = 3) (hl : st.2.2.length < 400) (a2 a3 a4 : av) : RC T r S (run 61 0 126 [vR 24 0, vI (wI w), a2, a3, a4] [] S) (Sum.inr (st.1, st.2.1, st.2.2 ++ wl w)) := by
  rcases hw with rfl | rfl | rfl
  · show RC T r S (run 61 0 126 [vR 24 0, vI (nI 0), a2, a3, a4] [] S) (Sum.inr (st.1, st.2.1, st.2.2 ++ []))
    rw [List.append_nil]
    simp only [s61_126, s61_127, s61_138, s61_139, q_0, q_1, q_2, q_3, q_4, q_5, q_6, q_7, q_8, q_9, q_10, q_11, q_12, q_13, q_14, q_16, q_20, q_23, q_24, q_32, q_42, q_43, q_45, q_47, q_48, q_50, q_57, q_59, q_60, q_61, q_62, q_63, q_64, q_66, q_91, q_93, q_97, q_99, q_122, q_144, q_255, q_256, q_300, q_380, q_400, q_620, q_999, q_1000, q_4095, q_4096, q_9999, q_65536, q_99999, q_31, nI_add, pk_mul, nE, nL, nT, nM31, nShl, ib_nI, nI_clamp, bI_n0, bI_n1, bI_nar, uI_r, uI_l, uL_r, uL_i, uL_p, uA_r, uA_l, bV_some, bU_some, nar_n0, nar_n1, and_self, and_true, true_and, and_false, false_and, if_true, if_false, eq_self, Bool.false_eq_true, Bool.true_eq_false, not_true_eq_false, not_false_eq_true, ↓reduceIte, nlT, nlF, ntT, ntF, neT, neF, ieT, ieF, decide_true, decide_false, Bool.not_true, Bool.not_false, Bool.and_true, Bool.true_and, Bool.and_false, Bool.false_and, Bool.or_true, Bool.true_or, Bool.or_false, Bool.false_or]
    exact RC.ok h CF.rf
  · obtain ⟨S', e1, e2, e3⟩ := h.em 2 0 hl
    have e1' : call 12 0 [vR 17 r, vI (-nI 43)] S = some (none, S') := e1
    show RC T r S (run 61 0 126 [vR 24 0, vI (-nI 43), a2, a3, a4] [] S) (Sum.inr (st.1, st.2.1, st.2.2 ++ [(2, 0)]))
    simp only [s61_126, s61_127, s61_130, q_0, q_1, q_2, q_3, q_4, q_5, q_6, q_7, q_8, q_9, q_10, q_11, q_12, q_13, q_14, q_16, q_20, q_23, q_24, q_32, q_42, q_43, q_45, q_47, q_48, q_50, q_57, q_59, q_60, q_61, q_62, q_63, q_64, q_66, q_91, q_93, q_97, q_99, q_122, q_144, q_255, q_256, q_300, q_380, q_400, q_620, q_999, q_1000, q_4095, q_4096, q_9999, q_65536, q_99999, q_31, nI_add, pk_mul, nE, nL, nT, nM31, nShl, ib_nI, nI_clamp, bI_n0, bI_n1, bI_nar, uI_r, uI_l, uL_r, uL_i, uL_p, uA_r, uA_l, bV_some, bU_some, nar_n0, nar_n1, and_self, and_true, true_and, and_false, false_and, if_true, if_false, eq_self, Bool.false_eq_true, Bool.true_eq_false, not_true_eq_false, not_false_eq_true, ↓reduceIte, nlT, nlF, ntT, ntF, neT, neF, ieT, ieF, decide_true, decide_false, Bool.not_true, Bool.not_false, Bool.and_true, Bool.true_and, Bool.and_false, Bool.false_and, Bool.or_true, Bool.true_or, Bool.or_false, Bool.false_or, z43]
    rw [s61_131 (w := r) (hw := h.2.2.2.2.1)]
    simp only [s61_134, s61_135, s61_138, s61_139, q_0, q_1, q_2, q_3, q_4, q_5, q_6, q_7, q_8, q_9, q_10, q_11, q_12, q_13, q_14, q_16, q_20, q_23, q_24, q_32, q_42, q_43, q_45, q_47, q_48, q_50, q_57, q_59, q_60, q_61, q_62, q_63, q_64, q_66, q_91, q_93, q_97, q_99, q_122, q_144, q_255, q_256, q_300, q_380, q_400, q_620, q_999, q_1000, q_4095, q_4096, q_9999, q_65536, q_99999, q_31, nI_add, pk_mul, nE, nL, nT, nM31, nShl, ib_nI, nI_clamp, bI_n0, bI_n1, bI_nar, uI_r, uI_l, uL_r, uL_i, uL_p, uA_r, uA_l, bV_some, bU_some, nar_n0, nar_n1, and_self, and_true, true_and, and_false, false_and, if_true, if_false, eq_self, Bool.false_eq_true, Bool.true_eq_false, not_true_eq_false, not_false_eq_true, ↓reduceIte, nlT, nlF, ntT, ntF, neT, neF, ieT, ieF, decide_true, decide_false, Bool.not_true, Bool.not_false, Bool.and_true, Bool.true_and, Bool.and_false, Bool.false_and, Bool.or_true, Bool.true_or, Bool.or_false, Bool.false_or, e1']
    exact RC.ok e3 e2
  · obtain ⟨S', e1, e2, e3⟩ := h.em 3 0 hl
    have e1' : call 12 0 [vR 17 r, vI (-nI 45)] S = some (none, S') := e1
    show RC T r S (run 61 0 126 [vR 24 0, vI (-nI 45), a2, a3, a4] [] S) (Sum.inr (st.1, st.2.1, st.2.2 ++ [(3, 0)]))
    simp only [s61_126, s61_127, s61_130, q_0, q_1, q_2, q_3, q_4, q_5, q_6, q_7, q_8, q_9, q_10, q_11, q_12, q_13, q_14, q_16, q_20, q_23, q_24, q_32, q_42, q_43, q_45, q_47, q_48, q_50, q_57, q_59, q_60, q_61, q_62, q_63, q_64, q_66, q_91, q_93, q_97, q_99, q_122, q_144, q_255, q_256, q_300, q_380, q_400, q_620, q_999, q_1000, q_4095, q_4096, q_9999, q_65536, q_99999, q_31, nI_add, pk_mul, nE, nL, nT, nM31, nShl, ib_nI, nI_clamp, bI_n0, bI_n1, bI_nar, uI_r, uI_l, uL_r, uL_i, uL_p, uA_r, uA_l, bV_some, bU_some, nar_n0, nar_n1, and_self, and_true, true_and, and_false, false_and, if_true, if_false, eq_self, Bool.false_eq_true, Bool.true_eq_false, not_true_eq_false, not_false_eq_true, ↓reduceIte, nlT, nlF, ntT, ntF, neT, neF, ieT, ieF, decide_true, decide_false, Bool.not_true, Bool.not_false, Bool.and_true, Bool.true_and, Bool.and_false, Bool.false_and, Bool.or_true, Bool.true_or, Bool.or_false, Bool.false_or, z45]
    rw [s61_131 (w := r) (hw := h.2.2.2.2.1)]
    simp only [s61_134, s61_135, s61_138, s61_139, q_0, q_1, q_2, q_3, q_4, q_5, q_6, q_7, q_8, q_9, q_10, q_11, q_12, q_13, q_14, q_16, q_20, q_23, q_24, q_32, q_42, q_43, q_45, q_47, q_48, q_50, q_57, q_59, q_60, q_61, q_62, q_63, q_64, q_66, q_91, q_93, q_97, q_99, q_122, q_144, q_255, q_256, q_300, q_380, q_400, q_620, q_999, q_1000, q_4095, q_4096, q_9999, q_65536, q_99999, q_31, nI_add, pk_mul, nE, nL, nT, nM31, nShl, ib_nI, nI_clamp, bI_n0, bI_n1, bI_nar, uI_r, uI_l, uL_r, uL_i, uL_p, uA_r, uA_l, bV_some, bU_some, nar_n0, nar_n1, and_self, and_true, true_and, and_false, false_and, if_true, if_false, eq_self, Bool.false_eq_true, Bool.true_eq_false, not_true_eq_false, not_false_eq_true, ↓reduceIte, nlT, nlF, ntT, ntF, neT, neF, ieT, ieF, decide_true, decide_false, Bool.not_true, Bool.not_false, Bool.and_true, Bool.true_and, Bool.and_false, Bool.false_and, Bool.or_true, Bool.true_or, Bool.or_false, Bool.false_or, e1']
    exact RC.ok e3 e2
theorem x_sumW {T : Tp} {r : Nat} {S : Sto} {st : Ps} {w : Nat} (h : CP T r S st) (hw : w = 0 ∨ w = 2 ∨ w = 3) (hl : st.2.2.length < 400) (a2 a3 : av) : ∃ S', CF r S S' ∧ CP T r S' (st.1, st.2.1, st.2.2 ++ wl w) ∧ run 61 0 74 [vR 24 0, vI (wI w), a2, a3, vI (nI 1)] [] S = run 61 0 91 [vR 24 0, vI (wI w), a2, a3, vI (nI 1)] [] S' := by
  rcases hw with rfl | rfl | rfl
  · refine ⟨S, CF.rf, ?_, ?_⟩
    · show CP T r S (st.1, st.2.1, st.2.2 ++ [])
      rw [List.append_nil]
      exact h
    · show run 61 0 74 [vR 24 0, vI (nI 0), a2, a3, vI (nI 1)] [] S = run 61 0 91 [vR 24 0, vI (nI 0), a2, a3, vI (nI 1)] [] S
      simp (disch := omega) only [s61_74, s61_76, s61_79, s61_80, q_0, q_1, q_2, q_3, q_4, q_5, q_6, q_7, q_8, q_9, q_10, q_11, q_12, q_13, q_14, q_16, q_20, q_23, q_24, q_32, q_42, q_43, q_45, q_47, q_48, q_50, q_57, q_59, q_60, q_61, q_62, q_63, q_64, q_66, q_91, q_93, q_97, q_99, q_122, q_144, q_255, q_256, q_300, q_380, q_400, q_620, q_999, q_1000, q_4095, q_4096, q_9999, q_65536, q_99999, q_31, nI_add, pk_mul, nE, nL, nT, nM31, nShl, ib_nI, nI_clamp, bI_n0, bI_n1, bI_nar, uI_r, uI_l, uL_r, uL_i, uL_p, uA_r, uA_l, bV_some, bU_some, nar_n0, nar_n1, and_self, and_true, true_and, and_false, false_and, if_true, if_false, eq_self, Bool.false_eq_true, Bool.true_eq_false, not_true_eq_false, not_false_eq_true, ↓reduceIte, nlT, nlF, ntT, ntF, neT, neF, ieT, ieF, decide_true, decide_false, Bool.not_true, Bool.not_false, Bool.and_true, Bool.true_and, Bool.and_false, Bool.false_and, Bool.or_true, Bool.true_or, Bool.or_false, Bool.false_or]
  · obtain ⟨S', e1, e2, e3⟩ := h.em 2 0 hl
    have e1' : call 12 0 [vR 17 r, vI (-nI 43)] S = some (none, S') := e1
    refine ⟨S', e2, e3, ?_⟩
    show run 61 0 74 [vR 24 0, vI (-nI 43), a2, a3, vI (nI 1)] [] S = run 61 0 91 [vR 24 0, vI (-nI 43), a2, a3, vI (nI 1)] [] S'
    simp (disch := omega) only [s61_74, s61_76, s61_79, s61_80, s61_83, q_0, q_1, q_2, q_3, q_4, q_5, q_6, q_7, q_8, q_9, q_10, q_11, q_12, q_13, q_14, q_16, q_20, q_23, q_24, q_32, q_42, q_43, q_45, q_47, q_48, q_50, q_57, q_59, q_60, q_61, q_62, q_63, q_64, q_66, q_91, q_93, q_97, q_99, q_122, q_144, q_255, q_256, q_300, q_380, q_400, q_620, q_999, q_1000, q_4095, q_4096, q_9999, q_65536, q_99999, q_31, nI_add, pk_mul, nE, nL, nT, nM31, nShl, ib_nI, nI_clamp, bI_n0, bI_n1, bI_nar, uI_r, uI_l, uL_r, uL_i, uL_p, uA_r, uA_l, bV_some, bU_some, nar_n0, nar_n1, and_self, and_true, true_and, and_false, false_and, if_true, if_false, eq_self, Bool.false_eq_true, Bool.true_eq_false, not_true_eq_false, not_false_eq_true, ↓reduceIte, nlT, nlF, ntT, ntF, neT, neF, ieT, ieF, decide_true, decide_false, Bool.not_true, Bool.not_false, Bool.and_true, Bool.true_and, Bool.and_false, Bool.false_and, Bool.or_true, Bool.true_or, Bool.or_false, Bool.false_or, z43]
    rw [s61_84 (w := r) (hw := h.2.2.2.2.1)]
    simp (disch := omega) only [s61_87, s61_88, q_0, q_1, q_2, q_3, q_4, q_5, q_6, q_7, q_8, q_9, q_10, q_11, q_12, q_13, q_14, q_16, q_20, q_23, q_24, q_32, q_42, q_43, q_45, q_47, q_48, q_50, q_57, q_59, q_60, q_61, q_62, q_63, q_64, q_66, q_91, q_93, q_97, q_99, q_122, q_144, q_255, q_256, q_300, q_380, q_400, q_620, q_999, q_1000, q_4095, q_4096, q_9999, q_65536, q_99999, q_31, nI_add, pk_mul, nE, nL, nT, nM31, nShl, ib_nI, nI_clamp, bI_n0, bI_n1, bI_nar, uI_r, uI_l, uL_r, uL_i, uL_p, uA_r, uA_l, bV_some, bU_some, nar_n0, nar_n1, and_self, and_true, true_and, and_false, false_and, if_true, if_false, eq_self, Bool.false_eq_true, Bool.true_eq_false, not_true_eq_false, not_false_eq_true, ↓reduceIte, nlT, nlF, ntT, ntF, neT, neF, ieT, ieF, decide_true, decide_false, Bool.not_true, Bool.not_false, Bool.and_true, Bool.true_and, Bool.and_false, Bool.false_and, Bool.or_true, Bool.true_or, Bool.or_false, Bool.false_or, e1']
  · obtain ⟨S', e1, e2, e3⟩ := h.em 3 0 hl
    have e1' : call 12 0 [vR 17 r, vI (-nI 45)] S = some (none, S') := e1
    refine ⟨S', e2, e3, ?_⟩
    show run 61 0 74 [vR 24 0, vI (-nI 45), a2, a3, vI (nI 1)] [] S = run 61 0 91 [vR 24 0, vI (-nI 45), a2, a3, vI (nI 1)] [] S'
    simp (disch := omega) only [s61_74, s61_76, s61_79, s61_80, s61_83, q_0, q_1, q_2, q_3, q_4, q_5, q_6, q_7, q_8, q_9, q_10, q_11, q_12, q_13, q_14, q_16, q_20, q_23, q_24, q_32, q_42, q_43, q_45, q_47, q_48, q_50, q_57, q_59, q_60, q_61, q_62, q_63, q_64, q_66, q_91, q_93, q_97, q_99, q_122, q_144, q_255, q_256, q_300, q_380, q_400, q_620, q_999, q_1000, q_4095, q_4096, q_9999, q_65536, q_99999, q_31, nI_add, pk_mul, nE, nL, nT, nM31, nShl, ib_nI, nI_clamp, bI_n0, bI_n1, bI_nar, uI_r, uI_l, uL_r, uL_i, uL_p, uA_r, uA_l, bV_some, bU_some, nar_n0, nar_n1, and_self, and_true, true_and, and_false, false_and, if_true, if_false, eq_self, Bool.false_eq_true, Bool.true_eq_false, not_true_eq_false, not_false_eq_true, ↓reduceIte, nlT, nlF, ntT, ntF, neT, neF, ieT, ieF, decide_true, decide_false, Bool.not_true, Bool.not_false, Bool.and_true, Bool.true_and, Bool.and_false, Bool.false_and, Bool.or_true, Bool.true_or, Bool.or_false, Bool.false_or, z45]
    rw [s61_84 (w := r) (hw := h.2.2.2.2.1)]
    simp (disch := omega) only [s61_87, s61_88, q_0, q_1, q_2, q_3, q_4, q_5, q_6, q_7, q_8, q_9, q_10, q_11, q_12, q_13, q_14, q_16, q_20, q_23, q_24, q_32, q_42, q_43, q_45, q_47, q_48, q_50, q_57, q_59, q_60, q_61, q_62, q_63, q_64, q_66, q_91, q_93, q_97, q_99, q_122, q_144, q_255, q_256, q_300, q_380, q_400, q_620, q_999, q_1000, q_4095, q_4096, q_9999, q_65536, q_99999, q_31, nI_add, pk_mul, nE, nL, nT, nM31, nShl, ib_nI, nI_clamp, bI_n0, bI_n1, bI_nar, uI_r, uI_l, uL_r, uL_i, uL_p, uA_r, uA_l, bV_some, bU_some, nar_n0, nar_n1, and_self, and_true, true_and, and_false, false_and, if_true, if_false, eq_self, Bool.false_eq_true, Bool.true_eq_false, not_true_eq_false, not_false_eq_true, ↓reduceIte, nlT, nlF, ntT, ntF, neT, neF, ieT, ieF, decide_true, decide_false, Bool.not_true, Bool.not_false, Bool.and_true, Bool.true_and, Bool.and_false, Bool.false_and, Bool.or_true, Bool.true_or, Bool.or_false, Bool.false_or, e1']
theorem wl_l (w : Nat) : (wl w).length ≤ 1 := by
  unfold wl
  split
  · exact Nat.zero_le _
  · exact Nat.le_refl _
theorem wl_l1 {w : Nat} (h : w ≠ 0) : (wl w).length = 1 := by
  unfold wl
  rw [if_neg h]
  rfl
theorem adK_w (T : Tp) (b : Nat) : adK T b = 0 ∨ adK T b = 2 ∨ adK T b = 3 := by
  unfold adK
  split <;> simp
theorem adK_I {T : Tp} {b : Nat} (h : adP T b) : -nI (T.2 b) = wI (adK T b) := by
  rcases h.2 with q | q <;> (unfold adK; rw [q]; rfl)
theorem mdK_I {T : Tp} {b : Nat} (h : mdP T b) : -nI (T.2 b) = enc (mdK T b) 0 := by
  rcases h.2 with q | q <;> (unfold mdK; rw [q]; rfl)
theorem pV_len {T : Tp} {p s : Ps} (h : Oc T false p s) (n : Nat) (hn : 3 * (p.2.2.length + n) ≤ 6 * p.2.1 + p.1) : 3 * (s.2.2.length + n + 1) ≤ 6 * s.2.1 + s.1 + 1 := by
  obtain ⟨a1, a2, a3, a4, x, ax, az, at'⟩ := h
  rw [ax, List.length_append]
  omega
theorem x_sumL {T : Tp} {r : Nat} (hK : TpK T) : ∀ n {S : Sto} {st : Ps} {w i : Nat} (a3 a4 : av), 400 - st.1 < n → CP T r S st → st.1 ≤ T.1 → st.2.1 ≤ 60 → 3 * (st.2.2.length + (wl w).length) ≤ 6 * st.2.1 + st.1 → i ≤ st.1 → (w = 0 ∨ w = 2 ∨ w = 3) → RC T r S (run 61 0 13 [vR 24 0, vI (wI w), vI (nI i), a3, a4] [] S) (sF T w st) := by
  intro n
  have hK1 := hK.1
  induction n with
  | zero => intro S st w i a3 a4 hn; omega
  | succ n ih =>
    intro S st w i a3 a4 hn h g1 g2 g3 hi hw
    have hlw := wl_l w
    by_cases ci : i < 400
    · have e1 := x_next hK st.1 h.1 h.2.1 (by omega)
      have h6 := sc_le T blP st.1 g1
      have h5 := sc_ge T blP st.1
      have hC : CP T r (uI S 24 0 2 (nI (sc T blP st.1))) (sc T blP st.1, st.2) := h.at' _
      have hF : CF r S (uI S 24 0 2 (nI (sc T blP st.1))) := CF.rf.u (Or.inl ⟨rfl, by decide⟩)
      refine RC.pre ?_ hF
      by_cases ca : adP T (sc T blP st.1)
      · rw [sF_a hK ca]
        generalize sc T blP st.1 = b at e1 h6 h5 hC hF ca
        generalize uI S 24 0 2 (nI b) = S1 at e1 hC hF
        have hb := hK.2 b ca.1
        have cb := ca.1
        have ec : chI T b = nI (T.2 b) := by unfold chI; rw [if_pos ca.1]
        rw [ec] at e1
        have ra : S1.1 24 0 2 = nI b := hC.2.1
        obtain ⟨S3, f1, f2, f3⟩ := x_sumW (w := w) (hC.at' (b + 1)) hw (show st.2.2.length < 400 by omega) (vI (nI i)) (vI (nI (T.2 b)))
        have s1 : run 61 0 13 [vR 24 0, vI (wI w), vI (nI i), a3, a4] [] S = run 61 0 74 [vR 24 0, vI (wI w), vI (nI i), vI (nI (T.2 b)), vI (nI 1)] [] (uI S1 24 0 2 (nI (b + 1))) := by
          rcases ca.2 with q | q <;> (rw [q] at e1 ⊢; rw [s61_13]; simp (disch := omega) only [s61_14, s61_17, s61_20, s61_21, s61_24, s61_25, s61_26, s61_28, s61_31, s61_32, s61_34, s61_37, s61_38, s61_42, s61_44, s61_46, s61_64, s61_65, s61_66, s61_69, s61_70, s61_71, q_0, q_1, q_2, q_3, q_4, q_5, q_6, q_7, q_8, q_9, q_10, q_11, q_12, q_13, q_14, q_16, q_20, q_23, q_24, q_32, q_42, q_43, q_45, q_47, q_48, q_50, q_57, q_59, q_60, q_61, q_62, q_63, q_64, q_66, q_91, q_93, q_97, q_99, q_122, q_144, q_255, q_256, q_300, q_380, q_400, q_620, q_999, q_1000, q_4095, q_4096, q_9999, q_65536, q_99999, q_31, nI_add, pk_mul, nE, nL, nT, nM31, nShl, ib_nI, nI_clamp, bI_n0, bI_n1, bI_nar, uI_r, uI_l, uL_r, uL_i, uL_p, uA_r, uA_l, bV_some, bU_some, nar_n0, nar_n1, and_self, and_true, true_and, and_false, false_and, if_true, if_false, eq_self, Bool.false_eq_true, Bool.true_eq_false, not_true_eq_false, not_false_eq_true, ↓reduceIte, nlT, nlF, ntT, ntF, neT, neF, ieT, ieF, decide_true, decide_false, Bool.not_true, Bool.not_false, Bool.and_true, Bool.true_and, Bool.and_false, Bool.false_and, Bool.or_true, Bool.true_or, Bool.or_false, Bool.false_or, e1, ra])
        rw [s1, f3]
        refine RC.pre ?_ ((CF.rf.u (Or.inl ⟨rfl, by decide⟩)).tr f1)
        have f2' : CP T r S3 (b + 1, st.2.1, st.2.2 ++ wl w) := f2
        have hlen : (st.2.2 ++ wl w).length = st.2.2.length + (wl w).length := List.length_append
        have hg3 : Gd T (b + 1, st.2.1, st.2.2 ++ wl w) := ⟨cb, g2, by show 3 * (st.2.2 ++ wl w).length ≤ 6 * st.2.1 + (b + 1); omega⟩
        have v := x_value hK f2' hg3
        have vo := pVal_oc (T := T) (st := (b + 1, st.2.1, st.2.2 ++ wl w)) cb
        cases ev : pVal T (b + 1, st.2.1, st.2.2 ++ wl w) with
        | inl f =>
          rw [ev] at v
          obtain ⟨S4, v1, v2, v3, v4⟩ := v.l
          simp (disch := omega) only [s61_91, s61_92, s61_95, s61_98, s61_99, q_0, q_1, q_2, q_3, q_4, q_5, q_6, q_7, q_8, q_9, q_10, q_11, q_12, q_13, q_14, q_16, q_20, q_23, q_24, q_32, q_42, q_43, q_45, q_47, q_48, q_50, q_57, q_59, q_60, q_61, q_62, q_63, q_64, q_66, q_91, q_93, q_97, q_99, q_122, q_144, q_255, q_256, q_300, q_380, q_400, q_620, q_999, q_1000, q_4095, q_4096, q_9999, q_65536, q_99999, q_31, nI_add, pk_mul, nE, nL, nT, nM31, nShl, ib_nI, nI_clamp, bI_n0, bI_n1, bI_nar, uI_r, uI_l, uL_r, uL_i, uL_p, uA_r, uA_l, bV_some, bU_some, nar_n0, nar_n1, and_self, and_true, true_and, and_false, false_and, if_true, if_false, eq_self, Bool.false_eq_true, Bool.true_eq_false, not_true_eq_false, not_false_eq_true, ↓reduceIte, nlT, nlF, ntT, ntF, neT, neF, ieT, ieF, decide_true, decide_false, Bool.not_true, Bool.not_false, Bool.and_true, Bool.true_and, Bool.and_false, Bool.false_and, Bool.or_true, Bool.true_or, Bool.or_false, Bool.false_or, v1]
          exact RC.f0 v2 v3 v4
        | inr s =>
          rw [ev] at v vo
          obtain ⟨S4, v1, v2, v3⟩ := v.r
          have vo' : Oc T false (b + 1, st.2.1, st.2.2 ++ wl w) s := vo
          have p1 : b + 1 < s.1 := vo'.1
          have p2 := pV_len vo' 0 (by show 3 * ((st.2.2 ++ wl w).length + 0) ≤ 6 * st.2.1 + (b + 1); omega)
          have p3 := pV_len (p := (b, st.2.1, st.2.2 ++ wl w)) (vo'.lo (Nat.le_succ _) rfl) 0 (by show 3 * ((st.2.2 ++ wl w).length + 0) ≤ 6 * st.2.1 + b; omega)
          simp (disch := omega) only [s61_91, s61_92, s61_95, s61_100, s61_102, s61_105, s61_106, s61_107, s61_108, s61_120, s61_123, q_0, q_1, q_2, q_3, q_4, q_5, q_6, q_7, q_8, q_9, q_10, q_11, q_12, q_13, q_14, q_16, q_20, q_23, q_24, q_32, q_42, q_43, q_45, q_47, q_48, q_50, q_57, q_59, q_60, q_61, q_62, q_63, q_64, q_66, q_91, q_93, q_97, q_99, q_122, q_144, q_255, q_256, q_300, q_380, q_400, q_620, q_999, q_1000, q_4095, q_4096, q_9999, q_65536, q_99999, q_31, nI_add, pk_mul, nE, nL, nT, nM31, nShl, ib_nI, nI_clamp, bI_n0, bI_n1, bI_nar, uI_r, uI_l, uL_r, uL_i, uL_p, uA_r, uA_l, bV_some, bU_some, nar_n0, nar_n1, and_self, and_true, true_and, and_false, false_and, if_true, if_false, eq_self, Bool.false_eq_true, Bool.true_eq_false, not_true_eq_false, not_false_eq_true, ↓reduceIte, nlT, nlF, ntT, ntF, neT, neF, ieT, ieF, decide_true, decide_false, Bool.not_true, Bool.not_false, Bool.and_true, Bool.true_and, Bool.and_false, Bool.false_and, Bool.or_true, Bool.true_or, Bool.or_false, Bool.false_or, v1, adK_I ca]
          refine RC.pre ?_ v2
          have h7 : 3 * (s.2.2.length + (wl (adK T b)).length) ≤ 6 * s.2.1 + s.1 := by
            have q1 := wl_l (adK T b)
            obtain ⟨a1, a2, a3, a4, x, ax, az, at'⟩ := vo'
            have ax' : s.2.2 = (st.2.2 ++ wl w) ++ x := ax
            have az' : 3 * x.length + 2 + (6 * st.2.1 + (b + 1)) ≤ 6 * s.2.1 + s.1 := az
            rw [ax', List.length_append, hlen]
            omega
          exact ih _ _ (by omega) v3 vo'.2.1 vo'.2.2.2.1 h7 (by omega) (adK_w T b)
      · by_cases cm : mdP T (sc T blP st.1)
        · rw [sF_m hK cm]
          generalize sc T blP st.1 = b at e1 h6 h5 hC hF ca cm
          generalize uI S 24 0 2 (nI b) = S1 at e1 hC hF
          have hb := hK.2 b cm.1
          have cb := cm.1
          have ec : chI T b = nI (T.2 b) := by unfold chI; rw [if_pos cm.1]
          rw [ec] at e1
          have ra : S1.1 24 0 2 = nI b := hC.2.1
          have f2' : CP T r (uI S1 24 0 2 (nI (b + 1))) (b + 1, st.2) := hC.at' (b + 1)
          have hg3 : Gd T (b + 1, st.2) := ⟨cb, g2, by show 3 * st.2.2.length ≤ 6 * st.2.1 + (b + 1); omega⟩
          have v := x_value hK f2' hg3
          have vo := pVal_oc (T := T) (st := (b + 1, st.2)) cb
          have s1 : run 61 0 13 [vR 24 0, vI (wI w), vI (nI i), a3, a4] [] S = run 61 0 91 [vR 24 0, vI (wI w), vI (nI i), vI (nI (T.2 b)), vI (nI 0)] [] (uI S1 24 0 2 (nI (b + 1))) := by
            rcases cm.2 with q | q <;> (rw [q] at e1 ⊢; rw [s61_13]; simp (disch := omega) only [s61_14, s61_17, s61_20, s61_21, s61_24, s61_25, s61_26, s61_28, s61_31, s61_32, s61_34, s61_37, s61_38, s61_41, s61_42, s61_44, s61_46, s61_49, s61_50, s61_52, s61_55, s61_56, s61_58, s61_64, s61_65, s61_66, s61_69, s61_70, s61_71, s61_74, s61_76, q_0, q_1, q_2, q_3, q_4, q_5, q_6, q_7, q_8, q_9, q_10, q_11, q_12, q_13, q_14, q_16, q_20, q_23, q_24, q_32, q_42, q_43, q_45, q_47, q_48, q_50, q_57, q_59, q_60, q_61, q_62, q_63, q_64, q_66, q_91, q_93, q_97, q_99, q_122, q_144, q_255, q_256, q_300, q_380, q_400, q_620, q_999, q_1000, q_4095, q_4096, q_9999, q_65536, q_99999, q_31, nI_add, pk_mul, nE, nL, nT, nM31, nShl, ib_nI, nI_clamp, bI_n0, bI_n1, bI_nar, uI_r, uI_l, uL_r, uL_i, uL_p, uA_r, uA_l, bV_some, bU_some, nar_n0, nar_n1, and_self, and_true, true_and, and_false, false_and, if_true, if_false, eq_self, Bool.false_eq_true, Bool.true_eq_false, not_true_eq_false, not_false_eq_true, ↓reduceIte, nlT, nlF, ntT, ntF, neT, neF, ieT, ieF, decide_true, decide_false, Bool.not_true, Bool.not_false, Bool.and_true, Bool.true_and, Bool.and_false, Bool.false_and, Bool.or_true, Bool.true_or, Bool.or_false, Bool.false_or, e1, ra])
          rw [s1]
          refine RC.pre ?_ (show CF r S1 (uI S1 24 0 2 (nI (b + 1))) from CF.rf.u (Or.inl ⟨rfl, by decide⟩))
          cases ev : pVal T (b + 1, st.2) with
          | inl f =>
            rw [ev] at v
            obtain ⟨S4, v1, v2, v3, v4⟩ := v.l
            simp (disch := omega) only [s61_91, s61_92, s61_95, s61_98, s61_99, q_0, q_1, q_2, q_3, q_4, q_5, q_6, q_7, q_8, q_9, q_10, q_11, q_12, q_13, q_14, q_16, q_20, q_23, q_24, q_32, q_42, q_43, q_45, q_47, q_48, q_50, q_57, q_59, q_60, q_61, q_62, q_63, q_64, q_66, q_91, q_93, q_97, q_99, q_122, q_144, q_255, q_256, q_300, q_380, q_400, q_620, q_999, q_1000, q_4095, q_4096, q_9999, q_65536, q_99999, q_31, nI_add, pk_mul, nE, nL, nT, nM31, nShl, ib_nI, nI_clamp, bI_n0, bI_n1, bI_nar, uI_r, uI_l, uL_r, uL_i, uL_p, uA_r, uA_l, bV_some, bU_some, nar_n0, nar_n1, and_self, and_true, true_and, and_false, false_and, if_true, if_false, eq_self, Bool.false_eq_true, Bool.true_eq_false, not_true_eq_false, not_false_eq_true, ↓reduceIte, nlT, nlF, ntT, ntF, neT, neF, ieT, ieF, decide_true, decide_false, Bool.not_true, Bool.not_false, Bool.and_true, Bool.true_and, Bool.and_false, Bool.false_and, Bool.or_true, Bool.true_or, Bool.or_false, Bool.false_or, v1]
            exact RC.f0 v2 v3 v4
          | inr s =>
            rw [ev] at v vo
            obtain ⟨S4, v1, v2, v3⟩ := v.r
            have vo' : Oc T false (b + 1, st.2) s := vo
            have p1 : b + 1 < s.1 := vo'.1
            have p4 := vo'.2.1
            have p5 := vo'.2.2.2.1
            have h7 : 3 * (s.2.2.length + 1 + (wl w).length) ≤ 6 * s.2.1 + s.1 := by
              obtain ⟨a1, a2, a3, a4, x, ax, az, at'⟩ := vo'
              have ax' : s.2.2 = st.2.2 ++ x := ax
              have az' : 3 * x.length + 2 + (6 * st.2.1 + (b + 1)) ≤ 6 * s.2.1 + s.1 := az
              rw [ax', List.length_append]
              omega
            obtain ⟨S5, m1, m2, m3⟩ := v3.em (mdK T b) 0 (by omega)
            simp (disch := omega) only [s61_91, s61_92, s61_95, s61_100, s61_102, s61_111, q_0, q_1, q_2, q_3, q_4, q_5, q_6, q_7, q_8, q_9, q_10, q_11, q_12, q_13, q_14, q_16, q_20, q_23, q_24, q_32, q_42, q_43, q_45, q_47, q_48, q_50, q_57, q_59, q_60, q_61, q_62, q_63, q_64, q_66, q_91, q_93, q_97, q_99, q_122, q_144, q_255, q_256, q_300, q_380, q_400, q_620, q_999, q_1000, q_4095, q_4096, q_9999, q_65536, q_99999, q_31, nI_add, pk_mul, nE, nL, nT, nM31, nShl, ib_nI, nI_clamp, bI_n0, bI_n1, bI_nar, uI_r, uI_l, uL_r, uL_i, uL_p, uA_r, uA_l, bV_some, bU_some, nar_n0, nar_n1, and_self, and_true, true_and, and_false, false_and, if_true, if_false, eq_self, Bool.false_eq_true, Bool.true_eq_false, not_true_eq_false, not_false_eq_true, ↓reduceIte, nlT, nlF, ntT, ntF, neT, neF, ieT, ieF, decide_true, decide_false, Bool.not_true, Bool.not_false, Bool.and_true, Bool.true_and, Bool.and_false, Bool.false_and, Bool.or_true, Bool.true_or, Bool.or_false, Bool.false_or, v1]
            rw [s61_112 (w := r) (hw := v3.2.2.2.2.1)]
            simp (disch := omega) only [s61_115, s61_116, s61_117, s61_120, s61_123, q_0, q_1, q_2, q_3, q_4, q_5, q_6, q_7, q_8, q_9, q_10, q_11, q_12, q_13, q_14, q_16, q_20, q_23, q_24, q_32, q_42, q_43, q_45, q_47, q_48, q_50, q_57, q_59, q_60, q_61, q_62, q_63, q_64, q_66, q_91, q_93, q_97, q_99, q_122, q_144, q_255, q_256, q_300, q_380, q_400, q_620, q_999, q_1000, q_4095, q_4096, q_9999, q_65536, q_99999, q_31, nI_add, pk_mul, nE, nL, nT, nM31, nShl, ib_nI, nI_clamp, bI_n0, bI_n1, bI_nar, uI_r, uI_l, uL_r, uL_i, uL_p, uA_r, uA_l, bV_some, bU_some, nar_n0, nar_n1, and_self, and_true, true_and, and_false, false_and, if_true, if_false, eq_self, Bool.false_eq_true, Bool.true_eq_false, not_true_eq_false, not_false_eq_true, ↓reduceIte, nlT, nlF, ntT, ntF, neT, neF, ieT, ieF, decide_true, decide_false, Bool.not_true, Bool.not_false, Bool.and_true, Bool.true_and, Bool.and_false, Bool.false_and, Bool.or_true, Bool.true_or, Bool.or_false, Bool.false_or, mdK_I cm, m1]
            refine RC.pre ?_ (v2.tr m2)
            have hpl : (put s (mdK T b)).2.2.length = s.2.2.length + 1 := List.length_append
            exact ih _ _ (by show 400 - s.1 < n; omega) m3 p4 p5 (by show 3 * ((put s (mdK T b)).2.2.length + (wl w).length) ≤ 6 * s.2.1 + s.1; omega) (by show i + 1 ≤ s.1; omega) hw
        · rw [sF_e cm ca]
          generalize sc T blP st.1 = b at e1 h6 h5 hC hF ca cm
          generalize uI S 24 0 2 (nI b) = S1 at e1 hC hF
          have k1 : (chI T b = nI 43) = False := by rw [chI_eq hK (by decide)]; exact eq_false (fun q => ca ⟨q.1, Or.inl q.2⟩)
          have k2 : (chI T b = nI 45) = False := by rw [chI_eq hK (by decide)]; exact eq_false (fun q => ca ⟨q.1, Or.inr q.2⟩)
          have k3 : (chI T b = nI 42) = False := by rw [chI_eq hK (by decide)]; exact eq_false (fun q => cm ⟨q.1, Or.inl q.2⟩)
          have k4 : (chI T b = nI 47) = False := by rw [chI_eq hK (by decide)]; exact eq_false (fun q => cm ⟨q.1, Or.inr q.2⟩)
          rw [s61_13]
          simp (disch := omega) only [s61_14, s61_17, s61_20, s61_21, s61_24, s61_25, s61_26, s61_28, s61_31, s61_32, s61_34, s61_41, s61_42, s61_44, s61_46, s61_49, s61_50, s61_52, s61_55, s61_56, s61_58, s61_61, q_0, q_1, q_2, q_3, q_4, q_5, q_6, q_7, q_8, q_9, q_10, q_11, q_12, q_13, q_14, q_16, q_20, q_23, q_24, q_32, q_42, q_43, q_45, q_47, q_48, q_50, q_57, q_59, q_60, q_61, q_62, q_63, q_64, q_66, q_91, q_93, q_97, q_99, q_122, q_144, q_255, q_256, q_300, q_380, q_400, q_620, q_999, q_1000, q_4095, q_4096, q_9999, q_65536, q_99999, q_31, nI_add, pk_mul, nE, nL, nT, nM31, nShl, ib_nI, nI_clamp, bI_n0, bI_n1, bI_nar, uI_r, uI_l, uL_r, uL_i, uL_p, uA_r, uA_l, bV_some, bU_some, nar_n0, nar_n1, and_self, and_true, true_and, and_false, false_and, if_true, if_false, eq_self, Bool.false_eq_true, Bool.true_eq_false, not_true_eq_false, not_false_eq_true, ↓reduceIte, nlT, nlF, ntT, ntF, neT, neF, ieT, ieF, decide_true, decide_false, Bool.not_true, Bool.not_false, Bool.and_true, Bool.true_and, Bool.and_false, Bool.false_and, Bool.or_true, Bool.true_or, Bool.or_false, Bool.false_or, e1, k1, k2, k3, k4]
          exact x_sumE (st := (b, st.2)) hC hw (show st.2.2.length < 400 by omega) _ _ _
    · have e0 : sc T blP st.1 = st.1 := sc_mx T blP (by omega)
      have ca : ¬ adP T (sc T blP st.1) := by
        rw [e0]
        rintro ⟨q, _⟩
        omega
      have cm : ¬ mdP T (sc T blP st.1) := by
        rw [e0]
        rintro ⟨q, _⟩
        omega
      rw [sF_e cm ca, e0, s61_13]
      simp (disch := omega) only [s61_14, s61_17, q_0, q_1, q_2, q_3, q_4, q_5, q_6, q_7, q_8, q_9, q_10, q_11, q_12, q_13, q_14, q_16, q_20, q_23, q_24, q_32, q_42, q_43, q_45, q_47, q_48, q_50, q_57, q_59, q_60, q_61, q_62, q_63, q_64, q_66, q_91, q_93, q_97, q_99, q_122, q_144, q_255, q_256, q_300, q_380, q_400, q_620, q_999, q_1000, q_4095, q_4096, q_9999, q_65536, q_99999, q_31, nI_add, pk_mul, nE, nL, nT, nM31, nShl, ib_nI, nI_clamp, bI_n0, bI_n1, bI_nar, uI_r, uI_l, uL_r, uL_i, uL_p, uA_r, uA_l, bV_some, bU_some, nar_n0, nar_n1, and_self, and_true, true_and, and_false, false_and, if_true, if_false, eq_self, Bool.false_eq_true, Bool.true_eq_false, not_true_eq_false, not_false_eq_true, ↓reduceIte, nlT, nlF, ntT, ntF, neT, neF, ieT, ieF, decide_true, decide_false, Bool.not_true, Bool.not_false, Bool.and_true, Bool.true_and, Bool.and_false, Bool.false_and, Bool.or_true, Bool.true_or, Bool.or_false, Bool.false_or]
      exact x_sumE h hw (by omega) _ _ _
theorem x_sum {T : Tp} {r : Nat} {S : Sto} {st : Ps} (hK : TpK T) (h : CP T r S st) (hg : Gd T st) : RC T r S (call 61 0 [vR 24 0] S) (pSum T st) := by
  have hK1 := hK.1
  show RC T r S (run 61 0 0 [vR 24 0, vU, vU, vU, vU] [] S) _
  rw [pSum_sF]
  have v := x_value hK h hg
  have vo := pVal_oc (T := T) hg.1
  cases ev : pVal T st with
  | inl f =>
    rw [ev] at v
    obtain ⟨S4, v1, v2, v3, v4⟩ := v.l
    simp (disch := omega) only [s61_0, s61_1, s61_4, s61_7, s61_8, q_0, q_1, q_2, q_3, q_4, q_5, q_6, q_7, q_8, q_9, q_10, q_11, q_12, q_13, q_14, q_16, q_20, q_23, q_24, q_32, q_42, q_43, q_45, q_47, q_48, q_50, q_57, q_59, q_60, q_61, q_62, q_63, q_64, q_66, q_91, q_93, q_97, q_99, q_122, q_144, q_255, q_256, q_300, q_380, q_400, q_620, q_999, q_1000, q_4095, q_4096, q_9999, q_65536, q_99999, q_31, nI_add, pk_mul, nE, nL, nT, nM31, nShl, ib_nI, nI_clamp, bI_n0, bI_n1, bI_nar, uI_r, uI_l, uL_r, uL_i, uL_p, uA_r, uA_l, bV_some, bU_some, nar_n0, nar_n1, and_self, and_true, true_and, and_false, false_and, if_true, if_false, eq_self, Bool.false_eq_true, Bool.true_eq_false, not_true_eq_false, not_false_eq_true, ↓reduceIte, nlT, nlF, ntT, ntF, neT, neF, ieT, ieF, decide_true, decide_false, Bool.not_true, Bool.not_false, Bool.and_true, Bool.true_and, Bool.and_false, Bool.false_and, Bool.or_true, Bool.true_or, Bool.or_false, Bool.false_or, v1]
    exact RC.f0 v2 v3 v4
  | inr s =>
    rw [ev] at v vo
    obtain ⟨S4, v1, v2, v3⟩ := v.r
    have vo' : Oc T false st s := vo
    have hg4 := vo'.gd hg
    simp (disch := omega) only [s61_0, s61_1, s61_4, s61_9, s61_10, s61_11, s61_12, q_0, q_1, q_2, q_3, q_4, q_5, q_6, q_7, q_8, q_9, q_10, q_11, q_12, q_13, q_14, q_16, q_20, q_23, q_24, q_32, q_42, q_43, q_45, q_47, q_48, q_50, q_57, q_59, q_60, q_61, q_62, q_63, q_64, q_66, q_91, q_93, q_97, q_99, q_122, q_144, q_255, q_256, q_300, q_380, q_400, q_620, q_999, q_1000, q_4095, q_4096, q_9999, q_65536, q_99999, q_31, nI_add, pk_mul, nE, nL, nT, nM31, nShl, ib_nI, nI_clamp, bI_n0, bI_n1, bI_nar, uI_r, uI_l, uL_r, uL_i, uL_p, uA_r, uA_l, bV_some, bU_some, nar_n0, nar_n1, and_self, and_true, true_and, and_false, false_and, if_true, if_false, eq_self, Bool.false_eq_true, Bool.true_eq_false, not_true_eq_false, not_false_eq_true, ↓reduceIte, nlT, nlF, ntT, ntF, neT, neF, ieT, ieF, decide_true, decide_false, Bool.not_true, Bool.not_false, Bool.and_true, Bool.true_and, Bool.and_false, Bool.false_and, Bool.or_true, Bool.true_or, Bool.or_false, Bool.false_or, v1]
    refine RC.pre ?_ v2
    exact x_sumL hK 401 (w := 0) (i := 0) vU vU (by omega) v3 hg4.1 hg4.2.1 hg4.2.2 (Nat.zero_le _) (Or.inl rfl)
