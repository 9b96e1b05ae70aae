/-! image, back -/
theorem bI_tn : bI true = nI 1 := rfl
theorem nar_t : vp_nar .boolean (nI 1) = nI 1 := by decide
theorem sl_image {S : Sto} {A : Tn} {R : Rs} (h : Inv S A R) (x : Int32) : Sl S 134 266 [vI x] := by
  obtain ⟨h1, h2, h3, h4, h5, h6⟩ := h
  cases e : lsB x 4 with
  | false =>
    refine ⟨-nI 1, S, S, ?_, ?_, A, R, h1, h2, h3, h4, h5, h6⟩
    · show run 134 0 0 [vR 0 0, vI x] [] S = _
      simp (disch := omega) only [s134_0, s134_1, s134_2, s134_5, s134_8, s134_9, s134_10, s134_11, s134_14, s134_15, s134_16, s134_17, s134_20, s134_23, s134_24, s134_27, s134_28, s134_29, s134_30, s134_31, s134_34, s134_37, q_0, q_1, q_2, q_3, q_4, q_5, q_6, q_7, q_8, q_9, q_10, q_11, q_12, q_13, q_14, q_16, q_20, q_23, q_24, q_32, q_42, q_43, q_45, q_47, q_48, q_50, q_57, q_59, q_60, q_61, q_62, q_63, q_64, q_66, q_91, q_93, q_97, q_99, q_122, q_144, q_255, q_256, q_300, q_380, q_400, q_620, q_999, q_1000, q_4095, q_4096, q_9999, q_65536, q_99999, q_31, nI_add, pk_mul, nE, nL, nT, nM31, nShl, ib_nI, nI_clamp, bI_n0, bI_n1, bI_nar, uI_r, uI_l, uL_r, uL_i, uL_p, uA_r, uA_l, bV_some, bU_some, nar_n0, nar_n1, and_self, and_true, true_and, and_false, false_and, if_true, if_false, eq_self, Bool.false_eq_true, Bool.true_eq_false, not_true_eq_false, not_false_eq_true, ↓reduceIte, nlT, nlF, ntT, ntF, neT, neF, ieT, ieF, decide_true, decide_false, Bool.not_true, Bool.not_false, Bool.and_true, Bool.true_and, Bool.and_false, Bool.false_and, Bool.or_true, Bool.true_or, Bool.or_false, Bool.false_or, x_in, e]
    · show run 266 0 0 [vR 50 0, vI x] [] S = _
      simp (disch := omega) only [s266_0, s266_1, s266_2, s266_3, s266_6, s266_9, s266_12, s266_13, s266_14, s266_15, s266_18, s266_19, s266_20, s266_21, s266_22, s266_23, s266_24, s266_27, s266_28, s266_31, s266_32, s266_33, q_0, q_1, q_2, q_3, q_4, q_5, q_6, q_7, q_8, q_9, q_10, q_11, q_12, q_13, q_14, q_16, q_20, q_23, q_24, q_32, q_42, q_43, q_45, q_47, q_48, q_50, q_57, q_59, q_60, q_61, q_62, q_63, q_64, q_66, q_91, q_93, q_97, q_99, q_122, q_144, q_255, q_256, q_300, q_380, q_400, q_620, q_999, q_1000, q_4095, q_4096, q_9999, q_65536, q_99999, q_31, nI_add, pk_mul, nE, nL, nT, nM31, nShl, ib_nI, nI_clamp, bI_n0, bI_n1, bI_nar, uI_r, uI_l, uL_r, uL_i, uL_p, uA_r, uA_l, bV_some, bU_some, nar_n0, nar_n1, and_self, and_true, true_and, and_false, false_and, if_true, if_false, eq_self, Bool.false_eq_true, Bool.true_eq_false, not_true_eq_false, not_false_eq_true, ↓reduceIte, nlT, nlF, ntT, ntF, neT, neF, ieT, ieF, decide_true, decide_false, Bool.not_true, Bool.not_false, Bool.and_true, Bool.true_and, Bool.and_false, Bool.false_and, Bool.or_true, Bool.true_or, Bool.or_false, Bool.false_or, min_1, min_2, min_3, min_20, min_60, min_99, min_999, min_9999, min_99999, e]
  | true =>
    have e' := e
    obtain ⟨k, hk, rfl⟩ := lsB_t e (by decide)
    obtain ⟨S1, a1, a2, a3⟩ := x_copyFrom h1 (q := 2 + k) (by omega)
    have p0 : RepC S1 0 A := h1.fr a2 (fun t _ _ => pT_f (by omega))
    have m0 : RepM S1 A := h3.fr a2 (fun t _ _ => pT_f (by omega))
    have fc : Fr (fun t i => pT (2 + k) t i || t == 15) S (uI S1 15 0 k (nI 1)) := by
      refine Fr.uI (a2.mn ?_) rfl
      intro t i
      simp only [Bool.or_eq_false_iff]
      exact fun q => q.1
    have pf : ∀ t i, (t = 0 ∨ 14 ≤ t ∨ i ≠ 2 + k) → t ≠ 15 → (pT (2 + k) t i || t == 15) = false := by
      intro t i q1 q2
      rw [pT_f q1]
      simp [q2]
    have m1 : RepM (uI S1 15 0 k (nI 1)) A := h3.fr fc (fun t _ _ => pf t 0 (by omega) (by omega))
    obtain ⟨S2, b1, b2, b3, b4, b5⟩ := m_carryO (S := uI (uI S1 15 0 k (nI 1)) 98 0 k (nI 1)) (A := A) (k := k) hk (m1.fr (Fr.rfl'.uI (P := pL [98]) rfl) (fun t _ _ => by simp only [pL]; simp; omega))
    have fm : Fr (fun t i => (pT (2 + k) t i || t == 15) || (t == 50 || t == 97 || t == 98)) S S2 := by
      refine Fr.tr (Fr.uI (fc.mn ?_) ?_) (b2.mn ?_)
      · intro t i q
        simp only [Bool.or_eq_false_iff] at q ⊢
        exact q.1
      · simp
      · intro t i
        simp only [pL, Bool.or_eq_false_iff, beq_eq_false_iff_ne]
        intro q
        simp
        omega
    have ff : ∀ t i, (t = 0 ∨ 14 ≤ t ∨ i ≠ 2 + k) → t ≠ 15 → t ≠ 50 → t ≠ 97 → t ≠ 98 → ((pT (2 + k) t i || t == 15) || (t == 50 || t == 97 || t == 98)) = false := by
      intro t i q1 q2 q3 q4 q5
      rw [pT_f q1]
      simp [q2, q3, q4, q5]
    have mS2 : RepM S2 A := h3.fr fm (fun t _ _ => ff t 0 (by omega) (by omega) (by omega) (by omega) (by omega))
    refine ⟨nI (A 0 0), uI S1 15 0 k (nI 1), S2, ?_, ?_, A, ((fun c => if c = k then A else R.1.1 c, fun c => if c = k then true else R.1.2 c), R.2), ?_, ?_, mS2, ?_, h5, ?_⟩
    · show run 134 0 0 [vR 0 0, vI (nI k)] [] S = _
      simp (disch := omega) only [s134_0, s134_1, s134_2, s134_5, s134_8, s134_9, s134_10, s134_11, s134_14, s134_15, s134_16, s134_17, s134_20, s134_23, s134_24, s134_27, s134_28, s134_29, s134_30, s134_31, s134_34, s134_37, q_0, q_1, q_2, q_3, q_4, q_5, q_6, q_7, q_8, q_9, q_10, q_11, q_12, q_13, q_14, q_16, q_20, q_23, q_24, q_32, q_42, q_43, q_45, q_47, q_48, q_50, q_57, q_59, q_60, q_61, q_62, q_63, q_64, q_66, q_91, q_93, q_97, q_99, q_122, q_144, q_255, q_256, q_300, q_380, q_400, q_620, q_999, q_1000, q_4095, q_4096, q_9999, q_65536, q_99999, q_31, nI_add, pk_mul, nE, nL, nT, nM31, nShl, ib_nI, nI_clamp, bI_n0, bI_n1, bI_nar, uI_r, uI_l, uL_r, uL_i, uL_p, uA_r, uA_l, bV_some, bU_some, nar_n0, nar_n1, and_self, and_true, true_and, and_false, false_and, if_true, if_false, eq_self, Bool.false_eq_true, Bool.true_eq_false, not_true_eq_false, not_false_eq_true, ↓reduceIte, nlT, nlF, ntT, ntF, neT, neF, ieT, ieF, decide_true, decide_false, Bool.not_true, Bool.not_false, Bool.and_true, Bool.true_and, Bool.and_false, Bool.false_and, Bool.or_true, Bool.true_or, Bool.or_false, Bool.false_or, x_in, e', a1, nar_t, p0.pe]
    · show run 266 0 0 [vR 50 0, vI (nI k)] [] _ = _
      simp (disch := omega) only [s266_0, s266_1, s266_2, s266_3, s266_6, s266_9, s266_12, s266_13, s266_14, s266_15, s266_18, s266_19, s266_20, s266_21, s266_22, s266_23, s266_24, s266_27, s266_28, s266_31, s266_32, s266_33, q_0, q_1, q_2, q_3, q_4, q_5, q_6, q_7, q_8, q_9, q_10, q_11, q_12, q_13, q_14, q_16, q_20, q_23, q_24, q_32, q_42, q_43, q_45, q_47, q_48, q_50, q_57, q_59, q_60, q_61, q_62, q_63, q_64, q_66, q_91, q_93, q_97, q_99, q_122, q_144, q_255, q_256, q_300, q_380, q_400, q_620, q_999, q_1000, q_4095, q_4096, q_9999, q_65536, q_99999, q_31, nI_add, pk_mul, nE, nL, nT, nM31, nShl, ib_nI, nI_clamp, bI_n0, bI_n1, bI_nar, uI_r, uI_l, uL_r, uL_i, uL_p, uA_r, uA_l, bV_some, bU_some, nar_n0, nar_n1, and_self, and_true, true_and, and_false, false_and, if_true, if_false, eq_self, Bool.false_eq_true, Bool.true_eq_false, not_true_eq_false, not_false_eq_true, ↓reduceIte, nlT, nlF, ntT, ntF, neT, neF, ieT, ieF, decide_true, decide_false, Bool.not_true, Bool.not_false, Bool.and_true, Bool.true_and, Bool.and_false, Bool.false_and, Bool.or_true, Bool.true_or, Bool.or_false, Bool.false_or, min_1, min_2, min_3, min_20, min_60, min_99, min_999, min_9999, min_99999, e', nar_t, b1, mS2.sc]
    · exact h1.fr fm (fun t _ _ => ff t 0 (by omega) (by omega) (by omega) (by omega) (by omega))
    · obtain ⟨k1, k2, k3, k4⟩ := h2
      refine ⟨fun c hc => ⟨?_, fun hm => ?_⟩, ⟨?_, fun r hr => ?_⟩, ⟨?_, fun i hi => ?_⟩, fun c hc => ?_⟩
      · show S2.1 15 0 c = bI (if c = k then true else R.1.2 c)
        have e15 : S2.1 15 0 c = (uI (uI S1 15 0 k (nI 1)) 98 0 k (nI 1)).1 15 0 c := b2.i rfl c
        rw [e15, uI_r, if_neg (by omega), uI_r]
        by_cases q : c = k
        · rw [if_pos ⟨rfl, rfl, q⟩, if_pos q]; rfl
        · rw [if_neg (by omega), if_neg q, a2.i (pT_f (by omega))]
          exact (k1 c hc).1
      · show RepC S2 (2 + c) (if c = k then A else R.1.1 c)
        by_cases q : c = k
        · subst q
          rw [if_pos rfl]
          refine ((a3.fr (Fr.rfl'.uI (P := pL [15]) rfl) (fun t _ _ => ?_)).fr (Fr.rfl'.uI (P := pL [98]) rfl) (fun t _ _ => ?_)).fr b2 (fun t _ _ => ?_)
          all_goals (simp only [pL]; simp; omega)
        · rw [if_neg q]
          have hm' : (if c = k then true else R.1.2 c) = true := hm
          rw [if_neg q] at hm'
          exact ((k1 c hc).2 hm').fr fm (fun t _ _ => ff t _ (by omega) (by omega) (by omega) (by omega) (by omega))
      · rw [fm.i (ff 0 0 (by omega) (by omega) (by omega) (by omega) (by omega))]; exact k2.1
      · exact (k2.2 r hr).fr (fun t _ _ => (fm t r (ff t r (by omega) (by omega) (by omega) (by omega) (by omega))).1)
      · rw [fm.i (ff 24 0 (by omega) (by omega) (by omega) (by omega) (by omega))]; exact k3.1
      · rw [fm.i (ff 25 0 (by omega) (by omega) (by omega) (by omega) (by omega))]; exact k3.2 i hi
      · rw [fm.l (ff 44 0 (by omega) (by omega) (by omega) (by omega) (by omega))]; exact k4 c hc
    · obtain ⟨k1, k2, k3, k4⟩ := h4
      have e50 : ∀ c, c ≠ 60 → c ≠ 61 → S2.1 50 0 c = S.1 50 0 c := by
        intro c q1 q2
        rw [b3 c q1 q2, uI_r, if_neg (by omega)]
        exact fc.i (pf 50 0 (by omega) (by omega)) c
      refine ⟨fun c hc => ⟨?_, fun hm f i a b => ?_⟩, ⟨?_, fun r hr => ?_⟩, ⟨?_, fun i hi => ?_⟩, ?_⟩
      · show S2.1 98 0 c = bI (if c = k then true else R.1.2 c)
        have e15 : S2.1 98 0 c = (uI (uI S1 15 0 k (nI 1)) 98 0 k (nI 1)).1 98 0 c := b2.i rfl c
        rw [e15, uI_r]
        by_cases q : c = k
        · rw [if_pos ⟨rfl, rfl, q⟩, if_pos q]; rfl
        · rw [if_neg (by omega), if_neg q, fc.i (pf 98 0 (by omega) (by omega))]
          exact (k1 c hc).1
      · show S2.1 97 0 (620 * c + ofs f + i) = dcA f ((if c = k then A else R.1.1 c) f i)
        by_cases q : c = k
        · subst q
          rw [if_pos rfl]
          exact b4 f i a b
        · rw [if_neg q]
          have hm' : (if c = k then true else R.1.2 c) = true := hm
          rw [if_neg q] at hm'
          have := ofs_top f a
          rw [b5 _ (by omega), uI_r, if_neg (by omega), fc.i (pf 97 0 (by omega) (by omega))]
          exact (k1 c hc).2 hm' f i a b
      · rw [e50 21 (by decide) (by decide)]; exact k2.1
      · exact (k2.2 r hr).fr (fun t _ _ => (fm t 0 (ff t 0 (by omega) (by omega) (by omega) (by omega) (by omega))).1)
      · rw [e50 17 (by decide) (by decide)]; exact k3.1
      · rw [fm.i (ff 67 0 (by omega) (by omega) (by omega) (by omega) (by omega))]; exact k3.2 i hi
      · rw [e50 26 (by decide) (by decide)]; exact k4
    · refine ⟨fun c hc hm => ?_, h6.2⟩
      show WF (if c = k then A else R.1.1 c)
      by_cases q : c = k
      · rw [if_pos q]; exact h5
      · rw [if_neg q]
        have hm' : (if c = k then true else R.1.2 c) = true := hm
        rw [if_neg q] at hm'
        exact h6.1 c hc hm'
theorem sl_back {S : Sto} {A : Tn} {R : Rs} (h : Inv S A R) (x : Int32) : Sl S 135 269 [vI x] := by
  have h0 := h
  obtain ⟨h1, h2, h3, h4, h5, h6⟩ := h
  cases e : lsB x 4 with
  | false =>
    refine sl_ro h0 (v := -nI 1) ?_ ?_
    · show run 135 0 0 [vR 0 0, vI x] [] S = _
      simp (disch := omega) only [s135_0, s135_1, s135_2, s135_5, s135_8, s135_9, s135_12, s135_13, s135_14, s135_17, s135_18, s135_19, s135_20, s135_23, s135_24, s135_27, s135_28, s135_29, s135_32, s135_33, s135_36, s135_39, q_0, q_1, q_2, q_3, q_4, q_5, q_6, q_7, q_8, q_9, q_10, q_11, q_12, q_13, q_14, q_16, q_20, q_23, q_24, q_32, q_42, q_43, q_45, q_47, q_48, q_50, q_57, q_59, q_60, q_61, q_62, q_63, q_64, q_66, q_91, q_93, q_97, q_99, q_122, q_144, q_255, q_256, q_300, q_380, q_400, q_620, q_999, q_1000, q_4095, q_4096, q_9999, q_65536, q_99999, q_31, nI_add, pk_mul, nE, nL, nT, nM31, nShl, ib_nI, nI_clamp, bI_n0, bI_n1, bI_nar, uI_r, uI_l, uL_r, uL_i, uL_p, uA_r, uA_l, bV_some, bU_some, nar_n0, nar_n1, and_self, and_true, true_and, and_false, false_and, if_true, if_false, eq_self, Bool.false_eq_true, Bool.true_eq_false, not_true_eq_false, not_false_eq_true, ↓reduceIte, nlT, nlF, ntT, ntF, neT, neF, ieT, ieF, decide_true, decide_false, Bool.not_true, Bool.not_false, Bool.and_true, Bool.true_and, Bool.and_false, Bool.false_and, Bool.or_true, Bool.true_or, Bool.or_false, Bool.false_or, x_in, e]
    · show run 269 0 0 [vR 50 0, vI x] [] S = _
      simp (disch := omega) only [s269_0, s269_1, s269_2, s269_3, s269_6, s269_9, s269_12, s269_13, s269_16, s269_17, s269_18, s269_21, s269_22, s269_23, s269_24, s269_25, s269_26, s269_29, s269_30, s269_33, s269_34, s269_35, q_0, q_1, q_2, q_3, q_4, q_5, q_6, q_7, q_8, q_9, q_10, q_11, q_12, q_13, q_14, q_16, q_20, q_23, q_24, q_32, q_42, q_43, q_45, q_47, q_48, q_50, q_57, q_59, q_60, q_61, q_62, q_63, q_64, q_66, q_91, q_93, q_97, q_99, q_122, q_144, q_255, q_256, q_300, q_380, q_400, q_620, q_999, q_1000, q_4095, q_4096, q_9999, q_65536, q_99999, q_31, nI_add, pk_mul, nE, nL, nT, nM31, nShl, ib_nI, nI_clamp, bI_n0, bI_n1, bI_nar, uI_r, uI_l, uL_r, uL_i, uL_p, uA_r, uA_l, bV_some, bU_some, nar_n0, nar_n1, and_self, and_true, true_and, and_false, false_and, if_true, if_false, eq_self, Bool.false_eq_true, Bool.true_eq_false, not_true_eq_false, not_false_eq_true, ↓reduceIte, nlT, nlF, ntT, ntF, neT, neF, ieT, ieF, decide_true, decide_false, Bool.not_true, Bool.not_false, Bool.and_true, Bool.true_and, Bool.and_false, Bool.false_and, Bool.or_true, Bool.true_or, Bool.or_false, Bool.false_or, min_1, min_2, min_3, min_20, min_60, min_99, min_999, min_9999, min_99999, e]
  | true =>
    have e' := e
    obtain ⟨k, hk, rfl⟩ := lsB_t e (by decide)
    have c1 := (h2.1 k hk).1
    have c2 := (h4.1 k hk).1
    cases em : R.1.2 k with
    | false =>
      rw [em] at c1 c2
      refine sl_ro h0 (v := -nI 1) ?_ ?_
      · show run 135 0 0 [vR 0 0, vI (nI k)] [] S = _
        simp (disch := omega) only [s135_0, s135_1, s135_2, s135_5, s135_8, s135_9, s135_12, s135_13, s135_14, s135_17, s135_18, s135_19, s135_20, s135_23, s135_24, s135_27, s135_28, s135_29, s135_32, s135_33, s135_36, s135_39, q_0, q_1, q_2, q_3, q_4, q_5, q_6, q_7, q_8, q_9, q_10, q_11, q_12, q_13, q_14, q_16, q_20, q_23, q_24, q_32, q_42, q_43, q_45, q_47, q_48, q_50, q_57, q_59, q_60, q_61, q_62, q_63, q_64, q_66, q_91, q_93, q_97, q_99, q_122, q_144, q_255, q_256, q_300, q_380, q_400, q_620, q_999, q_1000, q_4095, q_4096, q_9999, q_65536, q_99999, q_31, nI_add, pk_mul, nE, nL, nT, nM31, nShl, ib_nI, nI_clamp, bI_n0, bI_n1, bI_nar, uI_r, uI_l, uL_r, uL_i, uL_p, uA_r, uA_l, bV_some, bU_some, nar_n0, nar_n1, and_self, and_true, true_and, and_false, false_and, if_true, if_false, eq_self, Bool.false_eq_true, Bool.true_eq_false, not_true_eq_false, not_false_eq_true, ↓reduceIte, nlT, nlF, ntT, ntF, neT, neF, ieT, ieF, decide_true, decide_false, Bool.not_true, Bool.not_false, Bool.and_true, Bool.true_and, Bool.and_false, Bool.false_and, Bool.or_true, Bool.true_or, Bool.or_false, Bool.false_or, x_in, e', c1]
      · show run 269 0 0 [vR 50 0, vI (nI k)] [] S = _
        simp (disch := omega) only [s269_0, s269_1, s269_2, s269_3, s269_6, s269_9, s269_12, s269_13, s269_16, s269_17, s269_18, s269_21, s269_22, s269_23, s269_24, s269_25, s269_26, s269_29, s269_30, s269_33, s269_34, s269_35, q_0, q_1, q_2, q_3, q_4, q_5, q_6, q_7, q_8, q_9, q_10, q_11, q_12, q_13, q_14, q_16, q_20, q_23, q_24, q_32, q_42, q_43, q_45, q_47, q_48, q_50, q_57, q_59, q_60, q_61, q_62, q_63, q_64, q_66, q_91, q_93, q_97, q_99, q_122, q_144, q_255, q_256, q_300, q_380, q_400, q_620, q_999, q_1000, q_4095, q_4096, q_9999, q_65536, q_99999, q_31, nI_add, pk_mul, nE, nL, nT, nM31, nShl, ib_nI, nI_clamp, bI_n0, bI_n1, bI_nar, uI_r, uI_l, uL_r, uL_i, uL_p, uA_r, uA_l, bV_some, bU_some, nar_n0, nar_n1, and_self, and_true, true_and, and_false, false_and, if_true, if_false, eq_self, Bool.false_eq_true, Bool.true_eq_false, not_true_eq_false, not_false_eq_true, ↓reduceIte, nlT, nlF, ntT, ntF, neT, neF, ieT, ieF, decide_true, decide_false, Bool.not_true, Bool.not_false, Bool.and_true, Bool.true_and, Bool.and_false, Bool.false_and, Bool.or_true, Bool.true_or, Bool.or_false, Bool.false_or, min_1, min_2, min_3, min_20, min_60, min_99, min_999, min_9999, min_99999, e', c2]
    | true =>
      rw [em] at c1 c2
      have d1 := (h2.1 k hk).2 em
      have d2 := (h4.1 k hk).2 em
      obtain ⟨S1, a1, a2, a3⟩ := x_copyFrom d1 (q := 0) (by omega)
      have fc : FC S S1 := FC.of a2 (by
        intro t i q
        unfold pT at q
        simp only [Bool.and_eq_true, decide_eq_true_eq, beq_iff_eq] at q
        unfold pcP
        simp [q.1.1, q.1.2, q.2]) rfl
      have r1 := h4.fc fc
      obtain ⟨S2, b1, b2, b3, b4⟩ := m_carryI (S := S1) (B := R.1.1 k) (k := k) hk ((r1.1 k hk).2 em)
      have fm : FM S1 S2 := ⟨b2.mn (by
        intro t i q
        unfold pmP at q
        simp only [Bool.or_eq_false_iff] at q
        exact q.1), fun c hc => b3 c (by intro q; subst q; simp at hc) (by intro q; subst q; simp at hc)⟩
      have c2' : S1.1 98 0 k = bI true := by rw [fc.1.i (pcP_f (by omega))]; exact c2
      refine ⟨nI (R.1.1 k 0 0), S1, S2, ?_, ?_, R.1.1 k, R, a3.fm fm, (h2.fc fc).fm fm, b4, r1.fm fm, h6.1 k hk em, h6⟩
      · show run 135 0 0 [vR 0 0, vI (nI k)] [] S = _
        simp (disch := omega) only [s135_0, s135_1, s135_2, s135_5, s135_8, s135_9, s135_12, s135_13, s135_14, s135_17, s135_18, s135_19, s135_20, s135_23, s135_24, s135_27, s135_28, s135_29, s135_32, s135_33, s135_36, s135_39, q_0, q_1, q_2, q_3, q_4, q_5, q_6, q_7, q_8, q_9, q_10, q_11, q_12, q_13, q_14, q_16, q_20, q_23, q_24, q_32, q_42, q_43, q_45, q_47, q_48, q_50, q_57, q_59, q_60, q_61, q_62, q_63, q_64, q_66, q_91, q_93, q_97, q_99, q_122, q_144, q_255, q_256, q_300, q_380, q_400, q_620, q_999, q_1000, q_4095, q_4096, q_9999, q_65536, q_99999, q_31, nI_add, pk_mul, nE, nL, nT, nM31, nShl, ib_nI, nI_clamp, bI_n0, bI_n1, bI_nar, uI_r, uI_l, uL_r, uL_i, uL_p, uA_r, uA_l, bV_some, bU_some, nar_n0, nar_n1, and_self, and_true, true_and, and_false, false_and, if_true, if_false, eq_self, Bool.false_eq_true, Bool.true_eq_false, not_true_eq_false, not_false_eq_true, ↓reduceIte, nlT, nlF, ntT, ntF, neT, neF, ieT, ieF, decide_true, decide_false, Bool.not_true, Bool.not_false, Bool.and_true, Bool.true_and, Bool.and_false, Bool.false_and, Bool.or_true, Bool.true_or, Bool.or_false, Bool.false_or, x_in, e', c1, a1, a3.pe]
      · show run 269 0 0 [vR 50 0, vI (nI k)] [] S1 = _
        simp (disch := omega) only [s269_0, s269_1, s269_2, s269_3, s269_6, s269_9, s269_12, s269_13, s269_16, s269_17, s269_18, s269_21, s269_22, s269_23, s269_24, s269_25, s269_26, s269_29, s269_30, s269_33, s269_34, s269_35, q_0, q_1, q_2, q_3, q_4, q_5, q_6, q_7, q_8, q_9, q_10, q_11, q_12, q_13, q_14, q_16, q_20, q_23, q_24, q_32, q_42, q_43, q_45, q_47, q_48, q_50, q_57, q_59, q_60, q_61, q_62, q_63, q_64, q_66, q_91, q_93, q_97, q_99, q_122, q_144, q_255, q_256, q_300, q_380, q_400, q_620, q_999, q_1000, q_4095, q_4096, q_9999, q_65536, q_99999, q_31, nI_add, pk_mul, nE, nL, nT, nM31, nShl, ib_nI, nI_clamp, bI_n0, bI_n1, bI_nar, uI_r, uI_l, uL_r, uL_i, uL_p, uA_r, uA_l, bV_some, bU_some, nar_n0, nar_n1, and_self, and_true, true_and, and_false, false_and, if_true, if_false, eq_self, Bool.false_eq_true, Bool.true_eq_false, not_true_eq_false, not_false_eq_true, ↓reduceIte, nlT, nlF, ntT, ntF, neT, neF, ieT, ieF, decide_true, decide_false, Bool.not_true, Bool.not_false, Bool.and_true, Bool.true_and, Bool.and_false, Bool.false_and, Bool.or_true, Bool.true_or, Bool.or_false, Bool.false_or, min_1, min_2, min_3, min_20, min_60, min_99, min_999, min_9999, min_99999, e', c2', b1, b4.sc]
