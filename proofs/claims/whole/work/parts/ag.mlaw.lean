/-! the reference's law -/
def LR (T : Tp) (sl : Nat) (S : Sto) (x : Option (Option av × Sto)) (res : Sum Nat (List Cl × Ps)) : Prop := match res with
  | Sum.inl f => ∃ S' n, x = run 168 0 137 [vR 50 0, vI (nI n), vI (nI 0)] [] S' ∧ MH sl S S' ∧ S'.1 50 0 19 = nI f
  | Sum.inr y => ∃ S' p, x = run 168 0 137 [vR 50 0, vI (nI y.1.length), vI (nI 0)] [] S' ∧ MH sl S S' ∧ MP T sl S' 0 (p, y.2.2) ∧ MQl sl S' y.1
theorem LR.pre {T : Tp} {sl : Nat} {S S1 : Sto} {x : Option (Option av × Sto)} {res : Sum Nat (List Cl × Ps)} (h : LR T sl S1 x res) (hf : MH sl S S1) : LR T sl S x res := by
  cases res with
  | inl f =>
    obtain ⟨S', n, h1, h2, h3⟩ := h
    exact ⟨S', n, h1, hf.tr h2, h3⟩
  | inr y =>
    obtain ⟨S', p, h1, h2, h3⟩ := h
    exact ⟨S', p, h1, hf.tr h2, h3⟩
theorem MY.bl {T : Tp} {sl : Nat} {S : Sto} {f : Nat} (hK : TpK T) (h : MY T sl S f) : ∃ S' p, call 170 0 [vR 50 0] S = some (none, S') ∧ MF sl S S' ∧ S'.1 50 0 19 = nI f ∧ f ≠ 0 ∧ f < 100000 ∧ S'.1 50 0 18 = nI p := by
  obtain ⟨st, h1, h2, h3, h4, h5, h6⟩ := h
  obtain ⟨S', a1, a2, a3⟩ := h1.bl hK (by omega)
  exact ⟨S', _, a1, a2, a3.2.2.2.1, h2, h3, a3.2.1⟩
theorem m_lawL {T : Tp} {sl : Nat} (hK : TpK T) (hs : sl < 6) : ∀ m {S : Sto} {cs : List Cl} {st : Ps}, cs.length + m = 12 → MP T sl S 0 st → Gd T st → S.1 50 0 23 = nI 0 → MQl sl S cs → LR T sl S (run 168 0 48 [vR 50 0, vI (nI cs.length), vI (nI 1)] [] S) (pLw T (m + 1) cs st) := by
  have hK1 := hK.1
  intro m
  induction m with
  | zero =>
    intro S cs st hn h hg h23 hq
    have v := m_clause hK hs h hg h23 hq (by omega)
    have vo := pCl_ok (T := T) hK (n := cs.length) hg
    rw [pLw_s]
    cases ev : pCl T cs.length st with
    | inl f =>
      rw [ev] at v
      obtain ⟨S1, v1, v2, v3⟩ := v
      obtain ⟨S2, p, w1, w2, w3, w4, w5, w6⟩ := v3.bl hK
      refine ⟨uI S2 50 0 18 (nI (p + 1)), cs.length + 1, ?_, (v2.tr w2.g.h).u (Or.inl (by omega)), by rw [uI_r, if_neg (by omega)]; exact w3⟩
      rw [s168_48]
      simp (disch := omega) only [s168_49, s168_52, s168_53, s168_54, s168_57, s168_60, s168_61, s168_64, s168_65, s168_68, s168_100, s168_101, s168_104, s168_122, s168_123, s168_124, s168_125, s168_126, s168_129, s168_130, s168_131, s168_134, q_0, q_1, q_2, q_3, q_4, q_5, q_6, q_7, q_8, q_9, q_10, q_11, q_12, q_13, q_14, q_16, q_20, q_23, q_24, q_32, q_42, q_43, q_45, q_47, q_48, q_50, q_57, q_59, q_60, q_61, q_62, q_63, q_64, q_66, q_91, q_93, q_97, q_99, q_122, q_144, q_255, q_256, q_300, q_380, q_400, q_620, q_999, q_1000, q_4095, q_4096, q_9999, q_65536, q_99999, q_31, nI_add, pk_mul, nE, nL, nT, nM31, nShl, ib_nI, nI_clamp, bI_n0, bI_n1, bI_nar, uI_r, uI_l, uL_r, uL_i, uL_p, uA_r, uA_l, bV_some, bU_some, nar_n0, nar_n1, and_self, and_true, true_and, and_false, false_and, if_true, if_false, eq_self, Bool.false_eq_true, Bool.true_eq_false, not_true_eq_false, not_false_eq_true, ↓reduceIte, nlT, nlF, ntT, ntF, neT, neF, ieT, ieF, decide_true, decide_false, Bool.not_true, Bool.not_false, Bool.and_true, Bool.true_and, Bool.and_false, Bool.false_and, Bool.or_true, Bool.true_or, Bool.or_false, Bool.false_or, v1, w1, w3, w6]
      rw [s168_48]
      simp (disch := omega) only [s168_49, q_0, q_1, q_2, q_3, q_4, q_5, q_6, q_7, q_8, q_9, q_10, q_11, q_12, q_13, q_14, q_16, q_20, q_23, q_24, q_32, q_42, q_43, q_45, q_47, q_48, q_50, q_57, q_59, q_60, q_61, q_62, q_63, q_64, q_66, q_91, q_93, q_97, q_99, q_122, q_144, q_255, q_256, q_300, q_380, q_400, q_620, q_999, q_1000, q_4095, q_4096, q_9999, q_65536, q_99999, q_31, nI_add, pk_mul, nE, nL, nT, nM31, nShl, ib_nI, nI_clamp, bI_n0, bI_n1, bI_nar, uI_r, uI_l, uL_r, uL_i, uL_p, uA_r, uA_l, bV_some, bU_some, nar_n0, nar_n1, and_self, and_true, true_and, and_false, false_and, if_true, if_false, eq_self, Bool.false_eq_true, Bool.true_eq_false, not_true_eq_false, not_false_eq_true, ↓reduceIte, nlT, nlF, ntT, ntF, neT, neF, ieT, ieF, decide_true, decide_false, Bool.not_true, Bool.not_false, Bool.and_true, Bool.true_and, Bool.and_false, Bool.false_and, Bool.or_true, Bool.true_or, Bool.or_false, Bool.false_or]
    | inr x =>
      rw [ev] at vo
      have := vo.1
      omega
  | succ m ih =>
    intro S cs st hn h hg h23 hq
    have v := m_clause hK hs h hg h23 hq (by omega)
    have vo := pCl_ok (T := T) hK (n := cs.length) hg
    rw [pLw_s]
    cases ev : pCl T cs.length st with
    | inl f =>
      rw [ev] at v
      obtain ⟨S1, v1, v2, v3⟩ := v
      obtain ⟨S2, p, w1, w2, w3, w4, w5, w6⟩ := v3.bl hK
      refine ⟨uI S2 50 0 18 (nI (p + 1)), cs.length + 1, ?_, (v2.tr w2.g.h).u (Or.inl (by omega)), by rw [uI_r, if_neg (by omega)]; exact w3⟩
      rw [s168_48]
      simp (disch := omega) only [s168_49, s168_52, s168_53, s168_54, s168_57, s168_60, s168_61, s168_64, s168_65, s168_68, s168_100, s168_101, s168_104, s168_122, s168_123, s168_124, s168_125, s168_126, s168_129, s168_130, s168_131, s168_134, q_0, q_1, q_2, q_3, q_4, q_5, q_6, q_7, q_8, q_9, q_10, q_11, q_12, q_13, q_14, q_16, q_20, q_23, q_24, q_32, q_42, q_43, q_45, q_47, q_48, q_50, q_57, q_59, q_60, q_61, q_62, q_63, q_64, q_66, q_91, q_93, q_97, q_99, q_122, q_144, q_255, q_256, q_300, q_380, q_400, q_620, q_999, q_1000, q_4095, q_4096, q_9999, q_65536, q_99999, q_31, nI_add, pk_mul, nE, nL, nT, nM31, nShl, ib_nI, nI_clamp, bI_n0, bI_n1, bI_nar, uI_r, uI_l, uL_r, uL_i, uL_p, uA_r, uA_l, bV_some, bU_some, nar_n0, nar_n1, and_self, and_true, true_and, and_false, false_and, if_true, if_false, eq_self, Bool.false_eq_true, Bool.true_eq_false, not_true_eq_false, not_false_eq_true, ↓reduceIte, nlT, nlF, ntT, ntF, neT, neF, ieT, ieF, decide_true, decide_false, Bool.not_true, Bool.not_false, Bool.and_true, Bool.true_and, Bool.and_false, Bool.false_and, Bool.or_true, Bool.true_or, Bool.or_false, Bool.false_or, v1, w1, w3, w6]
      rw [s168_48]
      simp (disch := omega) only [s168_49, q_0, q_1, q_2, q_3, q_4, q_5, q_6, q_7, q_8, q_9, q_10, q_11, q_12, q_13, q_14, q_16, q_20, q_23, q_24, q_32, q_42, q_43, q_45, q_47, q_48, q_50, q_57, q_59, q_60, q_61, q_62, q_63, q_64, q_66, q_91, q_93, q_97, q_99, q_122, q_144, q_255, q_256, q_300, q_380, q_400, q_620, q_999, q_1000, q_4095, q_4096, q_9999, q_65536, q_99999, q_31, nI_add, pk_mul, nE, nL, nT, nM31, nShl, ib_nI, nI_clamp, bI_n0, bI_n1, bI_nar, uI_r, uI_l, uL_r, uL_i, uL_p, uA_r, uA_l, bV_some, bU_some, nar_n0, nar_n1, and_self, and_true, true_and, and_false, false_and, if_true, if_false, eq_self, Bool.false_eq_true, Bool.true_eq_false, not_true_eq_false, not_false_eq_true, ↓reduceIte, nlT, nlF, ntT, ntF, neT, neF, ieT, ieF, decide_true, decide_false, Bool.not_true, Bool.not_false, Bool.and_true, Bool.true_and, Bool.and_false, Bool.false_and, Bool.or_true, Bool.true_or, Bool.or_false, Bool.false_or]
    | inr x =>
      rw [ev] at v vo
      obtain ⟨S1, v1, v2, v3, v4, v5⟩ := v
      obtain ⟨o1, o2, o3, o4⟩ := vo
      have z1 := o2.1
      have h6 := sc_le T blP x.1.1 z1
      have h5 := sc_ge T blP x.1.1
      have hl : (cs ++ [x.2]).length = cs.length + 1 := by rw [List.length_append]; rfl
      obtain ⟨S2, w1, w2, w3⟩ := v3.bl hK (by omega)
      rw [bnd_r]
      generalize sc T blP x.1.1 = b at w3 h6 h5
      have e18 : S2.1 50 0 18 = nI b := w3.2.1
      have e19 : S2.1 50 0 19 = nI 0 := w3.2.2.2.1
      have e17 : S2.1 50 0 17 = nI T.1 := w3.1.1
      have esg := w3.sg hK (show b < 10000 by omega)
      have esg' : call 171 0 [vR 50 0] S2 = some (some (vI (chI T b)), S2) := esg
      have q5 := v5.mg w2.g
      have k59 := chI_eq (T := T) (p := b) (k := 59) hK (by decide)
      by_cases c : T.1 ≤ b
      · rw [if_pos c]
        refine ⟨uI S2 50 0 18 (nI (b + 1)), b + 1, ?_, (v2.tr w2.g.h).u (Or.inl (by omega)), w3.mp (b + 1), q5.mg (r := sl) (MG.rf.u (Or.inl (by omega)))⟩
        show _ = run 168 0 137 [vR 50 0, vI (nI (cs ++ [x.2]).length), vI (nI 0)] [] _
        rw [hl, s168_48]
        simp (disch := omega) only [s168_49, s168_52, s168_53, s168_54, s168_57, s168_60, s168_61, s168_64, s168_65, s168_68, s168_71, s168_72, s168_75, s168_76, s168_79, s168_100, s168_101, s168_104, s168_107, s168_108, s168_111, s168_112, s168_115, s168_122, s168_123, s168_124, s168_125, s168_126, s168_129, s168_130, s168_131, s168_134, q_0, q_1, q_2, q_3, q_4, q_5, q_6, q_7, q_8, q_9, q_10, q_11, q_12, q_13, q_14, q_16, q_20, q_23, q_24, q_32, q_42, q_43, q_45, q_47, q_48, q_50, q_57, q_59, q_60, q_61, q_62, q_63, q_64, q_66, q_91, q_93, q_97, q_99, q_122, q_144, q_255, q_256, q_300, q_380, q_400, q_620, q_999, q_1000, q_4095, q_4096, q_9999, q_65536, q_99999, q_31, nI_add, pk_mul, nE, nL, nT, nM31, nShl, ib_nI, nI_clamp, bI_n0, bI_n1, bI_nar, uI_r, uI_l, uL_r, uL_i, uL_p, uA_r, uA_l, bV_some, bU_some, nar_n0, nar_n1, and_self, and_true, true_and, and_false, false_and, if_true, if_false, eq_self, Bool.false_eq_true, Bool.true_eq_false, not_true_eq_false, not_false_eq_true, ↓reduceIte, nlT, nlF, ntT, ntF, neT, neF, ieT, ieF, decide_true, decide_false, Bool.not_true, Bool.not_false, Bool.and_true, Bool.true_and, Bool.and_false, Bool.false_and, Bool.or_true, Bool.true_or, Bool.or_false, Bool.false_or, v1, w1, e18, e19, e17]
        rw [s168_48]
        simp (disch := omega) only [s168_49, q_0, q_1, q_2, q_3, q_4, q_5, q_6, q_7, q_8, q_9, q_10, q_11, q_12, q_13, q_14, q_16, q_20, q_23, q_24, q_32, q_42, q_43, q_45, q_47, q_48, q_50, q_57, q_59, q_60, q_61, q_62, q_63, q_64, q_66, q_91, q_93, q_97, q_99, q_122, q_144, q_255, q_256, q_300, q_380, q_400, q_620, q_999, q_1000, q_4095, q_4096, q_9999, q_65536, q_99999, q_31, nI_add, pk_mul, nE, nL, nT, nM31, nShl, ib_nI, nI_clamp, bI_n0, bI_n1, bI_nar, uI_r, uI_l, uL_r, uL_i, uL_p, uA_r, uA_l, bV_some, bU_some, nar_n0, nar_n1, and_self, and_true, true_and, and_false, false_and, if_true, if_false, eq_self, Bool.false_eq_true, Bool.true_eq_false, not_true_eq_false, not_false_eq_true, ↓reduceIte, nlT, nlF, ntT, ntF, neT, neF, ieT, ieF, decide_true, decide_false, Bool.not_true, Bool.not_false, Bool.and_true, Bool.true_and, Bool.and_false, Bool.false_and, Bool.or_true, Bool.true_or, Bool.or_false, Bool.false_or]
      · rw [if_neg c]
        by_cases d : T.2 b = 59
        · rw [if_pos d]
          have ed : (chI T b = nI 59) = True := by rw [k59]; exact eq_true ⟨by omega, d⟩
          have u1 : MP T sl (uI S2 50 0 18 (nI (b + 1))) 0 (b + 1, x.1.2) := w3.mp (b + 1)
          have u2 : MG sl S2 (uI S2 50 0 18 (nI (b + 1))) := MG.rf.u (Or.inl (by omega))
          have u3 : (uI S2 50 0 18 (nI (b + 1))).1 50 0 23 = nI 0 := by rw [uI_r, if_neg (by omega), w2.2 50 0 23 (by omega)]; exact v4
          have fin := ih (S := uI S2 50 0 18 (nI (b + 1))) (cs := cs ++ [x.2]) (st := (b + 1, x.1.2)) (by omega) u1 (o2.up (by show x.1.1 ≤ b + 1; omega) (by show b + 1 ≤ T.1; omega) rfl) u3 (q5.mg u2)
          rw [hl] at fin
          refine LR.pre ?_ ((v2.tr w2.g.h).tr u2.h)
          rw [s168_48]
          simp (disch := omega) only [s168_49, s168_52, s168_53, s168_54, s168_57, s168_60, s168_61, s168_64, s168_65, s168_68, s168_71, s168_72, s168_75, s168_76, s168_79, s168_82, s168_83, s168_86, s168_88, s168_100, s168_101, s168_104, s168_107, s168_108, s168_111, s168_112, s168_115, s168_118, s168_119, s168_123, s168_124, s168_125, s168_126, s168_129, s168_130, s168_131, s168_134, q_0, q_1, q_2, q_3, q_4, q_5, q_6, q_7, q_8, q_9, q_10, q_11, q_12, q_13, q_14, q_16, q_20, q_23, q_24, q_32, q_42, q_43, q_45, q_47, q_48, q_50, q_57, q_59, q_60, q_61, q_62, q_63, q_64, q_66, q_91, q_93, q_97, q_99, q_122, q_144, q_255, q_256, q_300, q_380, q_400, q_620, q_999, q_1000, q_4095, q_4096, q_9999, q_65536, q_99999, q_31, nI_add, pk_mul, nE, nL, nT, nM31, nShl, ib_nI, nI_clamp, bI_n0, bI_n1, bI_nar, uI_r, uI_l, uL_r, uL_i, uL_p, uA_r, uA_l, bV_some, bU_some, nar_n0, nar_n1, and_self, and_true, true_and, and_false, false_and, if_true, if_false, eq_self, Bool.false_eq_true, Bool.true_eq_false, not_true_eq_false, not_false_eq_true, ↓reduceIte, nlT, nlF, ntT, ntF, neT, neF, ieT, ieF, decide_true, decide_false, Bool.not_true, Bool.not_false, Bool.and_true, Bool.true_and, Bool.and_false, Bool.false_and, Bool.or_true, Bool.true_or, Bool.or_false, Bool.false_or, v1, w1, e18, e19, e17, esg', ed]
          exact fin
        · rw [if_neg d]
          have ed : (chI T b = nI 59) = False := by rw [k59]; exact eq_false (fun q => d q.2)
          obtain ⟨S3, f1, f2, f3⟩ := w3.fl (by decide) 0 b
          rw [ff_0] at f3
          have e18' : S3.1 50 0 18 = nI b := f3.2.1
          have e19' : S3.1 50 0 19 = nI (flt 0 b) := f3.2.2.2.1
          have hfl : flt 0 b ≠ 0 ∧ flt 0 b < 100000 := by unfold flt; omega
          generalize flt 0 b = g at e19' hfl f1
          refine ⟨uI S3 50 0 18 (nI (b + 1)), cs.length + 1, ?_, ((v2.tr w2.g.h).tr f2.g.h).u (Or.inl (by omega)), by rw [uI_r, if_neg (by omega)]; exact e19'⟩
          rw [s168_48]
          simp (disch := omega) only [s168_49, s168_52, s168_53, s168_54, s168_57, s168_60, s168_61, s168_64, s168_65, s168_68, s168_71, s168_72, s168_75, s168_76, s168_79, s168_82, s168_83, s168_86, s168_88, s168_91, s168_92, s168_93, s168_94, s168_97, s168_100, s168_101, s168_104, s168_122, s168_123, s168_124, s168_125, s168_126, s168_129, s168_130, s168_131, s168_134, q_0, q_1, q_2, q_3, q_4, q_5, q_6, q_7, q_8, q_9, q_10, q_11, q_12, q_13, q_14, q_16, q_20, q_23, q_24, q_32, q_42, q_43, q_45, q_47, q_48, q_50, q_57, q_59, q_60, q_61, q_62, q_63, q_64, q_66, q_91, q_93, q_97, q_99, q_122, q_144, q_255, q_256, q_300, q_380, q_400, q_620, q_999, q_1000, q_4095, q_4096, q_9999, q_65536, q_99999, q_31, nI_add, pk_mul, nE, nL, nT, nM31, nShl, ib_nI, nI_clamp, bI_n0, bI_n1, bI_nar, uI_r, uI_l, uL_r, uL_i, uL_p, uA_r, uA_l, bV_some, bU_some, nar_n0, nar_n1, and_self, and_true, true_and, and_false, false_and, if_true, if_false, eq_self, Bool.false_eq_true, Bool.true_eq_false, not_true_eq_false, not_false_eq_true, ↓reduceIte, nlT, nlF, ntT, ntF, neT, neF, ieT, ieF, decide_true, decide_false, Bool.not_true, Bool.not_false, Bool.and_true, Bool.true_and, Bool.and_false, Bool.false_and, Bool.or_true, Bool.true_or, Bool.or_false, Bool.false_or, v1, w1, e18, e19, e17, esg', ed, f1, e18', e19']
          rw [s168_48]
          simp (disch := omega) only [s168_49, q_0, q_1, q_2, q_3, q_4, q_5, q_6, q_7, q_8, q_9, q_10, q_11, q_12, q_13, q_14, q_16, q_20, q_23, q_24, q_32, q_42, q_43, q_45, q_47, q_48, q_50, q_57, q_59, q_60, q_61, q_62, q_63, q_64, q_66, q_91, q_93, q_97, q_99, q_122, q_144, q_255, q_256, q_300, q_380, q_400, q_620, q_999, q_1000, q_4095, q_4096, q_9999, q_65536, q_99999, q_31, nI_add, pk_mul, nE, nL, nT, nM31, nShl, ib_nI, nI_clamp, bI_n0, bI_n1, bI_nar, uI_r, uI_l, uL_r, uL_i, uL_p, uA_r, uA_l, bV_some, bU_some, nar_n0, nar_n1, and_self, and_true, true_and, and_false, false_and, if_true, if_false, eq_self, Bool.false_eq_true, Bool.true_eq_false, not_true_eq_false, not_false_eq_true, ↓reduceIte, nlT, nlF, ntT, ntF, neT, neF, ieT, ieF, decide_true, decide_false, Bool.not_true, Bool.not_false, Bool.and_true, Bool.true_and, Bool.and_false, Bool.false_and, Bool.or_true, Bool.true_or, Bool.or_false, Bool.false_or]
def LFm (n : Nat) (S S' : Sto) : Prop := S'.2 = S.2 ∧ ∀ t i k, ¬ ((t = 50 ∧ 17 ≤ k ∧ k ≤ 25) ∨ t = 75 ∨ ((t = 68 ∨ t = 69) ∧ 300 * n ≤ k) ∨ (71 ≤ t ∧ t ≤ 74 ∧ 12 * n ≤ k) ∨ (t = 70 ∧ n ≤ k)) → S'.1 t i k = S.1 t i k
theorem LFm.rf {r : Nat} {S : Sto} : LFm r S S := ⟨rfl, fun _ _ _ _ => rfl⟩
theorem LFm.h {r : Nat} {S S' S'' : Sto} (h : LFm r S S') (h' : MH r S' S'') : LFm r S S'' := ⟨h'.1.trans h.1, fun t i k hq => (h'.2 t i k (by omega)).trans (h.2 t i k hq)⟩
theorem LFm.u {r : Nat} {S S' : Sto} (h : LFm r S S') {t i k : Nat} {v : Int32} (hq : (t = 50 ∧ 17 ≤ k ∧ k ≤ 25) ∨ t = 75 ∨ ((t = 68 ∨ t = 69) ∧ 300 * r ≤ k) ∨ (71 ≤ t ∧ t ≤ 74 ∧ 12 * r ≤ k) ∨ (t = 70 ∧ r ≤ k)) : LFm r S (uI S' t i k v) := by
  refine ⟨h.1, fun a b c hn => ?_⟩
  rw [uI_r, if_neg (by rintro ⟨rfl, rfl, rfl⟩; exact hn hq)]
  exact h.2 a b c hn
def LwM (S : Sto) (n : Nat) (x : Option (Option av × Sto)) (res : Sum Nat (List Cl × Ps)) : Prop := ∃ S', LFm n S S' ∧ S'.1 50 0 17 = nI 0 ∧ (match res with
  | Sum.inl f => x = some (some (vI (-nI 2 - nI f)), S') ∧ S'.1 50 0 21 = nI n
  | Sum.inr y => x = some (some (vI (nI n)), S') ∧ S'.1 50 0 21 = nI (n + 1) ∧ RepLM S' n (lwOf y.1 y.2.2.2))
theorem r_law6 {S : Sto} (hn : S.1 50 0 21 = nI 6) : call 168 0 [vR 50 0] S = some (some (vI (-nI 1)), S) := by
  show run 168 0 0 [vR 50 0, vU, vU] [] S = _
  have e9 : (-1 : Int32) = -nI 1 := rfl
  simp (disch := omega) only [s168_0, s168_1, s168_4, s168_6, s168_9, s168_10, q_0, q_1, q_2, q_3, q_4, q_5, q_6, q_7, q_8, q_9, q_10, q_11, q_12, q_13, q_14, q_16, q_20, q_23, q_24, q_32, q_42, q_43, q_45, q_47, q_48, q_50, q_57, q_59, q_60, q_61, q_62, q_63, q_64, q_66, q_91, q_93, q_97, q_99, q_122, q_144, q_255, q_256, q_300, q_380, q_400, q_620, q_999, q_1000, q_4095, q_4096, q_9999, q_65536, q_99999, q_31, nI_add, pk_mul, nE, nL, nT, nM31, nShl, ib_nI, nI_clamp, bI_n0, bI_n1, bI_nar, uI_r, uI_l, uL_r, uL_i, uL_p, uA_r, uA_l, bV_some, bU_some, nar_n0, nar_n1, and_self, and_true, true_and, and_false, false_and, if_true, if_false, eq_self, Bool.false_eq_true, Bool.true_eq_false, not_true_eq_false, not_false_eq_true, ↓reduceIte, nlT, nlF, ntT, ntF, neT, neF, ieT, ieF, decide_true, decide_false, Bool.not_true, Bool.not_false, Bool.and_true, Bool.true_and, Bool.and_false, Bool.false_and, Bool.or_true, Bool.true_or, Bool.or_false, Bool.false_or, hn, e9]
theorem r_law {S : Sto} {T : Tp} {n : Nat} (hK : TpK T) (hT : TpM S T) (hn : S.1 50 0 21 = nI n) (h26 : S.1 50 0 26 = nI 11) (h6 : n < 6) : LwM S n (call 168 0 [vR 50 0] S) (pLw T 13 [] (0, 0, [])) := by
  have hK1 := hK.1
  have hm := law_ok hK
  have e2 : (-2 : Int32) = -nI 2 := rfl
  have d1 : MP T n (uI (uI (uI (uI (uI (uI S 50 0 20 (nI n)) 50 0 18 (nI 0)) 50 0 19 (nI 0)) 50 0 22 (nI 0)) 50 0 23 (nI 0)) 50 0 24 (nI 0)) 0 (0, 0, []) := by
    refine ⟨(((((hT.u (by decide) (by decide)).u (by decide) (by decide)).u (by decide) (by decide)).u (by decide) (by decide)).u (by decide) (by decide)).u (by decide) (by decide), ?_, ?_, ?_, ?_, ?_, ?_, fun e he => absurd he (Nat.not_lt_zero e)⟩
    · simp (disch := omega) only [q_0, q_1, q_2, q_3, q_4, q_5, q_6, q_7, q_8, q_9, q_10, q_11, q_12, q_13, q_14, q_16, q_20, q_23, q_24, q_32, q_42, q_43, q_45, q_47, q_48, q_50, q_57, q_59, q_60, q_61, q_62, q_63, q_64, q_66, q_91, q_93, q_97, q_99, q_122, q_144, q_255, q_256, q_300, q_380, q_400, q_620, q_999, q_1000, q_4095, q_4096, q_9999, q_65536, q_99999, q_31, nI_add, pk_mul, nE, nL, nT, nM31, nShl, ib_nI, nI_clamp, bI_n0, bI_n1, bI_nar, uI_r, uI_l, uL_r, uL_i, uL_p, uA_r, uA_l, bV_some, bU_some, nar_n0, nar_n1, and_self, and_true, true_and, and_false, false_and, if_true, if_false, eq_self, Bool.false_eq_true, Bool.true_eq_false, not_true_eq_false, not_false_eq_true, ↓reduceIte, nlT, nlF, ntT, ntF, neT, neF, ieT, ieF, decide_true, decide_false, Bool.not_true, Bool.not_false, Bool.and_true, Bool.true_and, Bool.and_false, Bool.false_and, Bool.or_true, Bool.true_or, Bool.or_false, Bool.false_or]
    · simp (disch := omega) only [q_0, q_1, q_2, q_3, q_4, q_5, q_6, q_7, q_8, q_9, q_10, q_11, q_12, q_13, q_14, q_16, q_20, q_23, q_24, q_32, q_42, q_43, q_45, q_47, q_48, q_50, q_57, q_59, q_60, q_61, q_62, q_63, q_64, q_66, q_91, q_93, q_97, q_99, q_122, q_144, q_255, q_256, q_300, q_380, q_400, q_620, q_999, q_1000, q_4095, q_4096, q_9999, q_65536, q_99999, q_31, nI_add, pk_mul, nE, nL, nT, nM31, nShl, ib_nI, nI_clamp, bI_n0, bI_n1, bI_nar, uI_r, uI_l, uL_r, uL_i, uL_p, uA_r, uA_l, bV_some, bU_some, nar_n0, nar_n1, and_self, and_true, true_and, and_false, false_and, if_true, if_false, eq_self, Bool.false_eq_true, Bool.true_eq_false, not_true_eq_false, not_false_eq_true, ↓reduceIte, nlT, nlF, ntT, ntF, neT, neF, ieT, ieF, decide_true, decide_false, Bool.not_true, Bool.not_false, Bool.and_true, Bool.true_and, Bool.and_false, Bool.false_and, Bool.or_true, Bool.true_or, Bool.or_false, Bool.false_or]
    · simp (disch := omega) only [q_0, q_1, q_2, q_3, q_4, q_5, q_6, q_7, q_8, q_9, q_10, q_11, q_12, q_13, q_14, q_16, q_20, q_23, q_24, q_32, q_42, q_43, q_45, q_47, q_48, q_50, q_57, q_59, q_60, q_61, q_62, q_63, q_64, q_66, q_91, q_93, q_97, q_99, q_122, q_144, q_255, q_256, q_300, q_380, q_400, q_620, q_999, q_1000, q_4095, q_4096, q_9999, q_65536, q_99999, q_31, nI_add, pk_mul, nE, nL, nT, nM31, nShl, ib_nI, nI_clamp, bI_n0, bI_n1, bI_nar, uI_r, uI_l, uL_r, uL_i, uL_p, uA_r, uA_l, bV_some, bU_some, nar_n0, nar_n1, and_self, and_true, true_and, and_false, false_and, if_true, if_false, eq_self, Bool.false_eq_true, Bool.true_eq_false, not_true_eq_false, not_false_eq_true, ↓reduceIte, nlT, nlF, ntT, ntF, neT, neF, ieT, ieF, decide_true, decide_false, Bool.not_true, Bool.not_false, Bool.and_true, Bool.true_and, Bool.and_false, Bool.false_and, Bool.or_true, Bool.true_or, Bool.or_false, Bool.false_or]
    · simp (disch := omega) only [q_0, q_1, q_2, q_3, q_4, q_5, q_6, q_7, q_8, q_9, q_10, q_11, q_12, q_13, q_14, q_16, q_20, q_23, q_24, q_32, q_42, q_43, q_45, q_47, q_48, q_50, q_57, q_59, q_60, q_61, q_62, q_63, q_64, q_66, q_91, q_93, q_97, q_99, q_122, q_144, q_255, q_256, q_300, q_380, q_400, q_620, q_999, q_1000, q_4095, q_4096, q_9999, q_65536, q_99999, q_31, nI_add, pk_mul, nE, nL, nT, nM31, nShl, ib_nI, nI_clamp, bI_n0, bI_n1, bI_nar, uI_r, uI_l, uL_r, uL_i, uL_p, uA_r, uA_l, bV_some, bU_some, nar_n0, nar_n1, and_self, and_true, true_and, and_false, false_and, if_true, if_false, eq_self, Bool.false_eq_true, Bool.true_eq_false, not_true_eq_false, not_false_eq_true, ↓reduceIte, nlT, nlF, ntT, ntF, neT, neF, ieT, ieF, decide_true, decide_false, Bool.not_true, Bool.not_false, Bool.and_true, Bool.true_and, Bool.and_false, Bool.false_and, Bool.or_true, Bool.true_or, Bool.or_false, Bool.false_or]
    · simp (disch := omega) only [q_0, q_1, q_2, q_3, q_4, q_5, q_6, q_7, q_8, q_9, q_10, q_11, q_12, q_13, q_14, q_16, q_20, q_23, q_24, q_32, q_42, q_43, q_45, q_47, q_48, q_50, q_57, q_59, q_60, q_61, q_62, q_63, q_64, q_66, q_91, q_93, q_97, q_99, q_122, q_144, q_255, q_256, q_300, q_380, q_400, q_620, q_999, q_1000, q_4095, q_4096, q_9999, q_65536, q_99999, q_31, nI_add, pk_mul, nE, nL, nT, nM31, nShl, ib_nI, nI_clamp, bI_n0, bI_n1, bI_nar, uI_r, uI_l, uL_r, uL_i, uL_p, uA_r, uA_l, bV_some, bU_some, nar_n0, nar_n1, and_self, and_true, true_and, and_false, false_and, if_true, if_false, eq_self, Bool.false_eq_true, Bool.true_eq_false, not_true_eq_false, not_false_eq_true, ↓reduceIte, nlT, nlF, ntT, ntF, neT, neF, ieT, ieF, decide_true, decide_false, Bool.not_true, Bool.not_false, Bool.and_true, Bool.true_and, Bool.and_false, Bool.false_and, Bool.or_true, Bool.true_or, Bool.or_false, Bool.false_or]
      rfl
    · simp (disch := omega) only [uI_r, if_neg]
      exact h26
  have d2 : LFm n S (uI (uI (uI (uI (uI (uI S 50 0 20 (nI n)) 50 0 18 (nI 0)) 50 0 19 (nI 0)) 50 0 22 (nI 0)) 50 0 23 (nI 0)) 50 0 24 (nI 0)) := (((((LFm.rf.u (Or.inl (by omega))).u (Or.inl (by omega))).u (Or.inl (by omega))).u (Or.inl (by omega))).u (Or.inl (by omega))).u (Or.inl (by omega))
  have d3 : (uI (uI (uI (uI (uI (uI S 50 0 20 (nI n)) 50 0 18 (nI 0)) 50 0 19 (nI 0)) 50 0 22 (nI 0)) 50 0 23 (nI 0)) 50 0 24 (nI 0)).1 50 0 23 = nI 0 := by simp (disch := omega) only [q_0, q_1, q_2, q_3, q_4, q_5, q_6, q_7, q_8, q_9, q_10, q_11, q_12, q_13, q_14, q_16, q_20, q_23, q_24, q_32, q_42, q_43, q_45, q_47, q_48, q_50, q_57, q_59, q_60, q_61, q_62, q_63, q_64, q_66, q_91, q_93, q_97, q_99, q_122, q_144, q_255, q_256, q_300, q_380, q_400, q_620, q_999, q_1000, q_4095, q_4096, q_9999, q_65536, q_99999, q_31, nI_add, pk_mul, nE, nL, nT, nM31, nShl, ib_nI, nI_clamp, bI_n0, bI_n1, bI_nar, uI_r, uI_l, uL_r, uL_i, uL_p, uA_r, uA_l, bV_some, bU_some, nar_n0, nar_n1, and_self, and_true, true_and, and_false, false_and, if_true, if_false, eq_self, Bool.false_eq_true, Bool.true_eq_false, not_true_eq_false, not_false_eq_true, ↓reduceIte, nlT, nlF, ntT, ntF, neT, neF, ieT, ieF, decide_true, decide_false, Bool.not_true, Bool.not_false, Bool.and_true, Bool.true_and, Bool.and_false, Bool.false_and, Bool.or_true, Bool.true_or, Bool.or_false, Bool.false_or]
  have d4 : (uI (uI (uI (uI (uI (uI S 50 0 20 (nI n)) 50 0 18 (nI 0)) 50 0 19 (nI 0)) 50 0 22 (nI 0)) 50 0 23 (nI 0)) 50 0 24 (nI 0)).1 50 0 21 = nI n := by
    simp (disch := omega) only [uI_r, if_neg]
    exact hn
  have d5 : (uI (uI (uI (uI (uI (uI S 50 0 20 (nI n)) 50 0 18 (nI 0)) 50 0 19 (nI 0)) 50 0 22 (nI 0)) 50 0 23 (nI 0)) 50 0 24 (nI 0)).1 50 0 20 = nI n := d1.2.2.2.2.1
  have s1 : call 168 0 [vR 50 0] S = run 168 0 48 [vR 50 0, vI (nI 0), vI (nI 1)] [] (uI (uI (uI (uI (uI (uI S 50 0 20 (nI n)) 50 0 18 (nI 0)) 50 0 19 (nI 0)) 50 0 22 (nI 0)) 50 0 23 (nI 0)) 50 0 24 (nI 0)) := by
    show run 168 0 0 [vR 50 0, vU, vU] [] S = _
    simp (disch := omega) only [s168_0, s168_1, s168_4, s168_6, s168_11, s168_12, s168_13, s168_16, s168_19, s168_20, s168_21, s168_24, s168_25, s168_26, s168_29, s168_30, s168_31, s168_34, s168_35, s168_36, s168_39, s168_40, s168_41, s168_44, s168_45, s168_46, s168_47, q_0, q_1, q_2, q_3, q_4, q_5, q_6, q_7, q_8, q_9, q_10, q_11, q_12, q_13, q_14, q_16, q_20, q_23, q_24, q_32, q_42, q_43, q_45, q_47, q_48, q_50, q_57, q_59, q_60, q_61, q_62, q_63, q_64, q_66, q_91, q_93, q_97, q_99, q_122, q_144, q_255, q_256, q_300, q_380, q_400, q_620, q_999, q_1000, q_4095, q_4096, q_9999, q_65536, q_99999, q_31, nI_add, pk_mul, nE, nL, nT, nM31, nShl, ib_nI, nI_clamp, bI_n0, bI_n1, bI_nar, uI_r, uI_l, uL_r, uL_i, uL_p, uA_r, uA_l, bV_some, bU_some, nar_n0, nar_n1, and_self, and_true, true_and, and_false, false_and, if_true, if_false, eq_self, Bool.false_eq_true, Bool.true_eq_false, not_true_eq_false, not_false_eq_true, ↓reduceIte, nlT, nlF, ntT, ntF, neT, neF, ieT, ieF, decide_true, decide_false, Bool.not_true, Bool.not_false, Bool.and_true, Bool.true_and, Bool.and_false, Bool.false_and, Bool.or_true, Bool.true_or, Bool.or_false, Bool.false_or, hn]
  rw [s1]
  generalize uI (uI (uI (uI (uI (uI S 50 0 20 (nI n)) 50 0 18 (nI 0)) 50 0 19 (nI 0)) 50 0 22 (nI 0)) 50 0 23 (nI 0)) 50 0 24 (nI 0) = S1 at d1 d2 d3 d4 d5
  have v := m_lawL hK h6 12 (cs := []) rfl d1 ⟨Nat.zero_le _, by decide, by decide⟩ d3 (fun c hc => absurd hc (Nat.not_lt_zero c))
  have v' : LR T n S1 (run 168 0 48 [vR 50 0, vI (nI 0), vI (nI 1)] [] S1) (pLw T 13 [] (0, 0, [])) := v
  cases er : pLw T 13 [] (0, 0, []) with
  | inl f =>
    rw [er] at v' hm
    obtain ⟨S2, c, v1, v2, v3⟩ := v'
    have hm' : Bf T f := hm
    have hm1 := hm'.1
    have hm2 := hm'.2
    have e20 : S2.1 50 0 20 = nI n := by rw [v2.2 50 0 20 (by omega)]; exact d5
    have e21 : S2.1 50 0 21 = nI n := by rw [v2.2 50 0 21 (by omega)]; exact d4
    rw [v1]
    refine ⟨uI (uI (uI S2 50 0 17 (nI 0)) 70 0 n (nI c)) 50 0 21 (nI n), (((d2.h v2).u (Or.inl (by omega))).u (Or.inr (Or.inr (Or.inr (Or.inr (by omega)))))).u (Or.inl (by omega)), by rw [uI_r, if_neg (by omega), uI_r, if_neg (by omega), uI_r, if_pos ⟨rfl, rfl, rfl⟩], ?_, by rw [uI_r, if_pos ⟨rfl, rfl, rfl⟩]⟩
    simp (disch := omega) only [s168_137, s168_138, s168_139, s168_142, s168_143, s168_146, s168_147, s168_150, s168_151, s168_152, s168_153, s168_154, s168_157, s168_158, s168_161, s168_168, s168_169, s168_170, s168_173, s168_174, s168_177, s168_180, s168_182, s168_183, s168_186, s168_187, s168_196, q_0, q_1, q_2, q_3, q_4, q_5, q_6, q_7, q_8, q_9, q_10, q_11, q_12, q_13, q_14, q_16, q_20, q_23, q_24, q_32, q_42, q_43, q_45, q_47, q_48, q_50, q_57, q_59, q_60, q_61, q_62, q_63, q_64, q_66, q_91, q_93, q_97, q_99, q_122, q_144, q_255, q_256, q_300, q_380, q_400, q_620, q_999, q_1000, q_4095, q_4096, q_9999, q_65536, q_99999, q_31, nI_add, pk_mul, nE, nL, nT, nM31, nShl, ib_nI, nI_clamp, bI_n0, bI_n1, bI_nar, uI_r, uI_l, uL_r, uL_i, uL_p, uA_r, uA_l, bV_some, bU_some, nar_n0, nar_n1, and_self, and_true, true_and, and_false, false_and, if_true, if_false, eq_self, Bool.false_eq_true, Bool.true_eq_false, not_true_eq_false, not_false_eq_true, ↓reduceIte, nlT, nlF, ntT, ntF, neT, neF, ieT, ieF, decide_true, decide_false, Bool.not_true, Bool.not_false, Bool.and_true, Bool.true_and, Bool.and_false, Bool.false_and, Bool.or_true, Bool.true_or, Bool.or_false, Bool.false_or, e2, e20, e21, v3, Nat.add_zero]
  | inr y =>
    rw [er] at v' hm
    obtain ⟨S2, p, v1, v2, v3, v4⟩ := v'
    have hm' : y.1.length ≤ 12 ∧ _ := hm
    have hm1 := hm'.1
    have e20 : S2.1 50 0 20 = nI n := by rw [v2.2 50 0 20 (by omega)]; exact d5
    have e21 : S2.1 50 0 21 = nI n := by rw [v2.2 50 0 21 (by omega)]; exact d4
    have e19 : S2.1 50 0 19 = nI 0 := v3.2.2.2.1
    rw [v1]
    refine ⟨uI (uI (uI S2 50 0 17 (nI 0)) 70 0 n (nI y.1.length)) 50 0 21 (nI (n + 1)), (((d2.h v2).u (Or.inl (by omega))).u (Or.inr (Or.inr (Or.inr (Or.inr (by omega)))))).u (Or.inl (by omega)), by rw [uI_r, if_neg (by omega), uI_r, if_neg (by omega), uI_r, if_pos ⟨rfl, rfl, rfl⟩], ?_, by rw [uI_r, if_pos ⟨rfl, rfl, rfl⟩], ?_, fun c hc => ?_, fun e he => ?_⟩
    · simp (disch := omega) only [s168_137, s168_138, s168_139, s168_142, s168_143, s168_146, s168_147, s168_150, s168_151, s168_152, s168_153, s168_154, s168_157, s168_158, s168_161, s168_164, s168_165, s168_169, s168_170, s168_173, s168_174, s168_177, s168_190, s168_191, s168_194, s168_195, s168_196, q_0, q_1, q_2, q_3, q_4, q_5, q_6, q_7, q_8, q_9, q_10, q_11, q_12, q_13, q_14, q_16, q_20, q_23, q_24, q_32, q_42, q_43, q_45, q_47, q_48, q_50, q_57, q_59, q_60, q_61, q_62, q_63, q_64, q_66, q_91, q_93, q_97, q_99, q_122, q_144, q_255, q_256, q_300, q_380, q_400, q_620, q_999, q_1000, q_4095, q_4096, q_9999, q_65536, q_99999, q_31, nI_add, pk_mul, nE, nL, nT, nM31, nShl, ib_nI, nI_clamp, bI_n0, bI_n1, bI_nar, uI_r, uI_l, uL_r, uL_i, uL_p, uA_r, uA_l, bV_some, bU_some, nar_n0, nar_n1, and_self, and_true, true_and, and_false, false_and, if_true, if_false, eq_self, Bool.false_eq_true, Bool.true_eq_false, not_true_eq_false, not_false_eq_true, ↓reduceIte, nlT, nlF, ntT, ntF, neT, neF, ieT, ieF, decide_true, decide_false, Bool.not_true, Bool.not_false, Bool.and_true, Bool.true_and, Bool.and_false, Bool.false_and, Bool.or_true, Bool.true_or, Bool.or_false, Bool.false_or, e20, e21, e19, nSub, Nat.add_sub_cancel]
    · rw [uI_r, if_neg (by omega), uI_r, if_pos ⟨rfl, rfl, rfl⟩]
      rfl
    · have := v4 c hc
      simp (disch := omega) only [uI_r, if_neg]
      exact this
    · have := v3.2.2.2.2.2.2.2 e he
      simp (disch := omega) only [uI_r, if_neg]
      exact this
theorem LF5.fr {r : Nat} {S S' : Sto} (h : LF5 r S S') : Fr (fun t i => t == 0 || t == 24 || (decide (17 ≤ t) && decide (t ≤ 22) && i == r)) S S' := by
  intro t i hp
  have hp' : ¬ (t = 0 ∨ t = 24 ∨ (17 ≤ t ∧ t ≤ 22 ∧ i = r)) := by
    intro q
    have : (t == 0 || t == 24 || (decide (17 ≤ t) && decide (t ≤ 22) && i == r)) = true := by
      rcases q with q | q | ⟨q1, q2, q3⟩
      · simp [q]
      · simp [q]
      · simp [q1, q2, q3]
    exact Bool.noConfusion (hp.symm.trans this)
  exact ⟨funext fun k => h.2 t i k (by omega), by rw [h.1]⟩
theorem LFm.fr {r : Nat} {S S' : Sto} (h : LFm r S S') : Fr (fun t _ => t == 50 || (decide (68 ≤ t) && decide (t ≤ 75))) S S' := by
  intro t i hp
  have hp' : ¬ (t = 50 ∨ (68 ≤ t ∧ t ≤ 75)) := by
    intro q
    have : (t == 50 || (decide (68 ≤ t) && decide (t ≤ 75))) = true := by
      rcases q with q | ⟨q1, q2⟩
      · simp [q]
      · simp [q1, q2]
    exact Bool.noConfusion (hp.symm.trans this)
  exact ⟨funext fun k => h.2 t i k (by omega), by rw [h.1]⟩
theorem inv_law {S S1 S2 : Sto} {A : Tn} {R : Rs} {n n' : Nat} {L' : Nat → Lw} (h : Inv S A R) (c1 : LF5 n S S1) (c2 : S1.1 24 0 1 = nI 0) (m1 : LFm n S1 S2) (m2 : S2.1 50 0 17 = nI 0) (h6 : n' ≤ 6) (a1 : S2.1 0 0 5 = nI n') (a2 : ∀ r, r < n' → RepLC S2 r (L' r)) (b1 : S2.1 50 0 21 = nI n') (b2 : ∀ r, r < n' → RepLM S2 r (L' r)) (w : ∀ r, r < n' → WFL (L' r)) : Inv S2 A (R.1, (n', L'), (0, R.2.2.2)) := by
  obtain ⟨i1, i2, i3, i4, i5, i6⟩ := h
  have f1 := c1.fr
  have f2 := m1.fr
  have p1 : ∀ t i, t ≠ 0 → t ≠ 24 → ¬ (17 ≤ t ∧ t ≤ 22) → (fun t i => t == 0 || t == 24 || (decide (17 ≤ t) && decide (t ≤ 22) && i == n)) t i = false := by
    intro t i q1 q2 q3
    by_cases q4 : 17 ≤ t <;> by_cases q5 : t ≤ 22 <;> simp [q1, q2, q4, q5] <;> omega
  have p2 : ∀ t i : Nat, t ≠ 50 → ¬ (68 ≤ t ∧ t ≤ 75) → (fun t (_ : Nat) => t == 50 || (decide (68 ≤ t) && decide (t ≤ 75))) t i = false := by
    intro t i q1 q2
    by_cases q4 : 68 ≤ t <;> by_cases q5 : t ≤ 75 <;> simp [q1, q4, q5] <;> omega
  have hC : ∀ q A', RepC S q A' → RepC S2 q A' := fun q A' hr => (hr.fr f1 (fun t _ _ => p1 t q (by omega) (by omega) (by omega))).fr f2 (fun t _ _ => p2 t q (by omega) (by omega))
  refine ⟨hC 0 A i1, ⟨fun k hk => ⟨?_, fun hm => hC _ _ ((i2.1 k hk).2 hm)⟩, ⟨a1, a2⟩, ⟨?_, fun i hi => absurd hi (Nat.not_lt_zero i)⟩, fun k hk => ?_⟩, (i3.fr f1 (fun t _ _ => p1 t 0 (by omega) (by omega) (by omega))).fr f2 (fun t _ _ => p2 t 0 (by omega) (by omega)), ⟨fun k hk => ⟨?_, fun hm f i x y => ?_⟩, ⟨b1, b2⟩, ⟨m2, fun i hi => absurd hi (Nat.not_lt_zero i)⟩, ?_⟩, i5, i6.1, ⟨h6, w⟩, Nat.zero_le _, fun i hi => absurd hi (Nat.not_lt_zero i)⟩
  · rw [f2.i (p2 15 0 (by omega) (by omega)), f1.i (p1 15 0 (by omega) (by omega) (by omega))]
    exact (i2.1 k hk).1
  · rw [f2.i (p2 24 0 (by omega) (by omega))]
    exact c2
  · rw [f2.l (p2 44 0 (by omega) (by omega)), f1.l (p1 44 0 (by omega) (by omega) (by omega))]
    exact i2.2.2.2 k hk
  · rw [f2.i (p2 98 0 (by omega) (by omega)), f1.i (p1 98 0 (by omega) (by omega) (by omega))]
    exact (i4.1 k hk).1
  · rw [f2.i (p2 97 0 (by omega) (by omega)), f1.i (p1 97 0 (by omega) (by omega) (by omega))]
    exact (i4.1 k hk).2 hm f i x y
  · rw [m1.2 50 0 26 (by omega), c1.2 50 0 26 (by omega)]
    exact i4.2.2.2
theorem sl_law {S : Sto} {A : Tn} {R : Rs} (h : Inv S A R) : Sl S 103 168 [] := by
  obtain ⟨i1, i2, i3, i4, i5, i6⟩ := h
  have hK : TpK R.2.2 := ⟨i6.2.2.1, i6.2.2.2⟩
  have hTc : TpC S R.2.2 := i2.2.2.1
  have hTm : TpM S R.2.2 := i4.2.2.1
  have nc : S.1 0 0 5 = nI R.2.1.1 := i2.2.1.1
  have nm : S.1 50 0 21 = nI R.2.1.1 := i4.2.1.1
  have h26 : S.1 50 0 26 = nI 11 := i4.2.2.2
  have hn6 : R.2.1.1 ≤ 6 := i6.2.1.1
  by_cases c6 : R.2.1.1 = 6
  · rw [c6] at nc nm
    exact ⟨_, S, S, c_law6 nc, r_law6 nm, A, R, i1, i2, i3, i4, i5, i6⟩
  · have hn : R.2.1.1 < 6 := by omega
    have hm := law_ok hK
    obtain ⟨S1, c1, c2, c3⟩ := c_law hK hTc nc hn
    have eM : ∀ t i k, 25 < t → S1.1 t i k = S.1 t i k := fun t i k ht => c1.2 t i k (by omega)
    have hTm1 : TpM S1 R.2.2 := ⟨by rw [eM _ _ _ (by decide)]; exact hTm.1, fun i hi => by rw [eM _ _ _ (by decide)]; exact hTm.2 i hi⟩
    obtain ⟨S2, m1, m2, m3⟩ := r_law hK hTm1 (by rw [eM _ _ _ (by decide)]; exact nm) (by rw [eM _ _ _ (by decide)]; exact h26) hn
    have eC : ∀ t i k, t < 50 → S2.1 t i k = S1.1 t i k := fun t i k ht => m1.2 t i k (by omega)
    have oC : ∀ r, r < R.2.1.1 → RepLC S2 r (R.2.1.2 r) := by
      intro r hr
      refine (i2.2.1.2 r hr).fr (fun t h1 h2 => funext fun k => ?_)
      rw [eC t r k (by omega), c1.2 t r k (by omega)]
    have oM : ∀ r, r < R.2.1.1 → RepLM S2 r (R.2.1.2 r) := by
      intro r hr
      obtain ⟨x1, x2, x3⟩ := i4.2.1.2 r hr
      have hw := i6.2.1.2 r hr
      have hw1 := hw.1
      have hw2 := hw.2.1
      have e : ∀ t k, 68 ≤ t → ¬ (((t = 68 ∨ t = 69) ∧ 300 * R.2.1.1 ≤ k) ∨ (71 ≤ t ∧ t ≤ 74 ∧ 12 * R.2.1.1 ≤ k) ∨ (t = 70 ∧ R.2.1.1 ≤ k)) → t ≠ 75 → S2.1 t 0 k = S.1 t 0 k := fun t k q1 q2 q3 => (m1.2 t 0 k (by omega)).trans (eM t 0 k (by omega))
      refine ⟨by rw [e 70 r (by omega) (by omega) (by omega)]; exact x1, fun c hc => ?_, fun z hz => ?_⟩
      · rw [e 71 _ (by omega) (by omega) (by omega), e 72 _ (by omega) (by omega) (by omega), e 73 _ (by omega) (by omega) (by omega), e 74 _ (by omega) (by omega) (by omega)]
        exact x2 c hc
      · rw [e 68 _ (by omega) (by omega) (by omega), e 69 _ (by omega) (by omega) (by omega)]
        exact x3 z hz
    cases er : pLw R.2.2 13 [] (0, 0, []) with
    | inl f =>
      rw [er] at c3 m3
      exact ⟨_, S1, S2, c3.1, m3.1, A, _, inv_law ⟨i1, i2, i3, i4, i5, i6⟩ c1 c2 m1 m2 hn6 (by rw [eC _ _ _ (by decide)]; exact c3.2) oC m3.2 oM i6.2.1.2⟩
    | inr y =>
      rw [er] at c3 m3 hm
      have hm' : y.1.length ≤ 12 ∧ Gd R.2.2 y.2 ∧ ∀ c, c ∈ y.1 → ClG c y.2.2.2 := hm
      refine ⟨_, S1, S2, c3.1, m3.1, A, _, inv_law (n' := R.2.1.1 + 1) (L' := fun r => if r = R.2.1.1 then lwOf y.1 y.2.2.2 else R.2.1.2 r) ⟨i1, i2, i3, i4, i5, i6⟩ c1 c2 m1 m2 (by omega) (by rw [eC _ _ _ (by decide)]; exact c3.2.1) (fun r hr => ?_) m3.2.1 (fun r hr => ?_) (fun r hr => ?_)⟩
      · by_cases q : r = R.2.1.1
        · rw [if_pos q, q]
          exact c3.2.2.fr (fun t h1 h2 => funext fun k => eC t _ k (by omega))
        · rw [if_neg q]
          exact oC r (by omega)
      · by_cases q : r = R.2.1.1
        · rw [if_pos q, q]
          exact m3.2.2
        · rw [if_neg q]
          exact oM r (by omega)
      · by_cases q : r = R.2.1.1
        · rw [if_pos q]
          exact wfl_of hK hm'.1 hm'.2.1 hm'.2.2
        · rw [if_neg q]
          exact i6.2.1.2 r (by omega)
