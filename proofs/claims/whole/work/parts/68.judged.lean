/-! the row judged: the reference; judged, then -/
theorem nN1 {k : Nat} (h : k < 2 ^ 31) : (nI k = -nI 1) = False := eq_false (by
  intro e
  have h1 := congrArg Int32.toInt e
  rw [nI_toInt h] at h1
  have : (-nI 1 : Int32).toInt = -1 := by decide
  omega)
theorem RepLM.pq {S S' : Sto} {r : Nat} {W : Lw} {L : List Nat} (h : RepLM S r W) (hf : Fr (pL L) S S') (hL : ∀ t, t < 75 → 68 ≤ t → L.contains t = false) : RepLM S' r W := h.fr (fun t a _ => (hf t 0 (hL t (by omega) a)).1)
theorem m_judges {S : Sto} {A : Tn} {r : Nat} {L : Lw} (h : RepM S A) (hw : WF A) (hr : r < 6) (hL : RepLM S r L) (hl : WFL L) : ∃ S', call 215 0 [vR 50 0, vI (nI r)] S = some (some (vI (jgR A L).1), S') ∧ FM S S' ∧ RepM S' A ∧ (∀ p, p < 12 → S'.1 85 0 p = nI ((jgR A L).2.1 1 p)) ∧ S'.1 50 0 46 = nI (jgR A L).2.2 := by
  have hNr := hw.nr
  have hWk := hw.wk
  obtain ⟨S1, a1, a2, a3⟩ := m_keeps h
  have h1 := h.pl a2 (by decide)
  have hL1 := hL.pl a2 (by decide)
  show ∃ S', run 215 0 0 [vR 50 0, vI (nI r), vU, vU] [] S = _ ∧ _
  simp (disch := omega) only [s215_0, s215_1, s215_4, s215_5, s215_6, s215_9, s215_10, s215_11, s215_12, s215_14, s215_15, s215_18, s215_19, s215_20, s215_23, s215_24, s215_25, s215_28, s215_29, s215_30, s215_31, s215_34, s215_35, s215_36, s215_39, s215_42, s215_43, s215_44, s215_45, s215_48, s215_49, s215_50, s215_53, s215_54, s215_55, s215_56, s215_59, s215_60, s215_63, s215_64, s215_67, s215_68, s215_69, s215_70, s215_71, s215_74, s215_77, s215_78, s215_79, s215_82, s215_85, s215_86, s215_89, s215_90, s215_93, s215_96, s215_97, s215_100, s215_101, q_0, q_1, q_2, q_3, q_4, q_5, q_6, q_7, q_8, q_9, q_10, q_11, q_12, q_13, q_14, q_16, q_20, q_23, q_24, q_32, q_42, q_43, q_45, q_47, q_48, q_50, q_57, q_59, q_60, q_61, q_62, q_63, q_64, q_66, q_91, q_93, q_97, q_99, q_122, q_144, q_255, q_256, q_300, q_380, q_400, q_620, q_999, q_1000, q_4095, q_4096, q_9999, q_65536, q_99999, q_31, nI_add, pk_mul, nE, nL, nT, nM31, nShl, ib_nI, nI_clamp, bI_n0, bI_n1, bI_nar, uI_r, uI_l, uL_r, uL_i, uL_p, uA_r, uA_l, bV_some, bU_some, nar_n0, nar_n1, and_self, and_true, true_and, and_false, false_and, if_true, if_false, eq_self, Bool.false_eq_true, Bool.true_eq_false, not_true_eq_false, not_false_eq_true, ↓reduceIte, nlT, nlF, ntT, ntF, neT, neF, ieT, ieF, decide_true, decide_false, Bool.not_true, Bool.not_false, Bool.and_true, Bool.true_and, Bool.and_false, Bool.false_and, Bool.or_true, Bool.true_or, Bool.or_false, Bool.false_or, a1]
  have post : ∀ (S2 : Sto) (B : Tn) (x : Int32) (y : av), Fr (pL [50, 51, 52, 56, 57, 65, 76, 77, 78, 79, 80, 81, 82, 83, 84, 85]) S S2 → (∀ k, k ≠ 46 → S2.1 50 0 k = S.1 50 0 k) → RepM S2 B → SmT A B → Kp S2 A → (x, B, (jgR A L).2.2) = jgR A L → S2.1 50 0 46 = nI (jgR A L).2.2 → ∃ S', run 215 0 85 [vR 50 0, vI (nI r), vI x, y] [] S2 = some (some (vI (jgR A L).1), S') ∧ FM S S' ∧ RepM S' A ∧ (∀ p, p < 12 → S'.1 85 0 p = nI ((jgR A L).2.1 1 p)) ∧ S'.1 50 0 46 = nI (jgR A L).2.2 := by
    intro S2 B x y f1 f2 f3 f4 f5 f6 f7
    obtain ⟨S3, c1, c2, c3⟩ := m_copy (S := S2) (t0 := 52) (t1 := 85) (n := 12) rfl rfl rfl rfl (by decide) (by decide)
    have h3 := f3.pl c2 (by decide)
    obtain ⟨S4, d1, d2, d3⟩ := m_putsBack h3 (f5.pl c2 (by decide)) (fun f i hf g0 g1 g5 g6 g14 hi => f4 f i g1 g6 g14)
    simp (disch := omega) only [s215_0, s215_1, s215_4, s215_5, s215_6, s215_9, s215_10, s215_11, s215_12, s215_14, s215_15, s215_18, s215_19, s215_20, s215_23, s215_24, s215_25, s215_28, s215_29, s215_30, s215_31, s215_34, s215_35, s215_36, s215_39, s215_42, s215_43, s215_44, s215_45, s215_48, s215_49, s215_50, s215_53, s215_54, s215_55, s215_56, s215_59, s215_60, s215_63, s215_64, s215_67, s215_68, s215_69, s215_70, s215_71, s215_74, s215_77, s215_78, s215_79, s215_82, s215_85, s215_86, s215_89, s215_90, s215_93, s215_96, s215_97, s215_100, s215_101, q_0, q_1, q_2, q_3, q_4, q_5, q_6, q_7, q_8, q_9, q_10, q_11, q_12, q_13, q_14, q_16, q_20, q_23, q_24, q_32, q_42, q_43, q_45, q_47, q_48, q_50, q_57, q_59, q_60, q_61, q_62, q_63, q_64, q_66, q_91, q_93, q_97, q_99, q_122, q_144, q_255, q_256, q_300, q_380, q_400, q_620, q_999, q_1000, q_4095, q_4096, q_9999, q_65536, q_99999, q_31, nI_add, pk_mul, nE, nL, nT, nM31, nShl, ib_nI, nI_clamp, bI_n0, bI_n1, bI_nar, uI_r, uI_l, uL_r, uL_i, uL_p, uA_r, uA_l, bV_some, bU_some, nar_n0, nar_n1, and_self, and_true, true_and, and_false, false_and, if_true, if_false, eq_self, Bool.false_eq_true, Bool.true_eq_false, not_true_eq_false, not_false_eq_true, ↓reduceIte, nlT, nlF, ntT, ntF, neT, neF, ieT, ieF, decide_true, decide_false, Bool.not_true, Bool.not_false, Bool.and_true, Bool.true_and, Bool.and_false, Bool.false_and, Bool.or_true, Bool.true_or, Bool.or_false, Bool.false_or, c1, d1]
    rw [← f6]
    refine ⟨_, rfl, FM.p5 ((f1.tr (c2.pl (by simp))).tr (d2.pl (by simp))) (by decide) ?_, d3, ?_, ?_⟩
    · intro k hk
      rw [d2.i rfl, c2.i rfl]
      refine f2 k ?_
      rintro rfl
      revert hk
      decide
    · intro p hp
      rw [d2.i rfl, c3 p hp]
      exact f3.co hp
    · rw [d2.i rfl, c2.i rfl]
      exact f7
  have key := upS (σ := Sto × (Tn × Nat)) (I := fun i s => jg A L (A 0 3 - i) i s.2.1 s.2.2 = jgR A L ∧ Fr (pL [50, 51, 52, 56, 57, 65, 76, 77, 78, 79, 80, 81, 82, 83, 84, 85]) S s.1 ∧ (∀ k, k ≠ 46 → s.1.1 50 0 k = S.1 50 0 k) ∧ RepM s.1 s.2.1 ∧ WF s.2.1 ∧ SmT A s.2.1 ∧ Kp s.1 A ∧ s.1.1 50 0 46 = nI s.2.2 ∧ RepLM s.1 r L) (F := fun i s => run 215 0 13 [vR 50 0, vI (nI r), vI (-nI 1), vI (nI i)] [] s.1) (Q := fun x => ∃ S', x = some (some (vI (jgR A L).1), S') ∧ FM S S' ∧ RepM S' A ∧ (∀ p, p < 12 → S'.1 85 0 p = nI ((jgR A L).2.1 1 p)) ∧ S'.1 50 0 46 = nI (jgR A L).2.2) (N := A 0 3) ?_ ?_ 0 (uI S1 50 0 46 (nI 0), (A, 0)) (by omega) ⟨rfl, (a2.pl (by simp)).tr (Fr.rfl'.uI rfl), fun k hk => by show (uI S1 50 0 46 (nI 0)).1 50 0 k = _; rw [uI_r, if_neg (by omega), a2.i rfl], h1.fr (Fr.rfl'.uI (P := pL [50]) rfl) (by intro t g1 g2; simp [pL]; omega), hw, fun _ _ _ _ _ => rfl, a3.pl (Fr.rfl'.uI (P := pL [50]) rfl) (by decide), by show (uI S1 50 0 46 (nI 0)).1 50 0 46 = _; rw [uI_r, if_pos ⟨rfl, rfl, rfl⟩], hL1.pq (Fr.rfl'.uI (P := pL [50]) rfl) (by decide)⟩
  · exact key
  · intro i s hi hI
    obtain ⟨S2, B, v⟩ := s
    obtain ⟨i1, i2, i3, i4, i5, i6, i7, i8, i9⟩ := hI
    simp only at i1 i2 i3 i4 i5 i6 i7 i8 i9
    have hrow := hw.ro hi
    have em : A 0 3 - i = (A 0 3 - (i + 1)) + 1 := by omega
    rw [em] at i1
    unfold jg at i1
    have b3 : B 0 3 = A 0 3 := i6 0 3 (by decide) (by decide) (by decide)
    have b2 : B 0 2 = A 0 2 := i6 0 2 (by decide) (by decide) (by decide)
    have b15 : B 15 i = A 15 i := i6 15 i (by decide) (by decide) (by decide)
    have b12 : B 12 (A 15 i) = A 12 (A 15 i) := i6 12 _ (by decide) (by decide) (by decide)
    have r1 : S2.1 51 0 3 = nI (A 0 3) := by rw [i4.sc (by decide), b3]
    have r2 : S2.1 66 0 i = nI (A 15 i) := by rw [i4.ro (by omega), b15]
    obtain ⟨S3, c1, c2⟩ := m_canBe i4 i5 hr i9 hl (w := A 15 i) (by omega)
    have h3 := i4.pl c2 (by decide)
    have hL3 := i9.pl c2 (by decide)
    have fr3 : Fr (pL [50, 51, 52, 56, 57, 65, 76, 77, 78, 79, 80, 81, 82, 83, 84, 85]) S S3 := i2.tr (c2.pl (by simp))
    have e46 : S3.1 50 0 46 = nI v := by rw [c2.i rfl]; exact i8
    show (∃ S', run 215 0 13 [vR 50 0, vI (nI r), vI (-nI 1), vI (nI i)] [] S2 = _ ∧ _) ∨ ∃ s', _ ∧ run 215 0 13 [vR 50 0, vI (nI r), vI (-nI 1), vI (nI i)] [] S2 = _
    rw [s215_13]
    cases hc : caB B L (A 15 i) with
    | false =>
      rw [hc] at c1 i1
      simp only [Bool.false_eq_true, if_false] at i1
      refine Or.inl ?_
      simp (disch := omega) only [s215_0, s215_1, s215_4, s215_5, s215_6, s215_9, s215_10, s215_11, s215_12, s215_14, s215_15, s215_18, s215_19, s215_20, s215_23, s215_24, s215_25, s215_28, s215_29, s215_30, s215_31, s215_34, s215_35, s215_36, s215_39, s215_42, s215_43, s215_44, s215_45, s215_48, s215_49, s215_50, s215_53, s215_54, s215_55, s215_56, s215_59, s215_60, s215_63, s215_64, s215_67, s215_68, s215_69, s215_70, s215_71, s215_74, s215_77, s215_78, s215_79, s215_82, s215_85, s215_86, s215_89, s215_90, s215_93, s215_96, s215_97, s215_100, s215_101, q_0, q_1, q_2, q_3, q_4, q_5, q_6, q_7, q_8, q_9, q_10, q_11, q_12, q_13, q_14, q_16, q_20, q_23, q_24, q_32, q_42, q_43, q_45, q_47, q_48, q_50, q_57, q_59, q_60, q_61, q_62, q_63, q_64, q_66, q_91, q_93, q_97, q_99, q_122, q_144, q_255, q_256, q_300, q_380, q_400, q_620, q_999, q_1000, q_4095, q_4096, q_9999, q_65536, q_99999, q_31, nI_add, pk_mul, nE, nL, nT, nM31, nShl, ib_nI, nI_clamp, bI_n0, bI_n1, bI_nar, uI_r, uI_l, uL_r, uL_i, uL_p, uA_r, uA_l, bV_some, bU_some, nar_n0, nar_n1, and_self, and_true, true_and, and_false, false_and, if_true, if_false, eq_self, Bool.false_eq_true, Bool.true_eq_false, not_true_eq_false, not_false_eq_true, ↓reduceIte, nlT, nlF, ntT, ntF, neT, neF, ieT, ieF, decide_true, decide_false, Bool.not_true, Bool.not_false, Bool.and_true, Bool.true_and, Bool.and_false, Bool.false_and, Bool.or_true, Bool.true_or, Bool.or_false, Bool.false_or, r1, r2, c1]
      rw [s215_13]
      have r1' : S3.1 51 0 3 = nI (A 0 3) := by rw [c2.i rfl]; exact r1
      have ev : (jgR A L).2.2 = v := by rw [← i1]
      by_cases g : i + 1 < A 0 3
      · simp (disch := omega) only [s215_0, s215_1, s215_4, s215_5, s215_6, s215_9, s215_10, s215_11, s215_12, s215_14, s215_15, s215_18, s215_19, s215_20, s215_23, s215_24, s215_25, s215_28, s215_29, s215_30, s215_31, s215_34, s215_35, s215_36, s215_39, s215_42, s215_43, s215_44, s215_45, s215_48, s215_49, s215_50, s215_53, s215_54, s215_55, s215_56, s215_59, s215_60, s215_63, s215_64, s215_67, s215_68, s215_69, s215_70, s215_71, s215_74, s215_77, s215_78, s215_79, s215_82, s215_89, s215_90, s215_93, s215_96, s215_97, s215_100, s215_101, q_0, q_1, q_2, q_3, q_4, q_5, q_6, q_7, q_8, q_9, q_10, q_11, q_12, q_13, q_14, q_16, q_20, q_23, q_24, q_32, q_42, q_43, q_45, q_47, q_48, q_50, q_57, q_59, q_60, q_61, q_62, q_63, q_64, q_66, q_91, q_93, q_97, q_99, q_122, q_144, q_255, q_256, q_300, q_380, q_400, q_620, q_999, q_1000, q_4095, q_4096, q_9999, q_65536, q_99999, q_31, nI_add, pk_mul, nE, nL, nT, nM31, nShl, ib_nI, nI_clamp, bI_n0, bI_n1, bI_nar, uI_r, uI_l, uL_r, uL_i, uL_p, uA_r, uA_l, bV_some, bU_some, nar_n0, nar_n1, and_self, and_true, true_and, and_false, false_and, if_true, if_false, eq_self, Bool.false_eq_true, Bool.true_eq_false, not_true_eq_false, not_false_eq_true, ↓reduceIte, nlT, nlF, ntT, ntF, neT, neF, ieT, ieF, decide_true, decide_false, Bool.not_true, Bool.not_false, Bool.and_true, Bool.true_and, Bool.and_false, Bool.false_and, Bool.or_true, Bool.true_or, Bool.or_false, Bool.false_or, r1', nN1]
        exact post S3 B _ _ fr3 (fun k hk => by rw [c2.i rfl]; exact i3 k hk) h3 i6 (i7.pl c2 (by decide)) (by rw [ev]; exact i1) (by rw [ev]; exact e46)
      · simp (disch := omega) only [s215_0, s215_1, s215_4, s215_5, s215_6, s215_9, s215_10, s215_11, s215_12, s215_14, s215_15, s215_18, s215_19, s215_20, s215_23, s215_24, s215_25, s215_28, s215_29, s215_30, s215_31, s215_34, s215_35, s215_36, s215_39, s215_42, s215_43, s215_44, s215_45, s215_48, s215_49, s215_50, s215_53, s215_54, s215_55, s215_56, s215_59, s215_60, s215_63, s215_64, s215_67, s215_68, s215_69, s215_70, s215_71, s215_74, s215_77, s215_78, s215_79, s215_82, s215_89, s215_90, s215_93, s215_96, s215_97, s215_100, s215_101, q_0, q_1, q_2, q_3, q_4, q_5, q_6, q_7, q_8, q_9, q_10, q_11, q_12, q_13, q_14, q_16, q_20, q_23, q_24, q_32, q_42, q_43, q_45, q_47, q_48, q_50, q_57, q_59, q_60, q_61, q_62, q_63, q_64, q_66, q_91, q_93, q_97, q_99, q_122, q_144, q_255, q_256, q_300, q_380, q_400, q_620, q_999, q_1000, q_4095, q_4096, q_9999, q_65536, q_99999, q_31, nI_add, pk_mul, nE, nL, nT, nM31, nShl, ib_nI, nI_clamp, bI_n0, bI_n1, bI_nar, uI_r, uI_l, uL_r, uL_i, uL_p, uA_r, uA_l, bV_some, bU_some, nar_n0, nar_n1, and_self, and_true, true_and, and_false, false_and, if_true, if_false, eq_self, Bool.false_eq_true, Bool.true_eq_false, not_true_eq_false, not_false_eq_true, ↓reduceIte, nlT, nlF, ntT, ntF, neT, neF, ieT, ieF, decide_true, decide_false, Bool.not_true, Bool.not_false, Bool.and_true, Bool.true_and, Bool.and_false, Bool.false_and, Bool.or_true, Bool.true_or, Bool.or_false, Bool.false_or, r1', nN1]
        exact post S3 B _ _ fr3 (fun k hk => by rw [c2.i rfl]; exact i3 k hk) h3 i6 (i7.pl c2 (by decide)) (by rw [ev]; exact i1) (by rw [ev]; exact e46)
    | true =>
      rw [hc] at c1
      rw [if_pos hc] at i1
      obtain ⟨S4, d1, d2, d3⟩ := m_isDone h3 i5 hr hL3 hl (by omega) hc
      have hW := i5.W (w := A 15 i) (by omega)
      have r2' : S3.1 66 0 i = nI (A 15 i) := by rw [c2.i rfl]; exact r2
      have r2'' : S4.1 66 0 i = nI (A 15 i) := by rw [d2.i rfl]; exact r2'
      have e46' : S4.1 50 0 46 = nI v := by rw [d2.i rfl]; exact e46
      have e13 : S4.1 63 0 (A 15 i) = nI (A 12 (A 15 i)) := by rw [d3.wo (by omega), doT_f (by decide) (by decide) (by decide), b12]
      have fu : Fr (pL [50]) S4 (uI S4 50 0 46 (nI (v + A 12 (A 15 i)))) := Fr.rfl'.uI rfl
      refine Or.inr ⟨(uI S4 50 0 46 (nI (v + A 12 (A 15 i))), (doT B L (A 15 i), v + A 12 (A 15 i))), ⟨i1, (fr3.tr (d2.pl (by simp))).tr (fu.pl (by simp)), ?_, ?_, doT_W i5 (by omega), i6.d, ((i7.pl c2 (by decide)).pl d2 (by decide)).pl fu (by decide), ?_, (hL3.pq d2 (by decide)).pq fu (by decide)⟩, ?_⟩
      · intro k hk
        show (uI S4 50 0 46 _).1 50 0 k = _
        rw [uI_r, if_neg (by omega), d2.i rfl, c2.i rfl]
        exact i3 k hk
      · exact d3.fr fu (by intro t g1 g2; simp [pL]; omega)
      · show (uI S4 50 0 46 _).1 50 0 46 = _
        rw [uI_r, if_pos ⟨rfl, rfl, rfl⟩]
      · simp (disch := omega) only [s215_0, s215_1, s215_4, s215_5, s215_6, s215_9, s215_10, s215_11, s215_12, s215_14, s215_15, s215_18, s215_19, s215_20, s215_23, s215_24, s215_25, s215_28, s215_29, s215_30, s215_31, s215_34, s215_35, s215_36, s215_39, s215_42, s215_43, s215_44, s215_45, s215_48, s215_49, s215_50, s215_53, s215_54, s215_55, s215_56, s215_59, s215_60, s215_63, s215_64, s215_67, s215_68, s215_69, s215_70, s215_71, s215_74, s215_77, s215_78, s215_79, s215_82, s215_85, s215_86, s215_89, s215_90, s215_93, s215_96, s215_97, s215_100, s215_101, q_0, q_1, q_2, q_3, q_4, q_5, q_6, q_7, q_8, q_9, q_10, q_11, q_12, q_13, q_14, q_16, q_20, q_23, q_24, q_32, q_42, q_43, q_45, q_47, q_48, q_50, q_57, q_59, q_60, q_61, q_62, q_63, q_64, q_66, q_91, q_93, q_97, q_99, q_122, q_144, q_255, q_256, q_300, q_380, q_400, q_620, q_999, q_1000, q_4095, q_4096, q_9999, q_65536, q_99999, q_31, nI_add, pk_mul, nE, nL, nT, nM31, nShl, ib_nI, nI_clamp, bI_n0, bI_n1, bI_nar, uI_r, uI_l, uL_r, uL_i, uL_p, uA_r, uA_l, bV_some, bU_some, nar_n0, nar_n1, and_self, and_true, true_and, and_false, false_and, if_true, if_false, eq_self, Bool.false_eq_true, Bool.true_eq_false, not_true_eq_false, not_false_eq_true, ↓reduceIte, nlT, nlF, ntT, ntF, neT, neF, ieT, ieF, decide_true, decide_false, Bool.not_true, Bool.not_false, Bool.and_true, Bool.true_and, Bool.and_false, Bool.false_and, Bool.or_true, Bool.true_or, Bool.or_false, Bool.false_or, r1, r2, c1, r2', d1, e46', r2'', e13]
  · intro s hI
    obtain ⟨S2, B, v⟩ := s
    obtain ⟨i1, i2, i3, i4, i5, i6, i7, i8, i9⟩ := hI
    simp only at i1 i2 i3 i4 i5 i6 i7 i8 i9
    have b3 : B 0 3 = A 0 3 := i6 0 3 (by decide) (by decide) (by decide)
    have r1 : S2.1 51 0 3 = nI (A 0 3) := by rw [i4.sc (by decide), b3]
    rw [Nat.sub_self] at i1
    unfold jg at i1
    have ev : (jgR A L).2.2 = v := by rw [← i1]
    show ∃ S', run 215 0 13 [vR 50 0, vI (nI r), vI (-nI 1), vI (nI (A 0 3))] [] S2 = _ ∧ _
    rw [s215_13]
    simp (disch := omega) only [s215_0, s215_1, s215_4, s215_5, s215_6, s215_9, s215_10, s215_11, s215_12, s215_14, s215_15, s215_18, s215_19, s215_20, s215_23, s215_24, s215_25, s215_28, s215_29, s215_30, s215_31, s215_34, s215_35, s215_36, s215_39, s215_42, s215_43, s215_44, s215_45, s215_48, s215_49, s215_50, s215_53, s215_54, s215_55, s215_56, s215_59, s215_60, s215_63, s215_64, s215_67, s215_68, s215_69, s215_70, s215_71, s215_74, s215_77, s215_78, s215_79, s215_82, s215_89, s215_90, s215_93, s215_96, s215_97, s215_100, s215_101, q_0, q_1, q_2, q_3, q_4, q_5, q_6, q_7, q_8, q_9, q_10, q_11, q_12, q_13, q_14, q_16, q_20, q_23, q_24, q_32, q_42, q_43, q_45, q_47, q_48, q_50, q_57, q_59, q_60, q_61, q_62, q_63, q_64, q_66, q_91, q_93, q_97, q_99, q_122, q_144, q_255, q_256, q_300, q_380, q_400, q_620, q_999, q_1000, q_4095, q_4096, q_9999, q_65536, q_99999, q_31, nI_add, pk_mul, nE, nL, nT, nM31, nShl, ib_nI, nI_clamp, bI_n0, bI_n1, bI_nar, uI_r, uI_l, uL_r, uL_i, uL_p, uA_r, uA_l, bV_some, bU_some, nar_n0, nar_n1, and_self, and_true, true_and, and_false, false_and, if_true, if_false, eq_self, Bool.false_eq_true, Bool.true_eq_false, not_true_eq_false, not_false_eq_true, ↓reduceIte, nlT, nlF, ntT, ntF, neT, neF, ieT, ieF, decide_true, decide_false, Bool.not_true, Bool.not_false, Bool.and_true, Bool.true_and, Bool.and_false, Bool.false_and, Bool.or_true, Bool.true_or, Bool.or_false, Bool.false_or, r1]
    exact post S2 B _ _ i2 i3 i4 i6 i7 (by rw [ev]; exact i1) (by rw [ev]; exact i8)
def o_judged (A : Tn) (R : Rs) (l x : Int32) : Int32 := if lsB l R.2.1.1 = true then (if x.toInt = 0 then (jgR A (R.2.1.2 l.toNatClampNeg)).1 else if x.toInt = 1 then nI (jgR A (R.2.1.2 l.toNatClampNeg)).2.2 else -nI 1) else -nI 2
theorem c_judged {S : Sto} {A : Tn} {R : Rs} (h : RepC S 0 A) (hr : ResC S R) (hw : WF A) (hR : WFR R) (l x : Int32) : ∃ S1, call 116 0 [vR 0 0, vI l, vI x] S = some (some (vI (o_judged A R l x)), S1) ∧ FC S S1 ∧ RepC S1 0 A := by
  have hR6 := hR.2.1.1
  show ∃ S1, run 116 0 0 [vR 0 0, vI l, vI x] [] S = _ ∧ _
  unfold o_judged
  cases e1 : lsB l R.2.1.1 with
  | false =>
    simp (disch := omega) only [s116_0, s116_1, s116_2, s116_5, s116_8, s116_10, s116_11, s116_12, s116_40, s116_41, s116_42, s116_45, s116_46, s116_47, s116_50, s116_51, s116_52, s116_53, s116_56, s116_57, s116_58, s116_61, s116_62, s116_63, s116_66, s116_67, s116_68, q_0, q_1, q_2, q_3, q_4, q_5, q_6, q_7, q_8, q_9, q_10, q_11, q_12, q_13, q_14, q_16, q_20, q_23, q_24, q_32, q_42, q_43, q_45, q_47, q_48, q_50, q_57, q_59, q_60, q_61, q_62, q_63, q_64, q_66, q_91, q_93, q_97, q_99, q_122, q_144, q_255, q_256, q_300, q_380, q_400, q_620, q_999, q_1000, q_4095, q_4096, q_9999, q_65536, q_99999, q_31, nI_add, pk_mul, nE, nL, nT, nM31, nShl, ib_nI, nI_clamp, bI_n0, bI_n1, bI_nar, uI_r, uI_l, uL_r, uL_i, uL_p, uA_r, uA_l, bV_some, bU_some, nar_n0, nar_n1, and_self, and_true, true_and, and_false, false_and, if_true, if_false, eq_self, Bool.false_eq_true, Bool.true_eq_false, not_true_eq_false, not_false_eq_true, ↓reduceIte, nlT, nlF, ntT, ntF, neT, neF, ieT, ieF, decide_true, decide_false, Bool.not_true, Bool.not_false, Bool.and_true, Bool.true_and, Bool.and_false, Bool.false_and, Bool.or_true, Bool.true_or, Bool.or_false, Bool.false_or, x_isLw hr, e1]
    exact ⟨_, rfl, FC.rf, h⟩
  | true =>
    have e1' := e1
    obtain ⟨r, hr', rfl⟩ := lsB_t e1 (by omega)
    obtain ⟨S1, a1, a2, a3, a4, a5⟩ := x_playRow h hw (hr.2.1.2 r hr') (hR.2.1.2 r hr')
    by_cases w0 : x.toInt = 0
    · simp (disch := omega) only [s116_0, s116_1, s116_2, s116_5, s116_8, s116_10, s116_11, s116_12, s116_40, s116_41, s116_42, s116_45, s116_46, s116_47, s116_50, s116_51, s116_52, s116_53, s116_56, s116_57, s116_58, s116_61, s116_62, s116_63, s116_66, s116_67, s116_68, q_0, q_1, q_2, q_3, q_4, q_5, q_6, q_7, q_8, q_9, q_10, q_11, q_12, q_13, q_14, q_16, q_20, q_23, q_24, q_32, q_42, q_43, q_45, q_47, q_48, q_50, q_57, q_59, q_60, q_61, q_62, q_63, q_64, q_66, q_91, q_93, q_97, q_99, q_122, q_144, q_255, q_256, q_300, q_380, q_400, q_620, q_999, q_1000, q_4095, q_4096, q_9999, q_65536, q_99999, q_31, nI_add, pk_mul, nE, nL, nT, nM31, nShl, ib_nI, nI_clamp, bI_n0, bI_n1, bI_nar, uI_r, uI_l, uL_r, uL_i, uL_p, uA_r, uA_l, bV_some, bU_some, nar_n0, nar_n1, and_self, and_true, true_and, and_false, false_and, if_true, if_false, eq_self, Bool.false_eq_true, Bool.true_eq_false, not_true_eq_false, not_false_eq_true, ↓reduceIte, nlT, nlF, ntT, ntF, neT, neF, ieT, ieF, decide_true, decide_false, Bool.not_true, Bool.not_false, Bool.and_true, Bool.true_and, Bool.and_false, Bool.false_and, Bool.or_true, Bool.true_or, Bool.or_false, Bool.false_or, x_isLw hr, e1', a1, Nat.zero_add]
      exact ⟨_, rfl, a2, a3⟩
    · by_cases w1 : x.toInt = 1
      · simp (disch := omega) only [s116_0, s116_1, s116_2, s116_5, s116_8, s116_10, s116_11, s116_12, s116_40, s116_41, s116_42, s116_45, s116_46, s116_47, s116_50, s116_51, s116_52, s116_53, s116_56, s116_57, s116_58, s116_61, s116_62, s116_63, s116_66, s116_67, s116_68, q_0, q_1, q_2, q_3, q_4, q_5, q_6, q_7, q_8, q_9, q_10, q_11, q_12, q_13, q_14, q_16, q_20, q_23, q_24, q_32, q_42, q_43, q_45, q_47, q_48, q_50, q_57, q_59, q_60, q_61, q_62, q_63, q_64, q_66, q_91, q_93, q_97, q_99, q_122, q_144, q_255, q_256, q_300, q_380, q_400, q_620, q_999, q_1000, q_4095, q_4096, q_9999, q_65536, q_99999, q_31, nI_add, pk_mul, nE, nL, nT, nM31, nShl, ib_nI, nI_clamp, bI_n0, bI_n1, bI_nar, uI_r, uI_l, uL_r, uL_i, uL_p, uA_r, uA_l, bV_some, bU_some, nar_n0, nar_n1, and_self, and_true, true_and, and_false, false_and, if_true, if_false, eq_self, Bool.false_eq_true, Bool.true_eq_false, not_true_eq_false, not_false_eq_true, ↓reduceIte, nlT, nlF, ntT, ntF, neT, neF, ieT, ieF, decide_true, decide_false, Bool.not_true, Bool.not_false, Bool.and_true, Bool.true_and, Bool.and_false, Bool.false_and, Bool.or_true, Bool.true_or, Bool.or_false, Bool.false_or, x_isLw hr, e1', a1, Nat.zero_add, a5]
        exact ⟨_, rfl, a2, a3⟩
      · simp (disch := omega) only [s116_0, s116_1, s116_2, s116_5, s116_8, s116_10, s116_11, s116_12, s116_40, s116_41, s116_42, s116_45, s116_46, s116_47, s116_50, s116_51, s116_52, s116_53, s116_56, s116_57, s116_58, s116_61, s116_62, s116_63, s116_66, s116_67, s116_68, q_0, q_1, q_2, q_3, q_4, q_5, q_6, q_7, q_8, q_9, q_10, q_11, q_12, q_13, q_14, q_16, q_20, q_23, q_24, q_32, q_42, q_43, q_45, q_47, q_48, q_50, q_57, q_59, q_60, q_61, q_62, q_63, q_64, q_66, q_91, q_93, q_97, q_99, q_122, q_144, q_255, q_256, q_300, q_380, q_400, q_620, q_999, q_1000, q_4095, q_4096, q_9999, q_65536, q_99999, q_31, nI_add, pk_mul, nE, nL, nT, nM31, nShl, ib_nI, nI_clamp, bI_n0, bI_n1, bI_nar, uI_r, uI_l, uL_r, uL_i, uL_p, uA_r, uA_l, bV_some, bU_some, nar_n0, nar_n1, and_self, and_true, true_and, and_false, false_and, if_true, if_false, eq_self, Bool.false_eq_true, Bool.true_eq_false, not_true_eq_false, not_false_eq_true, ↓reduceIte, nlT, nlF, ntT, ntF, neT, neF, ieT, ieF, decide_true, decide_false, Bool.not_true, Bool.not_false, Bool.and_true, Bool.true_and, Bool.and_false, Bool.false_and, Bool.or_true, Bool.true_or, Bool.or_false, Bool.false_or, x_isLw hr, e1', Nat.zero_add]
        exact ⟨_, rfl, FC.rf, h⟩
theorem lsB_2 (x : Int32) : lsB x 2 = (decide (x.toInt = 0) || decide (x.toInt = 1)) := by
  unfold lsB
  rw [Bool.eq_iff_iff]
  have e2 : (nI 2 : Int32).toInt = 2 := by decide
  have e0 : (0 : Int32).toInt = 0 := by decide
  simp only [Bool.and_eq_true, Bool.not_eq_true', decide_eq_false_iff_not, Bool.or_eq_true, decide_eq_true_eq, Int32.lt_iff_toInt_lt, Int32.le_iff_toInt_le, e2, e0]
  omega
theorem r_judged {S : Sto} {A : Tn} {R : Rs} (h : RepM S A) (hr : ResM S R) (hw : WF A) (hR : WFR R) (l x : Int32) : ∃ S1, call 214 0 [vR 50 0, vI l, vI x] S = some (some (vI (o_judged A R l x)), S1) ∧ FM S S1 ∧ RepM S1 A := by
  have hR6 := hR.2.1.1
  show ∃ S1, run 214 0 0 [vR 50 0, vI l, vI x, vU] [] S = _ ∧ _
  unfold o_judged
  cases e1 : lsB l R.2.1.1 with
  | false =>
    simp (disch := omega) only [s214_0, s214_1, s214_2, s214_5, s214_8, s214_10, s214_11, s214_12, s214_13, s214_14, s214_15, s214_18, s214_21, s214_22, s214_23, s214_24, s214_25, s214_28, s214_29, s214_30, s214_33, s214_34, s214_37, s214_38, s214_41, q_0, q_1, q_2, q_3, q_4, q_5, q_6, q_7, q_8, q_9, q_10, q_11, q_12, q_13, q_14, q_16, q_20, q_23, q_24, q_32, q_42, q_43, q_45, q_47, q_48, q_50, q_57, q_59, q_60, q_61, q_62, q_63, q_64, q_66, q_91, q_93, q_97, q_99, q_122, q_144, q_255, q_256, q_300, q_380, q_400, q_620, q_999, q_1000, q_4095, q_4096, q_9999, q_65536, q_99999, q_31, nI_add, pk_mul, nE, nL, nT, nM31, nShl, ib_nI, nI_clamp, bI_n0, bI_n1, bI_nar, uI_r, uI_l, uL_r, uL_i, uL_p, uA_r, uA_l, bV_some, bU_some, nar_n0, nar_n1, and_self, and_true, true_and, and_false, false_and, if_true, if_false, eq_self, Bool.false_eq_true, Bool.true_eq_false, not_true_eq_false, not_false_eq_true, ↓reduceIte, nlT, nlF, ntT, ntF, neT, neF, ieT, ieF, decide_true, decide_false, Bool.not_true, Bool.not_false, Bool.and_true, Bool.true_and, Bool.and_false, Bool.false_and, Bool.or_true, Bool.true_or, Bool.or_false, Bool.false_or, m_isLw hr hR6, e1]
    exact ⟨_, rfl, FM.rf, h⟩
  | true =>
    have e1' := e1
    obtain ⟨r, hr', rfl⟩ := lsB_t e1 (by omega)
    obtain ⟨S1, a1, a2, a3, a4, a5⟩ := m_judges h hw (r := r) (by omega) (hr.2.1.2 r hr') (hR.2.1.2 r hr')
    have t0 : (x = nI 0) = (x.toInt = 0) := ti_0
    by_cases w0 : x.toInt = 0
    · have e2 : lsB x 2 = true := by rw [lsB_2]; simp [w0]
      simp (disch := omega) only [s214_0, s214_1, s214_2, s214_5, s214_8, s214_10, s214_11, s214_12, s214_13, s214_14, s214_15, s214_18, s214_21, s214_22, s214_23, s214_24, s214_25, s214_28, s214_29, s214_30, s214_33, s214_34, s214_37, s214_38, s214_41, q_0, q_1, q_2, q_3, q_4, q_5, q_6, q_7, q_8, q_9, q_10, q_11, q_12, q_13, q_14, q_16, q_20, q_23, q_24, q_32, q_42, q_43, q_45, q_47, q_48, q_50, q_57, q_59, q_60, q_61, q_62, q_63, q_64, q_66, q_91, q_93, q_97, q_99, q_122, q_144, q_255, q_256, q_300, q_380, q_400, q_620, q_999, q_1000, q_4095, q_4096, q_9999, q_65536, q_99999, q_31, nI_add, pk_mul, nE, nL, nT, nM31, nShl, ib_nI, nI_clamp, bI_n0, bI_n1, bI_nar, uI_r, uI_l, uL_r, uL_i, uL_p, uA_r, uA_l, bV_some, bU_some, nar_n0, nar_n1, and_self, and_true, true_and, and_false, false_and, if_true, if_false, eq_self, Bool.false_eq_true, Bool.true_eq_false, not_true_eq_false, not_false_eq_true, ↓reduceIte, nlT, nlF, ntT, ntF, neT, neF, ieT, ieF, decide_true, decide_false, Bool.not_true, Bool.not_false, Bool.and_true, Bool.true_and, Bool.and_false, Bool.false_and, Bool.or_true, Bool.true_or, Bool.or_false, Bool.false_or, m_isLw hr hR6, e1', min_1, min_2, min_3, min_20, min_60, min_99, min_999, min_9999, min_99999, e2, a1, t0]
      exact ⟨_, rfl, a2, a3⟩
    · by_cases w1 : x.toInt = 1
      · have e2 : lsB x 2 = true := by rw [lsB_2]; simp [w1]
        simp (disch := omega) only [s214_0, s214_1, s214_2, s214_5, s214_8, s214_10, s214_11, s214_12, s214_13, s214_14, s214_15, s214_18, s214_21, s214_22, s214_23, s214_24, s214_25, s214_28, s214_29, s214_30, s214_33, s214_34, s214_37, s214_38, s214_41, q_0, q_1, q_2, q_3, q_4, q_5, q_6, q_7, q_8, q_9, q_10, q_11, q_12, q_13, q_14, q_16, q_20, q_23, q_24, q_32, q_42, q_43, q_45, q_47, q_48, q_50, q_57, q_59, q_60, q_61, q_62, q_63, q_64, q_66, q_91, q_93, q_97, q_99, q_122, q_144, q_255, q_256, q_300, q_380, q_400, q_620, q_999, q_1000, q_4095, q_4096, q_9999, q_65536, q_99999, q_31, nI_add, pk_mul, nE, nL, nT, nM31, nShl, ib_nI, nI_clamp, bI_n0, bI_n1, bI_nar, uI_r, uI_l, uL_r, uL_i, uL_p, uA_r, uA_l, bV_some, bU_some, nar_n0, nar_n1, and_self, and_true, true_and, and_false, false_and, if_true, if_false, eq_self, Bool.false_eq_true, Bool.true_eq_false, not_true_eq_false, not_false_eq_true, ↓reduceIte, nlT, nlF, ntT, ntF, neT, neF, ieT, ieF, decide_true, decide_false, Bool.not_true, Bool.not_false, Bool.and_true, Bool.true_and, Bool.and_false, Bool.false_and, Bool.or_true, Bool.true_or, Bool.or_false, Bool.false_or, m_isLw hr hR6, e1', min_1, min_2, min_3, min_20, min_60, min_99, min_999, min_9999, min_99999, e2, a1, t0, a5]
        exact ⟨_, rfl, a2, a3⟩
      · have e2 : lsB x 2 = false := by rw [lsB_2]; simp [w0, w1]
        simp (disch := omega) only [s214_0, s214_1, s214_2, s214_5, s214_8, s214_10, s214_11, s214_12, s214_13, s214_14, s214_15, s214_18, s214_21, s214_22, s214_23, s214_24, s214_25, s214_28, s214_29, s214_30, s214_33, s214_34, s214_37, s214_38, s214_41, q_0, q_1, q_2, q_3, q_4, q_5, q_6, q_7, q_8, q_9, q_10, q_11, q_12, q_13, q_14, q_16, q_20, q_23, q_24, q_32, q_42, q_43, q_45, q_47, q_48, q_50, q_57, q_59, q_60, q_61, q_62, q_63, q_64, q_66, q_91, q_93, q_97, q_99, q_122, q_144, q_255, q_256, q_300, q_380, q_400, q_620, q_999, q_1000, q_4095, q_4096, q_9999, q_65536, q_99999, q_31, nI_add, pk_mul, nE, nL, nT, nM31, nShl, ib_nI, nI_clamp, bI_n0, bI_n1, bI_nar, uI_r, uI_l, uL_r, uL_i, uL_p, uA_r, uA_l, bV_some, bU_some, nar_n0, nar_n1, and_self, and_true, true_and, and_false, false_and, if_true, if_false, eq_self, Bool.false_eq_true, Bool.true_eq_false, not_true_eq_false, not_false_eq_true, ↓reduceIte, nlT, nlF, ntT, ntF, neT, neF, ieT, ieF, decide_true, decide_false, Bool.not_true, Bool.not_false, Bool.and_true, Bool.true_and, Bool.and_false, Bool.false_and, Bool.or_true, Bool.true_or, Bool.or_false, Bool.false_or, m_isLw hr hR6, e1', min_1, min_2, min_3, min_20, min_60, min_99, min_999, min_9999, min_99999, e2]
        exact ⟨_, rfl, FM.rf, h⟩
def o_then (A : Tn) (R : Rs) (l x : Int32) : Int32 := if (lsB l R.2.1.1 && lsB x (A 0 0)) = true then nI ((jgR A (R.2.1.2 l.toNatClampNeg)).2.1 1 x.toNatClampNeg) else -nI 1
theorem c_then {S : Sto} {A : Tn} {R : Rs} (h : RepC S 0 A) (hr : ResC S R) (hw : WF A) (hR : WFR R) (l x : Int32) : ∃ S1, call 118 0 [vR 0 0, vI l, vI x] S = some (some (vI (o_then A R l x)), S1) ∧ FC S S1 ∧ RepC S1 0 A := by
  have hR6 := hR.2.1.1
  have hP := hw.pe
  show ∃ S1, run 118 0 0 [vR 0 0, vI l, vI x] [] S = _ ∧ _
  unfold o_then
  cases e1 : lsB l R.2.1.1 with
  | false =>
    simp (disch := omega) only [s118_0, s118_1, s118_2, s118_5, s118_8, s118_9, s118_12, s118_13, s118_16, s118_19, s118_20, s118_21, s118_22, s118_23, s118_26, s118_27, s118_28, s118_31, s118_32, s118_33, s118_36, s118_39, s118_40, s118_41, q_0, q_1, q_2, q_3, q_4, q_5, q_6, q_7, q_8, q_9, q_10, q_11, q_12, q_13, q_14, q_16, q_20, q_23, q_24, q_32, q_42, q_43, q_45, q_47, q_48, q_50, q_57, q_59, q_60, q_61, q_62, q_63, q_64, q_66, q_91, q_93, q_97, q_99, q_122, q_144, q_255, q_256, q_300, q_380, q_400, q_620, q_999, q_1000, q_4095, q_4096, q_9999, q_65536, q_99999, q_31, nI_add, pk_mul, nE, nL, nT, nM31, nShl, ib_nI, nI_clamp, bI_n0, bI_n1, bI_nar, uI_r, uI_l, uL_r, uL_i, uL_p, uA_r, uA_l, bV_some, bU_some, nar_n0, nar_n1, and_self, and_true, true_and, and_false, false_and, if_true, if_false, eq_self, Bool.false_eq_true, Bool.true_eq_false, not_true_eq_false, not_false_eq_true, ↓reduceIte, nlT, nlF, ntT, ntF, neT, neF, ieT, ieF, decide_true, decide_false, Bool.not_true, Bool.not_false, Bool.and_true, Bool.true_and, Bool.and_false, Bool.false_and, Bool.or_true, Bool.true_or, Bool.or_false, Bool.false_or, x_isLw hr, e1]
    exact ⟨_, rfl, FC.rf, h⟩
  | true =>
    have e1' := e1
    obtain ⟨r, hr', rfl⟩ := lsB_t e1 (by omega)
    cases e2 : lsB x (A 0 0) with
    | false =>
      simp (disch := omega) only [s118_0, s118_1, s118_2, s118_5, s118_8, s118_9, s118_12, s118_13, s118_16, s118_19, s118_20, s118_21, s118_22, s118_23, s118_26, s118_27, s118_28, s118_31, s118_32, s118_33, s118_36, s118_39, s118_40, s118_41, q_0, q_1, q_2, q_3, q_4, q_5, q_6, q_7, q_8, q_9, q_10, q_11, q_12, q_13, q_14, q_16, q_20, q_23, q_24, q_32, q_42, q_43, q_45, q_47, q_48, q_50, q_57, q_59, q_60, q_61, q_62, q_63, q_64, q_66, q_91, q_93, q_97, q_99, q_122, q_144, q_255, q_256, q_300, q_380, q_400, q_620, q_999, q_1000, q_4095, q_4096, q_9999, q_65536, q_99999, q_31, nI_add, pk_mul, nE, nL, nT, nM31, nShl, ib_nI, nI_clamp, bI_n0, bI_n1, bI_nar, uI_r, uI_l, uL_r, uL_i, uL_p, uA_r, uA_l, bV_some, bU_some, nar_n0, nar_n1, and_self, and_true, true_and, and_false, false_and, if_true, if_false, eq_self, Bool.false_eq_true, Bool.true_eq_false, not_true_eq_false, not_false_eq_true, ↓reduceIte, nlT, nlF, ntT, ntF, neT, neF, ieT, ieF, decide_true, decide_false, Bool.not_true, Bool.not_false, Bool.and_true, Bool.true_and, Bool.and_false, Bool.false_and, Bool.or_true, Bool.true_or, Bool.or_false, Bool.false_or, x_isLw hr, e1', x_isP h, e2]
      exact ⟨_, rfl, FC.rf, h⟩
    | true =>
      have e2' := e2
      obtain ⟨p, hp, rfl⟩ := lsB_t e2 (by omega)
      obtain ⟨S1, a1, a2, a3, a4, a5⟩ := x_playRow h hw (hr.2.1.2 r hr') (hR.2.1.2 r hr')
      have a4' := a4 p (by omega)
      simp (disch := omega) only [s118_0, s118_1, s118_2, s118_5, s118_8, s118_9, s118_12, s118_13, s118_16, s118_19, s118_20, s118_21, s118_22, s118_23, s118_26, s118_27, s118_28, s118_31, s118_32, s118_33, s118_36, s118_39, s118_40, s118_41, q_0, q_1, q_2, q_3, q_4, q_5, q_6, q_7, q_8, q_9, q_10, q_11, q_12, q_13, q_14, q_16, q_20, q_23, q_24, q_32, q_42, q_43, q_45, q_47, q_48, q_50, q_57, q_59, q_60, q_61, q_62, q_63, q_64, q_66, q_91, q_93, q_97, q_99, q_122, q_144, q_255, q_256, q_300, q_380, q_400, q_620, q_999, q_1000, q_4095, q_4096, q_9999, q_65536, q_99999, q_31, nI_add, pk_mul, nE, nL, nT, nM31, nShl, ib_nI, nI_clamp, bI_n0, bI_n1, bI_nar, uI_r, uI_l, uL_r, uL_i, uL_p, uA_r, uA_l, bV_some, bU_some, nar_n0, nar_n1, and_self, and_true, true_and, and_false, false_and, if_true, if_false, eq_self, Bool.false_eq_true, Bool.true_eq_false, not_true_eq_false, not_false_eq_true, ↓reduceIte, nlT, nlF, ntT, ntF, neT, neF, ieT, ieF, decide_true, decide_false, Bool.not_true, Bool.not_false, Bool.and_true, Bool.true_and, Bool.and_false, Bool.false_and, Bool.or_true, Bool.true_or, Bool.or_false, Bool.false_or, x_isLw hr, e1', x_isP h, e2', a1, Nat.zero_add, a4']
      exact ⟨_, rfl, a2, a3⟩
theorem r_then {S : Sto} {A : Tn} {R : Rs} (h : RepM S A) (hr : ResM S R) (hw : WF A) (hR : WFR R) (l x : Int32) : ∃ S1, call 219 0 [vR 50 0, vI l, vI x] S = some (some (vI (o_then A R l x)), S1) ∧ FM S S1 ∧ RepM S1 A := by
  have hR6 := hR.2.1.1
  have hP := hw.pe
  show ∃ S1, run 219 0 0 [vR 50 0, vI l, vI x] [] S = _ ∧ _
  unfold o_then
  cases e1 : lsB l R.2.1.1 with
  | false =>
    simp (disch := omega) only [s219_0, s219_1, s219_2, s219_5, s219_8, s219_9, s219_10, s219_13, s219_16, s219_17, s219_18, s219_19, s219_20, s219_23, s219_24, s219_25, s219_28, s219_29, s219_30, q_0, q_1, q_2, q_3, q_4, q_5, q_6, q_7, q_8, q_9, q_10, q_11, q_12, q_13, q_14, q_16, q_20, q_23, q_24, q_32, q_42, q_43, q_45, q_47, q_48, q_50, q_57, q_59, q_60, q_61, q_62, q_63, q_64, q_66, q_91, q_93, q_97, q_99, q_122, q_144, q_255, q_256, q_300, q_380, q_400, q_620, q_999, q_1000, q_4095, q_4096, q_9999, q_65536, q_99999, q_31, nI_add, pk_mul, nE, nL, nT, nM31, nShl, ib_nI, nI_clamp, bI_n0, bI_n1, bI_nar, uI_r, uI_l, uL_r, uL_i, uL_p, uA_r, uA_l, bV_some, bU_some, nar_n0, nar_n1, and_self, and_true, true_and, and_false, false_and, if_true, if_false, eq_self, Bool.false_eq_true, Bool.true_eq_false, not_true_eq_false, not_false_eq_true, ↓reduceIte, nlT, nlF, ntT, ntF, neT, neF, ieT, ieF, decide_true, decide_false, Bool.not_true, Bool.not_false, Bool.and_true, Bool.true_and, Bool.and_false, Bool.false_and, Bool.or_true, Bool.true_or, Bool.or_false, Bool.false_or, m_isLw hr hR6, e1]
    exact ⟨_, rfl, FM.rf, h⟩
  | true =>
    have e1' := e1
    obtain ⟨r, hr', rfl⟩ := lsB_t e1 (by omega)
    cases e2 : lsB x (A 0 0) with
    | false =>
      simp (disch := omega) only [s219_0, s219_1, s219_2, s219_5, s219_8, s219_9, s219_10, s219_13, s219_16, s219_17, s219_18, s219_19, s219_20, s219_23, s219_24, s219_25, s219_28, s219_29, s219_30, q_0, q_1, q_2, q_3, q_4, q_5, q_6, q_7, q_8, q_9, q_10, q_11, q_12, q_13, q_14, q_16, q_20, q_23, q_24, q_32, q_42, q_43, q_45, q_47, q_48, q_50, q_57, q_59, q_60, q_61, q_62, q_63, q_64, q_66, q_91, q_93, q_97, q_99, q_122, q_144, q_255, q_256, q_300, q_380, q_400, q_620, q_999, q_1000, q_4095, q_4096, q_9999, q_65536, q_99999, q_31, nI_add, pk_mul, nE, nL, nT, nM31, nShl, ib_nI, nI_clamp, bI_n0, bI_n1, bI_nar, uI_r, uI_l, uL_r, uL_i, uL_p, uA_r, uA_l, bV_some, bU_some, nar_n0, nar_n1, and_self, and_true, true_and, and_false, false_and, if_true, if_false, eq_self, Bool.false_eq_true, Bool.true_eq_false, not_true_eq_false, not_false_eq_true, ↓reduceIte, nlT, nlF, ntT, ntF, neT, neF, ieT, ieF, decide_true, decide_false, Bool.not_true, Bool.not_false, Bool.and_true, Bool.true_and, Bool.and_false, Bool.false_and, Bool.or_true, Bool.true_or, Bool.or_false, Bool.false_or, m_isLw hr hR6, e1', m_isP h hw, e2]
      exact ⟨_, rfl, FM.rf, h⟩
    | true =>
      have e2' := e2
      obtain ⟨p, hp, rfl⟩ := lsB_t e2 (by omega)
      obtain ⟨S1, a1, a2, a3, a4, a5⟩ := m_judges h hw (r := r) (by omega) (hr.2.1.2 r hr') (hR.2.1.2 r hr')
      have a4' := a4 p (by omega)
      simp (disch := omega) only [s219_0, s219_1, s219_2, s219_5, s219_8, s219_9, s219_10, s219_13, s219_16, s219_17, s219_18, s219_19, s219_20, s219_23, s219_24, s219_25, s219_28, s219_29, s219_30, q_0, q_1, q_2, q_3, q_4, q_5, q_6, q_7, q_8, q_9, q_10, q_11, q_12, q_13, q_14, q_16, q_20, q_23, q_24, q_32, q_42, q_43, q_45, q_47, q_48, q_50, q_57, q_59, q_60, q_61, q_62, q_63, q_64, q_66, q_91, q_93, q_97, q_99, q_122, q_144, q_255, q_256, q_300, q_380, q_400, q_620, q_999, q_1000, q_4095, q_4096, q_9999, q_65536, q_99999, q_31, nI_add, pk_mul, nE, nL, nT, nM31, nShl, ib_nI, nI_clamp, bI_n0, bI_n1, bI_nar, uI_r, uI_l, uL_r, uL_i, uL_p, uA_r, uA_l, bV_some, bU_some, nar_n0, nar_n1, and_self, and_true, true_and, and_false, false_and, if_true, if_false, eq_self, Bool.false_eq_true, Bool.true_eq_false, not_true_eq_false, not_false_eq_true, ↓reduceIte, nlT, nlF, ntT, ntF, neT, neF, ieT, ieF, decide_true, decide_false, Bool.not_true, Bool.not_false, Bool.and_true, Bool.true_and, Bool.and_false, Bool.false_and, Bool.or_true, Bool.true_or, Bool.or_false, Bool.false_or, m_isLw hr hR6, e1', m_isP h hw, e2', a1, a4']
      exact ⟨_, rfl, a2, a3⟩
