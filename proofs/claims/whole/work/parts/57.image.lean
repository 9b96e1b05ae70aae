/-! images -/
theorem cpyV {f g : Nat → Int32} {n k : Nat} (h : k < n) : va_cpy f g 0 0 n k = f k := by
  rw [pk_cpy_in (Nat.zero_le k) (by omega)]
  congr 1
  omega
theorem x_copyAll (S : Sto) {t n : Nat} (hk : knd t = (1, n, [])) (ht : Nat.beq t 103 = false) (hn : n < 2 ^ 31) (q q' : Nat) : call 83 0 [vR t q', vR t q] S = some (none, uA S t q (va_cpy (S.1 t q') (S.1 t q) 0 0 n)) := by
  have ha : ∀ i, aln S t i = some n := by
    intro i
    unfold aln
    rw [hk]
    rfl
  have e0 : Int32.ofNat n = nI n := rfl
  show run 83 0 0 [vR t q', vR t q] [] S = _
  rw [s83_0 _ _ _ ht, s83_1, s83_2 _ _ _ ht, s83_3, s83_4 _ _ _ ht, s83_5 _ _ _ n (ha _), s83_6 _ _ _ ht, s83_7 _ _ _ n (ha _), s83_8, s83_11 _ _ _ _ _ _ _ _ _ _ hk hk, s83_14]
  rw [e0, if_neg (c := nI n < nI n) (by rw [nT hn hn]; omega), nI_clamp hn]
  rw [if_pos]
  · rfl
  · refine ⟨by decide, by decide, nI_pos hn, ?_, ?_⟩
    · show 0 + n ≤ n; omega
    · show 0 + n ≤ n; omega
def pT (q : Nat) : Nat → Nat → Bool := fun t i => decide (1 ≤ t) && decide (t ≤ 13) && i == q
theorem pT_t {q t : Nat} (h1 : 1 ≤ t) (h2 : t ≤ 13) : pT q t q = true := by
  unfold pT
  simp [h1, h2]
theorem pT_f {q t i : Nat} (h : t = 0 ∨ 14 ≤ t ∨ i ≠ q) : pT q t i = false := by
  unfold pT
  simp only [Bool.and_eq_false_iff, decide_eq_false_iff_not, beq_eq_false_iff_ne]
  omega
theorem x_copyFrom {S : Sto} {q q' : Nat} {A : Tn} (h : RepC S q' A) (hq : q ≠ q') : ∃ S', call 82 0 [vR 1 q, vR 1 q'] S = some (none, S') ∧ Fr (pT q) S S' ∧ RepC S' q A := by
  show ∃ S', run 82 0 0 [vR 1 q, vR 1 q'] [] S = _ ∧ _
  simp only [s82_0, s82_1, s82_2, s82_5, s82_8, s82_9, s82_10, s82_13, s82_16, s82_17, s82_20, s82_21, s82_24, s82_27, s82_28, s82_31, s82_32, s82_35, s82_38, s82_39, s82_42, s82_43, s82_46, s82_49, s82_50, s82_53, s82_54, s82_57, s82_60, s82_61, s82_64, s82_65, s82_68, s82_71, s82_72, s82_73, s82_76, s82_79, s82_80, s82_83, s82_84, s82_87, s82_90, s82_91, s82_94, s82_95, s82_98, s82_101, s82_102, s82_103, s82_106, s82_109, s82_110, s82_111, s82_114, s82_117, s82_118, s82_121, s82_122, s82_125, s82_128, s82_129, s82_132, s82_133, s82_136, s82_139, s82_140, s82_143, s82_144, s82_147, s82_150, s82_151, s82_154, s82_155, s82_158, s82_161, s82_162, s82_163, s82_166, s82_169, s82_170, s82_173, s82_174, s82_177, s82_180, s82_181, s82_182, s82_185, s82_188, s82_189, s82_190, s82_193, s82_196, bU_some, fun S => x_copyAll S (t := 2) (n := 12) rfl rfl (by decide), fun S => x_copyAll S (t := 3) (n := 12) rfl rfl (by decide), fun S => x_copyAll S (t := 4) (n := 12) rfl rfl (by decide), fun S => x_copyAll S (t := 5) (n := 144) rfl rfl (by decide), fun S => x_copyAll S (t := 6) (n := 144) rfl rfl (by decide), fun S => x_copyAll S (t := 7) (n := 48) rfl rfl (by decide), fun S => x_copyAll S (t := 8) (n := 24) rfl rfl (by decide), fun S => x_copyAll S (t := 9) (n := 12) rfl rfl (by decide), fun S => x_copyAll S (t := 10) (n := 12) rfl rfl (by decide), fun S => x_copyAll S (t := 11) (n := 12) rfl rfl (by decide), fun S => x_copyAll S (t := 12) (n := 12) rfl rfl (by decide), fun S => x_copyAll S (t := 13) (n := 12) rfl rfl (by decide)]
  refine ⟨_, rfl, ?_, ?_⟩
  · repeat' (first | exact Fr.rfl' | refine Fr.uI ?_ (pT_t (by decide) (by decide)) | refine Fr.uA ?_ (pT_t (by decide) (by decide)))
  · refine ⟨⟨?_, ?_, ?_, ?_, ?_, ?_, ?_, ?_⟩, fun p hp => ⟨?_, ?_, ?_⟩, fun p hp => ⟨?_, ?_⟩, fun p hp => ⟨?_, ?_, ?_⟩, fun p hp => ⟨?_, ?_, ?_, ?_, ?_⟩⟩
    · simp (disch := omega) only [q_0, q_1, q_2, q_3, q_4, q_5, q_6, q_7, q_8, q_9, q_10, q_11, q_12, q_13, q_14, q_16, q_20, q_23, q_24, q_32, q_42, q_43, q_45, q_47, q_48, q_50, q_57, q_59, q_60, q_61, q_62, q_63, q_64, q_66, q_91, q_93, q_97, q_99, q_122, q_144, q_255, q_256, q_300, q_380, q_400, q_620, q_999, q_1000, q_4095, q_4096, q_9999, q_65536, q_99999, q_31, nI_add, pk_mul, nE, nL, nT, nM31, nShl, ib_nI, nI_clamp, bI_n0, bI_n1, bI_nar, uI_r, uI_l, uL_r, uL_i, uL_p, uA_r, uA_l, bV_some, bU_some, nar_n0, nar_n1, and_self, and_true, true_and, and_false, false_and, if_true, if_false, eq_self, Bool.false_eq_true, Bool.true_eq_false, not_true_eq_false, not_false_eq_true, ↓reduceIte, nlT, nlF, ntT, ntF, neT, neF, ieT, ieF, decide_true, decide_false, Bool.not_true, Bool.not_false, Bool.and_true, Bool.true_and, Bool.and_false, Bool.false_and, Bool.or_true, Bool.true_or, Bool.or_false, Bool.false_or, cpyV]; exact h.pe
    · simp (disch := omega) only [q_0, q_1, q_2, q_3, q_4, q_5, q_6, q_7, q_8, q_9, q_10, q_11, q_12, q_13, q_14, q_16, q_20, q_23, q_24, q_32, q_42, q_43, q_45, q_47, q_48, q_50, q_57, q_59, q_60, q_61, q_62, q_63, q_64, q_66, q_91, q_93, q_97, q_99, q_122, q_144, q_255, q_256, q_300, q_380, q_400, q_620, q_999, q_1000, q_4095, q_4096, q_9999, q_65536, q_99999, q_31, nI_add, pk_mul, nE, nL, nT, nM31, nShl, ib_nI, nI_clamp, bI_n0, bI_n1, bI_nar, uI_r, uI_l, uL_r, uL_i, uL_p, uA_r, uA_l, bV_some, bU_some, nar_n0, nar_n1, and_self, and_true, true_and, and_false, false_and, if_true, if_false, eq_self, Bool.false_eq_true, Bool.true_eq_false, not_true_eq_false, not_false_eq_true, ↓reduceIte, nlT, nlF, ntT, ntF, neT, neF, ieT, ieF, decide_true, decide_false, Bool.not_true, Bool.not_false, Bool.and_true, Bool.true_and, Bool.and_false, Bool.false_and, Bool.or_true, Bool.true_or, Bool.or_false, Bool.false_or, cpyV]; exact h.th
    · simp (disch := omega) only [q_0, q_1, q_2, q_3, q_4, q_5, q_6, q_7, q_8, q_9, q_10, q_11, q_12, q_13, q_14, q_16, q_20, q_23, q_24, q_32, q_42, q_43, q_45, q_47, q_48, q_50, q_57, q_59, q_60, q_61, q_62, q_63, q_64, q_66, q_91, q_93, q_97, q_99, q_122, q_144, q_255, q_256, q_300, q_380, q_400, q_620, q_999, q_1000, q_4095, q_4096, q_9999, q_65536, q_99999, q_31, nI_add, pk_mul, nE, nL, nT, nM31, nShl, ib_nI, nI_clamp, bI_n0, bI_n1, bI_nar, uI_r, uI_l, uL_r, uL_i, uL_p, uA_r, uA_l, bV_some, bU_some, nar_n0, nar_n1, and_self, and_true, true_and, and_false, false_and, if_true, if_false, eq_self, Bool.false_eq_true, Bool.true_eq_false, not_true_eq_false, not_false_eq_true, ↓reduceIte, nlT, nlF, ntT, ntF, neT, neF, ieT, ieF, decide_true, decide_false, Bool.not_true, Bool.not_false, Bool.and_true, Bool.true_and, Bool.and_false, Bool.false_and, Bool.or_true, Bool.true_or, Bool.or_false, Bool.false_or, cpyV]; exact h.wk
    · simp (disch := omega) only [q_0, q_1, q_2, q_3, q_4, q_5, q_6, q_7, q_8, q_9, q_10, q_11, q_12, q_13, q_14, q_16, q_20, q_23, q_24, q_32, q_42, q_43, q_45, q_47, q_48, q_50, q_57, q_59, q_60, q_61, q_62, q_63, q_64, q_66, q_91, q_93, q_97, q_99, q_122, q_144, q_255, q_256, q_300, q_380, q_400, q_620, q_999, q_1000, q_4095, q_4096, q_9999, q_65536, q_99999, q_31, nI_add, pk_mul, nE, nL, nT, nM31, nShl, ib_nI, nI_clamp, bI_n0, bI_n1, bI_nar, uI_r, uI_l, uL_r, uL_i, uL_p, uA_r, uA_l, bV_some, bU_some, nar_n0, nar_n1, and_self, and_true, true_and, and_false, false_and, if_true, if_false, eq_self, Bool.false_eq_true, Bool.true_eq_false, not_true_eq_false, not_false_eq_true, ↓reduceIte, nlT, nlF, ntT, ntF, neT, neF, ieT, ieF, decide_true, decide_false, Bool.not_true, Bool.not_false, Bool.and_true, Bool.true_and, Bool.and_false, Bool.false_and, Bool.or_true, Bool.true_or, Bool.or_false, Bool.false_or, cpyV]; exact h.nr
    · simp (disch := omega) only [q_0, q_1, q_2, q_3, q_4, q_5, q_6, q_7, q_8, q_9, q_10, q_11, q_12, q_13, q_14, q_16, q_20, q_23, q_24, q_32, q_42, q_43, q_45, q_47, q_48, q_50, q_57, q_59, q_60, q_61, q_62, q_63, q_64, q_66, q_91, q_93, q_97, q_99, q_122, q_144, q_255, q_256, q_300, q_380, q_400, q_620, q_999, q_1000, q_4095, q_4096, q_9999, q_65536, q_99999, q_31, nI_add, pk_mul, nE, nL, nT, nM31, nShl, ib_nI, nI_clamp, bI_n0, bI_n1, bI_nar, uI_r, uI_l, uL_r, uL_i, uL_p, uA_r, uA_l, bV_some, bU_some, nar_n0, nar_n1, and_self, and_true, true_and, and_false, false_and, if_true, if_false, eq_self, Bool.false_eq_true, Bool.true_eq_false, not_true_eq_false, not_false_eq_true, ↓reduceIte, nlT, nlF, ntT, ntF, neT, neF, ieT, ieF, decide_true, decide_false, Bool.not_true, Bool.not_false, Bool.and_true, Bool.true_and, Bool.and_false, Bool.false_and, Bool.or_true, Bool.true_or, Bool.or_false, Bool.false_or, cpyV]; exact h.ye
    · simp (disch := omega) only [q_0, q_1, q_2, q_3, q_4, q_5, q_6, q_7, q_8, q_9, q_10, q_11, q_12, q_13, q_14, q_16, q_20, q_23, q_24, q_32, q_42, q_43, q_45, q_47, q_48, q_50, q_57, q_59, q_60, q_61, q_62, q_63, q_64, q_66, q_91, q_93, q_97, q_99, q_122, q_144, q_255, q_256, q_300, q_380, q_400, q_620, q_999, q_1000, q_4095, q_4096, q_9999, q_65536, q_99999, q_31, nI_add, pk_mul, nE, nL, nT, nM31, nShl, ib_nI, nI_clamp, bI_n0, bI_n1, bI_nar, uI_r, uI_l, uL_r, uL_i, uL_p, uA_r, uA_l, bV_some, bU_some, nar_n0, nar_n1, and_self, and_true, true_and, and_false, false_and, if_true, if_false, eq_self, Bool.false_eq_true, Bool.true_eq_false, not_true_eq_false, not_false_eq_true, ↓reduceIte, nlT, nlF, ntT, ntF, neT, neF, ieT, ieF, decide_true, decide_false, Bool.not_true, Bool.not_false, Bool.and_true, Bool.true_and, Bool.and_false, Bool.false_and, Bool.or_true, Bool.true_or, Bool.or_false, Bool.false_or, cpyV]; exact h.dr
    · simp (disch := omega) only [q_0, q_1, q_2, q_3, q_4, q_5, q_6, q_7, q_8, q_9, q_10, q_11, q_12, q_13, q_14, q_16, q_20, q_23, q_24, q_32, q_42, q_43, q_45, q_47, q_48, q_50, q_57, q_59, q_60, q_61, q_62, q_63, q_64, q_66, q_91, q_93, q_97, q_99, q_122, q_144, q_255, q_256, q_300, q_380, q_400, q_620, q_999, q_1000, q_4095, q_4096, q_9999, q_65536, q_99999, q_31, nI_add, pk_mul, nE, nL, nT, nM31, nShl, ib_nI, nI_clamp, bI_n0, bI_n1, bI_nar, uI_r, uI_l, uL_r, uL_i, uL_p, uA_r, uA_l, bV_some, bU_some, nar_n0, nar_n1, and_self, and_true, true_and, and_false, false_and, if_true, if_false, eq_self, Bool.false_eq_true, Bool.true_eq_false, not_true_eq_false, not_false_eq_true, ↓reduceIte, nlT, nlF, ntT, ntF, neT, neF, ieT, ieF, decide_true, decide_false, Bool.not_true, Bool.not_false, Bool.and_true, Bool.true_and, Bool.and_false, Bool.false_and, Bool.or_true, Bool.true_or, Bool.or_false, Bool.false_or, cpyV]; exact h.lvb
    · simp (disch := omega) only [q_0, q_1, q_2, q_3, q_4, q_5, q_6, q_7, q_8, q_9, q_10, q_11, q_12, q_13, q_14, q_16, q_20, q_23, q_24, q_32, q_42, q_43, q_45, q_47, q_48, q_50, q_57, q_59, q_60, q_61, q_62, q_63, q_64, q_66, q_91, q_93, q_97, q_99, q_122, q_144, q_255, q_256, q_300, q_380, q_400, q_620, q_999, q_1000, q_4095, q_4096, q_9999, q_65536, q_99999, q_31, nI_add, pk_mul, nE, nL, nT, nM31, nShl, ib_nI, nI_clamp, bI_n0, bI_n1, bI_nar, uI_r, uI_l, uL_r, uL_i, uL_p, uA_r, uA_l, bV_some, bU_some, nar_n0, nar_n1, and_self, and_true, true_and, and_false, false_and, if_true, if_false, eq_self, Bool.false_eq_true, Bool.true_eq_false, not_true_eq_false, not_false_eq_true, ↓reduceIte, nlT, nlF, ntT, ntF, neT, neF, ieT, ieF, decide_true, decide_false, Bool.not_true, Bool.not_false, Bool.and_true, Bool.true_and, Bool.and_false, Bool.false_and, Bool.or_true, Bool.true_or, Bool.or_false, Bool.false_or, cpyV]; exact h.dnb
    · simp (disch := omega) only [q_0, q_1, q_2, q_3, q_4, q_5, q_6, q_7, q_8, q_9, q_10, q_11, q_12, q_13, q_14, q_16, q_20, q_23, q_24, q_32, q_42, q_43, q_45, q_47, q_48, q_50, q_57, q_59, q_60, q_61, q_62, q_63, q_64, q_66, q_91, q_93, q_97, q_99, q_122, q_144, q_255, q_256, q_300, q_380, q_400, q_620, q_999, q_1000, q_4095, q_4096, q_9999, q_65536, q_99999, q_31, nI_add, pk_mul, nE, nL, nT, nM31, nShl, ib_nI, nI_clamp, bI_n0, bI_n1, bI_nar, uI_r, uI_l, uL_r, uL_i, uL_p, uA_r, uA_l, bV_some, bU_some, nar_n0, nar_n1, and_self, and_true, true_and, and_false, false_and, if_true, if_false, eq_self, Bool.false_eq_true, Bool.true_eq_false, not_true_eq_false, not_false_eq_true, ↓reduceIte, nlT, nlF, ntT, ntF, neT, neF, ieT, ieF, decide_true, decide_false, Bool.not_true, Bool.not_false, Bool.and_true, Bool.true_and, Bool.and_false, Bool.false_and, Bool.or_true, Bool.true_or, Bool.or_false, Bool.false_or, cpyV]; exact h.co hp
    · simp (disch := omega) only [q_0, q_1, q_2, q_3, q_4, q_5, q_6, q_7, q_8, q_9, q_10, q_11, q_12, q_13, q_14, q_16, q_20, q_23, q_24, q_32, q_42, q_43, q_45, q_47, q_48, q_50, q_57, q_59, q_60, q_61, q_62, q_63, q_64, q_66, q_91, q_93, q_97, q_99, q_122, q_144, q_255, q_256, q_300, q_380, q_400, q_620, q_999, q_1000, q_4095, q_4096, q_9999, q_65536, q_99999, q_31, nI_add, pk_mul, nE, nL, nT, nM31, nShl, ib_nI, nI_clamp, bI_n0, bI_n1, bI_nar, uI_r, uI_l, uL_r, uL_i, uL_p, uA_r, uA_l, bV_some, bU_some, nar_n0, nar_n1, and_self, and_true, true_and, and_false, false_and, if_true, if_false, eq_self, Bool.false_eq_true, Bool.true_eq_false, not_true_eq_false, not_false_eq_true, ↓reduceIte, nlT, nlF, ntT, ntF, neT, neF, ieT, ieF, decide_true, decide_false, Bool.not_true, Bool.not_false, Bool.and_true, Bool.true_and, Bool.and_false, Bool.false_and, Bool.or_true, Bool.true_or, Bool.or_false, Bool.false_or, cpyV]; exact h.he hp
    · simp (disch := omega) only [q_0, q_1, q_2, q_3, q_4, q_5, q_6, q_7, q_8, q_9, q_10, q_11, q_12, q_13, q_14, q_16, q_20, q_23, q_24, q_32, q_42, q_43, q_45, q_47, q_48, q_50, q_57, q_59, q_60, q_61, q_62, q_63, q_64, q_66, q_91, q_93, q_97, q_99, q_122, q_144, q_255, q_256, q_300, q_380, q_400, q_620, q_999, q_1000, q_4095, q_4096, q_9999, q_65536, q_99999, q_31, nI_add, pk_mul, nE, nL, nT, nM31, nShl, ib_nI, nI_clamp, bI_n0, bI_n1, bI_nar, uI_r, uI_l, uL_r, uL_i, uL_p, uA_r, uA_l, bV_some, bU_some, nar_n0, nar_n1, and_self, and_true, true_and, and_false, false_and, if_true, if_false, eq_self, Bool.false_eq_true, Bool.true_eq_false, not_true_eq_false, not_false_eq_true, ↓reduceIte, nlT, nlF, ntT, ntF, neT, neF, ieT, ieF, decide_true, decide_false, Bool.not_true, Bool.not_false, Bool.and_true, Bool.true_and, Bool.and_false, Bool.false_and, Bool.or_true, Bool.true_or, Bool.or_false, Bool.false_or, cpyV]; exact h.fo hp
    · simp (disch := omega) only [q_0, q_1, q_2, q_3, q_4, q_5, q_6, q_7, q_8, q_9, q_10, q_11, q_12, q_13, q_14, q_16, q_20, q_23, q_24, q_32, q_42, q_43, q_45, q_47, q_48, q_50, q_57, q_59, q_60, q_61, q_62, q_63, q_64, q_66, q_91, q_93, q_97, q_99, q_122, q_144, q_255, q_256, q_300, q_380, q_400, q_620, q_999, q_1000, q_4095, q_4096, q_9999, q_65536, q_99999, q_31, nI_add, pk_mul, nE, nL, nT, nM31, nShl, ib_nI, nI_clamp, bI_n0, bI_n1, bI_nar, uI_r, uI_l, uL_r, uL_i, uL_p, uA_r, uA_l, bV_some, bU_some, nar_n0, nar_n1, and_self, and_true, true_and, and_false, false_and, if_true, if_false, eq_self, Bool.false_eq_true, Bool.true_eq_false, not_true_eq_false, not_false_eq_true, ↓reduceIte, nlT, nlF, ntT, ntF, neT, neF, ieT, ieF, decide_true, decide_false, Bool.not_true, Bool.not_false, Bool.and_true, Bool.true_and, Bool.and_false, Bool.false_and, Bool.or_true, Bool.true_or, Bool.or_false, Bool.false_or, cpyV]; exact h.li hp
    · simp (disch := omega) only [q_0, q_1, q_2, q_3, q_4, q_5, q_6, q_7, q_8, q_9, q_10, q_11, q_12, q_13, q_14, q_16, q_20, q_23, q_24, q_32, q_42, q_43, q_45, q_47, q_48, q_50, q_57, q_59, q_60, q_61, q_62, q_63, q_64, q_66, q_91, q_93, q_97, q_99, q_122, q_144, q_255, q_256, q_300, q_380, q_400, q_620, q_999, q_1000, q_4095, q_4096, q_9999, q_65536, q_99999, q_31, nI_add, pk_mul, nE, nL, nT, nM31, nShl, ib_nI, nI_clamp, bI_n0, bI_n1, bI_nar, uI_r, uI_l, uL_r, uL_i, uL_p, uA_r, uA_l, bV_some, bU_some, nar_n0, nar_n1, and_self, and_true, true_and, and_false, false_and, if_true, if_false, eq_self, Bool.false_eq_true, Bool.true_eq_false, not_true_eq_false, not_false_eq_true, ↓reduceIte, nlT, nlF, ntT, ntF, neT, neF, ieT, ieF, decide_true, decide_false, Bool.not_true, Bool.not_false, Bool.and_true, Bool.true_and, Bool.and_false, Bool.false_and, Bool.or_true, Bool.true_or, Bool.or_false, Bool.false_or, cpyV]; exact h.gi hp
    · simp (disch := omega) only [q_0, q_1, q_2, q_3, q_4, q_5, q_6, q_7, q_8, q_9, q_10, q_11, q_12, q_13, q_14, q_16, q_20, q_23, q_24, q_32, q_42, q_43, q_45, q_47, q_48, q_50, q_57, q_59, q_60, q_61, q_62, q_63, q_64, q_66, q_91, q_93, q_97, q_99, q_122, q_144, q_255, q_256, q_300, q_380, q_400, q_620, q_999, q_1000, q_4095, q_4096, q_9999, q_65536, q_99999, q_31, nI_add, pk_mul, nE, nL, nT, nM31, nShl, ib_nI, nI_clamp, bI_n0, bI_n1, bI_nar, uI_r, uI_l, uL_r, uL_i, uL_p, uA_r, uA_l, bV_some, bU_some, nar_n0, nar_n1, and_self, and_true, true_and, and_false, false_and, if_true, if_false, eq_self, Bool.false_eq_true, Bool.true_eq_false, not_true_eq_false, not_false_eq_true, ↓reduceIte, nlT, nlF, ntT, ntF, neT, neF, ieT, ieF, decide_true, decide_false, Bool.not_true, Bool.not_false, Bool.and_true, Bool.true_and, Bool.and_false, Bool.false_and, Bool.or_true, Bool.true_or, Bool.or_false, Bool.false_or, cpyV]; exact (h.2.2.2.1 p hp).1
    · simp (disch := omega) only [q_0, q_1, q_2, q_3, q_4, q_5, q_6, q_7, q_8, q_9, q_10, q_11, q_12, q_13, q_14, q_16, q_20, q_23, q_24, q_32, q_42, q_43, q_45, q_47, q_48, q_50, q_57, q_59, q_60, q_61, q_62, q_63, q_64, q_66, q_91, q_93, q_97, q_99, q_122, q_144, q_255, q_256, q_300, q_380, q_400, q_620, q_999, q_1000, q_4095, q_4096, q_9999, q_65536, q_99999, q_31, nI_add, pk_mul, nE, nL, nT, nM31, nShl, ib_nI, nI_clamp, bI_n0, bI_n1, bI_nar, uI_r, uI_l, uL_r, uL_i, uL_p, uA_r, uA_l, bV_some, bU_some, nar_n0, nar_n1, and_self, and_true, true_and, and_false, false_and, if_true, if_false, eq_self, Bool.false_eq_true, Bool.true_eq_false, not_true_eq_false, not_false_eq_true, ↓reduceIte, nlT, nlF, ntT, ntF, neT, neF, ieT, ieF, decide_true, decide_false, Bool.not_true, Bool.not_false, Bool.and_true, Bool.true_and, Bool.and_false, Bool.false_and, Bool.or_true, Bool.true_or, Bool.or_false, Bool.false_or, cpyV]; exact (h.2.2.2.1 p hp).2.1
    · simp (disch := omega) only [q_0, q_1, q_2, q_3, q_4, q_5, q_6, q_7, q_8, q_9, q_10, q_11, q_12, q_13, q_14, q_16, q_20, q_23, q_24, q_32, q_42, q_43, q_45, q_47, q_48, q_50, q_57, q_59, q_60, q_61, q_62, q_63, q_64, q_66, q_91, q_93, q_97, q_99, q_122, q_144, q_255, q_256, q_300, q_380, q_400, q_620, q_999, q_1000, q_4095, q_4096, q_9999, q_65536, q_99999, q_31, nI_add, pk_mul, nE, nL, nT, nM31, nShl, ib_nI, nI_clamp, bI_n0, bI_n1, bI_nar, uI_r, uI_l, uL_r, uL_i, uL_p, uA_r, uA_l, bV_some, bU_some, nar_n0, nar_n1, and_self, and_true, true_and, and_false, false_and, if_true, if_false, eq_self, Bool.false_eq_true, Bool.true_eq_false, not_true_eq_false, not_false_eq_true, ↓reduceIte, nlT, nlF, ntT, ntF, neT, neF, ieT, ieF, decide_true, decide_false, Bool.not_true, Bool.not_false, Bool.and_true, Bool.true_and, Bool.and_false, Bool.false_and, Bool.or_true, Bool.true_or, Bool.or_false, Bool.false_or, cpyV]; exact h.us hp
    · simp (disch := omega) only [q_0, q_1, q_2, q_3, q_4, q_5, q_6, q_7, q_8, q_9, q_10, q_11, q_12, q_13, q_14, q_16, q_20, q_23, q_24, q_32, q_42, q_43, q_45, q_47, q_48, q_50, q_57, q_59, q_60, q_61, q_62, q_63, q_64, q_66, q_91, q_93, q_97, q_99, q_122, q_144, q_255, q_256, q_300, q_380, q_400, q_620, q_999, q_1000, q_4095, q_4096, q_9999, q_65536, q_99999, q_31, nI_add, pk_mul, nE, nL, nT, nM31, nShl, ib_nI, nI_clamp, bI_n0, bI_n1, bI_nar, uI_r, uI_l, uL_r, uL_i, uL_p, uA_r, uA_l, bV_some, bU_some, nar_n0, nar_n1, and_self, and_true, true_and, and_false, false_and, if_true, if_false, eq_self, Bool.false_eq_true, Bool.true_eq_false, not_true_eq_false, not_false_eq_true, ↓reduceIte, nlT, nlF, ntT, ntF, neT, neF, ieT, ieF, decide_true, decide_false, Bool.not_true, Bool.not_false, Bool.and_true, Bool.true_and, Bool.and_false, Bool.false_and, Bool.or_true, Bool.true_or, Bool.or_false, Bool.false_or, cpyV]; exact h.ak hp
    · simp (disch := omega) only [q_0, q_1, q_2, q_3, q_4, q_5, q_6, q_7, q_8, q_9, q_10, q_11, q_12, q_13, q_14, q_16, q_20, q_23, q_24, q_32, q_42, q_43, q_45, q_47, q_48, q_50, q_57, q_59, q_60, q_61, q_62, q_63, q_64, q_66, q_91, q_93, q_97, q_99, q_122, q_144, q_255, q_256, q_300, q_380, q_400, q_620, q_999, q_1000, q_4095, q_4096, q_9999, q_65536, q_99999, q_31, nI_add, pk_mul, nE, nL, nT, nM31, nShl, ib_nI, nI_clamp, bI_n0, bI_n1, bI_nar, uI_r, uI_l, uL_r, uL_i, uL_p, uA_r, uA_l, bV_some, bU_some, nar_n0, nar_n1, and_self, and_true, true_and, and_false, false_and, if_true, if_false, eq_self, Bool.false_eq_true, Bool.true_eq_false, not_true_eq_false, not_false_eq_true, ↓reduceIte, nlT, nlF, ntT, ntF, neT, neF, ieT, ieF, decide_true, decide_false, Bool.not_true, Bool.not_false, Bool.and_true, Bool.true_and, Bool.and_false, Bool.false_and, Bool.or_true, Bool.true_or, Bool.or_false, Bool.false_or, cpyV]; exact h.ki hp
    · simp (disch := omega) only [q_0, q_1, q_2, q_3, q_4, q_5, q_6, q_7, q_8, q_9, q_10, q_11, q_12, q_13, q_14, q_16, q_20, q_23, q_24, q_32, q_42, q_43, q_45, q_47, q_48, q_50, q_57, q_59, q_60, q_61, q_62, q_63, q_64, q_66, q_91, q_93, q_97, q_99, q_122, q_144, q_255, q_256, q_300, q_380, q_400, q_620, q_999, q_1000, q_4095, q_4096, q_9999, q_65536, q_99999, q_31, nI_add, pk_mul, nE, nL, nT, nM31, nShl, ib_nI, nI_clamp, bI_n0, bI_n1, bI_nar, uI_r, uI_l, uL_r, uL_i, uL_p, uA_r, uA_l, bV_some, bU_some, nar_n0, nar_n1, and_self, and_true, true_and, and_false, false_and, if_true, if_false, eq_self, Bool.false_eq_true, Bool.true_eq_false, not_true_eq_false, not_false_eq_true, ↓reduceIte, nlT, nlF, ntT, ntF, neT, neF, ieT, ieF, decide_true, decide_false, Bool.not_true, Bool.not_false, Bool.and_true, Bool.true_and, Bool.and_false, Bool.false_and, Bool.or_true, Bool.true_or, Bool.or_false, Bool.false_or, cpyV]; exact h.wo hp
    · simp (disch := omega) only [q_0, q_1, q_2, q_3, q_4, q_5, q_6, q_7, q_8, q_9, q_10, q_11, q_12, q_13, q_14, q_16, q_20, q_23, q_24, q_32, q_42, q_43, q_45, q_47, q_48, q_50, q_57, q_59, q_60, q_61, q_62, q_63, q_64, q_66, q_91, q_93, q_97, q_99, q_122, q_144, q_255, q_256, q_300, q_380, q_400, q_620, q_999, q_1000, q_4095, q_4096, q_9999, q_65536, q_99999, q_31, nI_add, pk_mul, nE, nL, nT, nM31, nShl, ib_nI, nI_clamp, bI_n0, bI_n1, bI_nar, uI_r, uI_l, uL_r, uL_i, uL_p, uA_r, uA_l, bV_some, bU_some, nar_n0, nar_n1, and_self, and_true, true_and, and_false, false_and, if_true, if_false, eq_self, Bool.false_eq_true, Bool.true_eq_false, not_true_eq_false, not_false_eq_true, ↓reduceIte, nlT, nlF, ntT, ntF, neT, neF, ieT, ieF, decide_true, decide_false, Bool.not_true, Bool.not_false, Bool.and_true, Bool.true_and, Bool.and_false, Bool.false_and, Bool.or_true, Bool.true_or, Bool.or_false, Bool.false_or, cpyV]; exact h.da hp
    · simp (disch := omega) only [q_0, q_1, q_2, q_3, q_4, q_5, q_6, q_7, q_8, q_9, q_10, q_11, q_12, q_13, q_14, q_16, q_20, q_23, q_24, q_32, q_42, q_43, q_45, q_47, q_48, q_50, q_57, q_59, q_60, q_61, q_62, q_63, q_64, q_66, q_91, q_93, q_97, q_99, q_122, q_144, q_255, q_256, q_300, q_380, q_400, q_620, q_999, q_1000, q_4095, q_4096, q_9999, q_65536, q_99999, q_31, nI_add, pk_mul, nE, nL, nT, nM31, nShl, ib_nI, nI_clamp, bI_n0, bI_n1, bI_nar, uI_r, uI_l, uL_r, uL_i, uL_p, uA_r, uA_l, bV_some, bU_some, nar_n0, nar_n1, and_self, and_true, true_and, and_false, false_and, if_true, if_false, eq_self, Bool.false_eq_true, Bool.true_eq_false, not_true_eq_false, not_false_eq_true, ↓reduceIte, nlT, nlF, ntT, ntF, neT, neF, ieT, ieF, decide_true, decide_false, Bool.not_true, Bool.not_false, Bool.and_true, Bool.true_and, Bool.and_false, Bool.false_and, Bool.or_true, Bool.true_or, Bool.or_false, Bool.false_or, cpyV]; exact h.ro hp
theorem m_carO {S : Sto} {t n p : Nat} (hk : (knd t).1 = 1) (hkn : (knd t).2.1 = n) (ht : 51 ≤ t ∧ t ≤ 66) (hn : p + n ≤ 2480) (h1 : S.1 50 0 61 = nI 0) (h2 : S.1 50 0 60 = nI p) : ∃ S', call 268 0 [vR 50 0, vR t 0] S = some (none, S') ∧ Fr (pL [50, 97]) S S' ∧ S'.1 50 0 60 = nI (p + n) ∧ (∀ k, k ≠ 60 → S'.1 50 0 k = S.1 50 0 k) ∧ ∀ i, S'.1 97 0 i = if p ≤ i ∧ i < p + n then S.1 t 0 (i - p) else S.1 97 0 i := by
  have hb : Nat.beq t 103 = false := by
    cases q : Nat.beq t 103 with
    | false => rfl
    | true => have := Nat.eq_of_beq_eq_true q; omega
  have ha : ∀ S : Sto, aln S t 0 = some n := by
    intro S
    unfold aln
    rw [hk]
    show some (knd t).2.1 = _
    rw [hkn]
  have e0 : Int32.ofNat n = nI n := rfl
  show ∃ S', run 268 0 0 [vR 50 0, vR t 0, vU] [] S = _ ∧ _
  rw [s268_0, s268_1]
  refine upS (σ := Sto) (I := fun i S1 => Fr (pL [50, 97]) S S1 ∧ S1.1 50 0 60 = nI (p + i) ∧ (∀ k, k ≠ 60 → S1.1 50 0 k = S.1 50 0 k) ∧ ∀ k, S1.1 97 0 k = if p ≤ k ∧ k < p + i then S.1 t 0 (k - p) else S.1 97 0 k) (F := fun i S1 => run 268 0 2 [vR 50 0, vR t 0, vI (nI i)] [] S1) (Q := fun r => ∃ S', r = some (none, S') ∧ Fr (pL [50, 97]) S S' ∧ S'.1 50 0 60 = nI (p + n) ∧ (∀ k, k ≠ 60 → S'.1 50 0 k = S.1 50 0 k) ∧ ∀ i, S'.1 97 0 i = if p ≤ i ∧ i < p + n then S.1 t 0 (i - p) else S.1 97 0 i) (N := n) ?_ ?_ 0 S (by omega) ⟨Fr.rfl', h2, fun _ _ => rfl, fun k => by rw [if_neg (by omega)]⟩
  · intro i S1 hi hI
    obtain ⟨g1, g2, g3, g4⟩ := hI
    refine Or.inr ⟨uI (uI S1 97 0 (p + i) (S.1 t 0 i)) 50 0 60 (nI (p + i + 1)), ⟨(g1.uI rfl).uI rfl, ?_, ?_, ?_⟩, ?_⟩
    · rw [uI_r, if_pos ⟨rfl, rfl, rfl⟩]; rfl
    · intro k hk'
      rw [uI_r, if_neg (by omega), uI_r, if_neg (by omega)]
      exact g3 k hk'
    · intro k
      rw [uI_r, if_neg (by omega), uI_r]
      by_cases e : k = p + i
      · rw [if_pos ⟨rfl, rfl, e⟩, if_pos (by omega), e, Nat.add_sub_cancel_left]
      · rw [if_neg (by omega), g4 k]
        by_cases e2 : p ≤ k ∧ k < p + i
        · rw [if_pos e2, if_pos (by omega)]
        · rw [if_neg e2, if_neg (by omega)]
    · have g5 : S1.1 t 0 i = S.1 t 0 i := g1.i (by simp only [pL]; simp; omega) i
      have g6 : S1.1 50 0 61 = nI 0 := (g3 61 (by decide)).trans h1
      rw [s268_2, s268_3 _ _ _ hb, s268_4 _ _ _ n (ha S1), e0]
      simp (disch := omega) only [s268_5, s268_8, s268_9, s268_12, s268_30, s268_31, s268_34, s268_35, s268_39, s268_41, s268_42, s268_43, s268_44, s268_47, s268_48, s268_49, s268_52, s268_55, q_0, q_1, q_2, q_3, q_4, q_5, q_6, q_7, q_8, q_9, q_10, q_11, q_12, q_13, q_14, q_16, q_20, q_23, q_24, q_32, q_42, q_43, q_45, q_47, q_48, q_50, q_57, q_59, q_60, q_61, q_62, q_63, q_64, q_66, q_91, q_93, q_97, q_99, q_122, q_144, q_255, q_256, q_300, q_380, q_400, q_620, q_999, q_1000, q_4095, q_4096, q_9999, q_65536, q_99999, q_31, nI_add, pk_mul, nE, nL, nT, nM31, nShl, ib_nI, nI_clamp, bI_n0, bI_n1, bI_nar, uI_r, uI_l, uL_r, uL_i, uL_p, uA_r, uA_l, bV_some, bU_some, nar_n0, nar_n1, and_self, and_true, true_and, and_false, false_and, if_true, if_false, eq_self, Bool.false_eq_true, Bool.true_eq_false, not_true_eq_false, not_false_eq_true, ↓reduceIte, nlT, nlF, ntT, ntF, neT, neF, ieT, ieF, decide_true, decide_false, Bool.not_true, Bool.not_false, Bool.and_true, Bool.true_and, Bool.and_false, Bool.false_and, Bool.or_true, Bool.true_or, Bool.or_false, Bool.false_or, g6, g2, s268_38 _ _ _ hb, s268_40 _ _ _ _ hk, hkn, g5]
  · intro S1 hI
    obtain ⟨g1, g2, g3, g4⟩ := hI
    show ∃ S', run 268 0 2 [vR 50 0, vR t 0, vI (nI n)] [] S1 = _ ∧ _
    rw [s268_2, s268_3 _ _ _ hb, s268_4 _ _ _ n (ha S1), e0]
    simp (disch := omega) only [s268_5, s268_58, q_0, q_1, q_2, q_3, q_4, q_5, q_6, q_7, q_8, q_9, q_10, q_11, q_12, q_13, q_14, q_16, q_20, q_23, q_24, q_32, q_42, q_43, q_45, q_47, q_48, q_50, q_57, q_59, q_60, q_61, q_62, q_63, q_64, q_66, q_91, q_93, q_97, q_99, q_122, q_144, q_255, q_256, q_300, q_380, q_400, q_620, q_999, q_1000, q_4095, q_4096, q_9999, q_65536, q_99999, q_31, nI_add, pk_mul, nE, nL, nT, nM31, nShl, ib_nI, nI_clamp, bI_n0, bI_n1, bI_nar, uI_r, uI_l, uL_r, uL_i, uL_p, uA_r, uA_l, bV_some, bU_some, nar_n0, nar_n1, and_self, and_true, true_and, and_false, false_and, if_true, if_false, eq_self, Bool.false_eq_true, Bool.true_eq_false, not_true_eq_false, not_false_eq_true, ↓reduceIte, nlT, nlF, ntT, ntF, neT, neF, ieT, ieF, decide_true, decide_false, Bool.not_true, Bool.not_false, Bool.and_true, Bool.true_and, Bool.and_false, Bool.false_and, Bool.or_true, Bool.true_or, Bool.or_false, Bool.false_or]
    exact ⟨_, rfl, g1, g2, g3, g4⟩
theorem m_carI {S : Sto} {t n p : Nat} (hk : (knd t).1 = 1) (hkn : (knd t).2.1 = n) (ht : 51 ≤ t ∧ t ≤ 66) (hn : p + n ≤ 2480) (h1 : S.1 50 0 61 = nI 1) (h2 : S.1 50 0 60 = nI p) : ∃ S', call 268 0 [vR 50 0, vR t 0] S = some (none, S') ∧ Fr (fun a _ => a == 50 || a == t) S S' ∧ S'.1 50 0 60 = nI (p + n) ∧ (∀ k, k ≠ 60 → S'.1 50 0 k = S.1 50 0 k) ∧ ∀ i, i < n → S'.1 t 0 i = S.1 97 0 (p + i) := by
  have hb : Nat.beq t 103 = false := by
    cases q : Nat.beq t 103 with
    | false => rfl
    | true => have := Nat.eq_of_beq_eq_true q; omega
  have ha : ∀ S : Sto, aln S t 0 = some n := by
    intro S
    unfold aln
    rw [hk]
    show some (knd t).2.1 = _
    rw [hkn]
  have e0 : Int32.ofNat n = nI n := rfl
  show ∃ S', run 268 0 0 [vR 50 0, vR t 0, vU] [] S = _ ∧ _
  rw [s268_0, s268_1]
  refine upS (σ := Sto) (I := fun i S1 => Fr (fun a _ => a == 50 || a == t) S S1 ∧ S1.1 50 0 60 = nI (p + i) ∧ (∀ k, k ≠ 60 → S1.1 50 0 k = S.1 50 0 k) ∧ ∀ k, k < i → S1.1 t 0 k = S.1 97 0 (p + k)) (F := fun i S1 => run 268 0 2 [vR 50 0, vR t 0, vI (nI i)] [] S1) (Q := fun r => ∃ S', r = some (none, S') ∧ Fr (fun a _ => a == 50 || a == t) S S' ∧ S'.1 50 0 60 = nI (p + n) ∧ (∀ k, k ≠ 60 → S'.1 50 0 k = S.1 50 0 k) ∧ ∀ i, i < n → S'.1 t 0 i = S.1 97 0 (p + i)) (N := n) ?_ ?_ 0 S (by omega) ⟨Fr.rfl', h2, fun _ _ => rfl, fun k hk' => by omega⟩
  · intro i S1 hi hI
    obtain ⟨g1, g2, g3, g4⟩ := hI
    refine Or.inr ⟨uI (uI S1 t 0 i (S.1 97 0 (p + i))) 50 0 60 (nI (p + i + 1)), ⟨(g1.uI (by simp)).uI (by simp), ?_, ?_, ?_⟩, ?_⟩
    · rw [uI_r, if_pos ⟨rfl, rfl, rfl⟩]; rfl
    · intro k hk'
      rw [uI_r, if_neg (by omega), uI_r, if_neg (by omega)]
      exact g3 k hk'
    · intro k hk'
      rw [uI_r, if_neg (by omega), uI_r]
      by_cases e : k = i
      · rw [if_pos ⟨rfl, rfl, e⟩, e]
      · rw [if_neg (by omega)]
        exact g4 k (by omega)
    · have g5 : S1.1 97 0 (p + i) = S.1 97 0 (p + i) := g1.i (by simp; omega) _
      have g6 : S1.1 50 0 61 = nI 1 := (g3 61 (by decide)).trans h1
      rw [s268_2, s268_3 _ _ _ hb, s268_4 _ _ _ n (ha S1), e0]
      simp (disch := omega) only [s268_5, s268_8, s268_9, s268_12, s268_16, s268_17, s268_18, s268_21, s268_22, s268_25, s268_27, s268_42, s268_43, s268_44, s268_47, s268_48, s268_49, s268_52, s268_55, q_0, q_1, q_2, q_3, q_4, q_5, q_6, q_7, q_8, q_9, q_10, q_11, q_12, q_13, q_14, q_16, q_20, q_23, q_24, q_32, q_42, q_43, q_45, q_47, q_48, q_50, q_57, q_59, q_60, q_61, q_62, q_63, q_64, q_66, q_91, q_93, q_97, q_99, q_122, q_144, q_255, q_256, q_300, q_380, q_400, q_620, q_999, q_1000, q_4095, q_4096, q_9999, q_65536, q_99999, q_31, nI_add, pk_mul, nE, nL, nT, nM31, nShl, ib_nI, nI_clamp, bI_n0, bI_n1, bI_nar, uI_r, uI_l, uL_r, uL_i, uL_p, uA_r, uA_l, bV_some, bU_some, nar_n0, nar_n1, and_self, and_true, true_and, and_false, false_and, if_true, if_false, eq_self, Bool.false_eq_true, Bool.true_eq_false, not_true_eq_false, not_false_eq_true, ↓reduceIte, nlT, nlF, ntT, ntF, neT, neF, ieT, ieF, decide_true, decide_false, Bool.not_true, Bool.not_false, Bool.and_true, Bool.true_and, Bool.and_false, Bool.false_and, Bool.or_true, Bool.true_or, Bool.or_false, Bool.false_or, g6, g2, s268_15 _ _ _ hb, s268_26 _ _ _ _ _ hk, hkn, g5]
  · intro S1 hI
    obtain ⟨g1, g2, g3, g4⟩ := hI
    show ∃ S', run 268 0 2 [vR 50 0, vR t 0, vI (nI n)] [] S1 = _ ∧ _
    rw [s268_2, s268_3 _ _ _ hb, s268_4 _ _ _ n (ha S1), e0]
    simp (disch := omega) only [s268_5, s268_58, q_0, q_1, q_2, q_3, q_4, q_5, q_6, q_7, q_8, q_9, q_10, q_11, q_12, q_13, q_14, q_16, q_20, q_23, q_24, q_32, q_42, q_43, q_45, q_47, q_48, q_50, q_57, q_59, q_60, q_61, q_62, q_63, q_64, q_66, q_91, q_93, q_97, q_99, q_122, q_144, q_255, q_256, q_300, q_380, q_400, q_620, q_999, q_1000, q_4095, q_4096, q_9999, q_65536, q_99999, q_31, nI_add, pk_mul, nE, nL, nT, nM31, nShl, ib_nI, nI_clamp, bI_n0, bI_n1, bI_nar, uI_r, uI_l, uL_r, uL_i, uL_p, uA_r, uA_l, bV_some, bU_some, nar_n0, nar_n1, and_self, and_true, true_and, and_false, false_and, if_true, if_false, eq_self, Bool.false_eq_true, Bool.true_eq_false, not_true_eq_false, not_false_eq_true, ↓reduceIte, nlT, nlF, ntT, ntF, neT, neF, ieT, ieF, decide_true, decide_false, Bool.not_true, Bool.not_false, Bool.and_true, Bool.true_and, Bool.and_false, Bool.false_and, Bool.or_true, Bool.true_or, Bool.or_false, Bool.false_or]
    exact ⟨_, rfl, g1, g2, g3, g4⟩
/-- carried out up to the f-th row -/
def CaO (S : Sto) (A : Tn) (k f : Nat) (S1 : Sto) : Prop := Fr (pL [50, 97]) S S1 ∧ S1.1 50 0 60 = nI (620 * k + ofs f) ∧ (∀ c, c ≠ 60 → S1.1 50 0 c = S.1 50 0 c) ∧ (∀ g i, g < f → i < al g → S1.1 97 0 (620 * k + ofs g + i) = dcA g (A g i)) ∧ ∀ c, c < 620 * k ∨ 620 * k + 620 ≤ c → S1.1 97 0 c = S.1 97 0 c
theorem ofs_mono : ∀ f, f < 16 → ∀ g, g < f → ofs g + al g ≤ ofs f := by decide
theorem ofs_top : ∀ f, f < 16 → ofs f + al f ≤ 620 := by decide
theorem ofs_s : ∀ f, f < 15 → ofs f + al f = ofs (f + 1) := by decide
theorem knd_al : ∀ f, f < 16 → (knd (51 + f)).1 = 1 ∧ (knd (51 + f)).2.1 = al f := by decide
theorem caO_step {S : Sto} {A : Tn} {k f : Nat} {S1 : Sto} (hk : k < 4) (hf : f < 16) (hm : RepM S A) (h61 : S.1 50 0 61 = nI 0) (h : CaO S A k f S1) : ∃ S2, call 268 0 [vR 50 0, vR (51 + f) 0] S1 = some (none, S2) ∧ (f < 15 → CaO S A k (f + 1) S2) ∧ Fr (pL [50, 97]) S S2 ∧ (∀ c, c ≠ 60 → S2.1 50 0 c = S.1 50 0 c) ∧ (∀ g i, g < f + 1 → i < al g → S2.1 97 0 (620 * k + ofs g + i) = dcA g (A g i)) ∧ ∀ c, c < 620 * k ∨ 620 * k + 620 ≤ c → S2.1 97 0 c = S.1 97 0 c := by
  obtain ⟨h1, h2, h3, h4, h5⟩ := h
  have ht := ofs_top f hf
  obtain ⟨S2, g1, g2, g3, g4, g5⟩ := m_carO (S := S1) (t := 51 + f) (n := al f) (p := 620 * k + ofs f) (knd_al f hf).1 (knd_al f hf).2 (by omega) (by omega) ((h3 61 (by decide)).trans h61) h2
  have k1 : Fr (pL [50, 97]) S S2 := h1.tr g2
  have k2 : ∀ c, c ≠ 60 → S2.1 50 0 c = S.1 50 0 c := fun c hc => (g4 c hc).trans (h3 c hc)
  have k3 : ∀ g i, g < f + 1 → i < al g → S2.1 97 0 (620 * k + ofs g + i) = dcA g (A g i) := by
    intro g i hg hi
    rw [g5]
    by_cases e : g = f
    · subst e
      rw [if_pos (by omega)]
      have e1 : 620 * k + ofs g + i - (620 * k + ofs g) = i := by omega
      rw [e1, h1.i (by simp only [pL]; simp; omega) i]
      exact hm g i hf hi
    · have := ofs_mono f hf g (by omega)
      rw [if_neg (by omega)]
      exact h4 g i (by omega) hi
  have k4 : ∀ c, c < 620 * k ∨ 620 * k + 620 ≤ c → S2.1 97 0 c = S.1 97 0 c := by
    intro c hc
    rw [g5, if_neg (by omega)]
    exact h5 c hc
  refine ⟨S2, g1, fun hf2 => ⟨k1, ?_, k2, k3, k4⟩, k1, k2, k3, k4⟩
  rw [g3, Nat.add_assoc, ofs_s f hf2]
def CaI (S : Sto) (B : Tn) (k f : Nat) (S1 : Sto) : Prop := Fr (fun t _ => t == 50 || (decide (51 ≤ t) && decide (t < 51 + f))) S S1 ∧ S1.1 50 0 60 = nI (620 * k + ofs f) ∧ (∀ c, c ≠ 60 → S1.1 50 0 c = S.1 50 0 c) ∧ (∀ g i, g < f → i < al g → S1.1 (51 + g) 0 i = dcA g (B g i))
theorem caI_step {S : Sto} {B : Tn} {k f : Nat} {S1 : Sto} (hk : k < 4) (hf : f < 16) (hB : ∀ f i, f < 16 → i < al f → S.1 97 0 (620 * k + ofs f + i) = dcA f (B f i)) (h61 : S.1 50 0 61 = nI 1) (h : CaI S B k f S1) : ∃ S2, call 268 0 [vR 50 0, vR (51 + f) 0] S1 = some (none, S2) ∧ (f < 15 → CaI S B k (f + 1) S2) ∧ Fr (fun t _ => t == 50 || (decide (51 ≤ t) && decide (t < 51 + (f + 1)))) S S2 ∧ (∀ c, c ≠ 60 → S2.1 50 0 c = S.1 50 0 c) ∧ (∀ g i, g < f + 1 → i < al g → S2.1 (51 + g) 0 i = dcA g (B g i)) := by
  obtain ⟨h1, h2, h3, h4⟩ := h
  have ht := ofs_top f hf
  obtain ⟨S2, g1, g2, g3, g4, g5⟩ := m_carI (S := S1) (t := 51 + f) (n := al f) (p := 620 * k + ofs f) (knd_al f hf).1 (knd_al f hf).2 (by omega) (by omega) ((h3 61 (by decide)).trans h61) h2
  have k1 : Fr (fun t _ => t == 50 || (decide (51 ≤ t) && decide (t < 51 + (f + 1)))) S S2 := by
    refine Fr.tr (h1.mn ?_) (g2.mn ?_)
    · intro t i
      simp only [Bool.or_eq_false_iff, beq_eq_false_iff_ne, Bool.and_eq_false_iff, decide_eq_false_iff_not]
      omega
    · intro t i
      simp only [Bool.or_eq_false_iff, beq_eq_false_iff_ne, Bool.and_eq_false_iff, decide_eq_false_iff_not]
      omega
  have k2 : ∀ c, c ≠ 60 → S2.1 50 0 c = S.1 50 0 c := fun c hc => (g4 c hc).trans (h3 c hc)
  have k3 : ∀ g i, g < f + 1 → i < al g → S2.1 (51 + g) 0 i = dcA g (B g i) := by
    intro g i hg hi
    by_cases e : g = f
    · subst e
      rw [g5 i hi, h1.i (by simp; omega) _]
      exact hB g i hf hi
    · rw [g2.i (by simp; omega) i]
      exact h4 g i (by omega) hi
  refine ⟨S2, g1, fun hf2 => ⟨k1, ?_, k2, k3⟩, k1, k2, k3⟩
  rw [g3, Nat.add_assoc, ofs_s f hf2]
theorem m_carryO {S : Sto} {A : Tn} {k : Nat} (hk : k < 4) (hm : RepM S A) : ∃ S', call 267 0 [vR 50 0, vI (nI k), vI (nI 0)] S = some (none, S') ∧ Fr (pL [50, 97]) S S' ∧ (∀ c, c ≠ 60 → c ≠ 61 → S'.1 50 0 c = S.1 50 0 c) ∧ (∀ g i, g < 16 → i < al g → S'.1 97 0 (620 * k + ofs g + i) = dcA g (A g i)) ∧ ∀ c, c < 620 * k ∨ 620 * k + 620 ≤ c → S'.1 97 0 c = S.1 97 0 c := by
  have hm0 : RepM (uI (uI S 50 0 60 (nI (620 * k))) 50 0 61 (nI 0)) A := hm.fr ((Fr.rfl'.uI (P := pL [50]) rfl).uI rfl) (fun t _ _ => by simp only [pL]; simp; omega)
  have h61 : (uI (uI S 50 0 60 (nI (620 * k))) 50 0 61 (nI 0)).1 50 0 61 = nI 0 := rfl
  have z0 : CaO (uI (uI S 50 0 60 (nI (620 * k))) 50 0 61 (nI 0)) A k 0 (uI (uI S 50 0 60 (nI (620 * k))) 50 0 61 (nI 0)) := ⟨Fr.rfl', rfl, fun _ _ => rfl, fun g i hg => by omega, fun _ _ => rfl⟩
  obtain ⟨S1, c0, n0, -⟩ := caO_step hk (f := 0) (by decide) hm0 h61 z0
  have z1 := n0 (by decide)
  obtain ⟨S2, c1, n1, -⟩ := caO_step hk (f := 1) (by decide) hm0 h61 z1
  have z2 := n1 (by decide)
  obtain ⟨S3, c2, n2, -⟩ := caO_step hk (f := 2) (by decide) hm0 h61 z2
  have z3 := n2 (by decide)
  obtain ⟨S4, c3, n3, -⟩ := caO_step hk (f := 3) (by decide) hm0 h61 z3
  have z4 := n3 (by decide)
  obtain ⟨S5, c4, n4, -⟩ := caO_step hk (f := 4) (by decide) hm0 h61 z4
  have z5 := n4 (by decide)
  obtain ⟨S6, c5, n5, -⟩ := caO_step hk (f := 5) (by decide) hm0 h61 z5
  have z6 := n5 (by decide)
  obtain ⟨S7, c6, n6, -⟩ := caO_step hk (f := 6) (by decide) hm0 h61 z6
  have z7 := n6 (by decide)
  obtain ⟨S8, c7, n7, -⟩ := caO_step hk (f := 7) (by decide) hm0 h61 z7
  have z8 := n7 (by decide)
  obtain ⟨S9, c8, n8, -⟩ := caO_step hk (f := 8) (by decide) hm0 h61 z8
  have z9 := n8 (by decide)
  obtain ⟨S10, c9, n9, -⟩ := caO_step hk (f := 9) (by decide) hm0 h61 z9
  have z10 := n9 (by decide)
  obtain ⟨S11, c10, n10, -⟩ := caO_step hk (f := 10) (by decide) hm0 h61 z10
  have z11 := n10 (by decide)
  obtain ⟨S12, c11, n11, -⟩ := caO_step hk (f := 11) (by decide) hm0 h61 z11
  have z12 := n11 (by decide)
  obtain ⟨S13, c12, n12, -⟩ := caO_step hk (f := 12) (by decide) hm0 h61 z12
  have z13 := n12 (by decide)
  obtain ⟨S14, c13, n13, -⟩ := caO_step hk (f := 13) (by decide) hm0 h61 z13
  have z14 := n13 (by decide)
  obtain ⟨S15, c14, n14, -⟩ := caO_step hk (f := 14) (by decide) hm0 h61 z14
  have z15 := n14 (by decide)
  obtain ⟨S16, c15, -, d1, d2, d3, d4⟩ := caO_step hk (f := 15) (by decide) hm0 h61 z15
  show ∃ S', run 267 0 0 [vR 50 0, vI (nI k), vI (nI 0)] [] S = _ ∧ _
  simp only [Nat.reduceAdd] at c0 c1 c2 c3 c4 c5 c6 c7 c8 c9 c10 c11 c12 c13 c14 c15
  simp (disch := omega) only [s267_0, s267_1, s267_4, s267_5, s267_6, s267_9, s267_10, s267_11, s267_14, s267_15, s267_16, s267_19, s267_22, s267_23, s267_24, s267_27, s267_30, s267_31, s267_32, s267_35, s267_38, s267_39, s267_40, s267_43, s267_46, s267_47, s267_48, s267_51, s267_54, s267_55, s267_56, s267_59, s267_62, s267_63, s267_64, s267_67, s267_70, s267_71, s267_72, s267_75, s267_78, s267_79, s267_80, s267_83, s267_86, s267_87, s267_88, s267_91, s267_94, s267_95, s267_96, s267_99, s267_102, s267_103, s267_104, s267_107, s267_110, s267_111, s267_112, s267_115, s267_118, s267_119, s267_120, s267_123, s267_126, s267_127, s267_128, s267_131, s267_134, s267_135, s267_136, s267_139, s267_142, q_0, q_1, q_2, q_3, q_4, q_5, q_6, q_7, q_8, q_9, q_10, q_11, q_12, q_13, q_14, q_16, q_20, q_23, q_24, q_32, q_42, q_43, q_45, q_47, q_48, q_50, q_57, q_59, q_60, q_61, q_62, q_63, q_64, q_66, q_91, q_93, q_97, q_99, q_122, q_144, q_255, q_256, q_300, q_380, q_400, q_620, q_999, q_1000, q_4095, q_4096, q_9999, q_65536, q_99999, q_31, nI_add, pk_mul, nE, nL, nT, nM31, nShl, ib_nI, nI_clamp, bI_n0, bI_n1, bI_nar, uI_r, uI_l, uL_r, uL_i, uL_p, uA_r, uA_l, bV_some, bU_some, nar_n0, nar_n1, and_self, and_true, true_and, and_false, false_and, if_true, if_false, eq_self, Bool.false_eq_true, Bool.true_eq_false, not_true_eq_false, not_false_eq_true, ↓reduceIte, nlT, nlF, ntT, ntF, neT, neF, ieT, ieF, decide_true, decide_false, Bool.not_true, Bool.not_false, Bool.and_true, Bool.true_and, Bool.and_false, Bool.false_and, Bool.or_true, Bool.true_or, Bool.or_false, Bool.false_or, c0, c1, c2, c3, c4, c5, c6, c7, c8, c9, c10, c11, c12, c13, c14, c15]
  refine ⟨_, rfl, ?_, ?_, d3, d4⟩
  · exact ((Fr.rfl'.uI rfl).uI rfl).tr d1
  · intro c hc hc2
    rw [d2 c hc, uI_r, if_neg (by omega), uI_r, if_neg (by omega)]
theorem m_carryI {S : Sto} {B : Tn} {k : Nat} (hk : k < 4) (hB : ∀ f i, f < 16 → i < al f → S.1 97 0 (620 * k + ofs f + i) = dcA f (B f i)) : ∃ S', call 267 0 [vR 50 0, vI (nI k), vI (nI 1)] S = some (none, S') ∧ Fr (fun t _ => decide (50 ≤ t) && decide (t ≤ 66)) S S' ∧ (∀ c, c ≠ 60 → c ≠ 61 → S'.1 50 0 c = S.1 50 0 c) ∧ RepM S' B := by
  have hB0 : ∀ f i, f < 16 → i < al f → (uI (uI S 50 0 60 (nI (620 * k))) 50 0 61 (nI 1)).1 97 0 (620 * k + ofs f + i) = dcA f (B f i) := hB
  have h61 : (uI (uI S 50 0 60 (nI (620 * k))) 50 0 61 (nI 1)).1 50 0 61 = nI 1 := rfl
  have z0 : CaI (uI (uI S 50 0 60 (nI (620 * k))) 50 0 61 (nI 1)) B k 0 (uI (uI S 50 0 60 (nI (620 * k))) 50 0 61 (nI 1)) := ⟨Fr.rfl', rfl, fun _ _ => rfl, fun g i hg => by omega⟩
  obtain ⟨S1, c0, n0, -⟩ := caI_step hk (f := 0) (by decide) hB0 h61 z0
  have z1 := n0 (by decide)
  obtain ⟨S2, c1, n1, -⟩ := caI_step hk (f := 1) (by decide) hB0 h61 z1
  have z2 := n1 (by decide)
  obtain ⟨S3, c2, n2, -⟩ := caI_step hk (f := 2) (by decide) hB0 h61 z2
  have z3 := n2 (by decide)
  obtain ⟨S4, c3, n3, -⟩ := caI_step hk (f := 3) (by decide) hB0 h61 z3
  have z4 := n3 (by decide)
  obtain ⟨S5, c4, n4, -⟩ := caI_step hk (f := 4) (by decide) hB0 h61 z4
  have z5 := n4 (by decide)
  obtain ⟨S6, c5, n5, -⟩ := caI_step hk (f := 5) (by decide) hB0 h61 z5
  have z6 := n5 (by decide)
  obtain ⟨S7, c6, n6, -⟩ := caI_step hk (f := 6) (by decide) hB0 h61 z6
  have z7 := n6 (by decide)
  obtain ⟨S8, c7, n7, -⟩ := caI_step hk (f := 7) (by decide) hB0 h61 z7
  have z8 := n7 (by decide)
  obtain ⟨S9, c8, n8, -⟩ := caI_step hk (f := 8) (by decide) hB0 h61 z8
  have z9 := n8 (by decide)
  obtain ⟨S10, c9, n9, -⟩ := caI_step hk (f := 9) (by decide) hB0 h61 z9
  have z10 := n9 (by decide)
  obtain ⟨S11, c10, n10, -⟩ := caI_step hk (f := 10) (by decide) hB0 h61 z10
  have z11 := n10 (by decide)
  obtain ⟨S12, c11, n11, -⟩ := caI_step hk (f := 11) (by decide) hB0 h61 z11
  have z12 := n11 (by decide)
  obtain ⟨S13, c12, n12, -⟩ := caI_step hk (f := 12) (by decide) hB0 h61 z12
  have z13 := n12 (by decide)
  obtain ⟨S14, c13, n13, -⟩ := caI_step hk (f := 13) (by decide) hB0 h61 z13
  have z14 := n13 (by decide)
  obtain ⟨S15, c14, n14, -⟩ := caI_step hk (f := 14) (by decide) hB0 h61 z14
  have z15 := n14 (by decide)
  obtain ⟨S16, c15, -, d1, d2, d3⟩ := caI_step hk (f := 15) (by decide) hB0 h61 z15
  show ∃ S', run 267 0 0 [vR 50 0, vI (nI k), vI (nI 1)] [] S = _ ∧ _
  simp only [Nat.reduceAdd] at c0 c1 c2 c3 c4 c5 c6 c7 c8 c9 c10 c11 c12 c13 c14 c15
  simp (disch := omega) only [s267_0, s267_1, s267_4, s267_5, s267_6, s267_9, s267_10, s267_11, s267_14, s267_15, s267_16, s267_19, s267_22, s267_23, s267_24, s267_27, s267_30, s267_31, s267_32, s267_35, s267_38, s267_39, s267_40, s267_43, s267_46, s267_47, s267_48, s267_51, s267_54, s267_55, s267_56, s267_59, s267_62, s267_63, s267_64, s267_67, s267_70, s267_71, s267_72, s267_75, s267_78, s267_79, s267_80, s267_83, s267_86, s267_87, s267_88, s267_91, s267_94, s267_95, s267_96, s267_99, s267_102, s267_103, s267_104, s267_107, s267_110, s267_111, s267_112, s267_115, s267_118, s267_119, s267_120, s267_123, s267_126, s267_127, s267_128, s267_131, s267_134, s267_135, s267_136, s267_139, s267_142, q_0, q_1, q_2, q_3, q_4, q_5, q_6, q_7, q_8, q_9, q_10, q_11, q_12, q_13, q_14, q_16, q_20, q_23, q_24, q_32, q_42, q_43, q_45, q_47, q_48, q_50, q_57, q_59, q_60, q_61, q_62, q_63, q_64, q_66, q_91, q_93, q_97, q_99, q_122, q_144, q_255, q_256, q_300, q_380, q_400, q_620, q_999, q_1000, q_4095, q_4096, q_9999, q_65536, q_99999, q_31, nI_add, pk_mul, nE, nL, nT, nM31, nShl, ib_nI, nI_clamp, bI_n0, bI_n1, bI_nar, uI_r, uI_l, uL_r, uL_i, uL_p, uA_r, uA_l, bV_some, bU_some, nar_n0, nar_n1, and_self, and_true, true_and, and_false, false_and, if_true, if_false, eq_self, Bool.false_eq_true, Bool.true_eq_false, not_true_eq_false, not_false_eq_true, ↓reduceIte, nlT, nlF, ntT, ntF, neT, neF, ieT, ieF, decide_true, decide_false, Bool.not_true, Bool.not_false, Bool.and_true, Bool.true_and, Bool.and_false, Bool.false_and, Bool.or_true, Bool.true_or, Bool.or_false, Bool.false_or, c0, c1, c2, c3, c4, c5, c6, c7, c8, c9, c10, c11, c12, c13, c14, c15]
  refine ⟨_, rfl, ?_, ?_, fun g i hg hi => d3 g i hg hi⟩
  · refine ((Fr.rfl'.uI rfl).uI rfl).tr (d1.mn ?_)
    intro t i
    simp only [Bool.or_eq_false_iff, beq_eq_false_iff_ne, Bool.and_eq_false_iff, decide_eq_false_iff_not]
    omega
  · intro c hc hc2
    rw [d2 c hc, uI_r, if_neg (by omega), uI_r, if_neg (by omega)]
