/-! nods for nods (class) -/
theorem x_fillR {S : Sto} {a b : Nat} (hab : a ≤ b) (hb : b ≤ 48) : ∃ S', call 284 0 [vR 33 0, vI (nI a), vI (nI b), vI (nI 0)] S = some (none, S') ∧ Fr (pL [33]) S S' ∧ (∀ c, a ≤ c → c < b → S'.1 33 0 c = nI 0) ∧ ∀ c, (c < a ∨ b ≤ c) → S'.1 33 0 c = S.1 33 0 c := by
  have hk1 : (knd 33).1 = 1 := rfl
  have hk2 : (knd 33).2.1 = 48 := rfl
  have hb3 : Nat.beq 33 103 = false := rfl
  have ha : ∀ S, aln S 33 0 = some 48 := fun S => rfl
  have er := x_range S (n := 48) (a := a) (b := b) hab hb (by decide)
  show ∃ S', run 284 0 0 [vR 33 0, vI (nI a), vI (nI b), vI (nI 0), vU] [] S = _ ∧ _
  rw [s284_0 _ _ _ hb3, s284_1 _ _ _ 48 (ha _)]
  simp (disch := first | omega | assumption) only [s284_0, s284_2, s284_3, s284_4, s284_7, s284_8, s284_12, s284_13, s284_16, s284_17, s284_19, s284_20, s284_21, s284_24, s284_27, q_0, q_1, q_2, q_3, q_4, q_5, q_6, q_7, q_8, q_9, q_10, q_11, q_12, q_13, q_14, q_16, q_20, q_23, q_24, q_32, q_42, q_43, q_45, q_47, q_48, q_50, q_57, q_59, q_60, q_61, q_62, q_63, q_64, q_66, q_91, q_93, q_97, q_99, q_122, q_144, q_255, q_256, q_300, q_380, q_400, q_620, q_999, q_1000, q_4095, q_4096, q_9999, q_65536, q_99999, q_31, nI_add, pk_mul, nE, nL, nT, nM31, nShl, ib_nI, nI_clamp, bI_n0, bI_n1, bI_nar, uI_r, uI_l, uL_r, uL_i, uL_p, uA_r, uA_l, bV_some, bU_some, nar_n0, nar_n1, and_self, and_true, true_and, and_false, false_and, if_true, if_false, eq_self, Bool.false_eq_true, Bool.true_eq_false, not_true_eq_false, not_false_eq_true, ↓reduceIte, nlT, nlF, ntT, ntF, neT, neF, ieT, ieF, decide_true, decide_false, Bool.not_true, Bool.not_false, Bool.and_true, Bool.true_and, Bool.and_false, Bool.false_and, Bool.or_true, Bool.true_or, Bool.or_false, Bool.false_or, ofN, er]
  refine upS (σ := Sto) (I := fun i S1 => a ≤ i ∧ Fr (pL [33]) S S1 ∧ (∀ c, a ≤ c → c < i → S1.1 33 0 c = nI 0) ∧ ∀ c, (c < a ∨ i ≤ c) → S1.1 33 0 c = S.1 33 0 c) (F := fun i S1 => run 284 0 10 [vR 33 0, vI (nI a), vI (nI b), vI (nI 0), vI (nI i)] [] S1) (Q := fun x => ∃ S', x = some (none, S') ∧ Fr (pL [33]) S S' ∧ (∀ c, a ≤ c → c < b → S'.1 33 0 c = nI 0) ∧ ∀ c, (c < a ∨ b ≤ c) → S'.1 33 0 c = S.1 33 0 c) (N := b) ?_ ?_ a S hab ⟨Nat.le_refl _, Fr.rfl', fun c h1 h2 => by omega, fun c _ => rfl⟩
  · intro i S1 hi hI
    obtain ⟨i0, i1, i2, i3⟩ := hI
    refine Or.inr ⟨uI S1 33 0 i (nI 0), ⟨by omega, i1.uI (by simp [pL]), fun c h1 h2 => ?_, fun c hc => ?_⟩, ?_⟩
    · rw [uI_r]
      by_cases e : c = i
      · rw [if_pos ⟨rfl, rfl, e⟩]
      · rw [if_neg (by omega)]
        exact i2 c h1 (by omega)
    · rw [uI_r, if_neg (by omega)]
      exact i3 c (by omega)
    · show run 284 0 10 _ _ _ = run 284 0 10 _ _ _
      rw [s284_10]
      simp (disch := first | omega | assumption) only [s284_0, s284_2, s284_3, s284_4, s284_7, s284_8, s284_12, s284_13, s284_16, s284_17, s284_19, s284_20, s284_21, s284_24, s284_27, hk2, q_0, q_1, q_2, q_3, q_4, q_5, q_6, q_7, q_8, q_9, q_10, q_11, q_12, q_13, q_14, q_16, q_20, q_23, q_24, q_32, q_42, q_43, q_45, q_47, q_48, q_50, q_57, q_59, q_60, q_61, q_62, q_63, q_64, q_66, q_91, q_93, q_97, q_99, q_122, q_144, q_255, q_256, q_300, q_380, q_400, q_620, q_999, q_1000, q_4095, q_4096, q_9999, q_65536, q_99999, q_31, nI_add, pk_mul, nE, nL, nT, nM31, nShl, ib_nI, nI_clamp, bI_n0, bI_n1, bI_nar, uI_r, uI_l, uL_r, uL_i, uL_p, uA_r, uA_l, bV_some, bU_some, nar_n0, nar_n1, and_self, and_true, true_and, and_false, false_and, if_true, if_false, eq_self, Bool.false_eq_true, Bool.true_eq_false, not_true_eq_false, not_false_eq_true, ↓reduceIte, nlT, nlF, ntT, ntF, neT, neF, ieT, ieF, decide_true, decide_false, Bool.not_true, Bool.not_false, Bool.and_true, Bool.true_and, Bool.and_false, Bool.false_and, Bool.or_true, Bool.true_or, Bool.or_false, Bool.false_or]
  · intro S1 hI
    obtain ⟨i0, i1, i2, i3⟩ := hI
    show ∃ S', run 284 0 10 _ _ _ = _ ∧ _
    rw [s284_10]
    simp (disch := omega) only [s284_2, s284_3, s284_4, s284_7, s284_8, s284_12, s284_13, s284_17, s284_19, s284_21, s284_24, s284_27, q_0, q_1, q_2, q_3, q_4, q_5, q_6, q_7, q_8, q_9, q_10, q_11, q_12, q_13, q_14, q_16, q_20, q_23, q_24, q_32, q_42, q_43, q_45, q_47, q_48, q_50, q_57, q_59, q_60, q_61, q_62, q_63, q_64, q_66, q_91, q_93, q_97, q_99, q_122, q_144, q_255, q_256, q_300, q_380, q_400, q_620, q_999, q_1000, q_4095, q_4096, q_9999, q_65536, q_99999, q_31, nI_add, pk_mul, nE, nL, nT, nM31, nShl, ib_nI, nI_clamp, bI_n0, bI_n1, bI_nar, uI_r, uI_l, uL_r, uL_i, uL_p, uA_r, uA_l, bV_some, bU_some, nar_n0, nar_n1, and_self, and_true, true_and, and_false, false_and, if_true, if_false, eq_self, Bool.false_eq_true, Bool.true_eq_false, not_true_eq_false, not_false_eq_true, ↓reduceIte, nlT, nlF, ntT, ntF, neT, neF, ieT, ieF, decide_true, decide_false, Bool.not_true, Bool.not_false, Bool.and_true, Bool.true_and, Bool.and_false, Bool.false_and, Bool.or_true, Bool.true_or, Bool.or_false, Bool.false_or]
    exact ⟨_, rfl, i1, i2, i3⟩
/-- never, and unwilling -/
def nvB (A : Tn) (w o : Nat) : Bool := A 5 (12 * o + A 10 w) == 1
def uwB (A : Tn) (L : Lw) (w t o : Nat) : Bool := !nvB A w o && !(ndO A L w t o).isSome
theorem x_halfA {S : Sto} {q : Nat} {A : Tn} {r : Nat} {L : Lw} {w t f U n : Nat} {pl x : av} (h : RepC S q A) (hw : WF A) (hL : RepLC S r L) (hl : WFL L) (hv : w < A 0 2) (ht : t < A 0 1) (hf : f < 2) : ∃ S', run 29 0 64 [vR 30 0, vR 1 q, vR 17 r, vI (nI w), vR 26 0, pl, vI (nI t), vI (nI U), vI (nI n), vI (nI f), x] [] S = run 29 0 64 [vR 30 0, vR 1 q, vR 17 r, vI (nI w), vR 26 0, pl, vI (nI t), vI (nI (if uwB A L w t (ow A (2 * t + f)) = true then U ||| 2 ^ ow A (2 * t + f) else U)), vI (nI (if nvB A w (ow A (2 * t + f)) = true then n + 1 else n)), vI (nI (f + 1)), vI (nI (ow A (2 * t + f)))] [] S' ∧ Fr (pL [23, 27]) S S' := by
  have hT := hw.th
  have hWk := hw.wk
  have hW := hw.W (w := w) (by omega)
  have ho := hw.ow12 (i := 2 * t + f) (by omega)
  have e1 : call 71 0 [vR 1 q, vI (nI (ow A (2 * t + f))), vI (nI (A 10 w))] S = some (some (vI (bI (nvB A w (ow A (2 * t + f))))), S) := x_atOdds_A h ho hW.1
  obtain ⟨S1, a1, a2⟩ := x_nodOf h hw hL hl hv ht hf
  have hn := nV_ge (ndO A L w t (ow A (2 * t + f))) (fun p hp => ndO_le hp)
  have r1 := h.own (i := 2 * t + f) (by omega)
  rw [s29_64]
  cases c1 : nvB A w (ow A (2 * t + f)) with
  | true =>
    have e2 : uwB A L w t (ow A (2 * t + f)) = false := by simp [uwB, c1]
    rw [c1] at e1
    rw [e2]
    simp (disch := omega) only [s29_0, s29_1, s29_4, s29_5, s29_6, s29_7, s29_8, s29_9, s29_10, s29_12, s29_13, s29_16, s29_18, s29_20, s29_21, s29_22, s29_23, s29_26, s29_27, s29_31, s29_32, s29_35, s29_38, s29_39, s29_42, s29_43, s29_44, s29_46, s29_49, s29_52, s29_55, s29_56, s29_58, s29_59, s29_61, s29_62, s29_66, s29_67, s29_70, s29_71, s29_74, s29_75, s29_77, s29_78, s29_80, s29_81, s29_82, s29_84, s29_85, s29_87, s29_88, s29_91, s29_92, s29_93, s29_96, s29_99, s29_102, s29_105, s29_107, s29_108, s29_109, s29_110, s29_112, s29_114, s29_117, s29_120, s29_122, s29_123, s29_125, s29_126, s29_127, s29_129, s29_132, s29_135, s29_137, s29_138, s29_139, s29_140, s29_142, s29_145, s29_146, s29_149, s29_151, s29_154, s29_155, s29_156, s29_159, s29_160, s29_162, s29_163, s29_164, s29_165, s29_168, s29_169, s29_171, s29_172, s29_173, s29_174, s29_175, s29_178, s29_181, s29_182, s29_183, s29_184, s29_187, s29_188, s29_189, s29_190, s29_192, s29_193, s29_194, s29_197, s29_199, s29_200, s29_203, s29_204, s29_205, s29_207, s29_209, s29_212, s29_213, s29_214, s29_217, s29_218, s29_221, s29_223, s29_225, s29_226, s29_229, s29_232, s29_235, s29_236, q_0, q_1, q_2, q_3, q_4, q_5, q_6, q_7, q_8, q_9, q_10, q_11, q_12, q_13, q_14, q_16, q_20, q_23, q_24, q_32, q_42, q_43, q_45, q_47, q_48, q_50, q_57, q_59, q_60, q_61, q_62, q_63, q_64, q_66, q_91, q_93, q_97, q_99, q_122, q_144, q_255, q_256, q_300, q_380, q_400, q_620, q_999, q_1000, q_4095, q_4096, q_9999, q_65536, q_99999, q_31, nI_add, pk_mul, nE, nL, nT, nM31, nShl, ib_nI, nI_clamp, bI_n0, bI_n1, bI_nar, uI_r, uI_l, uL_r, uL_i, uL_p, uA_r, uA_l, bV_some, bU_some, nar_n0, nar_n1, and_self, and_true, true_and, and_false, false_and, if_true, if_false, eq_self, Bool.false_eq_true, Bool.true_eq_false, not_true_eq_false, not_false_eq_true, ↓reduceIte, nlT, nlF, ntT, ntF, neT, neF, ieT, ieF, decide_true, decide_false, Bool.not_true, Bool.not_false, Bool.and_true, Bool.true_and, Bool.and_false, Bool.false_and, Bool.or_true, Bool.true_or, Bool.or_false, Bool.false_or, r1, h.ak, e1]
    exact ⟨_, rfl, Fr.rfl'⟩
  | false =>
    rw [c1] at e1
    cases c2 : (ndO A L w t (ow A (2 * t + f))).isSome with
    | true =>
      have e2 : uwB A L w t (ow A (2 * t + f)) = false := by simp [uwB, c2]
      rw [c2] at hn
      rw [e2]
      simp (disch := omega) only [s29_0, s29_1, s29_4, s29_5, s29_6, s29_7, s29_8, s29_9, s29_10, s29_12, s29_13, s29_16, s29_18, s29_20, s29_21, s29_22, s29_23, s29_26, s29_27, s29_31, s29_32, s29_35, s29_38, s29_39, s29_42, s29_43, s29_44, s29_46, s29_49, s29_52, s29_55, s29_56, s29_58, s29_59, s29_61, s29_62, s29_66, s29_67, s29_70, s29_71, s29_74, s29_75, s29_77, s29_78, s29_80, s29_81, s29_82, s29_84, s29_85, s29_87, s29_88, s29_91, s29_92, s29_93, s29_96, s29_99, s29_102, s29_105, s29_107, s29_108, s29_109, s29_110, s29_112, s29_114, s29_117, s29_120, s29_122, s29_123, s29_125, s29_126, s29_127, s29_129, s29_132, s29_135, s29_137, s29_138, s29_139, s29_140, s29_142, s29_145, s29_146, s29_149, s29_151, s29_154, s29_155, s29_156, s29_159, s29_160, s29_162, s29_163, s29_164, s29_165, s29_168, s29_169, s29_171, s29_172, s29_173, s29_174, s29_175, s29_178, s29_181, s29_182, s29_183, s29_184, s29_187, s29_188, s29_189, s29_190, s29_192, s29_193, s29_194, s29_197, s29_199, s29_200, s29_203, s29_204, s29_205, s29_207, s29_209, s29_212, s29_213, s29_214, s29_217, s29_218, s29_221, s29_223, s29_225, s29_226, s29_229, s29_232, s29_235, s29_236, q_0, q_1, q_2, q_3, q_4, q_5, q_6, q_7, q_8, q_9, q_10, q_11, q_12, q_13, q_14, q_16, q_20, q_23, q_24, q_32, q_42, q_43, q_45, q_47, q_48, q_50, q_57, q_59, q_60, q_61, q_62, q_63, q_64, q_66, q_91, q_93, q_97, q_99, q_122, q_144, q_255, q_256, q_300, q_380, q_400, q_620, q_999, q_1000, q_4095, q_4096, q_9999, q_65536, q_99999, q_31, nI_add, pk_mul, nE, nL, nT, nM31, nShl, ib_nI, nI_clamp, bI_n0, bI_n1, bI_nar, uI_r, uI_l, uL_r, uL_i, uL_p, uA_r, uA_l, bV_some, bU_some, nar_n0, nar_n1, and_self, and_true, true_and, and_false, false_and, if_true, if_false, eq_self, Bool.false_eq_true, Bool.true_eq_false, not_true_eq_false, not_false_eq_true, ↓reduceIte, nlT, nlF, ntT, ntF, neT, neF, ieT, ieF, decide_true, decide_false, Bool.not_true, Bool.not_false, Bool.and_true, Bool.true_and, Bool.and_false, Bool.false_and, Bool.or_true, Bool.true_or, Bool.or_false, Bool.false_or, r1, h.ak, e1, a1, hn.1, hn.2]
      exact ⟨_, rfl, a2⟩
    | false =>
      have e2 : uwB A L w t (ow A (2 * t + f)) = true := by
        unfold uwB
        rw [c1, c2]
        rfl
      rw [c2] at hn
      rw [e2]
      simp (disch := omega) only [s29_0, s29_1, s29_4, s29_5, s29_6, s29_7, s29_8, s29_9, s29_10, s29_12, s29_13, s29_16, s29_18, s29_20, s29_21, s29_22, s29_23, s29_26, s29_27, s29_31, s29_32, s29_35, s29_38, s29_39, s29_42, s29_43, s29_44, s29_46, s29_49, s29_52, s29_55, s29_56, s29_58, s29_59, s29_61, s29_62, s29_66, s29_67, s29_70, s29_71, s29_74, s29_75, s29_77, s29_78, s29_80, s29_81, s29_82, s29_84, s29_85, s29_87, s29_88, s29_91, s29_92, s29_93, s29_96, s29_99, s29_102, s29_105, s29_107, s29_108, s29_109, s29_110, s29_112, s29_114, s29_117, s29_120, s29_122, s29_123, s29_125, s29_126, s29_127, s29_129, s29_132, s29_135, s29_137, s29_138, s29_139, s29_140, s29_142, s29_145, s29_146, s29_149, s29_151, s29_154, s29_155, s29_156, s29_159, s29_160, s29_162, s29_163, s29_164, s29_165, s29_168, s29_169, s29_171, s29_172, s29_173, s29_174, s29_175, s29_178, s29_181, s29_182, s29_183, s29_184, s29_187, s29_188, s29_189, s29_190, s29_192, s29_193, s29_194, s29_197, s29_199, s29_200, s29_203, s29_204, s29_205, s29_207, s29_209, s29_212, s29_213, s29_214, s29_217, s29_218, s29_221, s29_223, s29_225, s29_226, s29_229, s29_232, s29_235, s29_236, q_0, q_1, q_2, q_3, q_4, q_5, q_6, q_7, q_8, q_9, q_10, q_11, q_12, q_13, q_14, q_16, q_20, q_23, q_24, q_32, q_42, q_43, q_45, q_47, q_48, q_50, q_57, q_59, q_60, q_61, q_62, q_63, q_64, q_66, q_91, q_93, q_97, q_99, q_122, q_144, q_255, q_256, q_300, q_380, q_400, q_620, q_999, q_1000, q_4095, q_4096, q_9999, q_65536, q_99999, q_31, nI_add, pk_mul, nE, nL, nT, nM31, nShl, ib_nI, nI_clamp, bI_n0, bI_n1, bI_nar, uI_r, uI_l, uL_r, uL_i, uL_p, uA_r, uA_l, bV_some, bU_some, nar_n0, nar_n1, and_self, and_true, true_and, and_false, false_and, if_true, if_false, eq_self, Bool.false_eq_true, Bool.true_eq_false, not_true_eq_false, not_false_eq_true, ↓reduceIte, nlT, nlF, ntT, ntF, neT, neF, ieT, ieF, decide_true, decide_false, Bool.not_true, Bool.not_false, Bool.and_true, Bool.true_and, Bool.and_false, Bool.false_and, Bool.or_true, Bool.true_or, Bool.or_false, Bool.false_or, r1, h.ak, e1, a1, hn.1, hn.2, nx_or]
      exact ⟨_, rfl, a2⟩
def AskV (A : Tn) (L : Lw) (w n : Nat) (M : Nat) (sl : List Nat) : Prop := M < 2 ^ 12 ∧ (∀ x, x ∈ sl → x ≠ 0 ∧ x < 2 ^ 12) ∧ ∀ Q, ((dif M Q == 0) && sl.all (fun x => !(x &&& Q == 0))) = !ex (hiP A L w Q) n
def AskS (S : Sto) (w : Nat) (M : Nat) (sl : List Nat) : Prop := S.1 32 0 w = nI M ∧ ∀ i, i < 4 → S.1 33 0 (4 * w + i) = nI (sl.getD i 0)
theorem pop_2 : ∀ a, a < 12 → ∀ b, b < 12 → a ≠ b → pop (2 ^ a ||| 2 ^ b) = 2 ∧ pop (2 ^ a) = 1 := by decide +kernel
theorem dif_or {M U Q : Nat} (hM : M < 2 ^ 12) (hU : U < 2 ^ 12) : (dif (M ||| U) Q == 0) = ((dif M Q == 0) && (dif U Q == 0)) := by
  have hMU : M ||| U < 2 ^ 12 := Nat.or_lt_two_pow hM hU
  rw [Bool.eq_iff_iff, Bool.and_eq_true, beq_iff_eq, beq_iff_eq, beq_iff_eq, dif_0 (by omega), dif_0 (by omega), dif_0 (by omega)]
  constructor
  · intro h
    exact ⟨fun i hi => h i (by rw [Nat.testBit_or, hi]; rfl), fun i hi => h i (by rw [Nat.testBit_or, hi, Bool.or_true])⟩
  · rintro ⟨h1, h2⟩ i hi
    rw [Nat.testBit_or, Bool.or_eq_true] at hi
    rcases hi with hi | hi
    · exact h1 i hi
    · exact h2 i hi
theorem dif_pw {a Q : Nat} (ha : a < 12) : (dif (2 ^ a) Q == 0) = Q.testBit a := by
  have h2 : 2 ^ a < 2 ^ 12 := Nat.pow_lt_pow_right (by decide) ha
  rw [Bool.eq_iff_iff, beq_iff_eq, dif_0 (by omega)]
  constructor
  · intro h
    exact h a (by rw [Nat.testBit_two_pow]; simp)
  · intro h i hi
    rw [Nat.testBit_two_pow] at hi
    simp only [decide_eq_true_eq] at hi
    rw [← hi]
    exact h
theorem dif_z (Q : Nat) : (dif 0 Q == 0) = true := by
  rw [beq_iff_eq, dif_0 (by decide)]
  intro i hi
  simp at hi
theorem and_pw {a Q : Nat} : (!(2 ^ a &&& Q == 0)) = Q.testBit a := by
  rw [Bool.eq_iff_iff, Bool.not_eq_true', beq_eq_false_iff_ne, and_t]
  constructor
  · rintro ⟨i, h1, h2⟩
    rw [Nat.testBit_two_pow] at h1
    simp only [decide_eq_true_eq] at h1
    rw [h1]
    exact h2
  · intro h
    exact ⟨a, by rw [Nat.testBit_two_pow]; simp, h⟩
theorem and_or {x y Q : Nat} : (!((x ||| y) &&& Q == 0)) = ((!(x &&& Q == 0)) || (!(y &&& Q == 0))) := by
  rw [Bool.eq_iff_iff, Bool.or_eq_true, Bool.not_eq_true', Bool.not_eq_true', Bool.not_eq_true', beq_eq_false_iff_ne, beq_eq_false_iff_ne, beq_eq_false_iff_ne, and_t, and_t, and_t]
  constructor
  · rintro ⟨i, h1, h2⟩
    rw [Nat.testBit_or, Bool.or_eq_true] at h1
    rcases h1 with h1 | h1
    · exact Or.inl ⟨i, h1, h2⟩
    · exact Or.inr ⟨i, h1, h2⟩
  · rintro (⟨i, h1, h2⟩ | ⟨i, h1, h2⟩)
    · exact ⟨i, by rw [Nat.testBit_or, h1]; rfl, h2⟩
    · exact ⟨i, by rw [Nat.testBit_or, h1, Bool.or_true], h2⟩
theorem ndI_v (A : Tn) (L : Lw) (w t Q o : Nat) : ndI A L w t Q o = (!nvB A w o && (Q.testBit o || !uwB A L w t o)) := by
  unfold ndI uwB
  show (!nvB A w o && _) = _
  cases nvB A w o <;> cases (ndO A L w t o).isSome <;> cases Q.testBit o <;> rfl
theorem x_findAsk {S : Sto} {q : Nat} {A : Tn} {r : Nat} {L : Lw} {w : Nat} (h : RepC S q A) (hw : WF A) (hL : RepLC S r L) (hl : WFL L) (hv : w < A 0 2) : ∃ S' b, call 29 0 [vR 30 0, vR 1 q, vR 17 r, vI (nI w), vR 26 0] S = some (some (vI (bI b)), S') ∧ Fr (pL [23, 27, 32, 33]) S S' ∧ (∀ v, v ≠ w → S'.1 32 0 v = S.1 32 0 v) ∧ (∀ c, (c < 4 * w ∨ 4 * w + 4 ≤ c) → S'.1 33 0 c = S.1 33 0 c) ∧ (b = true → ∃ M sl, AskS S' w M sl ∧ AskV A L w (A 0 1) M sl ∧ sl.length ≤ 4) ∧ (b = false → ∀ Q, ex (hiP A L w Q) (A 0 1) = true) := by
  have hT := hw.th
  have hWk := hw.wk
  have hW := hw.W (w := w) (by omega)
  obtain ⟨S0, z1, z2, z3, z4⟩ := x_fillR (S := uI S 32 0 w (nI 0)) (a := 4 * w) (b := 4 * w + 4) (by omega) (by omega)
  show ∃ S' b, run 29 0 0 [vR 30 0, vR 1 q, vR 17 r, vI (nI w), vR 26 0, vU, vU, vU, vU, vU, vU] [] S = _ ∧ _
  simp (disch := omega) only [s29_0, s29_1, s29_4, s29_5, s29_6, s29_7, s29_8, s29_9, s29_10, s29_12, s29_13, s29_16, s29_18, s29_20, s29_21, s29_22, s29_23, s29_26, s29_27, s29_31, s29_32, s29_35, s29_38, s29_39, s29_42, s29_43, s29_44, s29_46, s29_49, s29_52, s29_55, s29_56, s29_58, s29_59, s29_61, s29_62, s29_66, s29_67, s29_70, s29_71, s29_74, s29_75, s29_77, s29_78, s29_80, s29_81, s29_82, s29_84, s29_85, s29_87, s29_88, s29_91, s29_92, s29_93, s29_96, s29_99, s29_102, s29_105, s29_107, s29_108, s29_109, s29_110, s29_112, s29_114, s29_117, s29_120, s29_122, s29_123, s29_125, s29_126, s29_127, s29_129, s29_132, s29_135, s29_137, s29_138, s29_139, s29_140, s29_142, s29_145, s29_146, s29_149, s29_151, s29_154, s29_155, s29_156, s29_159, s29_160, s29_162, s29_163, s29_164, s29_165, s29_168, s29_169, s29_171, s29_172, s29_173, s29_174, s29_175, s29_178, s29_181, s29_182, s29_183, s29_184, s29_187, s29_188, s29_189, s29_190, s29_192, s29_193, s29_194, s29_197, s29_199, s29_200, s29_203, s29_204, s29_205, s29_207, s29_209, s29_212, s29_213, s29_214, s29_217, s29_218, s29_221, s29_223, s29_225, s29_226, s29_229, s29_232, s29_235, s29_236, q_0, q_1, q_2, q_3, q_4, q_5, q_6, q_7, q_8, q_9, q_10, q_11, q_12, q_13, q_14, q_16, q_20, q_23, q_24, q_32, q_42, q_43, q_45, q_47, q_48, q_50, q_57, q_59, q_60, q_61, q_62, q_63, q_64, q_66, q_91, q_93, q_97, q_99, q_122, q_144, q_255, q_256, q_300, q_380, q_400, q_620, q_999, q_1000, q_4095, q_4096, q_9999, q_65536, q_99999, q_31, nI_add, pk_mul, nE, nL, nT, nM31, nShl, ib_nI, nI_clamp, bI_n0, bI_n1, bI_nar, uI_r, uI_l, uL_r, uL_i, uL_p, uA_r, uA_l, bV_some, bU_some, nar_n0, nar_n1, and_self, and_true, true_and, and_false, false_and, if_true, if_false, eq_self, Bool.false_eq_true, Bool.true_eq_false, not_true_eq_false, not_false_eq_true, ↓reduceIte, nlT, nlF, ntT, ntF, neT, neF, ieT, ieF, decide_true, decide_false, Bool.not_true, Bool.not_false, Bool.and_true, Bool.true_and, Bool.and_false, Bool.false_and, Bool.or_true, Bool.true_or, Bool.or_false, Bool.false_or, z1]
  refine upS (σ := (Sto × Nat × List Nat) × av × av × av × av) (I := fun t p => (Fr (pL [23, 27, 32, 33]) S p.1.1 ∧ (∀ v, v ≠ w → p.1.1.1 32 0 v = S.1 32 0 v) ∧ ∀ c, (c < 4 * w ∨ 4 * w + 4 ≤ c) → p.1.1.1 33 0 c = S.1 33 0 c) ∧ p.1.2.2.length ≤ ctp (A 11 w) t ∧ AskS p.1.1 w p.1.2.1 p.1.2.2 ∧ AskV A L w t p.1.2.1 p.1.2.2) (F := fun t p => run 29 0 29 [vR 30 0, vR 1 q, vR 17 r, vI (nI w), vR 26 0, vI (nI (4 * w + p.1.2.2.length)), vI (nI t), p.2.1, p.2.2.1, p.2.2.2.1, p.2.2.2.2] [] p.1.1) (Q := fun z => ∃ S' b, z = some (some (vI (bI b)), S') ∧ Fr (pL [23, 27, 32, 33]) S S' ∧ (∀ v, v ≠ w → S'.1 32 0 v = S.1 32 0 v) ∧ (∀ c, (c < 4 * w ∨ 4 * w + 4 ≤ c) → S'.1 33 0 c = S.1 33 0 c) ∧ (b = true → ∃ M sl, AskS S' w M sl ∧ AskV A L w (A 0 1) M sl ∧ sl.length ≤ 4) ∧ (b = false → ∀ Q, ex (hiP A L w Q) (A 0 1) = true)) (N := A 0 1) ?_ ?_ 0 ((S0, 0, []), vU, vU, vU, vU) (by omega) ⟨⟨(Fr.rfl'.uI rfl).tr (z2.pl (by simp)), fun v hv => ?_, fun c hc => ?_⟩, Nat.zero_le _, ⟨?_, fun i hi => ?_⟩, (show 0 < 2 ^ 12 by decide), fun x hx => by simp at hx, fun Q => ?_⟩
  · intro t p ht hI
    obtain ⟨⟨S1, M, sl⟩, x1, x2, x3, x4⟩ := p
    obtain ⟨⟨i1, i1', i1''⟩, i2, i3, i4, i5, i6⟩ := hI
    simp only at i1 i1' i1'' i2 i3 i4 i5 i6
    have h1 := h.pl i1 (by decide)
    have hL1 := hL.pl i1 (by decide)
    have ho := hw.t ht
    have ho12 := hw.o (t := t) (by omega)
    show (∃ S' b, run 29 0 29 [vR 30 0, vR 1 q, vR 17 r, vI (nI w), vR 26 0, vI (nI (4 * w + sl.length)), vI (nI t), x1, x2, x3, x4] [] S1 = _ ∧ _) ∨ ∃ s', _ ∧ run 29 0 29 [vR 30 0, vR 1 q, vR 17 r, vI (nI w), vR 26 0, vI (nI (4 * w + sl.length)), vI (nI t), x1, x2, x3, x4] [] S1 = _
    rw [s29_29]
    cases c0 : (A 11 w).testBit t with
    | false =>
      refine Or.inr ⟨((S1, M, sl), x1, x2, x3, x4), ⟨⟨i1, i1', i1''⟩, ?_, i3, i4, i5, fun Q => ?_⟩, ?_⟩
      · show sl.length ≤ ctp (A 11 w) (t + 1)
        rw [ctp_s, c0]
        simpa using i2
      · rw [ex_s, i6 Q]
        simp [hiP, c0]
      · simp (disch := omega) only [s29_0, s29_1, s29_4, s29_5, s29_6, s29_7, s29_8, s29_9, s29_10, s29_12, s29_13, s29_16, s29_18, s29_20, s29_21, s29_22, s29_23, s29_26, s29_27, s29_31, s29_32, s29_35, s29_38, s29_39, s29_42, s29_43, s29_44, s29_46, s29_49, s29_52, s29_55, s29_56, s29_58, s29_59, s29_61, s29_62, s29_66, s29_67, s29_70, s29_71, s29_74, s29_75, s29_77, s29_78, s29_80, s29_81, s29_82, s29_84, s29_85, s29_87, s29_88, s29_91, s29_92, s29_93, s29_96, s29_99, s29_102, s29_105, s29_107, s29_108, s29_109, s29_110, s29_112, s29_114, s29_117, s29_120, s29_122, s29_123, s29_125, s29_126, s29_127, s29_129, s29_132, s29_135, s29_137, s29_138, s29_139, s29_140, s29_142, s29_145, s29_146, s29_149, s29_151, s29_154, s29_155, s29_156, s29_159, s29_160, s29_162, s29_163, s29_164, s29_165, s29_168, s29_169, s29_171, s29_172, s29_173, s29_174, s29_175, s29_178, s29_181, s29_182, s29_183, s29_184, s29_187, s29_188, s29_189, s29_190, s29_192, s29_193, s29_194, s29_197, s29_199, s29_200, s29_203, s29_204, s29_205, s29_207, s29_209, s29_212, s29_213, s29_214, s29_217, s29_218, s29_221, s29_223, s29_225, s29_226, s29_229, s29_232, s29_235, s29_236, q_0, q_1, q_2, q_3, q_4, q_5, q_6, q_7, q_8, q_9, q_10, q_11, q_12, q_13, q_14, q_16, q_20, q_23, q_24, q_32, q_42, q_43, q_45, q_47, q_48, q_50, q_57, q_59, q_60, q_61, q_62, q_63, q_64, q_66, q_91, q_93, q_97, q_99, q_122, q_144, q_255, q_256, q_300, q_380, q_400, q_620, q_999, q_1000, q_4095, q_4096, q_9999, q_65536, q_99999, q_31, nI_add, pk_mul, nE, nL, nT, nM31, nShl, ib_nI, nI_clamp, bI_n0, bI_n1, bI_nar, uI_r, uI_l, uL_r, uL_i, uL_p, uA_r, uA_l, bV_some, bU_some, nar_n0, nar_n1, and_self, and_true, true_and, and_false, false_and, if_true, if_false, eq_self, Bool.false_eq_true, Bool.true_eq_false, not_true_eq_false, not_false_eq_true, ↓reduceIte, nlT, nlF, ntT, ntF, neT, neF, ieT, ieF, decide_true, decide_false, Bool.not_true, Bool.not_false, Bool.and_true, Bool.true_and, Bool.and_false, Bool.false_and, Bool.or_true, Bool.true_or, Bool.or_false, Bool.false_or, h1.th, h1.ki, x_has, c0]
    | true =>
      have hc4 : ctp (A 11 w) (t + 1) ≤ 4 := Nat.le_trans (ct_mo _ (by omega)) (hw.w hv).2.2.2.1
      have hcs : ctp (A 11 w) (t + 1) = ctp (A 11 w) t + 1 := by rw [ctp_s, c0, if_pos rfl]
      obtain ⟨S2, a1, a2⟩ := x_halfA (f := 0) (U := 0) (n := 0) (pl := vI (nI (4 * w + sl.length))) (x := x4) h1 hw hL1 hl hv ht (by decide)
      have h2 := h1.pl a2 (by decide)
      have hL2 := hL1.pl a2 (by decide)
      obtain ⟨S3, b1, b2⟩ := x_halfA (f := 1) (U := if uwB A L w t (ow A (2 * t + 0)) = true then 0 ||| 2 ^ ow A (2 * t + 0) else 0) (n := if nvB A w (ow A (2 * t + 0)) = true then 0 + 1 else 0) (pl := vI (nI (4 * w + sl.length))) (x := vI (nI (ow A (2 * t + 0)))) h2 hw hL2 hl hv ht (by decide)
      have h3 := h2.pl b2 (by decide)
      have hL3 := hL2.pl b2 (by decide)
      obtain ⟨S4, d1, d2⟩ := x_needed (w := w) (t := t) h3 hw hL3 hl (by omega) (by omega)
      have h4 := h3.pl d2 (by decide)
      have e5 := x_atOdds_A h4 (a := A 7 t) (b := A 8 t) ho12.1 ho12.2
      have hmu := hd_le (v := sumL L (W1 A w t) 2 2) (lo := 1) (hi := 2) (by decide)
      have hmu' : muN A L w t ≤ 2 := hmu.2
      have w1 := h4.own (i := 2 * t) (by omega)
      have w2 := h4.own (i := 2 * t + 1) (by omega)
      rw [ow_0] at w1
      rw [ow_1] at w2
      have f4 : Fr (pL [23, 27, 32, 33]) S S4 := ((i1.tr (a2.pl (by simp))).tr (b2.pl (by simp))).tr (d2.pl (by simp))
      have g32 : ∀ v, S4.1 32 0 v = S1.1 32 0 v := fun v => by rw [d2.i rfl, b2.i rfl, a2.i rfl]
      have g33 : ∀ c, S4.1 33 0 c = S1.1 33 0 c := fun c => by rw [d2.i rfl, b2.i rfl, a2.i rfl]
      simp only [Nat.add_zero, ow_0, ow_1, Nat.zero_or, Nat.zero_add] at a1 b1
      have q7 : 2 ^ A 7 t < 2 ^ 12 := Nat.pow_lt_pow_right (by decide) ho12.1
      have q8 : 2 ^ A 8 t < 2 ^ 12 := Nat.pow_lt_pow_right (by decide) ho12.2
      have q78 : 2 ^ A 7 t ||| 2 ^ A 8 t < 2 ^ 12 := Nat.or_lt_two_pow q7 q8
      have pp := pop_2 (A 7 t) ho12.1 (A 8 t) ho12.2 ho.2.2.1
      have pp8 := (pop_2 (A 8 t) ho12.2 (A 7 t) ho12.1 (Ne.symm ho.2.2.1)).2
      have hix : ∀ Q, hiP A L w Q t = !hiT A L w Q t := fun Q => by unfold hiP; rw [c0, Bool.true_and]
      have fail : (∀ Q, hiT A L w Q t = false) → ∀ Q, ex (hiP A L w Q) (A 0 1) = true := fun hf Q => ex_mono ht (by rw [hix, hf Q]; rfl)
      have stay : (∀ Q, hiT A L w Q t = true) → AskV A L w (t + 1) M sl := fun hf => ⟨i4, i5, fun Q => by rw [ex_s, hix, hf Q, i6 Q]; simp⟩
      have sStay : AskS S4 w M sl := ⟨by rw [g32]; exact i3.1, fun i hi => by rw [g33]; exact i3.2 i hi⟩
      have must : ∀ U, U < 2 ^ 12 → (∀ Q, hiT A L w Q t = (dif U Q == 0)) → AskV A L w (t + 1) (M ||| U) sl := fun U hU hf => ⟨Nat.or_lt_two_pow i4 hU, i5, fun Q => by
        have := i6 Q
        rw [ex_s, hix, hf Q, dif_or i4 hU, Bool.not_or, Bool.not_not, ← this]
        cases (dif M Q == 0) <;> cases (dif U Q == 0) <;> simp⟩
      have sMust : ∀ U, AskS (uI S4 32 0 w (nI (M ||| U))) w (M ||| U) sl := fun U => ⟨by rw [uI_r, if_pos ⟨rfl, rfl, rfl⟩], fun i hi => by rw [uI_r, if_neg (by omega), g33]; exact i3.2 i hi⟩
      have some' : ∀ U, U ≠ 0 → U < 2 ^ 12 → (∀ Q, hiT A L w Q t = !(U &&& Q == 0)) → AskV A L w (t + 1) M (sl ++ [U]) := fun U hU0 hU hf => ⟨i4, fun x hx => by
        simp only [List.mem_append, List.mem_singleton] at hx
        rcases hx with hx | hx
        · exact i5 x hx
        · rw [hx]; exact ⟨hU0, hU⟩, fun Q => by
        have := i6 Q
        rw [ex_s, hix, hf Q, Bool.not_or, Bool.not_not, ← this, List.all_append]
        cases (dif M Q == 0) <;> simp⟩
      have sSome : ∀ U, AskS (uI S4 33 0 (4 * w + sl.length) (nI U)) w M (sl ++ [U]) := fun U => ⟨by rw [uI_r, if_neg (by omega), g32]; exact i3.1, fun i hi => by
        rw [uI_r]
        by_cases e : i = sl.length
        · rw [if_pos ⟨rfl, rfl, by omega⟩, e]
          simp
        · rw [if_neg (by omega), g33, i3.2 i hi]
          congr 1
          by_cases e2 : i < sl.length
          · rw [getD_app (by omega), if_neg e]
          · rw [List.getD_eq_getElem?_getD, List.getD_eq_getElem?_getD, List.getElem?_eq_none (by omega), List.getElem?_eq_none (by simp; omega)]⟩
      have o32 : ∀ U v, v ≠ w → (uI S4 32 0 w (nI U)).1 32 0 v = S.1 32 0 v := fun U v hv => by rw [uI_r, if_neg (by omega), g32]; exact i1' v hv
      have o33 : ∀ U c, (c < 4 * w ∨ 4 * w + 4 ≤ c) → (uI S4 33 0 (4 * w + sl.length) (nI U)).1 33 0 c = S.1 33 0 c := fun U c hc => by rw [uI_r, if_neg (by omega), g33]; exact i1'' c hc
      have g32' : ∀ v, v ≠ w → S4.1 32 0 v = S.1 32 0 v := fun v hv => by rw [g32]; exact i1' v hv
      have g33' : ∀ c, (c < 4 * w ∨ 4 * w + 4 ≤ c) → S4.1 33 0 c = S.1 33 0 c := fun c hc => by rw [g33]; exact i1'' c hc
      have eq7 : ∀ Q, ndI A L w t Q (A 7 t) = (!nvB A w (A 7 t) && (Q.testBit (A 7 t) || !uwB A L w t (A 7 t))) := fun Q => ndI_v A L w t Q (A 7 t)
      have eq8 : ∀ Q, ndI A L w t Q (A 8 t) = (!nvB A w (A 8 t) && (Q.testBit (A 8 t) || !uwB A L w t (A 8 t))) := fun Q => ndI_v A L w t Q (A 8 t)
      have uw7 : nvB A w (A 7 t) = true → uwB A L w t (A 7 t) = false := fun e => by unfold uwB; rw [e]; rfl
      have uw8 : nvB A w (A 8 t) = true → uwB A L w t (A 8 t) = false := fun e => by unfold uwB; rw [e]; rfl
      have r32 := (g32 w).trans i3.1
      have len : sl.length + 1 ≤ 4 := by omega
      have la1 : sl.length ≤ ctp (A 11 w) (t + 1) := by omega
      have la2 : ∀ U : Nat, (sl ++ [U]).length ≤ ctp (A 11 w) (t + 1) := fun U => by simp; omega
      have le9 : ∀ U : Nat, (sl ++ [U]).length = sl.length + 1 := fun U => by simp
      simp (disch := omega) only [s29_31, s29_32, s29_35, s29_38, s29_39, s29_42, s29_43, s29_44, s29_46, s29_49, s29_55, s29_56, s29_58, s29_59, s29_61, s29_62, q_0, q_1, q_2, q_3, q_4, q_5, q_6, q_7, q_8, q_9, q_10, q_11, q_12, q_13, q_14, q_16, q_20, q_23, q_24, q_32, q_42, q_43, q_45, q_47, q_48, q_50, q_57, q_59, q_60, q_61, q_62, q_63, q_64, q_66, q_91, q_93, q_97, q_99, q_122, q_144, q_255, q_256, q_300, q_380, q_400, q_620, q_999, q_1000, q_4095, q_4096, q_9999, q_65536, q_99999, q_31, nI_add, pk_mul, nE, nL, nT, nM31, nShl, ib_nI, nI_clamp, bI_n0, bI_n1, bI_nar, uI_r, uI_l, uL_r, uL_i, uL_p, uA_r, uA_l, bV_some, bU_some, nar_n0, nar_n1, and_self, and_true, true_and, and_false, false_and, if_true, if_false, eq_self, Bool.false_eq_true, Bool.true_eq_false, not_true_eq_false, not_false_eq_true, ↓reduceIte, nlT, nlF, ntT, ntF, neT, neF, ieT, ieF, decide_true, decide_false, Bool.not_true, Bool.not_false, Bool.and_true, Bool.true_and, Bool.and_false, Bool.false_and, Bool.or_true, Bool.true_or, Bool.or_false, Bool.false_or, h1.th, h1.ki, x_has, c0, a1, b1]
      rw [s29_64]
      by_cases c2 : muN A L w t = 2
      · -- both are wanted
        have ht2 : ∀ Q, hiT A L w Q t = (ndI A L w t Q (A 7 t) && ndI A L w t Q (A 8 t) && !(A 5 (12 * A 7 t + A 8 t) == 1)) := fun Q => by unfold hiT; rw [if_pos c2]
        cases n7 : nvB A w (A 7 t) with
        | true =>
          rw [n7] at eq7 uw7
          have hf : ∀ Q, hiT A L w Q t = false := fun Q => by rw [ht2, eq7]; rfl
          refine Or.inl ⟨S4, false, ?_, f4, g32', g33', (fun e => by cases e), fun _ => fail hf⟩
          cases n8 : nvB A w (A 8 t) <;> (simp (disch := omega) only [s29_0, s29_1, s29_4, s29_5, s29_6, s29_7, s29_8, s29_9, s29_10, s29_12, s29_13, s29_16, s29_18, s29_20, s29_21, s29_22, s29_23, s29_26, s29_27, s29_31, s29_32, s29_35, s29_38, s29_39, s29_42, s29_43, s29_44, s29_46, s29_49, s29_52, s29_55, s29_56, s29_58, s29_59, s29_61, s29_62, s29_66, s29_67, s29_70, s29_71, s29_74, s29_75, s29_77, s29_78, s29_80, s29_81, s29_82, s29_84, s29_85, s29_87, s29_88, s29_91, s29_92, s29_93, s29_96, s29_99, s29_102, s29_105, s29_107, s29_108, s29_109, s29_110, s29_112, s29_114, s29_117, s29_120, s29_122, s29_123, s29_125, s29_126, s29_127, s29_129, s29_132, s29_135, s29_137, s29_138, s29_139, s29_140, s29_142, s29_145, s29_146, s29_149, s29_151, s29_154, s29_155, s29_156, s29_159, s29_160, s29_162, s29_163, s29_164, s29_165, s29_168, s29_169, s29_171, s29_172, s29_173, s29_174, s29_175, s29_178, s29_181, s29_182, s29_183, s29_184, s29_187, s29_188, s29_189, s29_190, s29_192, s29_193, s29_194, s29_197, s29_199, s29_200, s29_203, s29_204, s29_205, s29_207, s29_209, s29_212, s29_213, s29_214, s29_217, s29_218, s29_221, s29_223, s29_225, s29_226, s29_229, s29_232, s29_235, s29_236, q_0, q_1, q_2, q_3, q_4, q_5, q_6, q_7, q_8, q_9, q_10, q_11, q_12, q_13, q_14, q_16, q_20, q_23, q_24, q_32, q_42, q_43, q_45, q_47, q_48, q_50, q_57, q_59, q_60, q_61, q_62, q_63, q_64, q_66, q_91, q_93, q_97, q_99, q_122, q_144, q_255, q_256, q_300, q_380, q_400, q_620, q_999, q_1000, q_4095, q_4096, q_9999, q_65536, q_99999, q_31, nI_add, pk_mul, nE, nL, nT, nM31, nShl, ib_nI, nI_clamp, bI_n0, bI_n1, bI_nar, uI_r, uI_l, uL_r, uL_i, uL_p, uA_r, uA_l, bV_some, bU_some, nar_n0, nar_n1, and_self, and_true, true_and, and_false, false_and, if_true, if_false, eq_self, Bool.false_eq_true, Bool.true_eq_false, not_true_eq_false, not_false_eq_true, ↓reduceIte, nlT, nlF, ntT, ntF, neT, neF, ieT, ieF, decide_true, decide_false, Bool.not_true, Bool.not_false, Bool.and_true, Bool.true_and, Bool.and_false, Bool.false_and, Bool.or_true, Bool.true_or, Bool.or_false, Bool.false_or, d1, c2]; rfl)
        | false =>
          rw [n7] at eq7
          cases n8 : nvB A w (A 8 t) with
          | true =>
            rw [n8] at eq8
            have hf : ∀ Q, hiT A L w Q t = false := fun Q => by rw [ht2, eq8]; simp
            refine Or.inl ⟨S4, false, ?_, f4, g32', g33', (fun e => by cases e), fun _ => fail hf⟩
            simp (disch := omega) only [s29_0, s29_1, s29_4, s29_5, s29_6, s29_7, s29_8, s29_9, s29_10, s29_12, s29_13, s29_16, s29_18, s29_20, s29_21, s29_22, s29_23, s29_26, s29_27, s29_31, s29_32, s29_35, s29_38, s29_39, s29_42, s29_43, s29_44, s29_46, s29_49, s29_52, s29_55, s29_56, s29_58, s29_59, s29_61, s29_62, s29_66, s29_67, s29_70, s29_71, s29_74, s29_75, s29_77, s29_78, s29_80, s29_81, s29_82, s29_84, s29_85, s29_87, s29_88, s29_91, s29_92, s29_93, s29_96, s29_99, s29_102, s29_105, s29_107, s29_108, s29_109, s29_110, s29_112, s29_114, s29_117, s29_120, s29_122, s29_123, s29_125, s29_126, s29_127, s29_129, s29_132, s29_135, s29_137, s29_138, s29_139, s29_140, s29_142, s29_145, s29_146, s29_149, s29_151, s29_154, s29_155, s29_156, s29_159, s29_160, s29_162, s29_163, s29_164, s29_165, s29_168, s29_169, s29_171, s29_172, s29_173, s29_174, s29_175, s29_178, s29_181, s29_182, s29_183, s29_184, s29_187, s29_188, s29_189, s29_190, s29_192, s29_193, s29_194, s29_197, s29_199, s29_200, s29_203, s29_204, s29_205, s29_207, s29_209, s29_212, s29_213, s29_214, s29_217, s29_218, s29_221, s29_223, s29_225, s29_226, s29_229, s29_232, s29_235, s29_236, q_0, q_1, q_2, q_3, q_4, q_5, q_6, q_7, q_8, q_9, q_10, q_11, q_12, q_13, q_14, q_16, q_20, q_23, q_24, q_32, q_42, q_43, q_45, q_47, q_48, q_50, q_57, q_59, q_60, q_61, q_62, q_63, q_64, q_66, q_91, q_93, q_97, q_99, q_122, q_144, q_255, q_256, q_300, q_380, q_400, q_620, q_999, q_1000, q_4095, q_4096, q_9999, q_65536, q_99999, q_31, nI_add, pk_mul, nE, nL, nT, nM31, nShl, ib_nI, nI_clamp, bI_n0, bI_n1, bI_nar, uI_r, uI_l, uL_r, uL_i, uL_p, uA_r, uA_l, bV_some, bU_some, nar_n0, nar_n1, and_self, and_true, true_and, and_false, false_and, if_true, if_false, eq_self, Bool.false_eq_true, Bool.true_eq_false, not_true_eq_false, not_false_eq_true, ↓reduceIte, nlT, nlF, ntT, ntF, neT, neF, ieT, ieF, decide_true, decide_false, Bool.not_true, Bool.not_false, Bool.and_true, Bool.true_and, Bool.and_false, Bool.false_and, Bool.or_true, Bool.true_or, Bool.or_false, Bool.false_or, d1, c2]
            rfl
          | false =>
            rw [n8] at eq8
            cases c5 : (A 5 (12 * A 7 t + A 8 t) == 1) with
            | true =>
              have hf : ∀ Q, hiT A L w Q t = false := fun Q => by rw [ht2, c5]; simp
              rw [c5] at e5
              refine Or.inl ⟨S4, false, ?_, f4, g32', g33', (fun e => by cases e), fun _ => fail hf⟩
              simp (disch := omega) only [s29_0, s29_1, s29_4, s29_5, s29_6, s29_7, s29_8, s29_9, s29_10, s29_12, s29_13, s29_16, s29_18, s29_20, s29_21, s29_22, s29_23, s29_26, s29_27, s29_31, s29_32, s29_35, s29_38, s29_39, s29_42, s29_43, s29_44, s29_46, s29_49, s29_52, s29_55, s29_56, s29_58, s29_59, s29_61, s29_62, s29_66, s29_67, s29_70, s29_71, s29_74, s29_75, s29_77, s29_78, s29_80, s29_81, s29_82, s29_84, s29_85, s29_87, s29_88, s29_91, s29_92, s29_93, s29_96, s29_99, s29_102, s29_105, s29_107, s29_108, s29_109, s29_110, s29_112, s29_114, s29_117, s29_120, s29_122, s29_123, s29_125, s29_126, s29_127, s29_129, s29_132, s29_135, s29_137, s29_138, s29_139, s29_140, s29_142, s29_145, s29_146, s29_149, s29_151, s29_154, s29_155, s29_156, s29_159, s29_160, s29_162, s29_163, s29_164, s29_165, s29_168, s29_169, s29_171, s29_172, s29_173, s29_174, s29_175, s29_178, s29_181, s29_182, s29_183, s29_184, s29_187, s29_188, s29_189, s29_190, s29_192, s29_193, s29_194, s29_197, s29_199, s29_200, s29_203, s29_204, s29_205, s29_207, s29_209, s29_212, s29_213, s29_214, s29_217, s29_218, s29_221, s29_223, s29_225, s29_226, s29_229, s29_232, s29_235, s29_236, q_0, q_1, q_2, q_3, q_4, q_5, q_6, q_7, q_8, q_9, q_10, q_11, q_12, q_13, q_14, q_16, q_20, q_23, q_24, q_32, q_42, q_43, q_45, q_47, q_48, q_50, q_57, q_59, q_60, q_61, q_62, q_63, q_64, q_66, q_91, q_93, q_97, q_99, q_122, q_144, q_255, q_256, q_300, q_380, q_400, q_620, q_999, q_1000, q_4095, q_4096, q_9999, q_65536, q_99999, q_31, nI_add, pk_mul, nE, nL, nT, nM31, nShl, ib_nI, nI_clamp, bI_n0, bI_n1, bI_nar, uI_r, uI_l, uL_r, uL_i, uL_p, uA_r, uA_l, bV_some, bU_some, nar_n0, nar_n1, and_self, and_true, true_and, and_false, false_and, if_true, if_false, eq_self, Bool.false_eq_true, Bool.true_eq_false, not_true_eq_false, not_false_eq_true, ↓reduceIte, nlT, nlF, ntT, ntF, neT, neF, ieT, ieF, decide_true, decide_false, Bool.not_true, Bool.not_false, Bool.and_true, Bool.true_and, Bool.and_false, Bool.false_and, Bool.or_true, Bool.true_or, Bool.or_false, Bool.false_or, d1, c2, w1, w2, e5]
              rfl
            | false =>
              rw [c5] at e5
              have hU : ∃ U, U < 2 ^ 12 ∧ U = (if uwB A L w t (A 8 t) = true then (if uwB A L w t (A 7 t) = true then 2 ^ A 7 t else 0) ||| 2 ^ A 8 t else (if uwB A L w t (A 7 t) = true then 2 ^ A 7 t else 0)) ∧ ∀ Q, hiT A L w Q t = (dif U Q == 0) := by
                refine ⟨_, ?_, rfl, fun Q => ?_⟩
                · cases uwB A L w t (A 8 t) <;> cases uwB A L w t (A 7 t) <;> simp <;> omega
                · rw [ht2, eq7, eq8, c5]
                  cases u8 : uwB A L w t (A 8 t) <;> cases u7 : uwB A L w t (A 7 t)
                  · simp [dif_z]
                  · simp [dif_pw ho12.1]
                  · simp [dif_pw ho12.2]
                  · simp [dif_or q7 q8, dif_pw ho12.1, dif_pw ho12.2]
              obtain ⟨U, u1, u2, u3⟩ := hU
              rw [← u2]
              refine Or.inr ⟨((uI S4 32 0 w (nI (M ||| U)), M ||| U, sl), vI (nI U), vI (nI 0), vI (nI 2), vI (nI (A 8 t))), ⟨⟨f4.uI rfl, o32 _, fun c hc => ?_⟩, la1, sMust U, must U u1 u3⟩, ?_⟩
              · show (uI S4 32 0 w (nI (M ||| U))).1 33 0 c = S.1 33 0 c
                rw [uI_r, if_neg (by omega)]
                exact g33' c hc
              · simp (disch := omega) only [s29_0, s29_1, s29_4, s29_5, s29_6, s29_7, s29_8, s29_9, s29_10, s29_12, s29_13, s29_16, s29_18, s29_20, s29_21, s29_22, s29_23, s29_26, s29_27, s29_31, s29_32, s29_35, s29_38, s29_39, s29_42, s29_43, s29_44, s29_46, s29_49, s29_52, s29_55, s29_56, s29_58, s29_59, s29_61, s29_62, s29_66, s29_67, s29_70, s29_71, s29_74, s29_75, s29_77, s29_78, s29_80, s29_81, s29_82, s29_84, s29_85, s29_87, s29_88, s29_91, s29_92, s29_93, s29_96, s29_99, s29_102, s29_105, s29_107, s29_108, s29_109, s29_110, s29_112, s29_114, s29_117, s29_120, s29_122, s29_123, s29_125, s29_126, s29_127, s29_129, s29_132, s29_135, s29_137, s29_138, s29_139, s29_140, s29_142, s29_145, s29_146, s29_149, s29_151, s29_154, s29_155, s29_156, s29_159, s29_160, s29_162, s29_163, s29_164, s29_165, s29_168, s29_169, s29_171, s29_172, s29_173, s29_174, s29_175, s29_178, s29_181, s29_182, s29_183, s29_184, s29_187, s29_188, s29_189, s29_190, s29_192, s29_193, s29_194, s29_197, s29_199, s29_200, s29_203, s29_204, s29_205, s29_207, s29_209, s29_212, s29_213, s29_214, s29_217, s29_218, s29_221, s29_223, s29_225, s29_226, s29_229, s29_232, s29_235, s29_236, q_0, q_1, q_2, q_3, q_4, q_5, q_6, q_7, q_8, q_9, q_10, q_11, q_12, q_13, q_14, q_16, q_20, q_23, q_24, q_32, q_42, q_43, q_45, q_47, q_48, q_50, q_57, q_59, q_60, q_61, q_62, q_63, q_64, q_66, q_91, q_93, q_97, q_99, q_122, q_144, q_255, q_256, q_300, q_380, q_400, q_620, q_999, q_1000, q_4095, q_4096, q_9999, q_65536, q_99999, q_31, nI_add, pk_mul, nE, nL, nT, nM31, nShl, ib_nI, nI_clamp, bI_n0, bI_n1, bI_nar, uI_r, uI_l, uL_r, uL_i, uL_p, uA_r, uA_l, bV_some, bU_some, nar_n0, nar_n1, and_self, and_true, true_and, and_false, false_and, if_true, if_false, eq_self, Bool.false_eq_true, Bool.true_eq_false, not_true_eq_false, not_false_eq_true, ↓reduceIte, nlT, nlF, ntT, ntF, neT, neF, ieT, ieF, decide_true, decide_false, Bool.not_true, Bool.not_false, Bool.and_true, Bool.true_and, Bool.and_false, Bool.false_and, Bool.or_true, Bool.true_or, Bool.or_false, Bool.false_or, d1, c2, w1, w2, e5, r32, nx_or]
      · -- one is enough
        have ht1 : ∀ Q, hiT A L w Q t = (ndI A L w t Q (A 7 t) || ndI A L w t Q (A 8 t)) := fun Q => by unfold hiT; rw [if_neg c2]
        cases n7 : nvB A w (A 7 t) with
        | true =>
          have u7 := uw7 n7
          rw [n7] at eq7
          cases n8 : nvB A w (A 8 t) with
          | true =>
            have u8 := uw8 n8
            rw [n8] at eq8
            have hf : ∀ Q, hiT A L w Q t = false := fun Q => by rw [ht1, eq7, eq8]; rfl
            refine Or.inl ⟨S4, false, ?_, f4, g32', g33', (fun e => by cases e), fun _ => fail hf⟩
            simp (disch := omega) only [s29_0, s29_1, s29_4, s29_5, s29_6, s29_7, s29_8, s29_9, s29_10, s29_12, s29_13, s29_16, s29_18, s29_20, s29_21, s29_22, s29_23, s29_26, s29_27, s29_31, s29_32, s29_35, s29_38, s29_39, s29_42, s29_43, s29_44, s29_46, s29_49, s29_52, s29_55, s29_56, s29_58, s29_59, s29_61, s29_62, s29_66, s29_67, s29_70, s29_71, s29_74, s29_75, s29_77, s29_78, s29_80, s29_81, s29_82, s29_84, s29_85, s29_87, s29_88, s29_91, s29_92, s29_93, s29_96, s29_99, s29_102, s29_105, s29_107, s29_108, s29_109, s29_110, s29_112, s29_114, s29_117, s29_120, s29_122, s29_123, s29_125, s29_126, s29_127, s29_129, s29_132, s29_135, s29_137, s29_138, s29_139, s29_140, s29_142, s29_145, s29_146, s29_149, s29_151, s29_154, s29_155, s29_156, s29_159, s29_160, s29_162, s29_163, s29_164, s29_165, s29_168, s29_169, s29_171, s29_172, s29_173, s29_174, s29_175, s29_178, s29_181, s29_182, s29_183, s29_184, s29_187, s29_188, s29_189, s29_190, s29_192, s29_193, s29_194, s29_197, s29_199, s29_200, s29_203, s29_204, s29_205, s29_207, s29_209, s29_212, s29_213, s29_214, s29_217, s29_218, s29_221, s29_223, s29_225, s29_226, s29_229, s29_232, s29_235, s29_236, q_0, q_1, q_2, q_3, q_4, q_5, q_6, q_7, q_8, q_9, q_10, q_11, q_12, q_13, q_14, q_16, q_20, q_23, q_24, q_32, q_42, q_43, q_45, q_47, q_48, q_50, q_57, q_59, q_60, q_61, q_62, q_63, q_64, q_66, q_91, q_93, q_97, q_99, q_122, q_144, q_255, q_256, q_300, q_380, q_400, q_620, q_999, q_1000, q_4095, q_4096, q_9999, q_65536, q_99999, q_31, nI_add, pk_mul, nE, nL, nT, nM31, nShl, ib_nI, nI_clamp, bI_n0, bI_n1, bI_nar, uI_r, uI_l, uL_r, uL_i, uL_p, uA_r, uA_l, bV_some, bU_some, nar_n0, nar_n1, and_self, and_true, true_and, and_false, false_and, if_true, if_false, eq_self, Bool.false_eq_true, Bool.true_eq_false, not_true_eq_false, not_false_eq_true, ↓reduceIte, nlT, nlF, ntT, ntF, neT, neF, ieT, ieF, decide_true, decide_false, Bool.not_true, Bool.not_false, Bool.and_true, Bool.true_and, Bool.and_false, Bool.false_and, Bool.or_true, Bool.true_or, Bool.or_false, Bool.false_or, d1, c2]
            rfl
          | false =>
            rw [n8] at eq8
            cases u8 : uwB A L w t (A 8 t) with
            | true =>
              rw [u8] at eq8
              have hf : ∀ Q, hiT A L w Q t = !(2 ^ A 8 t &&& Q == 0) := fun Q => by rw [ht1, eq7, eq8, and_pw]; simp
              refine Or.inr ⟨((uI S4 33 0 (4 * w + sl.length) (nI (2 ^ A 8 t)), M, sl ++ [2 ^ A 8 t]), vI (nI (2 ^ A 8 t)), vI (nI 1), vI (nI 2), vI (nI (A 8 t))), ⟨⟨f4.uI rfl, fun v hv => ?_, o33 _⟩, la2 _, sSome _, some' _ (by have := Nat.two_pow_pos (A 8 t); omega) q8 hf⟩, ?_⟩
              · show (uI S4 33 0 (4 * w + sl.length) (nI (2 ^ A 8 t))).1 32 0 v = S.1 32 0 v
                rw [uI_r, if_neg (by omega)]
                exact g32' v hv
              · simp (disch := omega) only [s29_0, s29_1, s29_4, s29_5, s29_6, s29_7, s29_8, s29_9, s29_10, s29_12, s29_13, s29_16, s29_18, s29_20, s29_21, s29_22, s29_23, s29_26, s29_27, s29_31, s29_32, s29_35, s29_38, s29_39, s29_42, s29_43, s29_44, s29_46, s29_49, s29_52, s29_55, s29_56, s29_58, s29_59, s29_61, s29_62, s29_66, s29_67, s29_70, s29_71, s29_74, s29_75, s29_77, s29_78, s29_80, s29_81, s29_82, s29_84, s29_85, s29_87, s29_88, s29_91, s29_92, s29_93, s29_96, s29_99, s29_102, s29_105, s29_107, s29_108, s29_109, s29_110, s29_112, s29_114, s29_117, s29_120, s29_122, s29_123, s29_125, s29_126, s29_127, s29_129, s29_132, s29_135, s29_137, s29_138, s29_139, s29_140, s29_142, s29_145, s29_146, s29_149, s29_151, s29_154, s29_155, s29_156, s29_159, s29_160, s29_162, s29_163, s29_164, s29_165, s29_168, s29_169, s29_171, s29_172, s29_173, s29_174, s29_175, s29_178, s29_181, s29_182, s29_183, s29_184, s29_187, s29_188, s29_189, s29_190, s29_192, s29_193, s29_194, s29_197, s29_199, s29_200, s29_203, s29_204, s29_205, s29_207, s29_209, s29_212, s29_213, s29_214, s29_217, s29_218, s29_221, s29_223, s29_225, s29_226, s29_229, s29_232, s29_235, s29_236, q_0, q_1, q_2, q_3, q_4, q_5, q_6, q_7, q_8, q_9, q_10, q_11, q_12, q_13, q_14, q_16, q_20, q_23, q_24, q_32, q_42, q_43, q_45, q_47, q_48, q_50, q_57, q_59, q_60, q_61, q_62, q_63, q_64, q_66, q_91, q_93, q_97, q_99, q_122, q_144, q_255, q_256, q_300, q_380, q_400, q_620, q_999, q_1000, q_4095, q_4096, q_9999, q_65536, q_99999, q_31, nI_add, pk_mul, nE, nL, nT, nM31, nShl, ib_nI, nI_clamp, bI_n0, bI_n1, bI_nar, uI_r, uI_l, uL_r, uL_i, uL_p, uA_r, uA_l, bV_some, bU_some, nar_n0, nar_n1, and_self, and_true, true_and, and_false, false_and, if_true, if_false, eq_self, Bool.false_eq_true, Bool.true_eq_false, not_true_eq_false, not_false_eq_true, ↓reduceIte, nlT, nlF, ntT, ntF, neT, neF, ieT, ieF, decide_true, decide_false, Bool.not_true, Bool.not_false, Bool.and_true, Bool.true_and, Bool.and_false, Bool.false_and, Bool.or_true, Bool.true_or, Bool.or_false, Bool.false_or, d1, c2, u7, Nat.zero_or, x_bitCount, pp8, le9, Nat.add_assoc]
            | false =>
              rw [u8] at eq8
              have hf : ∀ Q, hiT A L w Q t = true := fun Q => by rw [ht1, eq7, eq8]; simp
              refine Or.inr ⟨((S4, M, sl), vI (nI 0), vI (nI 1), vI (nI 2), vI (nI (A 8 t))), ⟨⟨f4, g32', g33'⟩, la1, sStay, stay hf⟩, ?_⟩
              simp (disch := omega) only [s29_0, s29_1, s29_4, s29_5, s29_6, s29_7, s29_8, s29_9, s29_10, s29_12, s29_13, s29_16, s29_18, s29_20, s29_21, s29_22, s29_23, s29_26, s29_27, s29_31, s29_32, s29_35, s29_38, s29_39, s29_42, s29_43, s29_44, s29_46, s29_49, s29_52, s29_55, s29_56, s29_58, s29_59, s29_61, s29_62, s29_66, s29_67, s29_70, s29_71, s29_74, s29_75, s29_77, s29_78, s29_80, s29_81, s29_82, s29_84, s29_85, s29_87, s29_88, s29_91, s29_92, s29_93, s29_96, s29_99, s29_102, s29_105, s29_107, s29_108, s29_109, s29_110, s29_112, s29_114, s29_117, s29_120, s29_122, s29_123, s29_125, s29_126, s29_127, s29_129, s29_132, s29_135, s29_137, s29_138, s29_139, s29_140, s29_142, s29_145, s29_146, s29_149, s29_151, s29_154, s29_155, s29_156, s29_159, s29_160, s29_162, s29_163, s29_164, s29_165, s29_168, s29_169, s29_171, s29_172, s29_173, s29_174, s29_175, s29_178, s29_181, s29_182, s29_183, s29_184, s29_187, s29_188, s29_189, s29_190, s29_192, s29_193, s29_194, s29_197, s29_199, s29_200, s29_203, s29_204, s29_205, s29_207, s29_209, s29_212, s29_213, s29_214, s29_217, s29_218, s29_221, s29_223, s29_225, s29_226, s29_229, s29_232, s29_235, s29_236, q_0, q_1, q_2, q_3, q_4, q_5, q_6, q_7, q_8, q_9, q_10, q_11, q_12, q_13, q_14, q_16, q_20, q_23, q_24, q_32, q_42, q_43, q_45, q_47, q_48, q_50, q_57, q_59, q_60, q_61, q_62, q_63, q_64, q_66, q_91, q_93, q_97, q_99, q_122, q_144, q_255, q_256, q_300, q_380, q_400, q_620, q_999, q_1000, q_4095, q_4096, q_9999, q_65536, q_99999, q_31, nI_add, pk_mul, nE, nL, nT, nM31, nShl, ib_nI, nI_clamp, bI_n0, bI_n1, bI_nar, uI_r, uI_l, uL_r, uL_i, uL_p, uA_r, uA_l, bV_some, bU_some, nar_n0, nar_n1, and_self, and_true, true_and, and_false, false_and, if_true, if_false, eq_self, Bool.false_eq_true, Bool.true_eq_false, not_true_eq_false, not_false_eq_true, ↓reduceIte, nlT, nlF, ntT, ntF, neT, neF, ieT, ieF, decide_true, decide_false, Bool.not_true, Bool.not_false, Bool.and_true, Bool.true_and, Bool.and_false, Bool.false_and, Bool.or_true, Bool.true_or, Bool.or_false, Bool.false_or, d1, c2, u7, x_bitCount, pop_0]
        | false =>
          rw [n7] at eq7
          cases u7 : uwB A L w t (A 7 t) with
          | false =>
            rw [u7] at eq7
            have hf : ∀ Q, hiT A L w Q t = true := fun Q => by rw [ht1, eq7]; simp
            cases n8 : nvB A w (A 8 t) with
            | true =>
              have u8 := uw8 n8
              refine Or.inr ⟨((S4, M, sl), vI (nI 0), vI (nI 1), vI (nI 2), vI (nI (A 8 t))), ⟨⟨f4, g32', g33'⟩, la1, sStay, stay hf⟩, ?_⟩
              simp (disch := omega) only [s29_0, s29_1, s29_4, s29_5, s29_6, s29_7, s29_8, s29_9, s29_10, s29_12, s29_13, s29_16, s29_18, s29_20, s29_21, s29_22, s29_23, s29_26, s29_27, s29_31, s29_32, s29_35, s29_38, s29_39, s29_42, s29_43, s29_44, s29_46, s29_49, s29_52, s29_55, s29_56, s29_58, s29_59, s29_61, s29_62, s29_66, s29_67, s29_70, s29_71, s29_74, s29_75, s29_77, s29_78, s29_80, s29_81, s29_82, s29_84, s29_85, s29_87, s29_88, s29_91, s29_92, s29_93, s29_96, s29_99, s29_102, s29_105, s29_107, s29_108, s29_109, s29_110, s29_112, s29_114, s29_117, s29_120, s29_122, s29_123, s29_125, s29_126, s29_127, s29_129, s29_132, s29_135, s29_137, s29_138, s29_139, s29_140, s29_142, s29_145, s29_146, s29_149, s29_151, s29_154, s29_155, s29_156, s29_159, s29_160, s29_162, s29_163, s29_164, s29_165, s29_168, s29_169, s29_171, s29_172, s29_173, s29_174, s29_175, s29_178, s29_181, s29_182, s29_183, s29_184, s29_187, s29_188, s29_189, s29_190, s29_192, s29_193, s29_194, s29_197, s29_199, s29_200, s29_203, s29_204, s29_205, s29_207, s29_209, s29_212, s29_213, s29_214, s29_217, s29_218, s29_221, s29_223, s29_225, s29_226, s29_229, s29_232, s29_235, s29_236, q_0, q_1, q_2, q_3, q_4, q_5, q_6, q_7, q_8, q_9, q_10, q_11, q_12, q_13, q_14, q_16, q_20, q_23, q_24, q_32, q_42, q_43, q_45, q_47, q_48, q_50, q_57, q_59, q_60, q_61, q_62, q_63, q_64, q_66, q_91, q_93, q_97, q_99, q_122, q_144, q_255, q_256, q_300, q_380, q_400, q_620, q_999, q_1000, q_4095, q_4096, q_9999, q_65536, q_99999, q_31, nI_add, pk_mul, nE, nL, nT, nM31, nShl, ib_nI, nI_clamp, bI_n0, bI_n1, bI_nar, uI_r, uI_l, uL_r, uL_i, uL_p, uA_r, uA_l, bV_some, bU_some, nar_n0, nar_n1, and_self, and_true, true_and, and_false, false_and, if_true, if_false, eq_self, Bool.false_eq_true, Bool.true_eq_false, not_true_eq_false, not_false_eq_true, ↓reduceIte, nlT, nlF, ntT, ntF, neT, neF, ieT, ieF, decide_true, decide_false, Bool.not_true, Bool.not_false, Bool.and_true, Bool.true_and, Bool.and_false, Bool.false_and, Bool.or_true, Bool.true_or, Bool.or_false, Bool.false_or, d1, c2, u8, x_bitCount, pop_0]
            | false =>
              cases u8 : uwB A L w t (A 8 t) with
              | true =>
                refine Or.inr ⟨((S4, M, sl), vI (nI (2 ^ A 8 t)), vI (nI 0), vI (nI 2), vI (nI (A 8 t))), ⟨⟨f4, g32', g33'⟩, la1, sStay, stay hf⟩, ?_⟩
                simp (disch := omega) only [s29_0, s29_1, s29_4, s29_5, s29_6, s29_7, s29_8, s29_9, s29_10, s29_12, s29_13, s29_16, s29_18, s29_20, s29_21, s29_22, s29_23, s29_26, s29_27, s29_31, s29_32, s29_35, s29_38, s29_39, s29_42, s29_43, s29_44, s29_46, s29_49, s29_52, s29_55, s29_56, s29_58, s29_59, s29_61, s29_62, s29_66, s29_67, s29_70, s29_71, s29_74, s29_75, s29_77, s29_78, s29_80, s29_81, s29_82, s29_84, s29_85, s29_87, s29_88, s29_91, s29_92, s29_93, s29_96, s29_99, s29_102, s29_105, s29_107, s29_108, s29_109, s29_110, s29_112, s29_114, s29_117, s29_120, s29_122, s29_123, s29_125, s29_126, s29_127, s29_129, s29_132, s29_135, s29_137, s29_138, s29_139, s29_140, s29_142, s29_145, s29_146, s29_149, s29_151, s29_154, s29_155, s29_156, s29_159, s29_160, s29_162, s29_163, s29_164, s29_165, s29_168, s29_169, s29_171, s29_172, s29_173, s29_174, s29_175, s29_178, s29_181, s29_182, s29_183, s29_184, s29_187, s29_188, s29_189, s29_190, s29_192, s29_193, s29_194, s29_197, s29_199, s29_200, s29_203, s29_204, s29_205, s29_207, s29_209, s29_212, s29_213, s29_214, s29_217, s29_218, s29_221, s29_223, s29_225, s29_226, s29_229, s29_232, s29_235, s29_236, q_0, q_1, q_2, q_3, q_4, q_5, q_6, q_7, q_8, q_9, q_10, q_11, q_12, q_13, q_14, q_16, q_20, q_23, q_24, q_32, q_42, q_43, q_45, q_47, q_48, q_50, q_57, q_59, q_60, q_61, q_62, q_63, q_64, q_66, q_91, q_93, q_97, q_99, q_122, q_144, q_255, q_256, q_300, q_380, q_400, q_620, q_999, q_1000, q_4095, q_4096, q_9999, q_65536, q_99999, q_31, nI_add, pk_mul, nE, nL, nT, nM31, nShl, ib_nI, nI_clamp, bI_n0, bI_n1, bI_nar, uI_r, uI_l, uL_r, uL_i, uL_p, uA_r, uA_l, bV_some, bU_some, nar_n0, nar_n1, and_self, and_true, true_and, and_false, false_and, if_true, if_false, eq_self, Bool.false_eq_true, Bool.true_eq_false, not_true_eq_false, not_false_eq_true, ↓reduceIte, nlT, nlF, ntT, ntF, neT, neF, ieT, ieF, decide_true, decide_false, Bool.not_true, Bool.not_false, Bool.and_true, Bool.true_and, Bool.and_false, Bool.false_and, Bool.or_true, Bool.true_or, Bool.or_false, Bool.false_or, d1, c2, x_bitCount, Nat.zero_or, pp8]
              | false =>
                refine Or.inr ⟨((S4, M, sl), vI (nI 0), vI (nI 0), vI (nI 2), vI (nI (A 8 t))), ⟨⟨f4, g32', g33'⟩, la1, sStay, stay hf⟩, ?_⟩
                simp (disch := omega) only [s29_0, s29_1, s29_4, s29_5, s29_6, s29_7, s29_8, s29_9, s29_10, s29_12, s29_13, s29_16, s29_18, s29_20, s29_21, s29_22, s29_23, s29_26, s29_27, s29_31, s29_32, s29_35, s29_38, s29_39, s29_42, s29_43, s29_44, s29_46, s29_49, s29_52, s29_55, s29_56, s29_58, s29_59, s29_61, s29_62, s29_66, s29_67, s29_70, s29_71, s29_74, s29_75, s29_77, s29_78, s29_80, s29_81, s29_82, s29_84, s29_85, s29_87, s29_88, s29_91, s29_92, s29_93, s29_96, s29_99, s29_102, s29_105, s29_107, s29_108, s29_109, s29_110, s29_112, s29_114, s29_117, s29_120, s29_122, s29_123, s29_125, s29_126, s29_127, s29_129, s29_132, s29_135, s29_137, s29_138, s29_139, s29_140, s29_142, s29_145, s29_146, s29_149, s29_151, s29_154, s29_155, s29_156, s29_159, s29_160, s29_162, s29_163, s29_164, s29_165, s29_168, s29_169, s29_171, s29_172, s29_173, s29_174, s29_175, s29_178, s29_181, s29_182, s29_183, s29_184, s29_187, s29_188, s29_189, s29_190, s29_192, s29_193, s29_194, s29_197, s29_199, s29_200, s29_203, s29_204, s29_205, s29_207, s29_209, s29_212, s29_213, s29_214, s29_217, s29_218, s29_221, s29_223, s29_225, s29_226, s29_229, s29_232, s29_235, s29_236, q_0, q_1, q_2, q_3, q_4, q_5, q_6, q_7, q_8, q_9, q_10, q_11, q_12, q_13, q_14, q_16, q_20, q_23, q_24, q_32, q_42, q_43, q_45, q_47, q_48, q_50, q_57, q_59, q_60, q_61, q_62, q_63, q_64, q_66, q_91, q_93, q_97, q_99, q_122, q_144, q_255, q_256, q_300, q_380, q_400, q_620, q_999, q_1000, q_4095, q_4096, q_9999, q_65536, q_99999, q_31, nI_add, pk_mul, nE, nL, nT, nM31, nShl, ib_nI, nI_clamp, bI_n0, bI_n1, bI_nar, uI_r, uI_l, uL_r, uL_i, uL_p, uA_r, uA_l, bV_some, bU_some, nar_n0, nar_n1, and_self, and_true, true_and, and_false, false_and, if_true, if_false, eq_self, Bool.false_eq_true, Bool.true_eq_false, not_true_eq_false, not_false_eq_true, ↓reduceIte, nlT, nlF, ntT, ntF, neT, neF, ieT, ieF, decide_true, decide_false, Bool.not_true, Bool.not_false, Bool.and_true, Bool.true_and, Bool.and_false, Bool.false_and, Bool.or_true, Bool.true_or, Bool.or_false, Bool.false_or, d1, c2, x_bitCount, pop_0]
          | true =>
            rw [u7] at eq7
            cases n8 : nvB A w (A 8 t) with
            | true =>
              have u8 := uw8 n8
              rw [n8] at eq8
              have hf : ∀ Q, hiT A L w Q t = !(2 ^ A 7 t &&& Q == 0) := fun Q => by rw [ht1, eq7, eq8, and_pw]; simp
              refine Or.inr ⟨((uI S4 33 0 (4 * w + sl.length) (nI (2 ^ A 7 t)), M, sl ++ [2 ^ A 7 t]), vI (nI (2 ^ A 7 t)), vI (nI 1), vI (nI 2), vI (nI (A 8 t))), ⟨⟨f4.uI rfl, fun v hv => ?_, o33 _⟩, la2 _, sSome _, some' _ (by have := Nat.two_pow_pos (A 7 t); omega) q7 hf⟩, ?_⟩
              · show (uI S4 33 0 (4 * w + sl.length) (nI (2 ^ A 7 t))).1 32 0 v = S.1 32 0 v
                rw [uI_r, if_neg (by omega)]
                exact g32' v hv
              · simp (disch := omega) only [s29_0, s29_1, s29_4, s29_5, s29_6, s29_7, s29_8, s29_9, s29_10, s29_12, s29_13, s29_16, s29_18, s29_20, s29_21, s29_22, s29_23, s29_26, s29_27, s29_31, s29_32, s29_35, s29_38, s29_39, s29_42, s29_43, s29_44, s29_46, s29_49, s29_52, s29_55, s29_56, s29_58, s29_59, s29_61, s29_62, s29_66, s29_67, s29_70, s29_71, s29_74, s29_75, s29_77, s29_78, s29_80, s29_81, s29_82, s29_84, s29_85, s29_87, s29_88, s29_91, s29_92, s29_93, s29_96, s29_99, s29_102, s29_105, s29_107, s29_108, s29_109, s29_110, s29_112, s29_114, s29_117, s29_120, s29_122, s29_123, s29_125, s29_126, s29_127, s29_129, s29_132, s29_135, s29_137, s29_138, s29_139, s29_140, s29_142, s29_145, s29_146, s29_149, s29_151, s29_154, s29_155, s29_156, s29_159, s29_160, s29_162, s29_163, s29_164, s29_165, s29_168, s29_169, s29_171, s29_172, s29_173, s29_174, s29_175, s29_178, s29_181, s29_182, s29_183, s29_184, s29_187, s29_188, s29_189, s29_190, s29_192, s29_193, s29_194, s29_197, s29_199, s29_200, s29_203, s29_204, s29_205, s29_207, s29_209, s29_212, s29_213, s29_214, s29_217, s29_218, s29_221, s29_223, s29_225, s29_226, s29_229, s29_232, s29_235, s29_236, q_0, q_1, q_2, q_3, q_4, q_5, q_6, q_7, q_8, q_9, q_10, q_11, q_12, q_13, q_14, q_16, q_20, q_23, q_24, q_32, q_42, q_43, q_45, q_47, q_48, q_50, q_57, q_59, q_60, q_61, q_62, q_63, q_64, q_66, q_91, q_93, q_97, q_99, q_122, q_144, q_255, q_256, q_300, q_380, q_400, q_620, q_999, q_1000, q_4095, q_4096, q_9999, q_65536, q_99999, q_31, nI_add, pk_mul, nE, nL, nT, nM31, nShl, ib_nI, nI_clamp, bI_n0, bI_n1, bI_nar, uI_r, uI_l, uL_r, uL_i, uL_p, uA_r, uA_l, bV_some, bU_some, nar_n0, nar_n1, and_self, and_true, true_and, and_false, false_and, if_true, if_false, eq_self, Bool.false_eq_true, Bool.true_eq_false, not_true_eq_false, not_false_eq_true, ↓reduceIte, nlT, nlF, ntT, ntF, neT, neF, ieT, ieF, decide_true, decide_false, Bool.not_true, Bool.not_false, Bool.and_true, Bool.true_and, Bool.and_false, Bool.false_and, Bool.or_true, Bool.true_or, Bool.or_false, Bool.false_or, d1, c2, u8, x_bitCount, pp.2, le9, Nat.add_assoc]
            | false =>
              rw [n8] at eq8
              cases u8 : uwB A L w t (A 8 t) with
              | true =>
                rw [u8] at eq8
                have hf : ∀ Q, hiT A L w Q t = !((2 ^ A 7 t ||| 2 ^ A 8 t) &&& Q == 0) := fun Q => by rw [ht1, eq7, eq8, and_or, and_pw, and_pw]; simp
                have hne : 2 ^ A 7 t ||| 2 ^ A 8 t ≠ 0 := by
                  have h9 := Nat.two_pow_pos (A 7 t)
                  have h8 : 2 ^ A 7 t ≤ 2 ^ A 7 t ||| 2 ^ A 8 t := Nat.left_le_or
                  omega
                refine Or.inr ⟨((uI S4 33 0 (4 * w + sl.length) (nI (2 ^ A 7 t ||| 2 ^ A 8 t)), M, sl ++ [2 ^ A 7 t ||| 2 ^ A 8 t]), vI (nI (2 ^ A 7 t ||| 2 ^ A 8 t)), vI (nI 0), vI (nI 2), vI (nI (A 8 t))), ⟨⟨f4.uI rfl, fun v hv => ?_, o33 _⟩, la2 _, sSome _, some' _ hne q78 hf⟩, ?_⟩
                · show (uI S4 33 0 (4 * w + sl.length) (nI (2 ^ A 7 t ||| 2 ^ A 8 t))).1 32 0 v = S.1 32 0 v
                  rw [uI_r, if_neg (by omega)]
                  exact g32' v hv
                · simp (disch := omega) only [s29_0, s29_1, s29_4, s29_5, s29_6, s29_7, s29_8, s29_9, s29_10, s29_12, s29_13, s29_16, s29_18, s29_20, s29_21, s29_22, s29_23, s29_26, s29_27, s29_31, s29_32, s29_35, s29_38, s29_39, s29_42, s29_43, s29_44, s29_46, s29_49, s29_52, s29_55, s29_56, s29_58, s29_59, s29_61, s29_62, s29_66, s29_67, s29_70, s29_71, s29_74, s29_75, s29_77, s29_78, s29_80, s29_81, s29_82, s29_84, s29_85, s29_87, s29_88, s29_91, s29_92, s29_93, s29_96, s29_99, s29_102, s29_105, s29_107, s29_108, s29_109, s29_110, s29_112, s29_114, s29_117, s29_120, s29_122, s29_123, s29_125, s29_126, s29_127, s29_129, s29_132, s29_135, s29_137, s29_138, s29_139, s29_140, s29_142, s29_145, s29_146, s29_149, s29_151, s29_154, s29_155, s29_156, s29_159, s29_160, s29_162, s29_163, s29_164, s29_165, s29_168, s29_169, s29_171, s29_172, s29_173, s29_174, s29_175, s29_178, s29_181, s29_182, s29_183, s29_184, s29_187, s29_188, s29_189, s29_190, s29_192, s29_193, s29_194, s29_197, s29_199, s29_200, s29_203, s29_204, s29_205, s29_207, s29_209, s29_212, s29_213, s29_214, s29_217, s29_218, s29_221, s29_223, s29_225, s29_226, s29_229, s29_232, s29_235, s29_236, q_0, q_1, q_2, q_3, q_4, q_5, q_6, q_7, q_8, q_9, q_10, q_11, q_12, q_13, q_14, q_16, q_20, q_23, q_24, q_32, q_42, q_43, q_45, q_47, q_48, q_50, q_57, q_59, q_60, q_61, q_62, q_63, q_64, q_66, q_91, q_93, q_97, q_99, q_122, q_144, q_255, q_256, q_300, q_380, q_400, q_620, q_999, q_1000, q_4095, q_4096, q_9999, q_65536, q_99999, q_31, nI_add, pk_mul, nE, nL, nT, nM31, nShl, ib_nI, nI_clamp, bI_n0, bI_n1, bI_nar, uI_r, uI_l, uL_r, uL_i, uL_p, uA_r, uA_l, bV_some, bU_some, nar_n0, nar_n1, and_self, and_true, true_and, and_false, false_and, if_true, if_false, eq_self, Bool.false_eq_true, Bool.true_eq_false, not_true_eq_false, not_false_eq_true, ↓reduceIte, nlT, nlF, ntT, ntF, neT, neF, ieT, ieF, decide_true, decide_false, Bool.not_true, Bool.not_false, Bool.and_true, Bool.true_and, Bool.and_false, Bool.false_and, Bool.or_true, Bool.true_or, Bool.or_false, Bool.false_or, d1, c2, x_bitCount, pp.1, le9, Nat.add_assoc]
              | false =>
                rw [u8] at eq8
                have hf : ∀ Q, hiT A L w Q t = true := fun Q => by rw [ht1, eq8]; simp
                refine Or.inr ⟨((S4, M, sl), vI (nI (2 ^ A 7 t)), vI (nI 0), vI (nI 2), vI (nI (A 8 t))), ⟨⟨f4, g32', g33'⟩, la1, sStay, stay hf⟩, ?_⟩
                simp (disch := omega) only [s29_0, s29_1, s29_4, s29_5, s29_6, s29_7, s29_8, s29_9, s29_10, s29_12, s29_13, s29_16, s29_18, s29_20, s29_21, s29_22, s29_23, s29_26, s29_27, s29_31, s29_32, s29_35, s29_38, s29_39, s29_42, s29_43, s29_44, s29_46, s29_49, s29_52, s29_55, s29_56, s29_58, s29_59, s29_61, s29_62, s29_66, s29_67, s29_70, s29_71, s29_74, s29_75, s29_77, s29_78, s29_80, s29_81, s29_82, s29_84, s29_85, s29_87, s29_88, s29_91, s29_92, s29_93, s29_96, s29_99, s29_102, s29_105, s29_107, s29_108, s29_109, s29_110, s29_112, s29_114, s29_117, s29_120, s29_122, s29_123, s29_125, s29_126, s29_127, s29_129, s29_132, s29_135, s29_137, s29_138, s29_139, s29_140, s29_142, s29_145, s29_146, s29_149, s29_151, s29_154, s29_155, s29_156, s29_159, s29_160, s29_162, s29_163, s29_164, s29_165, s29_168, s29_169, s29_171, s29_172, s29_173, s29_174, s29_175, s29_178, s29_181, s29_182, s29_183, s29_184, s29_187, s29_188, s29_189, s29_190, s29_192, s29_193, s29_194, s29_197, s29_199, s29_200, s29_203, s29_204, s29_205, s29_207, s29_209, s29_212, s29_213, s29_214, s29_217, s29_218, s29_221, s29_223, s29_225, s29_226, s29_229, s29_232, s29_235, s29_236, q_0, q_1, q_2, q_3, q_4, q_5, q_6, q_7, q_8, q_9, q_10, q_11, q_12, q_13, q_14, q_16, q_20, q_23, q_24, q_32, q_42, q_43, q_45, q_47, q_48, q_50, q_57, q_59, q_60, q_61, q_62, q_63, q_64, q_66, q_91, q_93, q_97, q_99, q_122, q_144, q_255, q_256, q_300, q_380, q_400, q_620, q_999, q_1000, q_4095, q_4096, q_9999, q_65536, q_99999, q_31, nI_add, pk_mul, nE, nL, nT, nM31, nShl, ib_nI, nI_clamp, bI_n0, bI_n1, bI_nar, uI_r, uI_l, uL_r, uL_i, uL_p, uA_r, uA_l, bV_some, bU_some, nar_n0, nar_n1, and_self, and_true, true_and, and_false, false_and, if_true, if_false, eq_self, Bool.false_eq_true, Bool.true_eq_false, not_true_eq_false, not_false_eq_true, ↓reduceIte, nlT, nlF, ntT, ntF, neT, neF, ieT, ieF, decide_true, decide_false, Bool.not_true, Bool.not_false, Bool.and_true, Bool.true_and, Bool.and_false, Bool.false_and, Bool.or_true, Bool.true_or, Bool.or_false, Bool.false_or, d1, c2, x_bitCount, pp.2]
  · intro p hI
    obtain ⟨⟨S1, M, sl⟩, x1, x2, x3, x4⟩ := p
    obtain ⟨⟨i1, i1', i1''⟩, i2, i3, i4⟩ := hI
    simp only at i1 i1' i1'' i2 i3 i4
    have h1 := h.pl i1 (by decide)
    have l4 : sl.length ≤ 4 := Nat.le_trans i2 (Nat.le_trans (ct_mo _ (by omega)) (hw.w hv).2.2.2.1)
    refine ⟨S1, true, ?_, i1, i1', i1'', fun _ => ⟨M, sl, i3, i4, l4⟩, fun e => by cases e⟩
    show run 29 0 29 [vR 30 0, vR 1 q, vR 17 r, vI (nI w), vR 26 0, vI (nI (4 * w + sl.length)), vI (nI (A 0 1)), x1, x2, x3, x4] [] S1 = _
    rw [s29_29]
    simp (disch := omega) only [s29_0, s29_1, s29_4, s29_5, s29_6, s29_7, s29_8, s29_9, s29_10, s29_12, s29_13, s29_16, s29_18, s29_20, s29_21, s29_22, s29_23, s29_26, s29_27, s29_31, s29_32, s29_35, s29_38, s29_39, s29_42, s29_43, s29_44, s29_46, s29_49, s29_52, s29_55, s29_56, s29_58, s29_59, s29_61, s29_62, s29_66, s29_67, s29_70, s29_71, s29_74, s29_75, s29_77, s29_78, s29_80, s29_81, s29_82, s29_84, s29_85, s29_87, s29_88, s29_91, s29_92, s29_93, s29_96, s29_99, s29_102, s29_105, s29_107, s29_108, s29_109, s29_110, s29_112, s29_114, s29_117, s29_120, s29_122, s29_123, s29_125, s29_126, s29_127, s29_129, s29_132, s29_135, s29_137, s29_138, s29_139, s29_140, s29_142, s29_145, s29_146, s29_149, s29_151, s29_154, s29_155, s29_156, s29_159, s29_160, s29_162, s29_163, s29_164, s29_165, s29_168, s29_169, s29_171, s29_172, s29_173, s29_174, s29_175, s29_178, s29_181, s29_182, s29_183, s29_184, s29_187, s29_188, s29_189, s29_190, s29_192, s29_193, s29_194, s29_197, s29_199, s29_200, s29_203, s29_204, s29_205, s29_207, s29_209, s29_212, s29_213, s29_214, s29_217, s29_218, s29_221, s29_223, s29_225, s29_226, s29_229, s29_232, s29_235, s29_236, q_0, q_1, q_2, q_3, q_4, q_5, q_6, q_7, q_8, q_9, q_10, q_11, q_12, q_13, q_14, q_16, q_20, q_23, q_24, q_32, q_42, q_43, q_45, q_47, q_48, q_50, q_57, q_59, q_60, q_61, q_62, q_63, q_64, q_66, q_91, q_93, q_97, q_99, q_122, q_144, q_255, q_256, q_300, q_380, q_400, q_620, q_999, q_1000, q_4095, q_4096, q_9999, q_65536, q_99999, q_31, nI_add, pk_mul, nE, nL, nT, nM31, nShl, ib_nI, nI_clamp, bI_n0, bI_n1, bI_nar, uI_r, uI_l, uL_r, uL_i, uL_p, uA_r, uA_l, bV_some, bU_some, nar_n0, nar_n1, and_self, and_true, true_and, and_false, false_and, if_true, if_false, eq_self, Bool.false_eq_true, Bool.true_eq_false, not_true_eq_false, not_false_eq_true, ↓reduceIte, nlT, nlF, ntT, ntF, neT, neF, ieT, ieF, decide_true, decide_false, Bool.not_true, Bool.not_false, Bool.and_true, Bool.true_and, Bool.and_false, Bool.false_and, Bool.or_true, Bool.true_or, Bool.or_false, Bool.false_or, h1.th]
    rfl
  · show S0.1 32 0 v = S.1 32 0 v
    rw [z2.i rfl, uI_r, if_neg (by omega)]
  · show S0.1 33 0 c = S.1 33 0 c
    rw [z4 c hc, uI_r, if_neg (by omega)]
  · show S0.1 32 0 w = nI 0
    rw [z2.i rfl, uI_r, if_pos ⟨rfl, rfl, rfl⟩]
  · show S0.1 33 0 (4 * w + i) = nI (([] : List Nat).getD i 0)
    rw [z3 _ (by omega) (by omega)]
    rfl
  · show ((dif 0 Q == 0) && _) = !ex _ 0
    rw [dif_z]
    rfl
