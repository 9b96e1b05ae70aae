/-! what is needed, and how a thing is had -/
theorem x_needed {S : Sto} {q : Nat} {A : Tn} {r : Nat} {L : Lw} {w t : Nat} (h : RepC S q A) (hw : WF A) (hL : RepLC S r L) (hl : WFL L) (hv : w < 12) (ht : t < 24) : ∃ S', call 21 0 [vR 26 0, vR 1 q, vR 17 r, vI (nI w), vI (nI t)] S = some (some (vI (nI (muN A L w t))), S') ∧ Fr (pL [23, 27]) S S' := by
  obtain ⟨S1, a1, a2, a3⟩ := x_fillJ (S := S) (t := 27) (n := 11) 0 rfl rfl (by decide)
  have h1 := h.pl a2 (by decide)
  obtain ⟨S2, b1, b2, b3⟩ := x_tellWork h1 hw hv ht
  have hW : ∀ c, c < 11 → S2.2.1 27 0 c = W1 A w t c := by
    intro c hc
    rw [b3]
    unfold W1 wkF
    rw [a3 c hc]
  obtain ⟨S3, d1, d2⟩ := x_sumOf (S := S2) (s := 2) (d := 2) (w := 27) rfl rfl rfl rfl (by decide) hW ((hL.pl a2 (by decide)).pl b2 (by decide)) hl (by decide)
  show ∃ S', run 21 0 0 [vR 26 0, vR 1 q, vR 17 r, vI (nI w), vI (nI t)] [] S = _ ∧ _
  unfold muN
  simp (disch := omega) only [s21_0, s21_1, s21_4, s21_5, s21_8, s21_9, s21_10, s21_11, s21_13, s21_16, s21_17, s21_18, s21_19, s21_22, s21_25, s21_26, s21_27, s21_30, q_0, q_1, q_2, q_3, q_4, q_5, q_6, q_7, q_8, q_9, q_10, q_11, q_12, q_13, q_14, q_16, q_20, q_23, q_24, q_32, q_42, q_43, q_45, q_47, q_48, q_50, q_57, q_59, q_60, q_61, q_62, q_63, q_64, q_66, q_91, q_93, q_97, q_99, q_122, q_144, q_255, q_256, q_300, q_380, q_400, q_620, q_999, q_1000, q_4095, q_4096, q_9999, q_65536, q_99999, q_31, nI_add, pk_mul, nE, nL, nT, nM31, nShl, ib_nI, nI_clamp, bI_n0, bI_n1, bI_nar, uI_r, uI_l, uL_r, uL_i, uL_p, uA_r, uA_l, bV_some, bU_some, nar_n0, nar_n1, and_self, and_true, true_and, and_false, false_and, if_true, if_false, eq_self, Bool.false_eq_true, Bool.true_eq_false, not_true_eq_false, not_false_eq_true, ↓reduceIte, nlT, nlF, ntT, ntF, neT, neF, ieT, ieF, decide_true, decide_false, Bool.not_true, Bool.not_false, Bool.and_true, Bool.true_and, Bool.and_false, Bool.false_and, Bool.or_true, Bool.true_or, Bool.or_false, Bool.false_or, a1, b1, d1, x_held]
  exact ⟨_, rfl, ((a2.pl (by simp)).tr (b2.pl (by simp))).tr (d2.pl (by simp))⟩
def hdO (mu qd : Nat) (x y : Option Nat) : Option Nat := if mu = 2 then (match x, y with
    | some a, some b => if qd = 1 then none else some (a + b)
    | _, _ => none) else (match x, y with
    | none, y => y
    | x, none => x
    | some a, some b => some (if a ≤ b then a else b))
def kp1 (mu : Nat) (x y : Option Nat) : Option Nat := if mu = 2 then x else (match x, y with
    | some a, some b => if a ≤ b then some a else none
    | x, _ => x)
def kp2 (mu : Nat) (x y : Option Nat) : Option Nat := if mu = 2 then y else (match x, y with
    | some a, some b => if a ≤ b then none else some b
    | _, y => y)
def haO (A : Tn) (L : Lw) (w t : Nat) : Option Nat := hdO (muN A L w t) (A 5 (12 * A 7 t + A 8 t)) (ndO A L w t (A 7 t)) (ndO A L w t (A 8 t))
def k1O (A : Tn) (L : Lw) (w t : Nat) : Option Nat := kp1 (muN A L w t) (ndO A L w t (A 7 t)) (ndO A L w t (A 8 t))
def k2O (A : Tn) (L : Lw) (w t : Nat) : Option Nat := kp2 (muN A L w t) (ndO A L w t (A 7 t)) (ndO A L w t (A 8 t))
theorem haO_le {A : Tn} {L : Lw} {w t p : Nat} (h : haO A L w t = some p) : p ≤ 19998 := by
  unfold haO hdO at h
  cases hx : ndO A L w t (A 7 t) with
  | none =>
    rw [hx] at h
    cases hy : ndO A L w t (A 8 t) with
    | none =>
      rw [hy] at h
      split at h <;> cases h
    | some b =>
      rw [hy] at h
      have := ndO_le hy
      split at h
      · cases h
      · have := Option.some.inj h; omega
  | some a =>
    have ha := ndO_le hx
    rw [hx] at h
    cases hy : ndO A L w t (A 8 t) with
    | none =>
      rw [hy] at h
      split at h
      · cases h
      · have := Option.some.inj h; omega
    | some b =>
      rw [hy] at h
      have hb := ndO_le hy
      split at h
      · simp only at h
        split at h
        · cases h
        · have := Option.some.inj h; omega
      · have := Option.some.inj h
        split at this <;> omega
theorem n2_lt : (-nI 2 < nI 0) = True := eq_true (by decide)
theorem n2_ge : (nI 0 ≤ -nI 2) = False := eq_false (by decide)
theorem n2_le : (-nI 2 ≤ nI 0) = True := eq_true (by decide)
theorem n2_p {p : Nat} (h : p < 2 ^ 31) : (-nI 2 < nI p) = True := eq_true (by
  rw [Int32.lt_iff_toInt_lt, nI_toInt h]
  have : (-nI 2 : Int32).toInt = -2 := by decide
  omega)
theorem p_n2 {p : Nat} (h : p < 2 ^ 31) : (nI p < -nI 2) = False := eq_false (by
  rw [Int32.lt_iff_toInt_lt, nI_toInt h]
  have : (-nI 2 : Int32).toInt = -2 := by decide
  omega)
theorem n2_n2 : (-nI 2 < -nI 2) = False := eq_false (by decide)
theorem x_hadFor {S : Sto} {q : Nat} {A : Tn} {r : Nat} {L : Lw} {w t : Nat} (h : RepC S q A) (hw : WF A) (hL : RepLC S r L) (hl : WFL L) (hv : w < A 0 2) (ht : t < A 0 1) : ∃ S', call 20 0 [vR 26 0, vR 1 q, vR 17 r, vI (nI w), vI (nI t)] S = some (some (vI (nV (haO A L w t))), S') ∧ Fr (pL [23, 26, 27]) S S' ∧ S'.1 26 0 3 = S.1 26 0 3 ∧ S'.1 26 0 4 = nV (k1O A L w t) ∧ S'.1 26 0 5 = nV (k2O A L w t) := by
  have hT := hw.th
  have hWk := hw.wk
  have hO := hw.o (t := t) (by omega)
  obtain ⟨S1, a1, a2⟩ := x_nodOf (f := 0) h hw hL hl hv ht (by decide)
  rw [Nat.add_zero, ow_0] at a1
  have fa : Fr (pL [26]) S1 (uI S1 26 0 4 (nV (ndO A L w t (A 7 t)))) := Fr.rfl'.uI rfl
  have h1 := (h.pl a2 (by decide)).pl fa (by decide)
  have hL1 := (hL.pl a2 (by decide)).pl fa (by decide)
  obtain ⟨S2, b1, b2⟩ := x_nodOf (f := 1) h1 hw hL1 hl hv ht (by decide)
  rw [ow_1] at b1
  have fb : Fr (pL [26]) S2 (uI S2 26 0 5 (nV (ndO A L w t (A 8 t)))) := Fr.rfl'.uI rfl
  have h2 := (h1.pl b2 (by decide)).pl fb (by decide)
  have hL2 := (hL1.pl b2 (by decide)).pl fb (by decide)
  obtain ⟨S3, d1, d2⟩ := x_needed h2 hw hL2 hl (w := w) (t := t) (by omega) (by omega)
  have h3 := h2.pl d2 (by decide)
  have g4 : S2.1 26 0 4 = nV (ndO A L w t (A 7 t)) := by rw [b2.i rfl, uI_r, if_pos ⟨rfl, rfl, rfl⟩]
  have e3 : S3.1 26 0 3 = S.1 26 0 3 := by rw [d2.i rfl, uI_r, if_neg (by decide), b2.i rfl, uI_r, if_neg (by decide), a2.i rfl]
  have e4 : S3.1 26 0 4 = nV (ndO A L w t (A 7 t)) := by rw [d2.i rfl, uI_r, if_neg (by decide), g4]
  have e5 : S3.1 26 0 5 = nV (ndO A L w t (A 8 t)) := by rw [d2.i rfl, uI_r, if_pos ⟨rfl, rfl, rfl⟩]
  have fr : Fr (pL [23, 26, 27]) S S3 := ((((a2.pl (by simp)).tr (fa.pl (by simp))).tr (b2.pl (by simp))).tr (fb.pl (by simp))).tr (d2.pl (by simp))
  have i1 := h3.own (i := 2 * t) (by omega)
  have i2 := h3.own (i := 2 * t + 1) (by omega)
  rw [ow_0] at i1
  rw [ow_1] at i2
  have i3 := x_atOdds_A h3 hO.1 hO.2
  show ∃ S', run 20 0 0 [vR 26 0, vR 1 q, vR 17 r, vI (nI w), vI (nI t), vU, vU] [] S = _ ∧ _
  unfold haO k1O k2O
  generalize hx : ndO A L w t (A 7 t) = x at a1 b1 d1 g4 e4 ⊢
  generalize hy : ndO A L w t (A 8 t) = y at b1 d1 e5 ⊢
  have hmu := hd_le (v := sumL L (W1 A w t) 2 2) (lo := 1) (hi := 2) (by decide)
  have hmu' : muN A L w t ≤ 2 := hmu.2
  generalize muN A L w t = mu at d1 hmu' ⊢
  unfold hdO kp1 kp2
  by_cases c1 : mu = 2
  · subst c1
    cases x with
    | none =>
      simp only [nV] at a1 b1 d1 g4 e4 e5 ⊢
      simp (disch := omega) only [s20_0, s20_1, s20_2, s20_3, s20_4, s20_5, s20_7, s20_8, s20_11, s20_14, s20_15, s20_16, s20_17, s20_18, s20_19, s20_21, s20_22, s20_25, s20_28, s20_29, s20_32, s20_35, s20_36, s20_39, s20_42, s20_43, s20_46, s20_47, s20_49, s20_50, s20_51, s20_52, s20_53, s20_55, s20_58, s20_59, s20_62, s20_64, s20_67, s20_68, s20_69, s20_72, s20_73, s20_75, s20_76, s20_77, s20_78, s20_81, s20_82, s20_84, s20_85, s20_86, s20_87, s20_88, s20_91, s20_94, s20_95, s20_98, s20_99, s20_101, s20_103, s20_106, s20_107, s20_110, s20_111, s20_114, s20_115, s20_118, s20_120, s20_121, s20_123, s20_126, s20_127, s20_130, s20_131, s20_134, s20_137, s20_138, s20_140, s20_143, s20_146, s20_148, s20_151, s20_152, s20_154, s20_157, s20_158, s20_161, s20_162, s20_165, s20_168, q_0, q_1, q_2, q_3, q_4, q_5, q_6, q_7, q_8, q_9, q_10, q_11, q_12, q_13, q_14, q_16, q_20, q_23, q_24, q_32, q_42, q_43, q_45, q_47, q_48, q_50, q_57, q_59, q_60, q_61, q_62, q_63, q_64, q_66, q_91, q_93, q_97, q_99, q_122, q_144, q_255, q_256, q_300, q_380, q_400, q_620, q_999, q_1000, q_4095, q_4096, q_9999, q_65536, q_99999, q_31, nI_add, pk_mul, nE, nL, nT, nM31, nShl, ib_nI, nI_clamp, bI_n0, bI_n1, bI_nar, uI_r, uI_l, uL_r, uL_i, uL_p, uA_r, uA_l, bV_some, bU_some, nar_n0, nar_n1, and_self, and_true, true_and, and_false, false_and, if_true, if_false, eq_self, Bool.false_eq_true, Bool.true_eq_false, not_true_eq_false, not_false_eq_true, ↓reduceIte, nlT, nlF, ntT, ntF, neT, neF, ieT, ieF, decide_true, decide_false, Bool.not_true, Bool.not_false, Bool.and_true, Bool.true_and, Bool.and_false, Bool.false_and, Bool.or_true, Bool.true_or, Bool.or_false, Bool.false_or, a1, b1, d1, g4, n2_lt, n2_ge]
      exact ⟨_, rfl, fr, e3, e4, e5⟩
    | some a =>
      have ha := ndO_le hx
      cases y with
      | none =>
        simp only [nV] at a1 b1 d1 g4 e4 e5 ⊢
        simp (disch := omega) only [s20_0, s20_1, s20_2, s20_3, s20_4, s20_5, s20_7, s20_8, s20_11, s20_14, s20_15, s20_16, s20_17, s20_18, s20_19, s20_21, s20_22, s20_25, s20_28, s20_29, s20_32, s20_35, s20_36, s20_39, s20_42, s20_43, s20_46, s20_47, s20_49, s20_50, s20_51, s20_52, s20_53, s20_55, s20_58, s20_59, s20_62, s20_64, s20_67, s20_68, s20_69, s20_72, s20_73, s20_75, s20_76, s20_77, s20_78, s20_81, s20_82, s20_84, s20_85, s20_86, s20_87, s20_88, s20_91, s20_94, s20_95, s20_98, s20_99, s20_101, s20_103, s20_106, s20_107, s20_110, s20_111, s20_114, s20_115, s20_118, s20_120, s20_121, s20_123, s20_126, s20_127, s20_130, s20_131, s20_134, s20_137, s20_138, s20_140, s20_143, s20_146, s20_148, s20_151, s20_152, s20_154, s20_157, s20_158, s20_161, s20_162, s20_165, s20_168, q_0, q_1, q_2, q_3, q_4, q_5, q_6, q_7, q_8, q_9, q_10, q_11, q_12, q_13, q_14, q_16, q_20, q_23, q_24, q_32, q_42, q_43, q_45, q_47, q_48, q_50, q_57, q_59, q_60, q_61, q_62, q_63, q_64, q_66, q_91, q_93, q_97, q_99, q_122, q_144, q_255, q_256, q_300, q_380, q_400, q_620, q_999, q_1000, q_4095, q_4096, q_9999, q_65536, q_99999, q_31, nI_add, pk_mul, nE, nL, nT, nM31, nShl, ib_nI, nI_clamp, bI_n0, bI_n1, bI_nar, uI_r, uI_l, uL_r, uL_i, uL_p, uA_r, uA_l, bV_some, bU_some, nar_n0, nar_n1, and_self, and_true, true_and, and_false, false_and, if_true, if_false, eq_self, Bool.false_eq_true, Bool.true_eq_false, not_true_eq_false, not_false_eq_true, ↓reduceIte, nlT, nlF, ntT, ntF, neT, neF, ieT, ieF, decide_true, decide_false, Bool.not_true, Bool.not_false, Bool.and_true, Bool.true_and, Bool.and_false, Bool.false_and, Bool.or_true, Bool.true_or, Bool.or_false, Bool.false_or, a1, b1, d1, g4, n2_lt, n2_ge]
        exact ⟨_, rfl, fr, e3, e4, e5⟩
      | some b =>
        have hb := ndO_le hy
        simp only [nV] at a1 b1 d1 g4 e4 e5 ⊢
        by_cases c2 : A 5 (12 * A 7 t + A 8 t) = 1
        · have c2' : (A 5 (12 * A 7 t + A 8 t) == 1) = true := by simp [c2]
          rw [c2'] at i3
          simp (disch := omega) only [s20_0, s20_1, s20_2, s20_3, s20_4, s20_5, s20_7, s20_8, s20_11, s20_14, s20_15, s20_16, s20_17, s20_18, s20_19, s20_21, s20_22, s20_25, s20_28, s20_29, s20_32, s20_35, s20_36, s20_39, s20_42, s20_43, s20_46, s20_47, s20_49, s20_50, s20_51, s20_52, s20_53, s20_55, s20_58, s20_59, s20_62, s20_64, s20_67, s20_68, s20_69, s20_72, s20_73, s20_75, s20_76, s20_77, s20_78, s20_81, s20_82, s20_84, s20_85, s20_86, s20_87, s20_88, s20_91, s20_94, s20_95, s20_98, s20_99, s20_101, s20_103, s20_106, s20_107, s20_110, s20_111, s20_114, s20_115, s20_118, s20_120, s20_121, s20_123, s20_126, s20_127, s20_130, s20_131, s20_134, s20_137, s20_138, s20_140, s20_143, s20_146, s20_148, s20_151, s20_152, s20_154, s20_157, s20_158, s20_161, s20_162, s20_165, s20_168, q_0, q_1, q_2, q_3, q_4, q_5, q_6, q_7, q_8, q_9, q_10, q_11, q_12, q_13, q_14, q_16, q_20, q_23, q_24, q_32, q_42, q_43, q_45, q_47, q_48, q_50, q_57, q_59, q_60, q_61, q_62, q_63, q_64, q_66, q_91, q_93, q_97, q_99, q_122, q_144, q_255, q_256, q_300, q_380, q_400, q_620, q_999, q_1000, q_4095, q_4096, q_9999, q_65536, q_99999, q_31, nI_add, pk_mul, nE, nL, nT, nM31, nShl, ib_nI, nI_clamp, bI_n0, bI_n1, bI_nar, uI_r, uI_l, uL_r, uL_i, uL_p, uA_r, uA_l, bV_some, bU_some, nar_n0, nar_n1, and_self, and_true, true_and, and_false, false_and, if_true, if_false, eq_self, Bool.false_eq_true, Bool.true_eq_false, not_true_eq_false, not_false_eq_true, ↓reduceIte, nlT, nlF, ntT, ntF, neT, neF, ieT, ieF, decide_true, decide_false, Bool.not_true, Bool.not_false, Bool.and_true, Bool.true_and, Bool.and_false, Bool.false_and, Bool.or_true, Bool.true_or, Bool.or_false, Bool.false_or, a1, b1, d1, g4, i1, i2, i3, c2]
          exact ⟨_, rfl, fr, e3, e4, e5⟩
        · have c2' : (A 5 (12 * A 7 t + A 8 t) == 1) = false := by simp [c2]
          rw [c2'] at i3
          simp (disch := omega) only [s20_0, s20_1, s20_2, s20_3, s20_4, s20_5, s20_7, s20_8, s20_11, s20_14, s20_15, s20_16, s20_17, s20_18, s20_19, s20_21, s20_22, s20_25, s20_28, s20_29, s20_32, s20_35, s20_36, s20_39, s20_42, s20_43, s20_46, s20_47, s20_49, s20_50, s20_51, s20_52, s20_53, s20_55, s20_58, s20_59, s20_62, s20_64, s20_67, s20_68, s20_69, s20_72, s20_73, s20_75, s20_76, s20_77, s20_78, s20_81, s20_82, s20_84, s20_85, s20_86, s20_87, s20_88, s20_91, s20_94, s20_95, s20_98, s20_99, s20_101, s20_103, s20_106, s20_107, s20_110, s20_111, s20_114, s20_115, s20_118, s20_120, s20_121, s20_123, s20_126, s20_127, s20_130, s20_131, s20_134, s20_137, s20_138, s20_140, s20_143, s20_146, s20_148, s20_151, s20_152, s20_154, s20_157, s20_158, s20_161, s20_162, s20_165, s20_168, q_0, q_1, q_2, q_3, q_4, q_5, q_6, q_7, q_8, q_9, q_10, q_11, q_12, q_13, q_14, q_16, q_20, q_23, q_24, q_32, q_42, q_43, q_45, q_47, q_48, q_50, q_57, q_59, q_60, q_61, q_62, q_63, q_64, q_66, q_91, q_93, q_97, q_99, q_122, q_144, q_255, q_256, q_300, q_380, q_400, q_620, q_999, q_1000, q_4095, q_4096, q_9999, q_65536, q_99999, q_31, nI_add, pk_mul, nE, nL, nT, nM31, nShl, ib_nI, nI_clamp, bI_n0, bI_n1, bI_nar, uI_r, uI_l, uL_r, uL_i, uL_p, uA_r, uA_l, bV_some, bU_some, nar_n0, nar_n1, and_self, and_true, true_and, and_false, false_and, if_true, if_false, eq_self, Bool.false_eq_true, Bool.true_eq_false, not_true_eq_false, not_false_eq_true, ↓reduceIte, nlT, nlF, ntT, ntF, neT, neF, ieT, ieF, decide_true, decide_false, Bool.not_true, Bool.not_false, Bool.and_true, Bool.true_and, Bool.and_false, Bool.false_and, Bool.or_true, Bool.true_or, Bool.or_false, Bool.false_or, a1, b1, d1, g4, i1, i2, i3, c2, e4, e5]
          exact ⟨_, rfl, fr, e3, e4, e5⟩
  · cases x with
    | none =>
      cases y with
      | none =>
        simp only [nV] at a1 b1 d1 g4 e4 e5 ⊢
        simp (disch := omega) only [s20_0, s20_1, s20_2, s20_3, s20_4, s20_5, s20_7, s20_8, s20_11, s20_14, s20_15, s20_16, s20_17, s20_18, s20_19, s20_21, s20_22, s20_25, s20_28, s20_29, s20_32, s20_35, s20_36, s20_39, s20_42, s20_43, s20_46, s20_47, s20_49, s20_50, s20_51, s20_52, s20_53, s20_55, s20_58, s20_59, s20_62, s20_64, s20_67, s20_68, s20_69, s20_72, s20_73, s20_75, s20_76, s20_77, s20_78, s20_81, s20_82, s20_84, s20_85, s20_86, s20_87, s20_88, s20_91, s20_94, s20_95, s20_98, s20_99, s20_101, s20_103, s20_106, s20_107, s20_110, s20_111, s20_114, s20_115, s20_118, s20_120, s20_121, s20_123, s20_126, s20_127, s20_130, s20_131, s20_134, s20_137, s20_138, s20_140, s20_143, s20_146, s20_148, s20_151, s20_152, s20_154, s20_157, s20_158, s20_161, s20_162, s20_165, s20_168, q_0, q_1, q_2, q_3, q_4, q_5, q_6, q_7, q_8, q_9, q_10, q_11, q_12, q_13, q_14, q_16, q_20, q_23, q_24, q_32, q_42, q_43, q_45, q_47, q_48, q_50, q_57, q_59, q_60, q_61, q_62, q_63, q_64, q_66, q_91, q_93, q_97, q_99, q_122, q_144, q_255, q_256, q_300, q_380, q_400, q_620, q_999, q_1000, q_4095, q_4096, q_9999, q_65536, q_99999, q_31, nI_add, pk_mul, nE, nL, nT, nM31, nShl, ib_nI, nI_clamp, bI_n0, bI_n1, bI_nar, uI_r, uI_l, uL_r, uL_i, uL_p, uA_r, uA_l, bV_some, bU_some, nar_n0, nar_n1, and_self, and_true, true_and, and_false, false_and, if_true, if_false, eq_self, Bool.false_eq_true, Bool.true_eq_false, not_true_eq_false, not_false_eq_true, ↓reduceIte, nlT, nlF, ntT, ntF, neT, neF, ieT, ieF, decide_true, decide_false, Bool.not_true, Bool.not_false, Bool.and_true, Bool.true_and, Bool.and_false, Bool.false_and, Bool.or_true, Bool.true_or, Bool.or_false, Bool.false_or, a1, b1, d1, g4, n2_lt, n2_ge, n2_n2, e4, e5, c1]
        exact ⟨_, rfl, fr, e3, e4, e5⟩
      | some b =>
        have hb := ndO_le hy
        simp only [nV] at a1 b1 d1 g4 e4 e5 ⊢
        simp (disch := omega) only [s20_0, s20_1, s20_2, s20_3, s20_4, s20_5, s20_7, s20_8, s20_11, s20_14, s20_15, s20_16, s20_17, s20_18, s20_19, s20_21, s20_22, s20_25, s20_28, s20_29, s20_32, s20_35, s20_36, s20_39, s20_42, s20_43, s20_46, s20_47, s20_49, s20_50, s20_51, s20_52, s20_53, s20_55, s20_58, s20_59, s20_62, s20_64, s20_67, s20_68, s20_69, s20_72, s20_73, s20_75, s20_76, s20_77, s20_78, s20_81, s20_82, s20_84, s20_85, s20_86, s20_87, s20_88, s20_91, s20_94, s20_95, s20_98, s20_99, s20_101, s20_103, s20_106, s20_107, s20_110, s20_111, s20_114, s20_115, s20_118, s20_120, s20_121, s20_123, s20_126, s20_127, s20_130, s20_131, s20_134, s20_137, s20_138, s20_140, s20_143, s20_146, s20_148, s20_151, s20_152, s20_154, s20_157, s20_158, s20_161, s20_162, s20_165, s20_168, q_0, q_1, q_2, q_3, q_4, q_5, q_6, q_7, q_8, q_9, q_10, q_11, q_12, q_13, q_14, q_16, q_20, q_23, q_24, q_32, q_42, q_43, q_45, q_47, q_48, q_50, q_57, q_59, q_60, q_61, q_62, q_63, q_64, q_66, q_91, q_93, q_97, q_99, q_122, q_144, q_255, q_256, q_300, q_380, q_400, q_620, q_999, q_1000, q_4095, q_4096, q_9999, q_65536, q_99999, q_31, nI_add, pk_mul, nE, nL, nT, nM31, nShl, ib_nI, nI_clamp, bI_n0, bI_n1, bI_nar, uI_r, uI_l, uL_r, uL_i, uL_p, uA_r, uA_l, bV_some, bU_some, nar_n0, nar_n1, and_self, and_true, true_and, and_false, false_and, if_true, if_false, eq_self, Bool.false_eq_true, Bool.true_eq_false, not_true_eq_false, not_false_eq_true, ↓reduceIte, nlT, nlF, ntT, ntF, neT, neF, ieT, ieF, decide_true, decide_false, Bool.not_true, Bool.not_false, Bool.and_true, Bool.true_and, Bool.and_false, Bool.false_and, Bool.or_true, Bool.true_or, Bool.or_false, Bool.false_or, a1, b1, d1, g4, n2_lt, n2_ge, n2_p, e4, e5, c1]
        exact ⟨_, rfl, fr, e3, e4, e5⟩
    | some a =>
      have ha := ndO_le hx
      cases y with
      | none =>
        simp only [nV] at a1 b1 d1 g4 e4 e5 ⊢
        simp (disch := omega) only [s20_0, s20_1, s20_2, s20_3, s20_4, s20_5, s20_7, s20_8, s20_11, s20_14, s20_15, s20_16, s20_17, s20_18, s20_19, s20_21, s20_22, s20_25, s20_28, s20_29, s20_32, s20_35, s20_36, s20_39, s20_42, s20_43, s20_46, s20_47, s20_49, s20_50, s20_51, s20_52, s20_53, s20_55, s20_58, s20_59, s20_62, s20_64, s20_67, s20_68, s20_69, s20_72, s20_73, s20_75, s20_76, s20_77, s20_78, s20_81, s20_82, s20_84, s20_85, s20_86, s20_87, s20_88, s20_91, s20_94, s20_95, s20_98, s20_99, s20_101, s20_103, s20_106, s20_107, s20_110, s20_111, s20_114, s20_115, s20_118, s20_120, s20_121, s20_123, s20_126, s20_127, s20_130, s20_131, s20_134, s20_137, s20_138, s20_140, s20_143, s20_146, s20_148, s20_151, s20_152, s20_154, s20_157, s20_158, s20_161, s20_162, s20_165, s20_168, q_0, q_1, q_2, q_3, q_4, q_5, q_6, q_7, q_8, q_9, q_10, q_11, q_12, q_13, q_14, q_16, q_20, q_23, q_24, q_32, q_42, q_43, q_45, q_47, q_48, q_50, q_57, q_59, q_60, q_61, q_62, q_63, q_64, q_66, q_91, q_93, q_97, q_99, q_122, q_144, q_255, q_256, q_300, q_380, q_400, q_620, q_999, q_1000, q_4095, q_4096, q_9999, q_65536, q_99999, q_31, nI_add, pk_mul, nE, nL, nT, nM31, nShl, ib_nI, nI_clamp, bI_n0, bI_n1, bI_nar, uI_r, uI_l, uL_r, uL_i, uL_p, uA_r, uA_l, bV_some, bU_some, nar_n0, nar_n1, and_self, and_true, true_and, and_false, false_and, if_true, if_false, eq_self, Bool.false_eq_true, Bool.true_eq_false, not_true_eq_false, not_false_eq_true, ↓reduceIte, nlT, nlF, ntT, ntF, neT, neF, ieT, ieF, decide_true, decide_false, Bool.not_true, Bool.not_false, Bool.and_true, Bool.true_and, Bool.and_false, Bool.false_and, Bool.or_true, Bool.true_or, Bool.or_false, Bool.false_or, a1, b1, d1, g4, n2_lt, n2_ge, p_n2, e4, e5, c1]
        exact ⟨_, rfl, fr, e3, e4, e5⟩
      | some b =>
        have hb := ndO_le hy
        simp only [nV] at a1 b1 d1 g4 e4 e5 ⊢
        by_cases c2 : a ≤ b
        · simp (disch := omega) only [s20_0, s20_1, s20_2, s20_3, s20_4, s20_5, s20_7, s20_8, s20_11, s20_14, s20_15, s20_16, s20_17, s20_18, s20_19, s20_21, s20_22, s20_25, s20_28, s20_29, s20_32, s20_35, s20_36, s20_39, s20_42, s20_43, s20_46, s20_47, s20_49, s20_50, s20_51, s20_52, s20_53, s20_55, s20_58, s20_59, s20_62, s20_64, s20_67, s20_68, s20_69, s20_72, s20_73, s20_75, s20_76, s20_77, s20_78, s20_81, s20_82, s20_84, s20_85, s20_86, s20_87, s20_88, s20_91, s20_94, s20_95, s20_98, s20_99, s20_101, s20_103, s20_106, s20_107, s20_110, s20_111, s20_114, s20_115, s20_118, s20_120, s20_121, s20_123, s20_126, s20_127, s20_130, s20_131, s20_134, s20_137, s20_138, s20_140, s20_143, s20_146, s20_148, s20_151, s20_152, s20_154, s20_157, s20_158, s20_161, s20_162, s20_165, s20_168, q_0, q_1, q_2, q_3, q_4, q_5, q_6, q_7, q_8, q_9, q_10, q_11, q_12, q_13, q_14, q_16, q_20, q_23, q_24, q_32, q_42, q_43, q_45, q_47, q_48, q_50, q_57, q_59, q_60, q_61, q_62, q_63, q_64, q_66, q_91, q_93, q_97, q_99, q_122, q_144, q_255, q_256, q_300, q_380, q_400, q_620, q_999, q_1000, q_4095, q_4096, q_9999, q_65536, q_99999, q_31, nI_add, pk_mul, nE, nL, nT, nM31, nShl, ib_nI, nI_clamp, bI_n0, bI_n1, bI_nar, uI_r, uI_l, uL_r, uL_i, uL_p, uA_r, uA_l, bV_some, bU_some, nar_n0, nar_n1, and_self, and_true, true_and, and_false, false_and, if_true, if_false, eq_self, Bool.false_eq_true, Bool.true_eq_false, not_true_eq_false, not_false_eq_true, ↓reduceIte, nlT, nlF, ntT, ntF, neT, neF, ieT, ieF, decide_true, decide_false, Bool.not_true, Bool.not_false, Bool.and_true, Bool.true_and, Bool.and_false, Bool.false_and, Bool.or_true, Bool.true_or, Bool.or_false, Bool.false_or, a1, b1, d1, g4, p_n2, n2_p, e4, e5, c1, c2]
          refine ⟨_, rfl, fr.uI rfl, ?_, ?_, ?_⟩
          · rw [uI_r, if_neg (by decide)]; exact e3
          · rw [uI_r, if_neg (by decide)]; exact e4
          · rw [uI_r, if_pos ⟨rfl, rfl, rfl⟩]
        · simp (disch := omega) only [s20_0, s20_1, s20_2, s20_3, s20_4, s20_5, s20_7, s20_8, s20_11, s20_14, s20_15, s20_16, s20_17, s20_18, s20_19, s20_21, s20_22, s20_25, s20_28, s20_29, s20_32, s20_35, s20_36, s20_39, s20_42, s20_43, s20_46, s20_47, s20_49, s20_50, s20_51, s20_52, s20_53, s20_55, s20_58, s20_59, s20_62, s20_64, s20_67, s20_68, s20_69, s20_72, s20_73, s20_75, s20_76, s20_77, s20_78, s20_81, s20_82, s20_84, s20_85, s20_86, s20_87, s20_88, s20_91, s20_94, s20_95, s20_98, s20_99, s20_101, s20_103, s20_106, s20_107, s20_110, s20_111, s20_114, s20_115, s20_118, s20_120, s20_121, s20_123, s20_126, s20_127, s20_130, s20_131, s20_134, s20_137, s20_138, s20_140, s20_143, s20_146, s20_148, s20_151, s20_152, s20_154, s20_157, s20_158, s20_161, s20_162, s20_165, s20_168, q_0, q_1, q_2, q_3, q_4, q_5, q_6, q_7, q_8, q_9, q_10, q_11, q_12, q_13, q_14, q_16, q_20, q_23, q_24, q_32, q_42, q_43, q_45, q_47, q_48, q_50, q_57, q_59, q_60, q_61, q_62, q_63, q_64, q_66, q_91, q_93, q_97, q_99, q_122, q_144, q_255, q_256, q_300, q_380, q_400, q_620, q_999, q_1000, q_4095, q_4096, q_9999, q_65536, q_99999, q_31, nI_add, pk_mul, nE, nL, nT, nM31, nShl, ib_nI, nI_clamp, bI_n0, bI_n1, bI_nar, uI_r, uI_l, uL_r, uL_i, uL_p, uA_r, uA_l, bV_some, bU_some, nar_n0, nar_n1, and_self, and_true, true_and, and_false, false_and, if_true, if_false, eq_self, Bool.false_eq_true, Bool.true_eq_false, not_true_eq_false, not_false_eq_true, ↓reduceIte, nlT, nlF, ntT, ntF, neT, neF, ieT, ieF, decide_true, decide_false, Bool.not_true, Bool.not_false, Bool.and_true, Bool.true_and, Bool.and_false, Bool.false_and, Bool.or_true, Bool.true_or, Bool.or_false, Bool.false_or, a1, b1, d1, g4, p_n2, n2_p, e4, e5, c1, c2]
          refine ⟨_, rfl, fr.uI rfl, ?_, ?_, ?_⟩
          · rw [uI_r, if_neg (by decide)]; exact e3
          · rw [uI_r, if_pos ⟨rfl, rfl, rfl⟩]
          · rw [uI_r, if_neg (by decide)]; exact e5
theorem m_asksNothing {S : Sto} {A : Tn} (h : RepM S A) : ∃ S', call 195 0 [vR 50 0] S = some (none, S') ∧ Fr (pL [76]) S S' ∧ ∀ c, c < 11 → S'.2.1 76 0 c = if c = 10 then (nI (A 0 4)).toInt64 else 0 := by
  show ∃ S', run 195 0 0 [vR 50 0, vU] [] S = _ ∧ _
  simp only [s195_0, s195_1]
  have key := upS (σ := Sto) (I := fun i S1 => Fr (pL [76]) S S1 ∧ ∀ c, c < i → S1.2.1 76 0 c = 0) (F := fun i S1 => run 195 0 2 [vR 50 0, vI (nI i)] [] S1) (Q := fun x => ∃ S', x = some (none, S') ∧ Fr (pL [76]) S S' ∧ ∀ c, c < 11 → S'.2.1 76 0 c = if c = 10 then (nI (A 0 4)).toInt64 else 0) (N := 11) ?_ ?_ 0 S (by omega) ⟨Fr.rfl', fun c hc => by omega⟩
  · exact key
  · intro i S1 hi hI
    refine Or.inr ⟨uL S1 76 0 i 0, ⟨hI.1.uL rfl, ?_⟩, ?_⟩
    · intro c hc
      rw [uL_r]
      by_cases e : c = i
      · rw [if_pos ⟨rfl, rfl, e⟩]
      · rw [if_neg (by omega)]
        exact hI.2 c (by omega)
    · show run 195 0 2 _ _ _ = run 195 0 2 _ _ _
      rw [s195_2]
      simp (disch := omega) only [s195_0, s195_1, s195_3, s195_5, s195_8, s195_9, s195_12, s195_13, s195_14, s195_15, s195_18, s195_21, s195_22, s195_25, s195_27, s195_28, s195_31, s195_32, s195_33, s195_34, s195_35, q_0, q_1, q_2, q_3, q_4, q_5, q_6, q_7, q_8, q_9, q_10, q_11, q_12, q_13, q_14, q_16, q_20, q_23, q_24, q_32, q_42, q_43, q_45, q_47, q_48, q_50, q_57, q_59, q_60, q_61, q_62, q_63, q_64, q_66, q_91, q_93, q_97, q_99, q_122, q_144, q_255, q_256, q_300, q_380, q_400, q_620, q_999, q_1000, q_4095, q_4096, q_9999, q_65536, q_99999, q_31, nI_add, pk_mul, nE, nL, nT, nM31, nShl, ib_nI, nI_clamp, bI_n0, bI_n1, bI_nar, uI_r, uI_l, uL_r, uL_i, uL_p, uA_r, uA_l, bV_some, bU_some, nar_n0, nar_n1, and_self, and_true, true_and, and_false, false_and, if_true, if_false, eq_self, Bool.false_eq_true, Bool.true_eq_false, not_true_eq_false, not_false_eq_true, ↓reduceIte, nlT, nlF, ntT, ntF, neT, neF, ieT, ieF, decide_true, decide_false, Bool.not_true, Bool.not_false, Bool.and_true, Bool.true_and, Bool.and_false, Bool.false_and, Bool.or_true, Bool.true_or, Bool.or_false, Bool.false_or]
  · intro S1 hI
    have h1 := h.pl hI.1 (by decide)
    show ∃ S', run 195 0 2 [vR 50 0, vI (nI 11)] [] S1 = _ ∧ _
    rw [s195_2]
    simp (disch := omega) only [s195_0, s195_1, s195_3, s195_5, s195_8, s195_9, s195_12, s195_13, s195_14, s195_15, s195_18, s195_21, s195_22, s195_25, s195_27, s195_28, s195_31, s195_32, s195_33, s195_34, s195_35, q_0, q_1, q_2, q_3, q_4, q_5, q_6, q_7, q_8, q_9, q_10, q_11, q_12, q_13, q_14, q_16, q_20, q_23, q_24, q_32, q_42, q_43, q_45, q_47, q_48, q_50, q_57, q_59, q_60, q_61, q_62, q_63, q_64, q_66, q_91, q_93, q_97, q_99, q_122, q_144, q_255, q_256, q_300, q_380, q_400, q_620, q_999, q_1000, q_4095, q_4096, q_9999, q_65536, q_99999, q_31, nI_add, pk_mul, nE, nL, nT, nM31, nShl, ib_nI, nI_clamp, bI_n0, bI_n1, bI_nar, uI_r, uI_l, uL_r, uL_i, uL_p, uA_r, uA_l, bV_some, bU_some, nar_n0, nar_n1, and_self, and_true, true_and, and_false, false_and, if_true, if_false, eq_self, Bool.false_eq_true, Bool.true_eq_false, not_true_eq_false, not_false_eq_true, ↓reduceIte, nlT, nlF, ntT, ntF, neT, neF, ieT, ieF, decide_true, decide_false, Bool.not_true, Bool.not_false, Bool.and_true, Bool.true_and, Bool.and_false, Bool.false_and, Bool.or_true, Bool.true_or, Bool.or_false, Bool.false_or, h1.sc]
    refine ⟨_, rfl, hI.1.uL rfl, ?_⟩
    intro c hc
    rw [uL_r]
    by_cases e : c = 10
    · rw [if_pos ⟨rfl, rfl, e⟩, if_pos e]
    · rw [if_neg (by omega), if_neg e]
      exact hI.2 c hc
theorem m_asksOf {S : Sto} {A : Tn} {w t : Nat} (h : RepM S A) (hw : WF A) (hv : w < 12) (ht : t < 24) : ∃ S', call 194 0 [vR 50 0, vI (nI w), vI (nI t)] S = some (none, S') ∧ Fr (pL [76]) S S' ∧ ∀ c, c < 11 → S'.2.1 76 0 c = W1 A w t c := by
  have hW := hw.W hv
  obtain ⟨S1, a1, a2, a3⟩ := m_asksNothing h
  have h1 := h.pl a2 (by decide)
  show ∃ S', run 194 0 0 [vR 50 0, vI (nI w), vI (nI t)] [] S = _ ∧ _
  simp (disch := omega) only [s194_0, s194_1, s194_4, s194_5, s194_8, s194_9, s194_10, s194_13, s194_14, s194_15, s194_16, s194_17, s194_18, s194_21, s194_22, s194_23, s194_26, s194_27, s194_28, s194_29, s194_30, s194_31, s194_34, s194_35, s194_36, s194_39, s194_40, s194_43, s194_44, s194_45, s194_46, s194_47, s194_48, s194_49, s194_52, s194_54, s194_55, s194_58, s194_59, s194_60, s194_61, s194_62, q_0, q_1, q_2, q_3, q_4, q_5, q_6, q_7, q_8, q_9, q_10, q_11, q_12, q_13, q_14, q_16, q_20, q_23, q_24, q_32, q_42, q_43, q_45, q_47, q_48, q_50, q_57, q_59, q_60, q_61, q_62, q_63, q_64, q_66, q_91, q_93, q_97, q_99, q_122, q_144, q_255, q_256, q_300, q_380, q_400, q_620, q_999, q_1000, q_4095, q_4096, q_9999, q_65536, q_99999, q_31, nI_add, pk_mul, nE, nL, nT, nM31, nShl, ib_nI, nI_clamp, bI_n0, bI_n1, bI_nar, uI_r, uI_l, uL_r, uL_i, uL_p, uA_r, uA_l, bV_some, bU_some, nar_n0, nar_n1, and_self, and_true, true_and, and_false, false_and, if_true, if_false, eq_self, Bool.false_eq_true, Bool.true_eq_false, not_true_eq_false, not_false_eq_true, ↓reduceIte, nlT, nlF, ntT, ntF, neT, neF, ieT, ieF, decide_true, decide_false, Bool.not_true, Bool.not_false, Bool.and_true, Bool.true_and, Bool.and_false, Bool.false_and, Bool.or_true, Bool.true_or, Bool.or_false, Bool.false_or, a1, h1.wo, h1.us, h1.ak, h1.co, h1.da]
  refine ⟨_, rfl, (((a2.uL rfl).uL rfl).uL rfl).uL rfl, ?_⟩
  intro c hc
  simp only [uL_r, true_and]
  unfold W1 wkF
  rw [a3 c hc]
  repeat' split
  all_goals first | rfl | omega
theorem w64 {p : Nat} (h : p < 2 ^ 31) : ((0 : Int64) < (nI p).toInt64) = (0 < p) := by
  apply propext
  rw [Int64.lt_iff_toInt_lt, toI64 h]
  have : (0 : Int64).toInt = 0 := by decide
  omega
theorem m_nodOf {S : Sto} {A : Tn} {r : Nat} {L : Lw} {w t o : Nat} (h : RepM S A) (hw : WF A) (hr : r < 6) (hL : RepLM S r L) (hl : WFL L) (hv : w < 12) (ht : t < 24) (ho : o < 12) : ∃ S', call 193 0 [vR 50 0, vI (nI r), vI (nI w), vI (nI t), vI (nI o)] S = some (some (vI (nV (ndO A L w t o))), S') ∧ Fr (pL [76, 77]) S S' := by
  have hW := hw.W hv
  have hO := hw.o ht
  show ∃ S', run 193 0 0 [vR 50 0, vI (nI r), vI (nI w), vI (nI t), vI (nI o), vU, vU, vU] [] S = _ ∧ _
  unfold ndO
  by_cases c1 : o = A 10 w
  · simp (disch := omega) only [s193_0, s193_1, s193_4, s193_5, s193_6, s193_8, s193_10, s193_12, s193_15, s193_16, s193_17, s193_18, s193_20, s193_22, s193_25, s193_28, s193_30, s193_31, s193_32, s193_33, s193_34, s193_37, s193_38, s193_41, s193_42, s193_43, s193_46, s193_48, s193_50, s193_51, s193_53, s193_54, s193_55, s193_56, s193_57, s193_58, s193_61, s193_62, s193_63, s193_66, s193_68, s193_70, s193_71, s193_72, s193_73, s193_75, s193_78, s193_79, s193_80, s193_81, s193_82, s193_83, s193_86, s193_87, s193_88, s193_90, s193_93, s193_94, s193_95, s193_96, s193_99, s193_101, s193_102, s193_105, s193_107, s193_109, s193_110, s193_112, s193_113, s193_114, s193_115, s193_118, s193_120, s193_122, s193_123, s193_125, s193_126, s193_127, s193_128, s193_129, s193_130, s193_131, s193_134, s193_136, s193_137, s193_139, s193_141, s193_144, s193_145, s193_146, s193_147, s193_150, s193_152, s193_153, s193_155, s193_158, s193_159, s193_160, s193_161, s193_162, s193_163, s193_164, s193_167, s193_168, s193_169, s193_172, s193_173, s193_174, s193_175, s193_176, s193_177, s193_178, s193_181, s193_182, s193_185, s193_188, s193_190, s193_192, s193_193, s193_194, s193_197, s193_199, s193_200, s193_203, s193_205, q_0, q_1, q_2, q_3, q_4, q_5, q_6, q_7, q_8, q_9, q_10, q_11, q_12, q_13, q_14, q_16, q_20, q_23, q_24, q_32, q_42, q_43, q_45, q_47, q_48, q_50, q_57, q_59, q_60, q_61, q_62, q_63, q_64, q_66, q_91, q_93, q_97, q_99, q_122, q_144, q_255, q_256, q_300, q_380, q_400, q_620, q_999, q_1000, q_4095, q_4096, q_9999, q_65536, q_99999, q_31, nI_add, pk_mul, nE, nL, nT, nM31, nShl, ib_nI, nI_clamp, bI_n0, bI_n1, bI_nar, uI_r, uI_l, uL_r, uL_i, uL_p, uA_r, uA_l, bV_some, bU_some, nar_n0, nar_n1, and_self, and_true, true_and, and_false, false_and, if_true, if_false, eq_self, Bool.false_eq_true, Bool.true_eq_false, not_true_eq_false, not_false_eq_true, ↓reduceIte, nlT, nlF, ntT, ntF, neT, neF, ieT, ieF, decide_true, decide_false, Bool.not_true, Bool.not_false, Bool.and_true, Bool.true_and, Bool.and_false, Bool.false_and, Bool.or_true, Bool.true_or, Bool.or_false, Bool.false_or, h.ak, c1, nV]
    exact ⟨_, rfl, Fr.rfl'⟩
  · by_cases c2 : A 5 (12 * o + A 10 w) = 1
    · simp (disch := omega) only [s193_0, s193_1, s193_4, s193_5, s193_6, s193_8, s193_10, s193_12, s193_15, s193_16, s193_17, s193_18, s193_20, s193_22, s193_25, s193_28, s193_30, s193_31, s193_32, s193_33, s193_34, s193_37, s193_38, s193_41, s193_42, s193_43, s193_46, s193_48, s193_50, s193_51, s193_53, s193_54, s193_55, s193_56, s193_57, s193_58, s193_61, s193_62, s193_63, s193_66, s193_68, s193_70, s193_71, s193_72, s193_73, s193_75, s193_78, s193_79, s193_80, s193_81, s193_82, s193_83, s193_86, s193_87, s193_88, s193_90, s193_93, s193_94, s193_95, s193_96, s193_99, s193_101, s193_102, s193_105, s193_107, s193_109, s193_110, s193_112, s193_113, s193_114, s193_115, s193_118, s193_120, s193_122, s193_123, s193_125, s193_126, s193_127, s193_128, s193_129, s193_130, s193_131, s193_134, s193_136, s193_137, s193_139, s193_141, s193_144, s193_145, s193_146, s193_147, s193_150, s193_152, s193_153, s193_155, s193_158, s193_159, s193_160, s193_161, s193_162, s193_163, s193_164, s193_167, s193_168, s193_169, s193_172, s193_173, s193_174, s193_175, s193_176, s193_177, s193_178, s193_181, s193_182, s193_185, s193_188, s193_190, s193_192, s193_193, s193_194, s193_197, s193_199, s193_200, s193_203, s193_205, q_0, q_1, q_2, q_3, q_4, q_5, q_6, q_7, q_8, q_9, q_10, q_11, q_12, q_13, q_14, q_16, q_20, q_23, q_24, q_32, q_42, q_43, q_45, q_47, q_48, q_50, q_57, q_59, q_60, q_61, q_62, q_63, q_64, q_66, q_91, q_93, q_97, q_99, q_122, q_144, q_255, q_256, q_300, q_380, q_400, q_620, q_999, q_1000, q_4095, q_4096, q_9999, q_65536, q_99999, q_31, nI_add, pk_mul, nE, nL, nT, nM31, nShl, ib_nI, nI_clamp, bI_n0, bI_n1, bI_nar, uI_r, uI_l, uL_r, uL_i, uL_p, uA_r, uA_l, bV_some, bU_some, nar_n0, nar_n1, and_self, and_true, true_and, and_false, false_and, if_true, if_false, eq_self, Bool.false_eq_true, Bool.true_eq_false, not_true_eq_false, not_false_eq_true, ↓reduceIte, nlT, nlF, ntT, ntF, neT, neF, ieT, ieF, decide_true, decide_false, Bool.not_true, Bool.not_false, Bool.and_true, Bool.true_and, Bool.and_false, Bool.false_and, Bool.or_true, Bool.true_or, Bool.or_false, Bool.false_or, h.ak, c1, nV, m_areAtOdds h hw, c2, beq_self_eq_true]
      exact ⟨_, rfl, Fr.rfl'⟩
    · have c2' : (A 5 (12 * o + A 10 w) == 1) = false := by simp [c2]
      obtain ⟨S1, a1, a2, a3⟩ := m_asksOf h hw hv ht
      have h1 := h.pl a2 (by decide)
      have hot : otB A t o < 12 := by unfold otB; split <;> omega
      have e2 := fun (v0 : Int64) => m_otherOf (S := uL S1 76 0 0 v0) (show RepM _ A from h1) hw (p := o) (t := t) (by omega) ht
      have e2' : ∀ v0, call 154 0 [vR 50 0, vI (nI t), vI (nI o)] (uL S1 76 0 0 v0) = some (some (vI (nI (otB A t o))), uL S1 76 0 0 v0) := e2
      have e3 : ∀ v0 v1, call 150 0 [vR 50 0, vI (nI o)] (uL (uL S1 76 0 0 v0) 76 0 1 v1) = some (some (vI (nI (ct (fun t => owB A o t) (A 0 1)))), uL (uL S1 76 0 0 v0) 76 0 1 v1) := fun v0 v1 => m_ownsMany (S := uL (uL S1 76 0 0 v0) 76 0 1 v1) (p := o) (show RepM _ A from h1) hw (by omega)
      have e4 := fun (v0 v1 v2 v3 : Int64) => m_shared (S := uL (uL (uL (uL S1 76 0 0 v0) 76 0 1 v1) 76 0 4 v2) 76 0 7 v3) (show RepM _ A from h1) hw (a := o) (b := A 10 w) (by omega) (by omega)
      have e5 : ∀ v0 v1 v2 v3 v4, call 152 0 [vR 50 0, vI (nI o)] (uL (uL (uL (uL (uL S1 76 0 0 v0) 76 0 1 v1) 76 0 4 v2) 76 0 7 v3) 76 0 8 v4) = some (some (vI (nI (odN A o))), (uL (uL (uL (uL (uL S1 76 0 0 v0) 76 0 1 v1) 76 0 4 v2) 76 0 7 v3) 76 0 8 v4)) := fun v0 v1 v2 v3 v4 => m_near (S := uL (uL (uL (uL (uL S1 76 0 0 v0) 76 0 1 v1) 76 0 4 v2) 76 0 7 v3) 76 0 8 v4) (show RepM _ A from h1) hw ho
      obtain ⟨S2, hS2⟩ : ∃ S2, S2 = uL (uL (uL (uL (uL (uL S1 76 0 0 (nI (A 4 (12 * o + A 10 w)) - nI 9).toInt64) 76 0 1 (nI (A 4 (12 * o + otB A t o)) - nI 9).toInt64) 76 0 4 (nI (ct (fun t => owB A o t) (A 0 1))).toInt64) 76 0 7 (nI (A 6 (12 * o + A 10 w)) - nI (A 6 (12 * A 10 w + o))).toInt64) 76 0 8 (nI (ct (fun t => owB A o t && owB A (A 10 w) t) (A 0 1))).toInt64) 76 0 9 (nI (odN A o)).toInt64 := ⟨_, rfl⟩
      have hW2 : ∀ c, c < 11 → S2.2.1 76 0 c = W2 A w t o c := by
        intro c hc
        rw [hS2]
        simp only [uL_r, true_and]
        unfold W2 owF
        rw [a3 c hc]
      have b2 : Fr (pL [76]) S1 S2 := by rw [hS2]; exact ((((((Fr.rfl'.uL rfl).uL rfl).uL rfl).uL rfl).uL rfl).uL rfl)
      have hL2 := (hL.pl a2 (by decide)).pl b2 (by decide)
      obtain ⟨S3, d1, d2⟩ := m_sumOf (S := S2) (s := 0) (d := 0) hr hW2 hL2 hl (by decide)
      have hL3 := hL2.pl d2 (by decide)
      have hW3 : ∀ c, c < 11 → S3.2.1 76 0 c = W2 A w t o c := fun c hc => by rw [d2.l rfl]; exact hW2 c hc
      obtain ⟨S4, f1, f2⟩ := m_sumOf (S := S3) (s := 1) (d := 0) hr hW3 hL3 hl (by decide)
      have fr3 : Fr (pL [76, 77]) S S3 := ((a2.pl (by simp)).tr (b2.pl (by simp))).tr (d2.pl (by simp))
      have g1 := fun S v => m_between S v (lo := 0) (hi := 9999) (a := 0) (b := 9999) (by decide) (by decide) (by decide) (by decide)
      rw [hS2] at d1
      by_cases c3 : 0 < sumL L (W2 A w t o) 0 0
      · simp (disch := omega) only [s193_0, s193_1, s193_4, s193_5, s193_6, s193_8, s193_10, s193_12, s193_15, s193_16, s193_17, s193_18, s193_20, s193_22, s193_25, s193_28, s193_30, s193_31, s193_32, s193_33, s193_34, s193_37, s193_38, s193_41, s193_42, s193_43, s193_46, s193_48, s193_50, s193_51, s193_53, s193_54, s193_55, s193_56, s193_57, s193_58, s193_61, s193_62, s193_63, s193_66, s193_68, s193_70, s193_71, s193_72, s193_73, s193_75, s193_78, s193_79, s193_80, s193_81, s193_82, s193_83, s193_86, s193_87, s193_88, s193_90, s193_93, s193_94, s193_95, s193_96, s193_99, s193_101, s193_102, s193_105, s193_107, s193_109, s193_110, s193_112, s193_113, s193_114, s193_115, s193_118, s193_120, s193_122, s193_123, s193_125, s193_126, s193_127, s193_128, s193_129, s193_130, s193_131, s193_134, s193_136, s193_137, s193_139, s193_141, s193_144, s193_145, s193_146, s193_147, s193_150, s193_152, s193_153, s193_155, s193_158, s193_159, s193_160, s193_161, s193_162, s193_163, s193_164, s193_167, s193_168, s193_169, s193_172, s193_173, s193_174, s193_175, s193_176, s193_177, s193_178, s193_181, s193_182, s193_185, s193_188, s193_190, s193_192, s193_193, s193_194, s193_197, s193_199, s193_200, s193_203, s193_205, q_0, q_1, q_2, q_3, q_4, q_5, q_6, q_7, q_8, q_9, q_10, q_11, q_12, q_13, q_14, q_16, q_20, q_23, q_24, q_32, q_42, q_43, q_45, q_47, q_48, q_50, q_57, q_59, q_60, q_61, q_62, q_63, q_64, q_66, q_91, q_93, q_97, q_99, q_122, q_144, q_255, q_256, q_300, q_380, q_400, q_620, q_999, q_1000, q_4095, q_4096, q_9999, q_65536, q_99999, q_31, nI_add, pk_mul, nE, nL, nT, nM31, nShl, ib_nI, nI_clamp, bI_n0, bI_n1, bI_nar, uI_r, uI_l, uL_r, uL_i, uL_p, uA_r, uA_l, bV_some, bU_some, nar_n0, nar_n1, and_self, and_true, true_and, and_false, false_and, if_true, if_false, eq_self, Bool.false_eq_true, Bool.true_eq_false, not_true_eq_false, not_false_eq_true, ↓reduceIte, nlT, nlF, ntT, ntF, neT, neF, ieT, ieF, decide_true, decide_false, Bool.not_true, Bool.not_false, Bool.and_true, Bool.true_and, Bool.and_false, Bool.false_and, Bool.or_true, Bool.true_or, Bool.or_false, Bool.false_or, h.ak, c1, nV, m_areAtOdds h hw, c2, c2', a1, h1.li, h1.gi, e2', e3, e4, e5, d1, lc_len, c3]
        exact ⟨_, rfl, fr3⟩
      · have hb := hd_le (v := sumL L (W2 A w t o) 1 0) (lo := 0) (hi := 9999) (by decide)
        by_cases c4 : 0 < hd (sumL L (W2 A w t o) 1 0) 0 9999
        · simp (disch := omega) only [s193_0, s193_1, s193_4, s193_5, s193_6, s193_8, s193_10, s193_12, s193_15, s193_16, s193_17, s193_18, s193_20, s193_22, s193_25, s193_28, s193_30, s193_31, s193_32, s193_33, s193_34, s193_37, s193_38, s193_41, s193_42, s193_43, s193_46, s193_48, s193_50, s193_51, s193_53, s193_54, s193_55, s193_56, s193_57, s193_58, s193_61, s193_62, s193_63, s193_66, s193_68, s193_70, s193_71, s193_72, s193_73, s193_75, s193_78, s193_79, s193_80, s193_81, s193_82, s193_83, s193_86, s193_87, s193_88, s193_90, s193_93, s193_94, s193_95, s193_96, s193_99, s193_101, s193_102, s193_105, s193_107, s193_109, s193_110, s193_112, s193_113, s193_114, s193_115, s193_118, s193_120, s193_122, s193_123, s193_125, s193_126, s193_127, s193_128, s193_129, s193_130, s193_131, s193_134, s193_136, s193_137, s193_139, s193_141, s193_144, s193_145, s193_146, s193_147, s193_150, s193_152, s193_153, s193_155, s193_158, s193_159, s193_160, s193_161, s193_162, s193_163, s193_164, s193_167, s193_168, s193_169, s193_172, s193_173, s193_174, s193_175, s193_176, s193_177, s193_178, s193_181, s193_182, s193_185, s193_188, s193_190, s193_192, s193_193, s193_194, s193_197, s193_199, s193_200, s193_203, s193_205, q_0, q_1, q_2, q_3, q_4, q_5, q_6, q_7, q_8, q_9, q_10, q_11, q_12, q_13, q_14, q_16, q_20, q_23, q_24, q_32, q_42, q_43, q_45, q_47, q_48, q_50, q_57, q_59, q_60, q_61, q_62, q_63, q_64, q_66, q_91, q_93, q_97, q_99, q_122, q_144, q_255, q_256, q_300, q_380, q_400, q_620, q_999, q_1000, q_4095, q_4096, q_9999, q_65536, q_99999, q_31, nI_add, pk_mul, nE, nL, nT, nM31, nShl, ib_nI, nI_clamp, bI_n0, bI_n1, bI_nar, uI_r, uI_l, uL_r, uL_i, uL_p, uA_r, uA_l, bV_some, bU_some, nar_n0, nar_n1, and_self, and_true, true_and, and_false, false_and, if_true, if_false, eq_self, Bool.false_eq_true, Bool.true_eq_false, not_true_eq_false, not_false_eq_true, ↓reduceIte, nlT, nlF, ntT, ntF, neT, neF, ieT, ieF, decide_true, decide_false, Bool.not_true, Bool.not_false, Bool.and_true, Bool.true_and, Bool.and_false, Bool.false_and, Bool.or_true, Bool.true_or, Bool.or_false, Bool.false_or, h.ak, c1, nV, m_areAtOdds h hw, c2, c2', a1, h1.li, h1.gi, e2', e3, e4, e5, d1, f1, lc_len, c3, g1, w64, c4, Int32.toInt32_toInt64]
          exact ⟨_, rfl, fr3.tr (f2.pl (by simp))⟩
        · have c5 : hd (sumL L (W2 A w t o) 1 0) 0 9999 = 0 := by omega
          simp (disch := omega) only [s193_0, s193_1, s193_4, s193_5, s193_6, s193_8, s193_10, s193_12, s193_15, s193_16, s193_17, s193_18, s193_20, s193_22, s193_25, s193_28, s193_30, s193_31, s193_32, s193_33, s193_34, s193_37, s193_38, s193_41, s193_42, s193_43, s193_46, s193_48, s193_50, s193_51, s193_53, s193_54, s193_55, s193_56, s193_57, s193_58, s193_61, s193_62, s193_63, s193_66, s193_68, s193_70, s193_71, s193_72, s193_73, s193_75, s193_78, s193_79, s193_80, s193_81, s193_82, s193_83, s193_86, s193_87, s193_88, s193_90, s193_93, s193_94, s193_95, s193_96, s193_99, s193_101, s193_102, s193_105, s193_107, s193_109, s193_110, s193_112, s193_113, s193_114, s193_115, s193_118, s193_120, s193_122, s193_123, s193_125, s193_126, s193_127, s193_128, s193_129, s193_130, s193_131, s193_134, s193_136, s193_137, s193_139, s193_141, s193_144, s193_145, s193_146, s193_147, s193_150, s193_152, s193_153, s193_155, s193_158, s193_159, s193_160, s193_161, s193_162, s193_163, s193_164, s193_167, s193_168, s193_169, s193_172, s193_173, s193_174, s193_175, s193_176, s193_177, s193_178, s193_181, s193_182, s193_185, s193_188, s193_190, s193_192, s193_193, s193_194, s193_197, s193_199, s193_200, s193_203, s193_205, q_0, q_1, q_2, q_3, q_4, q_5, q_6, q_7, q_8, q_9, q_10, q_11, q_12, q_13, q_14, q_16, q_20, q_23, q_24, q_32, q_42, q_43, q_45, q_47, q_48, q_50, q_57, q_59, q_60, q_61, q_62, q_63, q_64, q_66, q_91, q_93, q_97, q_99, q_122, q_144, q_255, q_256, q_300, q_380, q_400, q_620, q_999, q_1000, q_4095, q_4096, q_9999, q_65536, q_99999, q_31, nI_add, pk_mul, nE, nL, nT, nM31, nShl, ib_nI, nI_clamp, bI_n0, bI_n1, bI_nar, uI_r, uI_l, uL_r, uL_i, uL_p, uA_r, uA_l, bV_some, bU_some, nar_n0, nar_n1, and_self, and_true, true_and, and_false, false_and, if_true, if_false, eq_self, Bool.false_eq_true, Bool.true_eq_false, not_true_eq_false, not_false_eq_true, ↓reduceIte, nlT, nlF, ntT, ntF, neT, neF, ieT, ieF, decide_true, decide_false, Bool.not_true, Bool.not_false, Bool.and_true, Bool.true_and, Bool.and_false, Bool.false_and, Bool.or_true, Bool.true_or, Bool.or_false, Bool.false_or, h.ak, c1, nV, m_areAtOdds h hw, c2, c2', a1, h1.li, h1.gi, e2', e3, e4, e5, d1, f1, lc_len, c3, g1, w64, c5, Int32.toInt32_toInt64]
          exact ⟨_, rfl, fr3.tr (f2.pl (by simp))⟩
theorem m_must {S : Sto} {A : Tn} {r : Nat} {L : Lw} {w t : Nat} (h : RepM S A) (hw : WF A) (hr : r < 6) (hL : RepLM S r L) (hl : WFL L) (hv : w < 12) (ht : t < 24) : ∃ S', call 203 0 [vR 50 0, vI (nI r), vI (nI w), vI (nI t)] S = some (some (vI (nI (muN A L w t))), S') ∧ Fr (pL [76, 77]) S S' := by
  obtain ⟨S1, a1, a2, a3⟩ := m_asksOf h hw hv ht
  obtain ⟨S3, d1, d2⟩ := m_sumOf (S := S1) (s := 2) (d := 2) hr a3 (hL.pl a2 (by decide)) hl (by decide)
  have g1 := fun S v => m_between S v (lo := 1) (hi := 2) (a := 1) (b := 2) (by decide) (by decide) (by decide) (by decide)
  show ∃ S', run 203 0 0 [vR 50 0, vI (nI r), vI (nI w), vI (nI t)] [] S = _ ∧ _
  unfold muN
  simp (disch := omega) only [s203_0, s203_1, s203_2, s203_3, s203_6, s203_7, s203_8, s203_9, s203_12, s203_15, s203_16, s203_19, s203_22, s203_23, q_0, q_1, q_2, q_3, q_4, q_5, q_6, q_7, q_8, q_9, q_10, q_11, q_12, q_13, q_14, q_16, q_20, q_23, q_24, q_32, q_42, q_43, q_45, q_47, q_48, q_50, q_57, q_59, q_60, q_61, q_62, q_63, q_64, q_66, q_91, q_93, q_97, q_99, q_122, q_144, q_255, q_256, q_300, q_380, q_400, q_620, q_999, q_1000, q_4095, q_4096, q_9999, q_65536, q_99999, q_31, nI_add, pk_mul, nE, nL, nT, nM31, nShl, ib_nI, nI_clamp, bI_n0, bI_n1, bI_nar, uI_r, uI_l, uL_r, uL_i, uL_p, uA_r, uA_l, bV_some, bU_some, nar_n0, nar_n1, and_self, and_true, true_and, and_false, false_and, if_true, if_false, eq_self, Bool.false_eq_true, Bool.true_eq_false, not_true_eq_false, not_false_eq_true, ↓reduceIte, nlT, nlF, ntT, ntF, neT, neF, ieT, ieF, decide_true, decide_false, Bool.not_true, Bool.not_false, Bool.and_true, Bool.true_and, Bool.and_false, Bool.false_and, Bool.or_true, Bool.true_or, Bool.or_false, Bool.false_or, a1, d1, g1, Int32.toInt32_toInt64]
  exact ⟨_, rfl, (a2.pl (by simp)).tr (d2.pl (by simp))⟩
theorem m_hadFor {S : Sto} {A : Tn} {r : Nat} {L : Lw} {w t : Nat} (h : RepM S A) (hw : WF A) (hr : r < 6) (hL : RepLM S r L) (hl : WFL L) (hv : w < 12) (ht : t < 24) : ∃ S', call 202 0 [vR 50 0, vI (nI r), vI (nI w), vI (nI t)] S = some (some (vI (nV (haO A L w t))), S') ∧ Fr (pL [76, 77]) S S' := by
  have hO := hw.o ht
  obtain ⟨S1, a1, a2⟩ := m_nodOf h hw hr hL hl hv ht hO.1
  have h1 := h.pl a2 (by decide)
  have hL1 := hL.pl a2 (by decide)
  obtain ⟨S2, b1, b2⟩ := m_nodOf h1 hw hr hL1 hl hv ht hO.2
  have h2 := h1.pl b2 (by decide)
  have hL2 := hL1.pl b2 (by decide)
  obtain ⟨S3, d1, d2⟩ := m_must h2 hw hr hL2 hl hv ht
  have h3 := h2.pl d2 (by decide)
  have i3 := m_areAtOdds h3 hw hO.1 hO.2
  have fr := (a2.tr b2).tr d2
  show ∃ S', run 202 0 0 [vR 50 0, vI (nI r), vI (nI w), vI (nI t), vU, vU] [] S = _ ∧ _
  unfold haO
  generalize hx : ndO A L w t (A 7 t) = x at a1 ⊢
  generalize hy : ndO A L w t (A 8 t) = y at b1 ⊢
  have hmu := hd_le (v := sumL L (W1 A w t) 2 2) (lo := 1) (hi := 2) (by decide)
  have hmu' : muN A L w t ≤ 2 := hmu.2
  generalize muN A L w t = mu at d1 hmu' ⊢
  unfold hdO
  by_cases c1 : mu = 2
  · subst c1
    cases x with
    | none =>
      simp only [nV] at a1 b1 ⊢
      simp (disch := omega) only [s202_0, s202_1, s202_2, s202_3, s202_4, s202_5, s202_8, s202_9, s202_10, s202_13, s202_15, s202_16, s202_17, s202_18, s202_19, s202_20, s202_23, s202_24, s202_25, s202_28, s202_30, s202_31, s202_32, s202_33, s202_34, s202_37, s202_38, s202_41, s202_43, s202_46, s202_48, s202_51, s202_52, s202_53, s202_56, s202_57, s202_58, s202_59, s202_62, s202_63, s202_64, s202_67, s202_70, s202_72, s202_75, s202_77, s202_79, s202_80, s202_81, s202_83, s202_86, s202_88, s202_91, s202_93, s202_96, s202_98, s202_100, s202_103, s202_105, s202_108, s202_110, q_0, q_1, q_2, q_3, q_4, q_5, q_6, q_7, q_8, q_9, q_10, q_11, q_12, q_13, q_14, q_16, q_20, q_23, q_24, q_32, q_42, q_43, q_45, q_47, q_48, q_50, q_57, q_59, q_60, q_61, q_62, q_63, q_64, q_66, q_91, q_93, q_97, q_99, q_122, q_144, q_255, q_256, q_300, q_380, q_400, q_620, q_999, q_1000, q_4095, q_4096, q_9999, q_65536, q_99999, q_31, nI_add, pk_mul, nE, nL, nT, nM31, nShl, ib_nI, nI_clamp, bI_n0, bI_n1, bI_nar, uI_r, uI_l, uL_r, uL_i, uL_p, uA_r, uA_l, bV_some, bU_some, nar_n0, nar_n1, and_self, and_true, true_and, and_false, false_and, if_true, if_false, eq_self, Bool.false_eq_true, Bool.true_eq_false, not_true_eq_false, not_false_eq_true, ↓reduceIte, nlT, nlF, ntT, ntF, neT, neF, ieT, ieF, decide_true, decide_false, Bool.not_true, Bool.not_false, Bool.and_true, Bool.true_and, Bool.and_false, Bool.false_and, Bool.or_true, Bool.true_or, Bool.or_false, Bool.false_or, h.o1, h1.o2, a1, b1, d1, n2_lt, n2_ge]
      exact ⟨_, rfl, fr⟩
    | some a =>
      have ha := ndO_le hx
      cases y with
      | none =>
        simp only [nV] at a1 b1 ⊢
        simp (disch := omega) only [s202_0, s202_1, s202_2, s202_3, s202_4, s202_5, s202_8, s202_9, s202_10, s202_13, s202_15, s202_16, s202_17, s202_18, s202_19, s202_20, s202_23, s202_24, s202_25, s202_28, s202_30, s202_31, s202_32, s202_33, s202_34, s202_37, s202_38, s202_41, s202_43, s202_46, s202_48, s202_51, s202_52, s202_53, s202_56, s202_57, s202_58, s202_59, s202_62, s202_63, s202_64, s202_67, s202_70, s202_72, s202_75, s202_77, s202_79, s202_80, s202_81, s202_83, s202_86, s202_88, s202_91, s202_93, s202_96, s202_98, s202_100, s202_103, s202_105, s202_108, s202_110, q_0, q_1, q_2, q_3, q_4, q_5, q_6, q_7, q_8, q_9, q_10, q_11, q_12, q_13, q_14, q_16, q_20, q_23, q_24, q_32, q_42, q_43, q_45, q_47, q_48, q_50, q_57, q_59, q_60, q_61, q_62, q_63, q_64, q_66, q_91, q_93, q_97, q_99, q_122, q_144, q_255, q_256, q_300, q_380, q_400, q_620, q_999, q_1000, q_4095, q_4096, q_9999, q_65536, q_99999, q_31, nI_add, pk_mul, nE, nL, nT, nM31, nShl, ib_nI, nI_clamp, bI_n0, bI_n1, bI_nar, uI_r, uI_l, uL_r, uL_i, uL_p, uA_r, uA_l, bV_some, bU_some, nar_n0, nar_n1, and_self, and_true, true_and, and_false, false_and, if_true, if_false, eq_self, Bool.false_eq_true, Bool.true_eq_false, not_true_eq_false, not_false_eq_true, ↓reduceIte, nlT, nlF, ntT, ntF, neT, neF, ieT, ieF, decide_true, decide_false, Bool.not_true, Bool.not_false, Bool.and_true, Bool.true_and, Bool.and_false, Bool.false_and, Bool.or_true, Bool.true_or, Bool.or_false, Bool.false_or, h.o1, h1.o2, a1, b1, d1, n2_lt, n2_ge]
        exact ⟨_, rfl, fr⟩
      | some b =>
        have hb := ndO_le hy
        simp only [nV] at a1 b1 ⊢
        by_cases c2 : A 5 (12 * A 7 t + A 8 t) = 1
        · have c2' : (A 5 (12 * A 7 t + A 8 t) == 1) = true := by simp [c2]
          rw [c2'] at i3
          simp (disch := omega) only [s202_0, s202_1, s202_2, s202_3, s202_4, s202_5, s202_8, s202_9, s202_10, s202_13, s202_15, s202_16, s202_17, s202_18, s202_19, s202_20, s202_23, s202_24, s202_25, s202_28, s202_30, s202_31, s202_32, s202_33, s202_34, s202_37, s202_38, s202_41, s202_43, s202_46, s202_48, s202_51, s202_52, s202_53, s202_56, s202_57, s202_58, s202_59, s202_62, s202_63, s202_64, s202_67, s202_70, s202_72, s202_75, s202_77, s202_79, s202_80, s202_81, s202_83, s202_86, s202_88, s202_91, s202_93, s202_96, s202_98, s202_100, s202_103, s202_105, s202_108, s202_110, q_0, q_1, q_2, q_3, q_4, q_5, q_6, q_7, q_8, q_9, q_10, q_11, q_12, q_13, q_14, q_16, q_20, q_23, q_24, q_32, q_42, q_43, q_45, q_47, q_48, q_50, q_57, q_59, q_60, q_61, q_62, q_63, q_64, q_66, q_91, q_93, q_97, q_99, q_122, q_144, q_255, q_256, q_300, q_380, q_400, q_620, q_999, q_1000, q_4095, q_4096, q_9999, q_65536, q_99999, q_31, nI_add, pk_mul, nE, nL, nT, nM31, nShl, ib_nI, nI_clamp, bI_n0, bI_n1, bI_nar, uI_r, uI_l, uL_r, uL_i, uL_p, uA_r, uA_l, bV_some, bU_some, nar_n0, nar_n1, and_self, and_true, true_and, and_false, false_and, if_true, if_false, eq_self, Bool.false_eq_true, Bool.true_eq_false, not_true_eq_false, not_false_eq_true, ↓reduceIte, nlT, nlF, ntT, ntF, neT, neF, ieT, ieF, decide_true, decide_false, Bool.not_true, Bool.not_false, Bool.and_true, Bool.true_and, Bool.and_false, Bool.false_and, Bool.or_true, Bool.true_or, Bool.or_false, Bool.false_or, h.o1, h1.o2, h3.o1, h3.o2, a1, b1, d1, i3, c2]
          exact ⟨_, rfl, fr⟩
        · have c2' : (A 5 (12 * A 7 t + A 8 t) == 1) = false := by simp [c2]
          rw [c2'] at i3
          simp (disch := omega) only [s202_0, s202_1, s202_2, s202_3, s202_4, s202_5, s202_8, s202_9, s202_10, s202_13, s202_15, s202_16, s202_17, s202_18, s202_19, s202_20, s202_23, s202_24, s202_25, s202_28, s202_30, s202_31, s202_32, s202_33, s202_34, s202_37, s202_38, s202_41, s202_43, s202_46, s202_48, s202_51, s202_52, s202_53, s202_56, s202_57, s202_58, s202_59, s202_62, s202_63, s202_64, s202_67, s202_70, s202_72, s202_75, s202_77, s202_79, s202_80, s202_81, s202_83, s202_86, s202_88, s202_91, s202_93, s202_96, s202_98, s202_100, s202_103, s202_105, s202_108, s202_110, q_0, q_1, q_2, q_3, q_4, q_5, q_6, q_7, q_8, q_9, q_10, q_11, q_12, q_13, q_14, q_16, q_20, q_23, q_24, q_32, q_42, q_43, q_45, q_47, q_48, q_50, q_57, q_59, q_60, q_61, q_62, q_63, q_64, q_66, q_91, q_93, q_97, q_99, q_122, q_144, q_255, q_256, q_300, q_380, q_400, q_620, q_999, q_1000, q_4095, q_4096, q_9999, q_65536, q_99999, q_31, nI_add, pk_mul, nE, nL, nT, nM31, nShl, ib_nI, nI_clamp, bI_n0, bI_n1, bI_nar, uI_r, uI_l, uL_r, uL_i, uL_p, uA_r, uA_l, bV_some, bU_some, nar_n0, nar_n1, and_self, and_true, true_and, and_false, false_and, if_true, if_false, eq_self, Bool.false_eq_true, Bool.true_eq_false, not_true_eq_false, not_false_eq_true, ↓reduceIte, nlT, nlF, ntT, ntF, neT, neF, ieT, ieF, decide_true, decide_false, Bool.not_true, Bool.not_false, Bool.and_true, Bool.true_and, Bool.and_false, Bool.false_and, Bool.or_true, Bool.true_or, Bool.or_false, Bool.false_or, h.o1, h1.o2, h3.o1, h3.o2, a1, b1, d1, i3, c2]
          exact ⟨_, rfl, fr⟩
  · cases x with
    | none =>
      simp only [nV] at a1 b1 ⊢
      cases y with
      | none =>
        simp (disch := omega) only [s202_0, s202_1, s202_2, s202_3, s202_4, s202_5, s202_8, s202_9, s202_10, s202_13, s202_15, s202_16, s202_17, s202_18, s202_19, s202_20, s202_23, s202_24, s202_25, s202_28, s202_30, s202_31, s202_32, s202_33, s202_34, s202_37, s202_38, s202_41, s202_43, s202_46, s202_48, s202_51, s202_52, s202_53, s202_56, s202_57, s202_58, s202_59, s202_62, s202_63, s202_64, s202_67, s202_70, s202_72, s202_75, s202_77, s202_79, s202_80, s202_81, s202_83, s202_86, s202_88, s202_91, s202_93, s202_96, s202_98, s202_100, s202_103, s202_105, s202_108, s202_110, q_0, q_1, q_2, q_3, q_4, q_5, q_6, q_7, q_8, q_9, q_10, q_11, q_12, q_13, q_14, q_16, q_20, q_23, q_24, q_32, q_42, q_43, q_45, q_47, q_48, q_50, q_57, q_59, q_60, q_61, q_62, q_63, q_64, q_66, q_91, q_93, q_97, q_99, q_122, q_144, q_255, q_256, q_300, q_380, q_400, q_620, q_999, q_1000, q_4095, q_4096, q_9999, q_65536, q_99999, q_31, nI_add, pk_mul, nE, nL, nT, nM31, nShl, ib_nI, nI_clamp, bI_n0, bI_n1, bI_nar, uI_r, uI_l, uL_r, uL_i, uL_p, uA_r, uA_l, bV_some, bU_some, nar_n0, nar_n1, and_self, and_true, true_and, and_false, false_and, if_true, if_false, eq_self, Bool.false_eq_true, Bool.true_eq_false, not_true_eq_false, not_false_eq_true, ↓reduceIte, nlT, nlF, ntT, ntF, neT, neF, ieT, ieF, decide_true, decide_false, Bool.not_true, Bool.not_false, Bool.and_true, Bool.true_and, Bool.and_false, Bool.false_and, Bool.or_true, Bool.true_or, Bool.or_false, Bool.false_or, h.o1, h1.o2, a1, b1, d1, n2_lt, n2_ge, c1]
        exact ⟨_, rfl, fr⟩
      | some b =>
        simp (disch := omega) only [s202_0, s202_1, s202_2, s202_3, s202_4, s202_5, s202_8, s202_9, s202_10, s202_13, s202_15, s202_16, s202_17, s202_18, s202_19, s202_20, s202_23, s202_24, s202_25, s202_28, s202_30, s202_31, s202_32, s202_33, s202_34, s202_37, s202_38, s202_41, s202_43, s202_46, s202_48, s202_51, s202_52, s202_53, s202_56, s202_57, s202_58, s202_59, s202_62, s202_63, s202_64, s202_67, s202_70, s202_72, s202_75, s202_77, s202_79, s202_80, s202_81, s202_83, s202_86, s202_88, s202_91, s202_93, s202_96, s202_98, s202_100, s202_103, s202_105, s202_108, s202_110, q_0, q_1, q_2, q_3, q_4, q_5, q_6, q_7, q_8, q_9, q_10, q_11, q_12, q_13, q_14, q_16, q_20, q_23, q_24, q_32, q_42, q_43, q_45, q_47, q_48, q_50, q_57, q_59, q_60, q_61, q_62, q_63, q_64, q_66, q_91, q_93, q_97, q_99, q_122, q_144, q_255, q_256, q_300, q_380, q_400, q_620, q_999, q_1000, q_4095, q_4096, q_9999, q_65536, q_99999, q_31, nI_add, pk_mul, nE, nL, nT, nM31, nShl, ib_nI, nI_clamp, bI_n0, bI_n1, bI_nar, uI_r, uI_l, uL_r, uL_i, uL_p, uA_r, uA_l, bV_some, bU_some, nar_n0, nar_n1, and_self, and_true, true_and, and_false, false_and, if_true, if_false, eq_self, Bool.false_eq_true, Bool.true_eq_false, not_true_eq_false, not_false_eq_true, ↓reduceIte, nlT, nlF, ntT, ntF, neT, neF, ieT, ieF, decide_true, decide_false, Bool.not_true, Bool.not_false, Bool.and_true, Bool.true_and, Bool.and_false, Bool.false_and, Bool.or_true, Bool.true_or, Bool.or_false, Bool.false_or, h.o1, h1.o2, a1, b1, d1, n2_lt, n2_ge, c1]
        exact ⟨_, rfl, fr⟩
    | some a =>
      have ha := ndO_le hx
      cases y with
      | none =>
        simp only [nV] at a1 b1 ⊢
        simp (disch := omega) only [s202_0, s202_1, s202_2, s202_3, s202_4, s202_5, s202_8, s202_9, s202_10, s202_13, s202_15, s202_16, s202_17, s202_18, s202_19, s202_20, s202_23, s202_24, s202_25, s202_28, s202_30, s202_31, s202_32, s202_33, s202_34, s202_37, s202_38, s202_41, s202_43, s202_46, s202_48, s202_51, s202_52, s202_53, s202_56, s202_57, s202_58, s202_59, s202_62, s202_63, s202_64, s202_67, s202_70, s202_72, s202_75, s202_77, s202_79, s202_80, s202_81, s202_83, s202_86, s202_88, s202_91, s202_93, s202_96, s202_98, s202_100, s202_103, s202_105, s202_108, s202_110, q_0, q_1, q_2, q_3, q_4, q_5, q_6, q_7, q_8, q_9, q_10, q_11, q_12, q_13, q_14, q_16, q_20, q_23, q_24, q_32, q_42, q_43, q_45, q_47, q_48, q_50, q_57, q_59, q_60, q_61, q_62, q_63, q_64, q_66, q_91, q_93, q_97, q_99, q_122, q_144, q_255, q_256, q_300, q_380, q_400, q_620, q_999, q_1000, q_4095, q_4096, q_9999, q_65536, q_99999, q_31, nI_add, pk_mul, nE, nL, nT, nM31, nShl, ib_nI, nI_clamp, bI_n0, bI_n1, bI_nar, uI_r, uI_l, uL_r, uL_i, uL_p, uA_r, uA_l, bV_some, bU_some, nar_n0, nar_n1, and_self, and_true, true_and, and_false, false_and, if_true, if_false, eq_self, Bool.false_eq_true, Bool.true_eq_false, not_true_eq_false, not_false_eq_true, ↓reduceIte, nlT, nlF, ntT, ntF, neT, neF, ieT, ieF, decide_true, decide_false, Bool.not_true, Bool.not_false, Bool.and_true, Bool.true_and, Bool.and_false, Bool.false_and, Bool.or_true, Bool.true_or, Bool.or_false, Bool.false_or, h.o1, h1.o2, a1, b1, d1, n2_lt, n2_ge, c1]
        exact ⟨_, rfl, fr⟩
      | some b =>
        have hb := ndO_le hy
        simp only [nV] at a1 b1 ⊢
        by_cases c2 : a ≤ b
        · simp (disch := omega) only [s202_0, s202_1, s202_2, s202_3, s202_4, s202_5, s202_8, s202_9, s202_10, s202_13, s202_15, s202_16, s202_17, s202_18, s202_19, s202_20, s202_23, s202_24, s202_25, s202_28, s202_30, s202_31, s202_32, s202_33, s202_34, s202_37, s202_38, s202_41, s202_43, s202_46, s202_48, s202_51, s202_52, s202_53, s202_56, s202_57, s202_58, s202_59, s202_62, s202_63, s202_64, s202_67, s202_70, s202_72, s202_75, s202_77, s202_79, s202_80, s202_81, s202_83, s202_86, s202_88, s202_91, s202_93, s202_96, s202_98, s202_100, s202_103, s202_105, s202_108, s202_110, q_0, q_1, q_2, q_3, q_4, q_5, q_6, q_7, q_8, q_9, q_10, q_11, q_12, q_13, q_14, q_16, q_20, q_23, q_24, q_32, q_42, q_43, q_45, q_47, q_48, q_50, q_57, q_59, q_60, q_61, q_62, q_63, q_64, q_66, q_91, q_93, q_97, q_99, q_122, q_144, q_255, q_256, q_300, q_380, q_400, q_620, q_999, q_1000, q_4095, q_4096, q_9999, q_65536, q_99999, q_31, nI_add, pk_mul, nE, nL, nT, nM31, nShl, ib_nI, nI_clamp, bI_n0, bI_n1, bI_nar, uI_r, uI_l, uL_r, uL_i, uL_p, uA_r, uA_l, bV_some, bU_some, nar_n0, nar_n1, and_self, and_true, true_and, and_false, false_and, if_true, if_false, eq_self, Bool.false_eq_true, Bool.true_eq_false, not_true_eq_false, not_false_eq_true, ↓reduceIte, nlT, nlF, ntT, ntF, neT, neF, ieT, ieF, decide_true, decide_false, Bool.not_true, Bool.not_false, Bool.and_true, Bool.true_and, Bool.and_false, Bool.false_and, Bool.or_true, Bool.true_or, Bool.or_false, Bool.false_or, h.o1, h1.o2, a1, b1, d1, c1, c2]
          exact ⟨_, rfl, fr⟩
        · simp (disch := omega) only [s202_0, s202_1, s202_2, s202_3, s202_4, s202_5, s202_8, s202_9, s202_10, s202_13, s202_15, s202_16, s202_17, s202_18, s202_19, s202_20, s202_23, s202_24, s202_25, s202_28, s202_30, s202_31, s202_32, s202_33, s202_34, s202_37, s202_38, s202_41, s202_43, s202_46, s202_48, s202_51, s202_52, s202_53, s202_56, s202_57, s202_58, s202_59, s202_62, s202_63, s202_64, s202_67, s202_70, s202_72, s202_75, s202_77, s202_79, s202_80, s202_81, s202_83, s202_86, s202_88, s202_91, s202_93, s202_96, s202_98, s202_100, s202_103, s202_105, s202_108, s202_110, q_0, q_1, q_2, q_3, q_4, q_5, q_6, q_7, q_8, q_9, q_10, q_11, q_12, q_13, q_14, q_16, q_20, q_23, q_24, q_32, q_42, q_43, q_45, q_47, q_48, q_50, q_57, q_59, q_60, q_61, q_62, q_63, q_64, q_66, q_91, q_93, q_97, q_99, q_122, q_144, q_255, q_256, q_300, q_380, q_400, q_620, q_999, q_1000, q_4095, q_4096, q_9999, q_65536, q_99999, q_31, nI_add, pk_mul, nE, nL, nT, nM31, nShl, ib_nI, nI_clamp, bI_n0, bI_n1, bI_nar, uI_r, uI_l, uL_r, uL_i, uL_p, uA_r, uA_l, bV_some, bU_some, nar_n0, nar_n1, and_self, and_true, true_and, and_false, false_and, if_true, if_false, eq_self, Bool.false_eq_true, Bool.true_eq_false, not_true_eq_false, not_false_eq_true, ↓reduceIte, nlT, nlF, ntT, ntF, neT, neF, ieT, ieF, decide_true, decide_false, Bool.not_true, Bool.not_false, Bool.and_true, Bool.true_and, Bool.and_false, Bool.false_and, Bool.or_true, Bool.true_or, Bool.or_false, Bool.false_or, h.o1, h1.o2, a1, b1, d1, c1, c2]
          exact ⟨_, rfl, fr⟩
