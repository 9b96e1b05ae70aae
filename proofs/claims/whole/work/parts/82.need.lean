/-! who needs whom -/
theorem and_t {m n : Nat} : m &&& n ≠ 0 ↔ ∃ i, m.testBit i = true ∧ n.testBit i = true := by
  constructor
  · intro h
    apply Classical.byContradiction
    intro hn
    apply h
    apply Nat.eq_of_testBit_eq
    intro i
    rw [Nat.testBit_and, Nat.zero_testBit]
    cases e1 : m.testBit i <;> cases e2 : n.testBit i <;> first | rfl | exact absurd ⟨i, e1, e2⟩ hn
  · rintro ⟨i, h1, h2⟩ e
    have := Nat.testBit_and m n i
    rw [e, h1, h2, Nat.zero_testBit] at this
    cases this
theorem nA31 {i : Nat} (h : i < 32) : i &&& 31 = i := by
  have e := Nat.and_two_pow_sub_one_eq_mod i 5
  have e2 : (2 ^ 5 - 1 : Nat) = 31 := by decide
  rw [e2] at e
  omega
theorem bN_t {P : Nat → Bool} {i : Nat} (h : P i = true) : bN P (i + 1) = bN P i ||| 2 ^ i := by
  apply Nat.eq_of_testBit_eq
  intro k
  rw [Nat.testBit_or, bN_bit, bN_bit, Nat.testBit_two_pow]
  by_cases e : k = i
  · subst e; simp [h]
  · by_cases e2 : k < i
    · simp [e2, Ne.symm e, Nat.lt_succ_of_lt e2]
    · have e3 : ¬ k < i + 1 := by omega
      simp [e2, e3, Ne.symm e]
theorem bN_f {P : Nat → Bool} {i : Nat} (h : P i = false) : bN P (i + 1) = bN P i := by
  show bN P i + (if P i = true then 2 ^ i else 0) = _
  rw [h]
  simp
theorem ex_s (P : Nat → Bool) (i : Nat) : ex P (i + 1) = (ex P i || P i) := rfl
theorem ct_ss (P : Nat → Bool) (i : Nat) : ct P (i + 1) = ct P i + if P i = true then 1 else 0 := rfl
theorem orN_s (f : Nat → Nat) (i : Nat) : orN f (i + 1) = orN f i ||| f i := rfl
theorem orN_half (P : Nat → Bool) (T : Nat) : orN (fun i => if P i = true then 2 ^ (i / 2) else 0) (2 * T) = bN (fun t => P (2 * t) || P (2 * t + 1)) T := by
  apply Nat.eq_of_testBit_eq
  intro t
  rw [orN_bit, bN_bit, Bool.eq_iff_iff]
  simp only [decide_eq_true_eq, Bool.and_eq_true, Bool.or_eq_true]
  constructor
  · rintro ⟨k, hk, h⟩
    by_cases e : P k = true
    · rw [if_pos e, Nat.testBit_two_pow] at h
      simp only [decide_eq_true_eq] at h
      refine ⟨by omega, ?_⟩
      by_cases e2 : k % 2 = 0
      · left; rw [show 2 * t = k by omega]; exact e
      · right; rw [show 2 * t + 1 = k by omega]; exact e
    · rw [if_neg e, Nat.zero_testBit] at h; cases h
  · rintro ⟨ht, h | h⟩
    · refine ⟨2 * t, by omega, ?_⟩
      rw [if_pos h, Nat.testBit_two_pow, show 2 * t / 2 = t by omega]; simp
    · refine ⟨2 * t + 1, by omega, ?_⟩
      rw [if_pos h, Nat.testBit_two_pow, show (2 * t + 1) / 2 = t by omega]; simp
def otP (A : Tn) (a : Nat) (z : Int32) (i : Nat) : Bool := ow A i == a && (decide (z = -nI 1) || decide (nI (ow A (i ^^^ 1)) = z))
theorem x_ownTog {S : Sto} {q : Nat} {A : Tn} (h : RepC S q A) (hw : WF A) {a : Nat} (ha : a < 2 ^ 31) (z : Int32) : call 41 0 [vR 1 q, vI (nI a), vI z] S = some (some (vI (nI (bN (fun t => otP A a z (2 * t) || otP A a z (2 * t + 1)) (A 0 1)))), S) := by
  have hT := hw.th
  rw [← orN_half]
  show run 41 0 0 [vR 1 q, vI (nI a), vI z, vU, vU] [] S = _
  simp only [s41_0, s41_1, s41_2, s41_3]
  refine up_ (F := fun i => run 41 0 5 [vR 1 q, vI (nI a), vI z, vI (nI (orN (fun i => if otP A a z i = true then 2 ^ (i / 2) else 0) i)), vI (nI i)] [] S) (N := 2 * A 0 1) ?_ ?_ 0 (by omega)
  · intro i hi
    have hx := x1_lt (i := i) (n := A 0 1) hi
    have o1 := hw.ow12 (i := i) (by omega)
    have o2 := hw.ow12 (i := i ^^^ 1) (by omega)
    show run 41 0 5 _ _ _ = run 41 0 5 _ _ _
    rw [s41_5]
    by_cases c1 : ow A i = a
    · by_cases c2 : z = -nI 1
      · subst c2
        have e : otP A a (-nI 1) i = true := by simp [otP, c1]
        simp (disch := omega) only [s41_0, s41_1, s41_2, s41_3, s41_7, s41_8, s41_9, s41_12, s41_13, s41_16, s41_17, s41_20, s41_22, s41_23, s41_24, s41_27, s41_28, s41_29, s41_32, s41_33, s41_36, s41_38, s41_39, s41_40, s41_41, s41_42, s41_45, s41_46, s41_47, s41_49, s41_50, s41_51, s41_52, s41_53, s41_54, s41_57, s41_60, s41_61, q_0, q_1, q_2, q_3, q_4, q_5, q_6, q_7, q_8, q_9, q_10, q_11, q_12, q_13, q_14, q_16, q_20, q_23, q_24, q_32, q_42, q_43, q_45, q_47, q_48, q_50, q_57, q_59, q_60, q_61, q_62, q_63, q_64, q_66, q_91, q_93, q_97, q_99, q_122, q_144, q_255, q_256, q_300, q_380, q_400, q_620, q_999, q_1000, q_4095, q_4096, q_9999, q_65536, q_99999, q_31, nI_add, pk_mul, nE, nL, nT, nM31, nShl, ib_nI, nI_clamp, bI_n0, bI_n1, bI_nar, uI_r, uI_l, uL_r, uL_i, uL_p, uA_r, uA_l, bV_some, bU_some, nar_n0, nar_n1, and_self, and_true, true_and, and_false, false_and, if_true, if_false, eq_self, Bool.false_eq_true, Bool.true_eq_false, not_true_eq_false, not_false_eq_true, ↓reduceIte, nlT, nlF, ntT, ntF, neT, neF, ieT, ieF, decide_true, decide_false, Bool.not_true, Bool.not_false, Bool.and_true, Bool.true_and, Bool.and_false, Bool.false_and, Bool.or_true, Bool.true_or, Bool.or_false, Bool.false_or, h.th, h.own, nDiv, nx_or, nx1, c1, orN_s, e]
      · by_cases c3 : nI (ow A (i ^^^ 1)) = z
        · have e : otP A a z i = true := by simp [otP, c1, c3]
          simp (disch := omega) only [s41_0, s41_1, s41_2, s41_3, s41_7, s41_8, s41_9, s41_12, s41_13, s41_16, s41_17, s41_20, s41_22, s41_23, s41_24, s41_27, s41_28, s41_29, s41_32, s41_33, s41_36, s41_38, s41_39, s41_40, s41_41, s41_42, s41_45, s41_46, s41_47, s41_49, s41_50, s41_51, s41_52, s41_53, s41_54, s41_57, s41_60, s41_61, q_0, q_1, q_2, q_3, q_4, q_5, q_6, q_7, q_8, q_9, q_10, q_11, q_12, q_13, q_14, q_16, q_20, q_23, q_24, q_32, q_42, q_43, q_45, q_47, q_48, q_50, q_57, q_59, q_60, q_61, q_62, q_63, q_64, q_66, q_91, q_93, q_97, q_99, q_122, q_144, q_255, q_256, q_300, q_380, q_400, q_620, q_999, q_1000, q_4095, q_4096, q_9999, q_65536, q_99999, q_31, nI_add, pk_mul, nE, nL, nT, nM31, nShl, ib_nI, nI_clamp, bI_n0, bI_n1, bI_nar, uI_r, uI_l, uL_r, uL_i, uL_p, uA_r, uA_l, bV_some, bU_some, nar_n0, nar_n1, and_self, and_true, true_and, and_false, false_and, if_true, if_false, eq_self, Bool.false_eq_true, Bool.true_eq_false, not_true_eq_false, not_false_eq_true, ↓reduceIte, nlT, nlF, ntT, ntF, neT, neF, ieT, ieF, decide_true, decide_false, Bool.not_true, Bool.not_false, Bool.and_true, Bool.true_and, Bool.and_false, Bool.false_and, Bool.or_true, Bool.true_or, Bool.or_false, Bool.false_or, h.th, h.own, nDiv, nx_or, nx1, c1, c2, c3, orN_s, e]
        · have e : otP A a z i = false := by simp [otP, c2, c3]
          simp (disch := omega) only [s41_0, s41_1, s41_2, s41_3, s41_7, s41_8, s41_9, s41_12, s41_13, s41_16, s41_17, s41_20, s41_22, s41_23, s41_24, s41_27, s41_28, s41_29, s41_32, s41_33, s41_36, s41_38, s41_39, s41_40, s41_41, s41_42, s41_45, s41_46, s41_47, s41_49, s41_50, s41_51, s41_52, s41_53, s41_54, s41_57, s41_60, s41_61, q_0, q_1, q_2, q_3, q_4, q_5, q_6, q_7, q_8, q_9, q_10, q_11, q_12, q_13, q_14, q_16, q_20, q_23, q_24, q_32, q_42, q_43, q_45, q_47, q_48, q_50, q_57, q_59, q_60, q_61, q_62, q_63, q_64, q_66, q_91, q_93, q_97, q_99, q_122, q_144, q_255, q_256, q_300, q_380, q_400, q_620, q_999, q_1000, q_4095, q_4096, q_9999, q_65536, q_99999, q_31, nI_add, pk_mul, nE, nL, nT, nM31, nShl, ib_nI, nI_clamp, bI_n0, bI_n1, bI_nar, uI_r, uI_l, uL_r, uL_i, uL_p, uA_r, uA_l, bV_some, bU_some, nar_n0, nar_n1, and_self, and_true, true_and, and_false, false_and, if_true, if_false, eq_self, Bool.false_eq_true, Bool.true_eq_false, not_true_eq_false, not_false_eq_true, ↓reduceIte, nlT, nlF, ntT, ntF, neT, neF, ieT, ieF, decide_true, decide_false, Bool.not_true, Bool.not_false, Bool.and_true, Bool.true_and, Bool.and_false, Bool.false_and, Bool.or_true, Bool.true_or, Bool.or_false, Bool.false_or, h.th, h.own, nDiv, nx_or, nx1, c1, c2, c3, orN_s, e, Nat.or_zero]
    · have e : otP A a z i = false := by simp [otP, c1]
      simp (disch := omega) only [s41_0, s41_1, s41_2, s41_3, s41_7, s41_8, s41_9, s41_12, s41_13, s41_16, s41_17, s41_20, s41_22, s41_23, s41_24, s41_27, s41_28, s41_29, s41_32, s41_33, s41_36, s41_38, s41_39, s41_40, s41_41, s41_42, s41_45, s41_46, s41_47, s41_49, s41_50, s41_51, s41_52, s41_53, s41_54, s41_57, s41_60, s41_61, q_0, q_1, q_2, q_3, q_4, q_5, q_6, q_7, q_8, q_9, q_10, q_11, q_12, q_13, q_14, q_16, q_20, q_23, q_24, q_32, q_42, q_43, q_45, q_47, q_48, q_50, q_57, q_59, q_60, q_61, q_62, q_63, q_64, q_66, q_91, q_93, q_97, q_99, q_122, q_144, q_255, q_256, q_300, q_380, q_400, q_620, q_999, q_1000, q_4095, q_4096, q_9999, q_65536, q_99999, q_31, nI_add, pk_mul, nE, nL, nT, nM31, nShl, ib_nI, nI_clamp, bI_n0, bI_n1, bI_nar, uI_r, uI_l, uL_r, uL_i, uL_p, uA_r, uA_l, bV_some, bU_some, nar_n0, nar_n1, and_self, and_true, true_and, and_false, false_and, if_true, if_false, eq_self, Bool.false_eq_true, Bool.true_eq_false, not_true_eq_false, not_false_eq_true, ↓reduceIte, nlT, nlF, ntT, ntF, neT, neF, ieT, ieF, decide_true, decide_false, Bool.not_true, Bool.not_false, Bool.and_true, Bool.true_and, Bool.and_false, Bool.false_and, Bool.or_true, Bool.true_or, Bool.or_false, Bool.false_or, h.th, h.own, nDiv, nx_or, nx1, c1, orN_s, e, Nat.or_zero]
  · show run 41 0 5 _ _ _ = _
    rw [s41_5]
    simp (disch := omega) only [s41_0, s41_1, s41_2, s41_3, s41_7, s41_8, s41_9, s41_12, s41_13, s41_16, s41_17, s41_20, s41_22, s41_23, s41_24, s41_27, s41_28, s41_29, s41_32, s41_33, s41_36, s41_38, s41_39, s41_40, s41_41, s41_42, s41_45, s41_46, s41_47, s41_49, s41_50, s41_51, s41_52, s41_53, s41_54, s41_57, s41_60, s41_61, q_0, q_1, q_2, q_3, q_4, q_5, q_6, q_7, q_8, q_9, q_10, q_11, q_12, q_13, q_14, q_16, q_20, q_23, q_24, q_32, q_42, q_43, q_45, q_47, q_48, q_50, q_57, q_59, q_60, q_61, q_62, q_63, q_64, q_66, q_91, q_93, q_97, q_99, q_122, q_144, q_255, q_256, q_300, q_380, q_400, q_620, q_999, q_1000, q_4095, q_4096, q_9999, q_65536, q_99999, q_31, nI_add, pk_mul, nE, nL, nT, nM31, nShl, ib_nI, nI_clamp, bI_n0, bI_n1, bI_nar, uI_r, uI_l, uL_r, uL_i, uL_p, uA_r, uA_l, bV_some, bU_some, nar_n0, nar_n1, and_self, and_true, true_and, and_false, false_and, if_true, if_false, eq_self, Bool.false_eq_true, Bool.true_eq_false, not_true_eq_false, not_false_eq_true, ↓reduceIte, nlT, nlF, ntT, ntF, neT, neF, ieT, ieF, decide_true, decide_false, Bool.not_true, Bool.not_false, Bool.and_true, Bool.true_and, Bool.and_false, Bool.false_and, Bool.or_true, Bool.true_or, Bool.or_false, Bool.false_or, h.th]
theorem ot_1 (A : Tn) (a t : Nat) : (otP A a (-nI 1) (2 * t) || otP A a (-nI 1) (2 * t + 1)) = owB A a t := by
  simp [otP, ow_0, ow_1, owB]
theorem nI_nm1 {b : Nat} (hb : b < 2 ^ 31) : (nI b = -nI 1) = False := by
  apply eq_false
  intro e
  have h1 := congrArg Int32.toInt e
  rw [nI_toInt hb] at h1
  have h2 : (-nI 1).toInt = -1 := by decide
  rw [h2] at h1
  omega
theorem ot_2 {A : Tn} (hw : WF A) {a b t : Nat} (ht : t < A 0 1) (hb : b < 2 ^ 31) (hab : a ≠ b) : (otP A a (nI b) (2 * t) || otP A a (nI b) (2 * t + 1)) = (owB A a t && owB A b t) := by
  have hT := hw.th
  have h1 := (hw.t ht).2.2.1
  have h2 := hw.o (t := t) (by omega)
  simp only [otP, ow_0, ow_1, x1_0, x1_1, nI_nm1 hb, nE (show A 8 t < 2 ^ 31 by omega) hb, nE (show A 7 t < 2 ^ 31 by omega) hb, owB]
  rw [Bool.eq_iff_iff]
  simp only [Bool.or_eq_true, Bool.and_eq_true, beq_iff_eq, decide_eq_true_eq, decide_false, Bool.false_or]
  omega
def ndP (A : Tn) (w a b t : Nat) : Bool := (A 11 w).testBit t && (owB A a t && owB A b t || A 10 w == a && owB A b t || A 10 w == b && owB A a t)
def ndB (A : Tn) (w a b : Nat) : Bool := ex (ndP A w a b) (A 0 1)
def ndW (A : Tn) (a b w : Nat) : Bool := A 14 w == 0 && ndB A w a b
def ndS (A : Tn) (a b : Nat) : Nat := bN (ndW A a b) (A 0 2)
theorem kit_bit {A : Tn} {w : Nat} {P : Nat → Bool} : (A 11 w &&& bN P (A 0 1) = 0) = (ex (fun t => (A 11 w).testBit t && P t) (A 0 1) = false) := by
  apply propext
  constructor
  · intro h
    cases e : ex (fun t => (A 11 w).testBit t && P t) (A 0 1) with
    | false => rfl
    | true =>
      obtain ⟨k, h1, h2⟩ := ex_t.mp e
      simp only [Bool.and_eq_true] at h2
      refine absurd h (and_t.mpr ⟨k, h2.1, ?_⟩)
      rw [bN_bit]
      simp [h1, h2.2]
  · intro h
    apply Classical.byContradiction
    intro hn
    obtain ⟨i, h1, h2⟩ := and_t.mp hn
    rw [bN_bit] at h2
    simp only [Bool.and_eq_true, decide_eq_true_eq] at h2
    have := ex_mono (P := fun t => (A 11 w).testBit t && P t) h2.1 (by simp [h1, h2.2])
    rw [h] at this
    cases this
theorem x_needing {S : Sto} {q : Nat} {A : Tn} (h : RepC S q A) (hw : WF A) {a b : Nat} (ha : a < 12) (hb : b < 12) (hab : a ≠ b) : call 40 0 [vR 36 0, vR 1 q, vI (nI a), vI (nI b)] S = some (some (vI (nI (ndS A a b))), S) := by
  have hT := hw.th
  have hWk := hw.wk
  have f1 := donB_lt A
  have e1 := x_ownTog h hw (a := a) (by omega) (nI b)
  rw [bN_congr (fun t ht => ot_2 hw ht (by omega) hab)] at e1
  have hbit : ∀ k, (2 ^ a ||| 2 ^ b).testBit k = (k == a || k == b) := by
    intro k
    rw [Nat.testBit_or, Nat.testBit_two_pow, Nat.testBit_two_pow, Bool.eq_iff_iff]
    simp only [Bool.or_eq_true, decide_eq_true_eq, beq_iff_eq]
    omega
  have hlt : 2 ^ a ||| 2 ^ b < 2 ^ 12 := Nat.or_lt_two_pow (Nat.pow_lt_pow_right (by decide) ha) (Nat.pow_lt_pow_right (by decide) hb)
  show run 40 0 0 [vR 36 0, vR 1 q, vI (nI a), vI (nI b), vU, vU, vU, vU, vU, vU] [] S = _
  simp (disch := omega) only [s40_0, s40_1, s40_3, s40_4, s40_5, s40_6, s40_7, s40_8, s40_9, s40_10, s40_12, s40_13, s40_14, s40_15, s40_18, s40_20, s40_21, s40_25, s40_26, s40_29, s40_32, s40_34, s40_35, s40_38, s40_40, s40_41, s40_44, s40_46, s40_48, s40_51, s40_52, s40_53, s40_54, s40_55, s40_56, s40_59, s40_61, s40_62, s40_63, s40_64, s40_67, s40_70, s40_72, s40_74, s40_75, s40_78, s40_80, s40_83, s40_86, s40_87, s40_90, s40_92, s40_93, s40_95, s40_96, s40_99, s40_101, s40_102, s40_104, s40_105, s40_106, s40_108, s40_111, s40_114, s40_116, q_0, q_1, q_2, q_3, q_4, q_5, q_6, q_7, q_8, q_9, q_10, q_11, q_12, q_13, q_14, q_16, q_20, q_23, q_24, q_32, q_42, q_43, q_45, q_47, q_48, q_50, q_57, q_59, q_60, q_61, q_62, q_63, q_64, q_66, q_91, q_93, q_97, q_99, q_122, q_144, q_255, q_256, q_300, q_380, q_400, q_620, q_999, q_1000, q_4095, q_4096, q_9999, q_65536, q_99999, q_31, nI_add, pk_mul, nE, nL, nT, nM31, nShl, ib_nI, nI_clamp, bI_n0, bI_n1, bI_nar, uI_r, uI_l, uL_r, uL_i, uL_p, uA_r, uA_l, bV_some, bU_some, nar_n0, nar_n1, and_self, and_true, true_and, and_false, false_and, if_true, if_false, eq_self, Bool.false_eq_true, Bool.true_eq_false, not_true_eq_false, not_false_eq_true, ↓reduceIte, nlT, nlF, ntT, ntF, neT, neF, ieT, ieF, decide_true, decide_false, Bool.not_true, Bool.not_false, Bool.and_true, Bool.true_and, Bool.and_false, Bool.false_and, Bool.or_true, Bool.true_or, Bool.or_false, Bool.false_or, nx_or, e1]
  refine upS (σ := av × av) (I := fun _ _ => True) (F := fun i s => run 40 0 23 [vR 36 0, vR 1 q, vI (nI a), vI (nI b), vI (nI (bN (ndW A a b) i)), vI (nI (2 ^ a ||| 2 ^ b)), vI (nI (bN (fun t => owB A a t && owB A b t) (A 0 1))), vI (nI i), s.1, s.2] [] S) (Q := fun z => z = some (some (vI (nI (ndS A a b))), S)) (N := A 0 2) ?_ ?_ 0 (vU, vU) (by omega) trivial
  · intro i s hi _
    refine Or.inr ?_
    have hW := hw.W (w := i) (by omega)
    have hd := hw.dn (w := i) (by omega)
    have key : ∃ M, (A 11 i &&& M = 0) = (ndB A i a b = false) ∧ (((A 10 i == a || A 10 i == b) = true ∧ A 10 i ≤ a + b ∧ call 41 0 [vR 1 q, vI (nI (a + b - A 10 i)), vI (-nI 1)] S = some (some (vI (nI M)), S)) ∨ ((A 10 i == a || A 10 i == b) = false ∧ M = bN (fun t => owB A a t && owB A b t) (A 0 1))) := by
      by_cases c : A 10 i = a ∨ A 10 i = b
      · have e2 := x_ownTog h hw (a := a + b - A 10 i) (by omega) (-nI 1)
        rw [bN_congr (fun t ht => ot_1 A (a + b - A 10 i) t)] at e2
        refine ⟨_, ?_, Or.inl ⟨by simpa using c, by omega, e2⟩⟩
        rw [kit_bit]
        unfold ndB
        rw [ex_congr (Q := ndP A i a b)]
        intro t ht
        unfold ndP
        rcases c with c | c
        · have c' : A 10 i ≠ b := by omega
          have e3 : a + b - A 10 i = b := by omega
          have c2 : (A 10 i == a) = true := by simp [c]
          have c3 : (A 10 i == b) = false := by simp [c']
          rw [e3, c2, c3]
          cases owB A a t <;> cases owB A b t <;> simp
        · have c' : A 10 i ≠ a := by omega
          have e3 : a + b - A 10 i = a := by omega
          have c2 : (A 10 i == b) = true := by simp [c]
          have c3 : (A 10 i == a) = false := by simp [c']
          rw [e3, c2, c3]
          cases owB A a t <;> cases owB A b t <;> simp
      · refine ⟨_, ?_, Or.inr ⟨by simpa using c, rfl⟩⟩
        rw [kit_bit]
        unfold ndB
        rw [ex_congr (Q := ndP A i a b)]
        intro t ht
        unfold ndP
        have c2 : (A 10 i == a) = false := by simp; omega
        have c3 : (A 10 i == b) = false := by simp; omega
        rw [c2, c3]
        simp
    obtain ⟨M, k1, k2⟩ := key
    have k3 : A 11 i &&& M < 2 ^ 31 := Nat.lt_of_le_of_lt Nat.and_le_left (by omega)
    show ∃ s', _ ∧ run 40 0 23 _ _ _ = run 40 0 23 _ _ _
    rw [s40_23]
    by_cases c1 : A 14 i = 1
    · have eP : ndW A a b i = false := by simp [ndW, c1]
      have eb := bN_f (P := ndW A a b) eP
      have c1' : (A 14 i == 1) = true := by simp [c1]
      rcases k2 with ⟨k4, k5, k6⟩ | ⟨k4, k6⟩
      · simp (disch := omega) only [s40_0, s40_1, s40_3, s40_4, s40_5, s40_6, s40_7, s40_8, s40_9, s40_10, s40_12, s40_13, s40_14, s40_15, s40_18, s40_20, s40_21, s40_25, s40_26, s40_29, s40_32, s40_34, s40_35, s40_38, s40_40, s40_41, s40_44, s40_46, s40_48, s40_51, s40_52, s40_53, s40_54, s40_55, s40_56, s40_59, s40_61, s40_62, s40_63, s40_64, s40_67, s40_70, s40_72, s40_74, s40_75, s40_78, s40_80, s40_83, s40_86, s40_87, s40_90, s40_92, s40_93, s40_95, s40_96, s40_99, s40_101, s40_102, s40_104, s40_105, s40_106, s40_108, s40_111, s40_114, s40_116, q_0, q_1, q_2, q_3, q_4, q_5, q_6, q_7, q_8, q_9, q_10, q_11, q_12, q_13, q_14, q_16, q_20, q_23, q_24, q_32, q_42, q_43, q_45, q_47, q_48, q_50, q_57, q_59, q_60, q_61, q_62, q_63, q_64, q_66, q_91, q_93, q_97, q_99, q_122, q_144, q_255, q_256, q_300, q_380, q_400, q_620, q_999, q_1000, q_4095, q_4096, q_9999, q_65536, q_99999, q_31, nI_add, pk_mul, nE, nL, nT, nM31, nShl, ib_nI, nI_clamp, bI_n0, bI_n1, bI_nar, uI_r, uI_l, uL_r, uL_i, uL_p, uA_r, uA_l, bV_some, bU_some, nar_n0, nar_n1, and_self, and_true, true_and, and_false, false_and, if_true, if_false, eq_self, Bool.false_eq_true, Bool.true_eq_false, not_true_eq_false, not_false_eq_true, ↓reduceIte, nlT, nlF, ntT, ntF, neT, neF, ieT, ieF, decide_true, decide_false, Bool.not_true, Bool.not_false, Bool.and_true, Bool.true_and, Bool.and_false, Bool.false_and, Bool.or_true, Bool.true_or, Bool.or_false, Bool.false_or, h.wk, h.ak, h.ki, h.dnb, x_has, donB_bit, hbit, nSub, nx_and, nA31, nx_or, k4, k6, c1', eb]
        exact ⟨(_, _), rfl⟩
      · simp (disch := omega) only [s40_0, s40_1, s40_3, s40_4, s40_5, s40_6, s40_7, s40_8, s40_9, s40_10, s40_12, s40_13, s40_14, s40_15, s40_18, s40_20, s40_21, s40_25, s40_26, s40_29, s40_32, s40_34, s40_35, s40_38, s40_40, s40_41, s40_44, s40_46, s40_48, s40_51, s40_52, s40_53, s40_54, s40_55, s40_56, s40_59, s40_61, s40_62, s40_63, s40_64, s40_67, s40_70, s40_72, s40_74, s40_75, s40_78, s40_80, s40_83, s40_86, s40_87, s40_90, s40_92, s40_93, s40_95, s40_96, s40_99, s40_101, s40_102, s40_104, s40_105, s40_106, s40_108, s40_111, s40_114, s40_116, q_0, q_1, q_2, q_3, q_4, q_5, q_6, q_7, q_8, q_9, q_10, q_11, q_12, q_13, q_14, q_16, q_20, q_23, q_24, q_32, q_42, q_43, q_45, q_47, q_48, q_50, q_57, q_59, q_60, q_61, q_62, q_63, q_64, q_66, q_91, q_93, q_97, q_99, q_122, q_144, q_255, q_256, q_300, q_380, q_400, q_620, q_999, q_1000, q_4095, q_4096, q_9999, q_65536, q_99999, q_31, nI_add, pk_mul, nE, nL, nT, nM31, nShl, ib_nI, nI_clamp, bI_n0, bI_n1, bI_nar, uI_r, uI_l, uL_r, uL_i, uL_p, uA_r, uA_l, bV_some, bU_some, nar_n0, nar_n1, and_self, and_true, true_and, and_false, false_and, if_true, if_false, eq_self, Bool.false_eq_true, Bool.true_eq_false, not_true_eq_false, not_false_eq_true, ↓reduceIte, nlT, nlF, ntT, ntF, neT, neF, ieT, ieF, decide_true, decide_false, Bool.not_true, Bool.not_false, Bool.and_true, Bool.true_and, Bool.and_false, Bool.false_and, Bool.or_true, Bool.true_or, Bool.or_false, Bool.false_or, h.wk, h.ak, h.ki, h.dnb, x_has, donB_bit, hbit, nSub, nx_and, nA31, nx_or, k4, c1', eb]
        exact ⟨(_, _), rfl⟩
    · have c1' : (A 14 i == 1) = false := by simp [c1]
      have c0 : A 14 i = 0 := by omega
      cases c2 : ndB A i a b with
      | false =>
        have eP : ndW A a b i = false := by simp [ndW, c2]
        have eb := bN_f (P := ndW A a b) eP
        rw [c2] at k1
        rcases k2 with ⟨k4, k5, k6⟩ | ⟨k4, k6⟩
        · simp (disch := omega) only [s40_0, s40_1, s40_3, s40_4, s40_5, s40_6, s40_7, s40_8, s40_9, s40_10, s40_12, s40_13, s40_14, s40_15, s40_18, s40_20, s40_21, s40_25, s40_26, s40_29, s40_32, s40_34, s40_35, s40_38, s40_40, s40_41, s40_44, s40_46, s40_48, s40_51, s40_52, s40_53, s40_54, s40_55, s40_56, s40_59, s40_61, s40_62, s40_63, s40_64, s40_67, s40_70, s40_72, s40_74, s40_75, s40_78, s40_80, s40_83, s40_86, s40_87, s40_90, s40_92, s40_93, s40_95, s40_96, s40_99, s40_101, s40_102, s40_104, s40_105, s40_106, s40_108, s40_111, s40_114, s40_116, q_0, q_1, q_2, q_3, q_4, q_5, q_6, q_7, q_8, q_9, q_10, q_11, q_12, q_13, q_14, q_16, q_20, q_23, q_24, q_32, q_42, q_43, q_45, q_47, q_48, q_50, q_57, q_59, q_60, q_61, q_62, q_63, q_64, q_66, q_91, q_93, q_97, q_99, q_122, q_144, q_255, q_256, q_300, q_380, q_400, q_620, q_999, q_1000, q_4095, q_4096, q_9999, q_65536, q_99999, q_31, nI_add, pk_mul, nE, nL, nT, nM31, nShl, ib_nI, nI_clamp, bI_n0, bI_n1, bI_nar, uI_r, uI_l, uL_r, uL_i, uL_p, uA_r, uA_l, bV_some, bU_some, nar_n0, nar_n1, and_self, and_true, true_and, and_false, false_and, if_true, if_false, eq_self, Bool.false_eq_true, Bool.true_eq_false, not_true_eq_false, not_false_eq_true, ↓reduceIte, nlT, nlF, ntT, ntF, neT, neF, ieT, ieF, decide_true, decide_false, Bool.not_true, Bool.not_false, Bool.and_true, Bool.true_and, Bool.and_false, Bool.false_and, Bool.or_true, Bool.true_or, Bool.or_false, Bool.false_or, h.wk, h.ak, h.ki, h.dnb, x_has, donB_bit, hbit, nSub, nx_and, nA31, nx_or, k4, k6, c1', eb, k1]
          exact ⟨(_, _), rfl⟩
        · subst k6
          simp (disch := omega) only [s40_0, s40_1, s40_3, s40_4, s40_5, s40_6, s40_7, s40_8, s40_9, s40_10, s40_12, s40_13, s40_14, s40_15, s40_18, s40_20, s40_21, s40_25, s40_26, s40_29, s40_32, s40_34, s40_35, s40_38, s40_40, s40_41, s40_44, s40_46, s40_48, s40_51, s40_52, s40_53, s40_54, s40_55, s40_56, s40_59, s40_61, s40_62, s40_63, s40_64, s40_67, s40_70, s40_72, s40_74, s40_75, s40_78, s40_80, s40_83, s40_86, s40_87, s40_90, s40_92, s40_93, s40_95, s40_96, s40_99, s40_101, s40_102, s40_104, s40_105, s40_106, s40_108, s40_111, s40_114, s40_116, q_0, q_1, q_2, q_3, q_4, q_5, q_6, q_7, q_8, q_9, q_10, q_11, q_12, q_13, q_14, q_16, q_20, q_23, q_24, q_32, q_42, q_43, q_45, q_47, q_48, q_50, q_57, q_59, q_60, q_61, q_62, q_63, q_64, q_66, q_91, q_93, q_97, q_99, q_122, q_144, q_255, q_256, q_300, q_380, q_400, q_620, q_999, q_1000, q_4095, q_4096, q_9999, q_65536, q_99999, q_31, nI_add, pk_mul, nE, nL, nT, nM31, nShl, ib_nI, nI_clamp, bI_n0, bI_n1, bI_nar, uI_r, uI_l, uL_r, uL_i, uL_p, uA_r, uA_l, bV_some, bU_some, nar_n0, nar_n1, and_self, and_true, true_and, and_false, false_and, if_true, if_false, eq_self, Bool.false_eq_true, Bool.true_eq_false, not_true_eq_false, not_false_eq_true, ↓reduceIte, nlT, nlF, ntT, ntF, neT, neF, ieT, ieF, decide_true, decide_false, Bool.not_true, Bool.not_false, Bool.and_true, Bool.true_and, Bool.and_false, Bool.false_and, Bool.or_true, Bool.true_or, Bool.or_false, Bool.false_or, h.wk, h.ak, h.ki, h.dnb, x_has, donB_bit, hbit, nSub, nx_and, nA31, nx_or, k4, c1', eb, k1]
          exact ⟨(_, _), rfl⟩
      | true =>
        have eP : ndW A a b i = true := by simp [ndW, c2, c0]
        have eb := bN_t (P := ndW A a b) eP
        rw [c2] at k1
        rcases k2 with ⟨k4, k5, k6⟩ | ⟨k4, k6⟩
        · simp (disch := omega) only [s40_0, s40_1, s40_3, s40_4, s40_5, s40_6, s40_7, s40_8, s40_9, s40_10, s40_12, s40_13, s40_14, s40_15, s40_18, s40_20, s40_21, s40_25, s40_26, s40_29, s40_32, s40_34, s40_35, s40_38, s40_40, s40_41, s40_44, s40_46, s40_48, s40_51, s40_52, s40_53, s40_54, s40_55, s40_56, s40_59, s40_61, s40_62, s40_63, s40_64, s40_67, s40_70, s40_72, s40_74, s40_75, s40_78, s40_80, s40_83, s40_86, s40_87, s40_90, s40_92, s40_93, s40_95, s40_96, s40_99, s40_101, s40_102, s40_104, s40_105, s40_106, s40_108, s40_111, s40_114, s40_116, q_0, q_1, q_2, q_3, q_4, q_5, q_6, q_7, q_8, q_9, q_10, q_11, q_12, q_13, q_14, q_16, q_20, q_23, q_24, q_32, q_42, q_43, q_45, q_47, q_48, q_50, q_57, q_59, q_60, q_61, q_62, q_63, q_64, q_66, q_91, q_93, q_97, q_99, q_122, q_144, q_255, q_256, q_300, q_380, q_400, q_620, q_999, q_1000, q_4095, q_4096, q_9999, q_65536, q_99999, q_31, nI_add, pk_mul, nE, nL, nT, nM31, nShl, ib_nI, nI_clamp, bI_n0, bI_n1, bI_nar, uI_r, uI_l, uL_r, uL_i, uL_p, uA_r, uA_l, bV_some, bU_some, nar_n0, nar_n1, and_self, and_true, true_and, and_false, false_and, if_true, if_false, eq_self, Bool.false_eq_true, Bool.true_eq_false, not_true_eq_false, not_false_eq_true, ↓reduceIte, nlT, nlF, ntT, ntF, neT, neF, ieT, ieF, decide_true, decide_false, Bool.not_true, Bool.not_false, Bool.and_true, Bool.true_and, Bool.and_false, Bool.false_and, Bool.or_true, Bool.true_or, Bool.or_false, Bool.false_or, h.wk, h.ak, h.ki, h.dnb, x_has, donB_bit, hbit, nSub, nx_and, nA31, nx_or, k4, k6, c1', eb, k1]
          exact ⟨(_, _), rfl⟩
        · subst k6
          simp (disch := omega) only [s40_0, s40_1, s40_3, s40_4, s40_5, s40_6, s40_7, s40_8, s40_9, s40_10, s40_12, s40_13, s40_14, s40_15, s40_18, s40_20, s40_21, s40_25, s40_26, s40_29, s40_32, s40_34, s40_35, s40_38, s40_40, s40_41, s40_44, s40_46, s40_48, s40_51, s40_52, s40_53, s40_54, s40_55, s40_56, s40_59, s40_61, s40_62, s40_63, s40_64, s40_67, s40_70, s40_72, s40_74, s40_75, s40_78, s40_80, s40_83, s40_86, s40_87, s40_90, s40_92, s40_93, s40_95, s40_96, s40_99, s40_101, s40_102, s40_104, s40_105, s40_106, s40_108, s40_111, s40_114, s40_116, q_0, q_1, q_2, q_3, q_4, q_5, q_6, q_7, q_8, q_9, q_10, q_11, q_12, q_13, q_14, q_16, q_20, q_23, q_24, q_32, q_42, q_43, q_45, q_47, q_48, q_50, q_57, q_59, q_60, q_61, q_62, q_63, q_64, q_66, q_91, q_93, q_97, q_99, q_122, q_144, q_255, q_256, q_300, q_380, q_400, q_620, q_999, q_1000, q_4095, q_4096, q_9999, q_65536, q_99999, q_31, nI_add, pk_mul, nE, nL, nT, nM31, nShl, ib_nI, nI_clamp, bI_n0, bI_n1, bI_nar, uI_r, uI_l, uL_r, uL_i, uL_p, uA_r, uA_l, bV_some, bU_some, nar_n0, nar_n1, and_self, and_true, true_and, and_false, false_and, if_true, if_false, eq_self, Bool.false_eq_true, Bool.true_eq_false, not_true_eq_false, not_false_eq_true, ↓reduceIte, nlT, nlF, ntT, ntF, neT, neF, ieT, ieF, decide_true, decide_false, Bool.not_true, Bool.not_false, Bool.and_true, Bool.true_and, Bool.and_false, Bool.false_and, Bool.or_true, Bool.true_or, Bool.or_false, Bool.false_or, h.wk, h.ak, h.ki, h.dnb, x_has, donB_bit, hbit, nSub, nx_and, nA31, nx_or, k4, c1', eb, k1]
          exact ⟨(_, _), rfl⟩
  · intro s _
    show run 40 0 23 _ _ _ = _
    rw [s40_23]
    simp (disch := omega) only [s40_0, s40_1, s40_3, s40_4, s40_5, s40_6, s40_7, s40_8, s40_9, s40_10, s40_12, s40_13, s40_14, s40_15, s40_18, s40_20, s40_21, s40_25, s40_26, s40_29, s40_32, s40_34, s40_35, s40_38, s40_40, s40_41, s40_44, s40_46, s40_48, s40_51, s40_52, s40_53, s40_54, s40_55, s40_56, s40_59, s40_61, s40_62, s40_63, s40_64, s40_67, s40_70, s40_72, s40_74, s40_75, s40_78, s40_80, s40_83, s40_86, s40_87, s40_90, s40_92, s40_93, s40_95, s40_96, s40_99, s40_101, s40_102, s40_104, s40_105, s40_106, s40_108, s40_111, s40_114, s40_116, q_0, q_1, q_2, q_3, q_4, q_5, q_6, q_7, q_8, q_9, q_10, q_11, q_12, q_13, q_14, q_16, q_20, q_23, q_24, q_32, q_42, q_43, q_45, q_47, q_48, q_50, q_57, q_59, q_60, q_61, q_62, q_63, q_64, q_66, q_91, q_93, q_97, q_99, q_122, q_144, q_255, q_256, q_300, q_380, q_400, q_620, q_999, q_1000, q_4095, q_4096, q_9999, q_65536, q_99999, q_31, nI_add, pk_mul, nE, nL, nT, nM31, nShl, ib_nI, nI_clamp, bI_n0, bI_n1, bI_nar, uI_r, uI_l, uL_r, uL_i, uL_p, uA_r, uA_l, bV_some, bU_some, nar_n0, nar_n1, and_self, and_true, true_and, and_false, false_and, if_true, if_false, eq_self, Bool.false_eq_true, Bool.true_eq_false, not_true_eq_false, not_false_eq_true, ↓reduceIte, nlT, nlF, ntT, ntF, neT, neF, ieT, ieF, decide_true, decide_false, Bool.not_true, Bool.not_false, Bool.and_true, Bool.true_and, Bool.and_false, Bool.false_and, Bool.or_true, Bool.true_or, Bool.or_false, Bool.false_or, h.wk]
    rfl
theorem m_needs {S : Sto} {A : Tn} (h : RepM S A) (hw : WF A) {w a b : Nat} (hv : w < 12) (ha : a < 12) (hb : b < 12) : call 159 0 [vR 50 0, vI (nI w), vI (nI a), vI (nI b)] S = some (some (vI (bI (ndB A w a b))), S) := by
  have hT := hw.th
  have hW := hw.W hv
  show run 159 0 0 [vR 50 0, vI (nI w), vI (nI a), vI (nI b), vU, vU, vU] [] S = _
  simp only [s159_0, s159_1, s159_3, s159_4]
  refine upS (σ := av) (I := fun _ _ => True) (F := fun i s => run 159 0 6 [vR 50 0, vI (nI w), vI (nI a), vI (nI b), vI (bI (ex (ndP A w a b) i)), vI (nI i), s] [] S) (Q := fun z => z = some (some (vI (bI (ndB A w a b))), S)) (N := A 0 1) ?_ ?_ 0 vU (by omega) trivial
  · intro i s hi _
    refine Or.inr ?_
    have ea : call 151 0 [vR 50 0, vI (nI a), vI (nI i)] S = some (some (vI (bI (owB A a i))), S) := m_owns h hw (by omega) (by omega)
    have eb : call 151 0 [vR 50 0, vI (nI b), vI (nI i)] S = some (some (vI (bI (owB A b i))), S) := m_owns h hw (by omega) (by omega)
    show ∃ s', _ ∧ run 159 0 6 _ _ _ = run 159 0 6 _ _ _
    rw [s159_6, ex_s]
    cases c1 : (A 11 w).testBit i with
    | false =>
      have e : ndP A w a b i = false := by simp [ndP, c1]
      simp (disch := omega) only [s159_0, s159_1, s159_3, s159_4, s159_8, s159_9, s159_12, s159_13, s159_14, s159_17, s159_18, s159_21, s159_22, s159_23, s159_25, s159_28, s159_31, s159_32, s159_33, s159_35, s159_38, s159_41, s159_42, s159_43, s159_45, s159_48, s159_51, s159_52, s159_55, s159_56, s159_58, s159_60, s159_63, s159_65, s159_68, s159_69, s159_72, s159_73, s159_74, s159_75, s159_78, s159_79, s159_80, s159_82, s159_85, s159_88, s159_89, s159_92, s159_93, s159_94, s159_95, s159_98, s159_99, s159_100, s159_102, s159_105, s159_108, s159_109, s159_112, s159_113, s159_115, s159_118, s159_121, s159_123, q_0, q_1, q_2, q_3, q_4, q_5, q_6, q_7, q_8, q_9, q_10, q_11, q_12, q_13, q_14, q_16, q_20, q_23, q_24, q_32, q_42, q_43, q_45, q_47, q_48, q_50, q_57, q_59, q_60, q_61, q_62, q_63, q_64, q_66, q_91, q_93, q_97, q_99, q_122, q_144, q_255, q_256, q_300, q_380, q_400, q_620, q_999, q_1000, q_4095, q_4096, q_9999, q_65536, q_99999, q_31, nI_add, pk_mul, nE, nL, nT, nM31, nShl, ib_nI, nI_clamp, bI_n0, bI_n1, bI_nar, uI_r, uI_l, uL_r, uL_i, uL_p, uA_r, uA_l, bV_some, bU_some, nar_n0, nar_n1, and_self, and_true, true_and, and_false, false_and, if_true, if_false, eq_self, Bool.false_eq_true, Bool.true_eq_false, not_true_eq_false, not_false_eq_true, ↓reduceIte, nlT, nlF, ntT, ntF, neT, neF, ieT, ieF, decide_true, decide_false, Bool.not_true, Bool.not_false, Bool.and_true, Bool.true_and, Bool.and_false, Bool.false_and, Bool.or_true, Bool.true_or, Bool.or_false, Bool.false_or, h.sc, h.se, m_has, c1, e]
      exact ⟨_, rfl⟩
    | true =>
      have e : ndP A w a b i = (owB A a i && owB A b i || A 10 w == a && owB A b i || A 10 w == b && owB A a i) := by simp [ndP, c1]
      rw [e]
      have e4 : (A 10 w == a) = decide (A 10 w = a) := rfl
      have e5 : (A 10 w == b) = decide (A 10 w = b) := rfl
      rw [e4, e5]
      cases c2 : owB A a i <;> cases c3 : owB A b i <;> by_cases c4 : A 10 w = a <;> by_cases c5 : A 10 w = b <;> cases c0 : ex (ndP A w a b) i <;> (simp (disch := omega) only [s159_0, s159_1, s159_3, s159_4, s159_8, s159_9, s159_12, s159_13, s159_14, s159_17, s159_18, s159_21, s159_22, s159_23, s159_25, s159_28, s159_31, s159_32, s159_33, s159_35, s159_38, s159_41, s159_42, s159_43, s159_45, s159_48, s159_51, s159_52, s159_55, s159_56, s159_58, s159_60, s159_63, s159_65, s159_68, s159_69, s159_72, s159_73, s159_74, s159_75, s159_78, s159_79, s159_80, s159_82, s159_85, s159_88, s159_89, s159_92, s159_93, s159_94, s159_95, s159_98, s159_99, s159_100, s159_102, s159_105, s159_108, s159_109, s159_112, s159_113, s159_115, s159_118, s159_121, s159_123, q_0, q_1, q_2, q_3, q_4, q_5, q_6, q_7, q_8, q_9, q_10, q_11, q_12, q_13, q_14, q_16, q_20, q_23, q_24, q_32, q_42, q_43, q_45, q_47, q_48, q_50, q_57, q_59, q_60, q_61, q_62, q_63, q_64, q_66, q_91, q_93, q_97, q_99, q_122, q_144, q_255, q_256, q_300, q_380, q_400, q_620, q_999, q_1000, q_4095, q_4096, q_9999, q_65536, q_99999, q_31, nI_add, pk_mul, nE, nL, nT, nM31, nShl, ib_nI, nI_clamp, bI_n0, bI_n1, bI_nar, uI_r, uI_l, uL_r, uL_i, uL_p, uA_r, uA_l, bV_some, bU_some, nar_n0, nar_n1, and_self, and_true, true_and, and_false, false_and, if_true, if_false, eq_self, Bool.false_eq_true, Bool.true_eq_false, not_true_eq_false, not_false_eq_true, ↓reduceIte, nlT, nlF, ntT, ntF, neT, neF, ieT, ieF, decide_true, decide_false, Bool.not_true, Bool.not_false, Bool.and_true, Bool.true_and, Bool.and_false, Bool.false_and, Bool.or_true, Bool.true_or, Bool.or_false, Bool.false_or, h.sc, h.se, h.ak, m_has, c1, ea, eb, c2, c3, c4, c5, c0]; first | exact ⟨_, trivial, rfl⟩ | exact ⟨_, rfl⟩)
  · intro s _
    show run 159 0 6 _ _ _ = _
    rw [s159_6]
    simp (disch := omega) only [s159_0, s159_1, s159_3, s159_4, s159_8, s159_9, s159_12, s159_13, s159_14, s159_17, s159_18, s159_21, s159_22, s159_23, s159_25, s159_28, s159_31, s159_32, s159_33, s159_35, s159_38, s159_41, s159_42, s159_43, s159_45, s159_48, s159_51, s159_52, s159_55, s159_56, s159_58, s159_60, s159_63, s159_65, s159_68, s159_69, s159_72, s159_73, s159_74, s159_75, s159_78, s159_79, s159_80, s159_82, s159_85, s159_88, s159_89, s159_92, s159_93, s159_94, s159_95, s159_98, s159_99, s159_100, s159_102, s159_105, s159_108, s159_109, s159_112, s159_113, s159_115, s159_118, s159_121, s159_123, q_0, q_1, q_2, q_3, q_4, q_5, q_6, q_7, q_8, q_9, q_10, q_11, q_12, q_13, q_14, q_16, q_20, q_23, q_24, q_32, q_42, q_43, q_45, q_47, q_48, q_50, q_57, q_59, q_60, q_61, q_62, q_63, q_64, q_66, q_91, q_93, q_97, q_99, q_122, q_144, q_255, q_256, q_300, q_380, q_400, q_620, q_999, q_1000, q_4095, q_4096, q_9999, q_65536, q_99999, q_31, nI_add, pk_mul, nE, nL, nT, nM31, nShl, ib_nI, nI_clamp, bI_n0, bI_n1, bI_nar, uI_r, uI_l, uL_r, uL_i, uL_p, uA_r, uA_l, bV_some, bU_some, nar_n0, nar_n1, and_self, and_true, true_and, and_false, false_and, if_true, if_false, eq_self, Bool.false_eq_true, Bool.true_eq_false, not_true_eq_false, not_false_eq_true, ↓reduceIte, nlT, nlF, ntT, ntF, neT, neF, ieT, ieF, decide_true, decide_false, Bool.not_true, Bool.not_false, Bool.and_true, Bool.true_and, Bool.and_false, Bool.false_and, Bool.or_true, Bool.true_or, Bool.or_false, Bool.false_or, h.sc]
    rfl
theorem m_stops {S : Sto} {A : Tn} (h : RepM S A) (hw : WF A) {a b : Nat} (ha : a < 12) (hb : b < 12) : call 158 0 [vR 50 0, vI (nI a), vI (nI b)] S = some (some (vI (nI (ct (ndW A a b) (A 0 2)))), S) := by
  have hWk := hw.wk
  show run 158 0 0 [vR 50 0, vI (nI a), vI (nI b), vU, vU] [] S = _
  simp only [s158_0, s158_1, s158_2, s158_3]
  refine up_ (F := fun i => run 158 0 5 [vR 50 0, vI (nI a), vI (nI b), vI (nI (ct (ndW A a b) i)), vI (nI i)] [] S) (N := A 0 2) ?_ ?_ 0 (by omega)
  · intro i hi
    have hd := hw.dn (w := i) (by omega)
    have e1 := m_needs h hw (w := i) (by omega) ha hb
    show run 158 0 5 _ _ _ = run 158 0 5 _ _ _
    rw [s158_5, ct_ss]
    by_cases c1 : A 14 i = 0
    · cases c2 : ndB A i a b with
      | false =>
        have e : ndW A a b i = false := by simp [ndW, c2]
        rw [c2] at e1
        simp (disch := omega) only [s158_0, s158_1, s158_2, s158_3, s158_7, s158_8, s158_11, s158_12, s158_13, s158_16, s158_17, s158_18, s158_21, s158_23, s158_24, s158_27, s158_28, s158_30, s158_31, s158_32, s158_35, s158_38, s158_39, s158_42, s158_43, s158_44, s158_45, s158_48, s158_51, s158_52, q_0, q_1, q_2, q_3, q_4, q_5, q_6, q_7, q_8, q_9, q_10, q_11, q_12, q_13, q_14, q_16, q_20, q_23, q_24, q_32, q_42, q_43, q_45, q_47, q_48, q_50, q_57, q_59, q_60, q_61, q_62, q_63, q_64, q_66, q_91, q_93, q_97, q_99, q_122, q_144, q_255, q_256, q_300, q_380, q_400, q_620, q_999, q_1000, q_4095, q_4096, q_9999, q_65536, q_99999, q_31, nI_add, pk_mul, nE, nL, nT, nM31, nShl, ib_nI, nI_clamp, bI_n0, bI_n1, bI_nar, uI_r, uI_l, uL_r, uL_i, uL_p, uA_r, uA_l, bV_some, bU_some, nar_n0, nar_n1, and_self, and_true, true_and, and_false, false_and, if_true, if_false, eq_self, Bool.false_eq_true, Bool.true_eq_false, not_true_eq_false, not_false_eq_true, ↓reduceIte, nlT, nlF, ntT, ntF, neT, neF, ieT, ieF, decide_true, decide_false, Bool.not_true, Bool.not_false, Bool.and_true, Bool.true_and, Bool.and_false, Bool.false_and, Bool.or_true, Bool.true_or, Bool.or_false, Bool.false_or, h.sc, h.dn, c1, e1, e]
      | true =>
        have e : ndW A a b i = true := by simp [ndW, c2, c1]
        rw [c2] at e1
        simp (disch := omega) only [s158_0, s158_1, s158_2, s158_3, s158_7, s158_8, s158_11, s158_12, s158_13, s158_16, s158_17, s158_18, s158_21, s158_23, s158_24, s158_27, s158_28, s158_30, s158_31, s158_32, s158_35, s158_38, s158_39, s158_42, s158_43, s158_44, s158_45, s158_48, s158_51, s158_52, q_0, q_1, q_2, q_3, q_4, q_5, q_6, q_7, q_8, q_9, q_10, q_11, q_12, q_13, q_14, q_16, q_20, q_23, q_24, q_32, q_42, q_43, q_45, q_47, q_48, q_50, q_57, q_59, q_60, q_61, q_62, q_63, q_64, q_66, q_91, q_93, q_97, q_99, q_122, q_144, q_255, q_256, q_300, q_380, q_400, q_620, q_999, q_1000, q_4095, q_4096, q_9999, q_65536, q_99999, q_31, nI_add, pk_mul, nE, nL, nT, nM31, nShl, ib_nI, nI_clamp, bI_n0, bI_n1, bI_nar, uI_r, uI_l, uL_r, uL_i, uL_p, uA_r, uA_l, bV_some, bU_some, nar_n0, nar_n1, and_self, and_true, true_and, and_false, false_and, if_true, if_false, eq_self, Bool.false_eq_true, Bool.true_eq_false, not_true_eq_false, not_false_eq_true, ↓reduceIte, nlT, nlF, ntT, ntF, neT, neF, ieT, ieF, decide_true, decide_false, Bool.not_true, Bool.not_false, Bool.and_true, Bool.true_and, Bool.and_false, Bool.false_and, Bool.or_true, Bool.true_or, Bool.or_false, Bool.false_or, h.sc, h.dn, c1, e1, e]
    · have e : ndW A a b i = false := by simp [ndW, c1]
      simp (disch := omega) only [s158_0, s158_1, s158_2, s158_3, s158_7, s158_8, s158_11, s158_12, s158_13, s158_16, s158_17, s158_18, s158_21, s158_23, s158_24, s158_27, s158_28, s158_30, s158_31, s158_32, s158_35, s158_38, s158_39, s158_42, s158_43, s158_44, s158_45, s158_48, s158_51, s158_52, q_0, q_1, q_2, q_3, q_4, q_5, q_6, q_7, q_8, q_9, q_10, q_11, q_12, q_13, q_14, q_16, q_20, q_23, q_24, q_32, q_42, q_43, q_45, q_47, q_48, q_50, q_57, q_59, q_60, q_61, q_62, q_63, q_64, q_66, q_91, q_93, q_97, q_99, q_122, q_144, q_255, q_256, q_300, q_380, q_400, q_620, q_999, q_1000, q_4095, q_4096, q_9999, q_65536, q_99999, q_31, nI_add, pk_mul, nE, nL, nT, nM31, nShl, ib_nI, nI_clamp, bI_n0, bI_n1, bI_nar, uI_r, uI_l, uL_r, uL_i, uL_p, uA_r, uA_l, bV_some, bU_some, nar_n0, nar_n1, and_self, and_true, true_and, and_false, false_and, if_true, if_false, eq_self, Bool.false_eq_true, Bool.true_eq_false, not_true_eq_false, not_false_eq_true, ↓reduceIte, nlT, nlF, ntT, ntF, neT, neF, ieT, ieF, decide_true, decide_false, Bool.not_true, Bool.not_false, Bool.and_true, Bool.true_and, Bool.and_false, Bool.false_and, Bool.or_true, Bool.true_or, Bool.or_false, Bool.false_or, h.sc, h.dn, c1, e]
  · show run 158 0 5 _ _ _ = _
    rw [s158_5]
    simp (disch := omega) only [s158_0, s158_1, s158_2, s158_3, s158_7, s158_8, s158_11, s158_12, s158_13, s158_16, s158_17, s158_18, s158_21, s158_23, s158_24, s158_27, s158_28, s158_30, s158_31, s158_32, s158_35, s158_38, s158_39, s158_42, s158_43, s158_44, s158_45, s158_48, s158_51, s158_52, q_0, q_1, q_2, q_3, q_4, q_5, q_6, q_7, q_8, q_9, q_10, q_11, q_12, q_13, q_14, q_16, q_20, q_23, q_24, q_32, q_42, q_43, q_45, q_47, q_48, q_50, q_57, q_59, q_60, q_61, q_62, q_63, q_64, q_66, q_91, q_93, q_97, q_99, q_122, q_144, q_255, q_256, q_300, q_380, q_400, q_620, q_999, q_1000, q_4095, q_4096, q_9999, q_65536, q_99999, q_31, nI_add, pk_mul, nE, nL, nT, nM31, nShl, ib_nI, nI_clamp, bI_n0, bI_n1, bI_nar, uI_r, uI_l, uL_r, uL_i, uL_p, uA_r, uA_l, bV_some, bU_some, nar_n0, nar_n1, and_self, and_true, true_and, and_false, false_and, if_true, if_false, eq_self, Bool.false_eq_true, Bool.true_eq_false, not_true_eq_false, not_false_eq_true, ↓reduceIte, nlT, nlF, ntT, ntF, neT, neF, ieT, ieF, decide_true, decide_false, Bool.not_true, Bool.not_false, Bool.and_true, Bool.true_and, Bool.and_false, Bool.false_and, Bool.or_true, Bool.true_or, Bool.or_false, Bool.false_or, h.sc]
theorem ndS_lt {A : Tn} (hw : WF A) (a b : Nat) : ndS A a b < 2 ^ 12 := Nat.lt_of_lt_of_le (bN_lt _ _) (Nat.pow_le_pow_right (by decide) hw.wk)
theorem br_stops {A : Tn} (hw : WF A) (a b : Nat) : pop (ndS A a b) = ct (ndW A a b) (A 0 2) := pop_bN _ (by have := hw.wk; omega)
def o_two (A : Tn) (a b w : Int32) : Int32 := if (!decide (a = b) && lsB a (A 0 0) && lsB b (A 0 0)) = true then (if w.toInt = 0 then nI (A 4 (12 * a.toNatClampNeg + b.toNatClampNeg)) - nI 9 else if w.toInt = 1 then nI (A 5 (12 * a.toNatClampNeg + b.toNatClampNeg)) else if w.toInt = 2 then nI (ct (fun t => owB A a.toNatClampNeg t && owB A b.toNatClampNeg t) (A 0 1)) else if w.toInt = 3 then nI (A 6 (12 * a.toNatClampNeg + b.toNatClampNeg)) else if w.toInt = 4 then nI (ct (ndW A a.toNatClampNeg b.toNatClampNeg) (A 0 2)) else -nI 100) else -nI 100
theorem two_v {A : Tn} {a b : Int32} (hw : WF A) (h : (!decide (a = b) && lsB a (A 0 0) && lsB b (A 0 0)) = true) : ∃ i j, i < A 0 0 ∧ j < A 0 0 ∧ i ≠ j ∧ a = nI i ∧ b = nI j := by
  have hP := hw.pe
  simp only [Bool.and_eq_true, Bool.not_eq_true', decide_eq_false_iff_not] at h
  obtain ⟨i, hi, rfl⟩ := lsB_t h.1.2 (by omega)
  obtain ⟨j, hj, rfl⟩ := lsB_t h.2 (by omega)
  exact ⟨i, j, hi, hj, fun e => h.1.1 (by rw [e]), rfl, rfl⟩
theorem c_two {S : Sto} {A : Tn} (h : RepC S 0 A) (hw : WF A) (a b w : Int32) : call 105 0 [vR 0 0, vI a, vI b, vI w] S = some (some (vI (o_two A a b w)), S) := by
  have hP := hw.pe
  show run 105 0 0 [vR 0 0, vI a, vI b, vI w] [] S = _
  unfold o_two
  cases e : (!decide (a = b) && lsB a (A 0 0) && lsB b (A 0 0)) with
  | false => simp (disch := omega) only [s105_0, s105_1, s105_4, s105_5, s105_6, s105_9, s105_12, s105_14, s105_15, s105_16, s105_52, s105_53, s105_56, s105_59, s105_60, s105_62, s105_63, s105_64, s105_65, s105_66, s105_67, s105_68, s105_71, s105_72, s105_73, s105_76, s105_79, s105_80, s105_83, s105_84, s105_85, s105_86, s105_89, s105_90, s105_91, s105_94, s105_95, s105_96, s105_99, s105_102, s105_103, s105_105, s105_106, s105_107, s105_108, s105_109, s105_110, s105_111, s105_114, s105_115, s105_118, s105_119, s105_120, s105_123, s105_126, s105_127, s105_129, q_0, q_1, q_2, q_3, q_4, q_5, q_6, q_7, q_8, q_9, q_10, q_11, q_12, q_13, q_14, q_16, q_20, q_23, q_24, q_32, q_42, q_43, q_45, q_47, q_48, q_50, q_57, q_59, q_60, q_61, q_62, q_63, q_64, q_66, q_91, q_93, q_97, q_99, q_122, q_144, q_255, q_256, q_300, q_380, q_400, q_620, q_999, q_1000, q_4095, q_4096, q_9999, q_65536, q_99999, q_31, nI_add, pk_mul, nE, nL, nT, nM31, nShl, ib_nI, nI_clamp, bI_n0, bI_n1, bI_nar, uI_r, uI_l, uL_r, uL_i, uL_p, uA_r, uA_l, bV_some, bU_some, nar_n0, nar_n1, and_self, and_true, true_and, and_false, false_and, if_true, if_false, eq_self, Bool.false_eq_true, Bool.true_eq_false, not_true_eq_false, not_false_eq_true, ↓reduceIte, nlT, nlF, ntT, ntF, neT, neF, ieT, ieF, decide_true, decide_false, Bool.not_true, Bool.not_false, Bool.and_true, Bool.true_and, Bool.and_false, Bool.false_and, Bool.or_true, Bool.true_or, Bool.or_false, Bool.false_or, x_2 h, e, q_100]
  | true =>
    have e' := e
    obtain ⟨i, j, hi, hj, hij, rfl, rfl⟩ := two_v hw e'
    have e1 := x_2 h (nI i) (nI j)
    rw [e] at e1
    have e3 := x_sharedBy_A h hw (a := i) (b := j) (by omega) (by omega)
    rw [br_shared hw hij] at e3
    have e4 := x_needing h hw (a := i) (b := j) (by omega) (by omega) hij
    have l4 := ndS_lt hw i j
    have e5 := x_atOdds_A h (a := i) (b := j) (by omega) (by omega)
    have e6 := br_stops hw i j
    have q5 := hw.qu (i := 12 * i + j) (by omega)
    have e7 : (if (A 5 (12 * i + j) == 1) = false then (some (some (vI (nI 0)), S) : Res) else some (some (vI (nI 1)), S)) = some (some (vI (nI (A 5 (12 * i + j)))), S) := by
      by_cases e : A 5 (12 * i + j) = 1
      · simp [e]
      · have e2 : A 5 (12 * i + j) = 0 := by omega
        simp [e2]
    rw [nI_clamp (by omega), nI_clamp (by omega)]
    by_cases w0 : w.toInt = 0
    · simp (disch := omega) only [s105_0, s105_1, s105_4, s105_5, s105_6, s105_9, s105_12, s105_14, s105_15, s105_16, s105_52, s105_53, s105_56, s105_59, s105_60, s105_62, s105_63, s105_64, s105_65, s105_66, s105_67, s105_68, s105_71, s105_72, s105_73, s105_76, s105_79, s105_80, s105_83, s105_84, s105_85, s105_86, s105_89, s105_90, s105_91, s105_94, s105_95, s105_96, s105_99, s105_102, s105_103, s105_105, s105_106, s105_107, s105_108, s105_109, s105_110, s105_111, s105_114, s105_115, s105_118, s105_119, s105_120, s105_123, s105_126, s105_127, s105_129, q_0, q_1, q_2, q_3, q_4, q_5, q_6, q_7, q_8, q_9, q_10, q_11, q_12, q_13, q_14, q_16, q_20, q_23, q_24, q_32, q_42, q_43, q_45, q_47, q_48, q_50, q_57, q_59, q_60, q_61, q_62, q_63, q_64, q_66, q_91, q_93, q_97, q_99, q_122, q_144, q_255, q_256, q_300, q_380, q_400, q_620, q_999, q_1000, q_4095, q_4096, q_9999, q_65536, q_99999, q_31, nI_add, pk_mul, nE, nL, nT, nM31, nShl, ib_nI, nI_clamp, bI_n0, bI_n1, bI_nar, uI_r, uI_l, uL_r, uL_i, uL_p, uA_r, uA_l, bV_some, bU_some, nar_n0, nar_n1, and_self, and_true, true_and, and_false, false_and, if_true, if_false, eq_self, Bool.false_eq_true, Bool.true_eq_false, not_true_eq_false, not_false_eq_true, ↓reduceIte, nlT, nlF, ntT, ntF, neT, neF, ieT, ieF, decide_true, decide_false, Bool.not_true, Bool.not_false, Bool.and_true, Bool.true_and, Bool.and_false, Bool.false_and, Bool.or_true, Bool.true_or, Bool.or_false, Bool.false_or, e1, q_100, h.li, h.gi, x_bitCount, e3, e4, e5, e6, e7, Nat.mul_comm i 12]
    by_cases w1 : w.toInt = 1
    · simp (disch := omega) only [s105_0, s105_1, s105_4, s105_5, s105_6, s105_9, s105_12, s105_14, s105_15, s105_16, s105_52, s105_53, s105_56, s105_59, s105_60, s105_62, s105_63, s105_64, s105_65, s105_66, s105_67, s105_68, s105_71, s105_72, s105_73, s105_76, s105_79, s105_80, s105_83, s105_84, s105_85, s105_86, s105_89, s105_90, s105_91, s105_94, s105_95, s105_96, s105_99, s105_102, s105_103, s105_105, s105_106, s105_107, s105_108, s105_109, s105_110, s105_111, s105_114, s105_115, s105_118, s105_119, s105_120, s105_123, s105_126, s105_127, s105_129, q_0, q_1, q_2, q_3, q_4, q_5, q_6, q_7, q_8, q_9, q_10, q_11, q_12, q_13, q_14, q_16, q_20, q_23, q_24, q_32, q_42, q_43, q_45, q_47, q_48, q_50, q_57, q_59, q_60, q_61, q_62, q_63, q_64, q_66, q_91, q_93, q_97, q_99, q_122, q_144, q_255, q_256, q_300, q_380, q_400, q_620, q_999, q_1000, q_4095, q_4096, q_9999, q_65536, q_99999, q_31, nI_add, pk_mul, nE, nL, nT, nM31, nShl, ib_nI, nI_clamp, bI_n0, bI_n1, bI_nar, uI_r, uI_l, uL_r, uL_i, uL_p, uA_r, uA_l, bV_some, bU_some, nar_n0, nar_n1, and_self, and_true, true_and, and_false, false_and, if_true, if_false, eq_self, Bool.false_eq_true, Bool.true_eq_false, not_true_eq_false, not_false_eq_true, ↓reduceIte, nlT, nlF, ntT, ntF, neT, neF, ieT, ieF, decide_true, decide_false, Bool.not_true, Bool.not_false, Bool.and_true, Bool.true_and, Bool.and_false, Bool.false_and, Bool.or_true, Bool.true_or, Bool.or_false, Bool.false_or, e1, q_100, h.li, h.gi, x_bitCount, e3, e4, e5, e6, e7, Nat.mul_comm i 12]
    by_cases w2 : w.toInt = 2
    · simp (disch := omega) only [s105_0, s105_1, s105_4, s105_5, s105_6, s105_9, s105_12, s105_14, s105_15, s105_16, s105_52, s105_53, s105_56, s105_59, s105_60, s105_62, s105_63, s105_64, s105_65, s105_66, s105_67, s105_68, s105_71, s105_72, s105_73, s105_76, s105_79, s105_80, s105_83, s105_84, s105_85, s105_86, s105_89, s105_90, s105_91, s105_94, s105_95, s105_96, s105_99, s105_102, s105_103, s105_105, s105_106, s105_107, s105_108, s105_109, s105_110, s105_111, s105_114, s105_115, s105_118, s105_119, s105_120, s105_123, s105_126, s105_127, s105_129, q_0, q_1, q_2, q_3, q_4, q_5, q_6, q_7, q_8, q_9, q_10, q_11, q_12, q_13, q_14, q_16, q_20, q_23, q_24, q_32, q_42, q_43, q_45, q_47, q_48, q_50, q_57, q_59, q_60, q_61, q_62, q_63, q_64, q_66, q_91, q_93, q_97, q_99, q_122, q_144, q_255, q_256, q_300, q_380, q_400, q_620, q_999, q_1000, q_4095, q_4096, q_9999, q_65536, q_99999, q_31, nI_add, pk_mul, nE, nL, nT, nM31, nShl, ib_nI, nI_clamp, bI_n0, bI_n1, bI_nar, uI_r, uI_l, uL_r, uL_i, uL_p, uA_r, uA_l, bV_some, bU_some, nar_n0, nar_n1, and_self, and_true, true_and, and_false, false_and, if_true, if_false, eq_self, Bool.false_eq_true, Bool.true_eq_false, not_true_eq_false, not_false_eq_true, ↓reduceIte, nlT, nlF, ntT, ntF, neT, neF, ieT, ieF, decide_true, decide_false, Bool.not_true, Bool.not_false, Bool.and_true, Bool.true_and, Bool.and_false, Bool.false_and, Bool.or_true, Bool.true_or, Bool.or_false, Bool.false_or, e1, q_100, h.li, h.gi, x_bitCount, e3, e4, e5, e6, e7, Nat.mul_comm i 12]
    by_cases w3 : w.toInt = 3
    · simp (disch := omega) only [s105_0, s105_1, s105_4, s105_5, s105_6, s105_9, s105_12, s105_14, s105_15, s105_16, s105_52, s105_53, s105_56, s105_59, s105_60, s105_62, s105_63, s105_64, s105_65, s105_66, s105_67, s105_68, s105_71, s105_72, s105_73, s105_76, s105_79, s105_80, s105_83, s105_84, s105_85, s105_86, s105_89, s105_90, s105_91, s105_94, s105_95, s105_96, s105_99, s105_102, s105_103, s105_105, s105_106, s105_107, s105_108, s105_109, s105_110, s105_111, s105_114, s105_115, s105_118, s105_119, s105_120, s105_123, s105_126, s105_127, s105_129, q_0, q_1, q_2, q_3, q_4, q_5, q_6, q_7, q_8, q_9, q_10, q_11, q_12, q_13, q_14, q_16, q_20, q_23, q_24, q_32, q_42, q_43, q_45, q_47, q_48, q_50, q_57, q_59, q_60, q_61, q_62, q_63, q_64, q_66, q_91, q_93, q_97, q_99, q_122, q_144, q_255, q_256, q_300, q_380, q_400, q_620, q_999, q_1000, q_4095, q_4096, q_9999, q_65536, q_99999, q_31, nI_add, pk_mul, nE, nL, nT, nM31, nShl, ib_nI, nI_clamp, bI_n0, bI_n1, bI_nar, uI_r, uI_l, uL_r, uL_i, uL_p, uA_r, uA_l, bV_some, bU_some, nar_n0, nar_n1, and_self, and_true, true_and, and_false, false_and, if_true, if_false, eq_self, Bool.false_eq_true, Bool.true_eq_false, not_true_eq_false, not_false_eq_true, ↓reduceIte, nlT, nlF, ntT, ntF, neT, neF, ieT, ieF, decide_true, decide_false, Bool.not_true, Bool.not_false, Bool.and_true, Bool.true_and, Bool.and_false, Bool.false_and, Bool.or_true, Bool.true_or, Bool.or_false, Bool.false_or, e1, q_100, h.li, h.gi, x_bitCount, e3, e4, e5, e6, e7, Nat.mul_comm i 12]
    by_cases w4 : w.toInt = 4
    · simp (disch := omega) only [s105_0, s105_1, s105_4, s105_5, s105_6, s105_9, s105_12, s105_14, s105_15, s105_16, s105_52, s105_53, s105_56, s105_59, s105_60, s105_62, s105_63, s105_64, s105_65, s105_66, s105_67, s105_68, s105_71, s105_72, s105_73, s105_76, s105_79, s105_80, s105_83, s105_84, s105_85, s105_86, s105_89, s105_90, s105_91, s105_94, s105_95, s105_96, s105_99, s105_102, s105_103, s105_105, s105_106, s105_107, s105_108, s105_109, s105_110, s105_111, s105_114, s105_115, s105_118, s105_119, s105_120, s105_123, s105_126, s105_127, s105_129, q_0, q_1, q_2, q_3, q_4, q_5, q_6, q_7, q_8, q_9, q_10, q_11, q_12, q_13, q_14, q_16, q_20, q_23, q_24, q_32, q_42, q_43, q_45, q_47, q_48, q_50, q_57, q_59, q_60, q_61, q_62, q_63, q_64, q_66, q_91, q_93, q_97, q_99, q_122, q_144, q_255, q_256, q_300, q_380, q_400, q_620, q_999, q_1000, q_4095, q_4096, q_9999, q_65536, q_99999, q_31, nI_add, pk_mul, nE, nL, nT, nM31, nShl, ib_nI, nI_clamp, bI_n0, bI_n1, bI_nar, uI_r, uI_l, uL_r, uL_i, uL_p, uA_r, uA_l, bV_some, bU_some, nar_n0, nar_n1, and_self, and_true, true_and, and_false, false_and, if_true, if_false, eq_self, Bool.false_eq_true, Bool.true_eq_false, not_true_eq_false, not_false_eq_true, ↓reduceIte, nlT, nlF, ntT, ntF, neT, neF, ieT, ieF, decide_true, decide_false, Bool.not_true, Bool.not_false, Bool.and_true, Bool.true_and, Bool.and_false, Bool.false_and, Bool.or_true, Bool.true_or, Bool.or_false, Bool.false_or, e1, q_100, h.li, h.gi, x_bitCount, e3, e4, e5, e6, e7, Nat.mul_comm i 12]
    simp (disch := omega) only [s105_0, s105_1, s105_4, s105_5, s105_6, s105_9, s105_12, s105_14, s105_15, s105_16, s105_52, s105_53, s105_56, s105_59, s105_60, s105_62, s105_63, s105_64, s105_65, s105_66, s105_67, s105_68, s105_71, s105_72, s105_73, s105_76, s105_79, s105_80, s105_83, s105_84, s105_85, s105_86, s105_89, s105_90, s105_91, s105_94, s105_95, s105_96, s105_99, s105_102, s105_103, s105_105, s105_106, s105_107, s105_108, s105_109, s105_110, s105_111, s105_114, s105_115, s105_118, s105_119, s105_120, s105_123, s105_126, s105_127, s105_129, q_0, q_1, q_2, q_3, q_4, q_5, q_6, q_7, q_8, q_9, q_10, q_11, q_12, q_13, q_14, q_16, q_20, q_23, q_24, q_32, q_42, q_43, q_45, q_47, q_48, q_50, q_57, q_59, q_60, q_61, q_62, q_63, q_64, q_66, q_91, q_93, q_97, q_99, q_122, q_144, q_255, q_256, q_300, q_380, q_400, q_620, q_999, q_1000, q_4095, q_4096, q_9999, q_65536, q_99999, q_31, nI_add, pk_mul, nE, nL, nT, nM31, nShl, ib_nI, nI_clamp, bI_n0, bI_n1, bI_nar, uI_r, uI_l, uL_r, uL_i, uL_p, uA_r, uA_l, bV_some, bU_some, nar_n0, nar_n1, and_self, and_true, true_and, and_false, false_and, if_true, if_false, eq_self, Bool.false_eq_true, Bool.true_eq_false, not_true_eq_false, not_false_eq_true, ↓reduceIte, nlT, nlF, ntT, ntF, neT, neF, ieT, ieF, decide_true, decide_false, Bool.not_true, Bool.not_false, Bool.and_true, Bool.true_and, Bool.and_false, Bool.false_and, Bool.or_true, Bool.true_or, Bool.or_false, Bool.false_or, e1, q_100, h.li, h.gi, x_bitCount, e3, e4, e5, e6, e7, Nat.mul_comm i 12]
theorem r_two {S : Sto} {A : Tn} (h : RepM S A) (hw : WF A) (a b w : Int32) : call 157 0 [vR 50 0, vI a, vI b, vI w] S = some (some (vI (o_two A a b w)), S) := by
  have hP := hw.pe
  show run 157 0 0 [vR 50 0, vI a, vI b, vI w] [] S = _
  unfold o_two
  cases e : (!decide (a = b) && lsB a (A 0 0) && lsB b (A 0 0)) with
  | false => simp (disch := omega) only [s157_0, s157_1, s157_2, s157_3, s157_6, s157_9, s157_11, s157_12, s157_13, s157_48, s157_49, s157_52, s157_54, s157_55, s157_56, s157_57, s157_58, s157_59, s157_60, s157_61, s157_64, s157_66, s157_67, s157_68, s157_69, s157_70, s157_71, s157_72, s157_73, s157_74, s157_75, s157_78, s157_79, s157_80, s157_83, s157_85, s157_86, s157_87, s157_88, s157_89, s157_90, s157_91, s157_92, s157_93, s157_94, s157_97, s157_98, s157_100, q_0, q_1, q_2, q_3, q_4, q_5, q_6, q_7, q_8, q_9, q_10, q_11, q_12, q_13, q_14, q_16, q_20, q_23, q_24, q_32, q_42, q_43, q_45, q_47, q_48, q_50, q_57, q_59, q_60, q_61, q_62, q_63, q_64, q_66, q_91, q_93, q_97, q_99, q_122, q_144, q_255, q_256, q_300, q_380, q_400, q_620, q_999, q_1000, q_4095, q_4096, q_9999, q_65536, q_99999, q_31, nI_add, pk_mul, nE, nL, nT, nM31, nShl, ib_nI, nI_clamp, bI_n0, bI_n1, bI_nar, uI_r, uI_l, uL_r, uL_i, uL_p, uA_r, uA_l, bV_some, bU_some, nar_n0, nar_n1, and_self, and_true, true_and, and_false, false_and, if_true, if_false, eq_self, Bool.false_eq_true, Bool.true_eq_false, not_true_eq_false, not_false_eq_true, ↓reduceIte, nlT, nlF, ntT, ntF, neT, neF, ieT, ieF, decide_true, decide_false, Bool.not_true, Bool.not_false, Bool.and_true, Bool.true_and, Bool.and_false, Bool.false_and, Bool.or_true, Bool.true_or, Bool.or_false, Bool.false_or, m_2 h hw, e, q_100]
  | true =>
    have e' := e
    obtain ⟨i, j, hi, hj, hij, rfl, rfl⟩ := two_v hw e'
    have e1 := m_2 h hw (nI i) (nI j)
    rw [e] at e1
    have e3 := m_shared h hw (a := i) (b := j) (by omega) (by omega)
    have e4 := m_stops h hw (a := i) (b := j) (by omega) (by omega)
    rw [nI_clamp (by omega), nI_clamp (by omega)]
    by_cases w0 : w.toInt = 0
    · simp (disch := omega) only [s157_0, s157_1, s157_2, s157_3, s157_6, s157_9, s157_11, s157_12, s157_13, s157_48, s157_49, s157_52, s157_54, s157_55, s157_56, s157_57, s157_58, s157_59, s157_60, s157_61, s157_64, s157_66, s157_67, s157_68, s157_69, s157_70, s157_71, s157_72, s157_73, s157_74, s157_75, s157_78, s157_79, s157_80, s157_83, s157_85, s157_86, s157_87, s157_88, s157_89, s157_90, s157_91, s157_92, s157_93, s157_94, s157_97, s157_98, s157_100, q_0, q_1, q_2, q_3, q_4, q_5, q_6, q_7, q_8, q_9, q_10, q_11, q_12, q_13, q_14, q_16, q_20, q_23, q_24, q_32, q_42, q_43, q_45, q_47, q_48, q_50, q_57, q_59, q_60, q_61, q_62, q_63, q_64, q_66, q_91, q_93, q_97, q_99, q_122, q_144, q_255, q_256, q_300, q_380, q_400, q_620, q_999, q_1000, q_4095, q_4096, q_9999, q_65536, q_99999, q_31, nI_add, pk_mul, nE, nL, nT, nM31, nShl, ib_nI, nI_clamp, bI_n0, bI_n1, bI_nar, uI_r, uI_l, uL_r, uL_i, uL_p, uA_r, uA_l, bV_some, bU_some, nar_n0, nar_n1, and_self, and_true, true_and, and_false, false_and, if_true, if_false, eq_self, Bool.false_eq_true, Bool.true_eq_false, not_true_eq_false, not_false_eq_true, ↓reduceIte, nlT, nlF, ntT, ntF, neT, neF, ieT, ieF, decide_true, decide_false, Bool.not_true, Bool.not_false, Bool.and_true, Bool.true_and, Bool.and_false, Bool.false_and, Bool.or_true, Bool.true_or, Bool.or_false, Bool.false_or, e1, q_100, h.li, h.qu, h.gi, e3, e4]
    by_cases w1 : w.toInt = 1
    · simp (disch := omega) only [s157_0, s157_1, s157_2, s157_3, s157_6, s157_9, s157_11, s157_12, s157_13, s157_48, s157_49, s157_52, s157_54, s157_55, s157_56, s157_57, s157_58, s157_59, s157_60, s157_61, s157_64, s157_66, s157_67, s157_68, s157_69, s157_70, s157_71, s157_72, s157_73, s157_74, s157_75, s157_78, s157_79, s157_80, s157_83, s157_85, s157_86, s157_87, s157_88, s157_89, s157_90, s157_91, s157_92, s157_93, s157_94, s157_97, s157_98, s157_100, q_0, q_1, q_2, q_3, q_4, q_5, q_6, q_7, q_8, q_9, q_10, q_11, q_12, q_13, q_14, q_16, q_20, q_23, q_24, q_32, q_42, q_43, q_45, q_47, q_48, q_50, q_57, q_59, q_60, q_61, q_62, q_63, q_64, q_66, q_91, q_93, q_97, q_99, q_122, q_144, q_255, q_256, q_300, q_380, q_400, q_620, q_999, q_1000, q_4095, q_4096, q_9999, q_65536, q_99999, q_31, nI_add, pk_mul, nE, nL, nT, nM31, nShl, ib_nI, nI_clamp, bI_n0, bI_n1, bI_nar, uI_r, uI_l, uL_r, uL_i, uL_p, uA_r, uA_l, bV_some, bU_some, nar_n0, nar_n1, and_self, and_true, true_and, and_false, false_and, if_true, if_false, eq_self, Bool.false_eq_true, Bool.true_eq_false, not_true_eq_false, not_false_eq_true, ↓reduceIte, nlT, nlF, ntT, ntF, neT, neF, ieT, ieF, decide_true, decide_false, Bool.not_true, Bool.not_false, Bool.and_true, Bool.true_and, Bool.and_false, Bool.false_and, Bool.or_true, Bool.true_or, Bool.or_false, Bool.false_or, e1, q_100, h.li, h.qu, h.gi, e3, e4]
    by_cases w2 : w.toInt = 2
    · simp (disch := omega) only [s157_0, s157_1, s157_2, s157_3, s157_6, s157_9, s157_11, s157_12, s157_13, s157_48, s157_49, s157_52, s157_54, s157_55, s157_56, s157_57, s157_58, s157_59, s157_60, s157_61, s157_64, s157_66, s157_67, s157_68, s157_69, s157_70, s157_71, s157_72, s157_73, s157_74, s157_75, s157_78, s157_79, s157_80, s157_83, s157_85, s157_86, s157_87, s157_88, s157_89, s157_90, s157_91, s157_92, s157_93, s157_94, s157_97, s157_98, s157_100, q_0, q_1, q_2, q_3, q_4, q_5, q_6, q_7, q_8, q_9, q_10, q_11, q_12, q_13, q_14, q_16, q_20, q_23, q_24, q_32, q_42, q_43, q_45, q_47, q_48, q_50, q_57, q_59, q_60, q_61, q_62, q_63, q_64, q_66, q_91, q_93, q_97, q_99, q_122, q_144, q_255, q_256, q_300, q_380, q_400, q_620, q_999, q_1000, q_4095, q_4096, q_9999, q_65536, q_99999, q_31, nI_add, pk_mul, nE, nL, nT, nM31, nShl, ib_nI, nI_clamp, bI_n0, bI_n1, bI_nar, uI_r, uI_l, uL_r, uL_i, uL_p, uA_r, uA_l, bV_some, bU_some, nar_n0, nar_n1, and_self, and_true, true_and, and_false, false_and, if_true, if_false, eq_self, Bool.false_eq_true, Bool.true_eq_false, not_true_eq_false, not_false_eq_true, ↓reduceIte, nlT, nlF, ntT, ntF, neT, neF, ieT, ieF, decide_true, decide_false, Bool.not_true, Bool.not_false, Bool.and_true, Bool.true_and, Bool.and_false, Bool.false_and, Bool.or_true, Bool.true_or, Bool.or_false, Bool.false_or, e1, q_100, h.li, h.qu, h.gi, e3, e4]
    by_cases w3 : w.toInt = 3
    · simp (disch := omega) only [s157_0, s157_1, s157_2, s157_3, s157_6, s157_9, s157_11, s157_12, s157_13, s157_48, s157_49, s157_52, s157_54, s157_55, s157_56, s157_57, s157_58, s157_59, s157_60, s157_61, s157_64, s157_66, s157_67, s157_68, s157_69, s157_70, s157_71, s157_72, s157_73, s157_74, s157_75, s157_78, s157_79, s157_80, s157_83, s157_85, s157_86, s157_87, s157_88, s157_89, s157_90, s157_91, s157_92, s157_93, s157_94, s157_97, s157_98, s157_100, q_0, q_1, q_2, q_3, q_4, q_5, q_6, q_7, q_8, q_9, q_10, q_11, q_12, q_13, q_14, q_16, q_20, q_23, q_24, q_32, q_42, q_43, q_45, q_47, q_48, q_50, q_57, q_59, q_60, q_61, q_62, q_63, q_64, q_66, q_91, q_93, q_97, q_99, q_122, q_144, q_255, q_256, q_300, q_380, q_400, q_620, q_999, q_1000, q_4095, q_4096, q_9999, q_65536, q_99999, q_31, nI_add, pk_mul, nE, nL, nT, nM31, nShl, ib_nI, nI_clamp, bI_n0, bI_n1, bI_nar, uI_r, uI_l, uL_r, uL_i, uL_p, uA_r, uA_l, bV_some, bU_some, nar_n0, nar_n1, and_self, and_true, true_and, and_false, false_and, if_true, if_false, eq_self, Bool.false_eq_true, Bool.true_eq_false, not_true_eq_false, not_false_eq_true, ↓reduceIte, nlT, nlF, ntT, ntF, neT, neF, ieT, ieF, decide_true, decide_false, Bool.not_true, Bool.not_false, Bool.and_true, Bool.true_and, Bool.and_false, Bool.false_and, Bool.or_true, Bool.true_or, Bool.or_false, Bool.false_or, e1, q_100, h.li, h.qu, h.gi, e3, e4]
    by_cases w4 : w.toInt = 4
    · simp (disch := omega) only [s157_0, s157_1, s157_2, s157_3, s157_6, s157_9, s157_11, s157_12, s157_13, s157_48, s157_49, s157_52, s157_54, s157_55, s157_56, s157_57, s157_58, s157_59, s157_60, s157_61, s157_64, s157_66, s157_67, s157_68, s157_69, s157_70, s157_71, s157_72, s157_73, s157_74, s157_75, s157_78, s157_79, s157_80, s157_83, s157_85, s157_86, s157_87, s157_88, s157_89, s157_90, s157_91, s157_92, s157_93, s157_94, s157_97, s157_98, s157_100, q_0, q_1, q_2, q_3, q_4, q_5, q_6, q_7, q_8, q_9, q_10, q_11, q_12, q_13, q_14, q_16, q_20, q_23, q_24, q_32, q_42, q_43, q_45, q_47, q_48, q_50, q_57, q_59, q_60, q_61, q_62, q_63, q_64, q_66, q_91, q_93, q_97, q_99, q_122, q_144, q_255, q_256, q_300, q_380, q_400, q_620, q_999, q_1000, q_4095, q_4096, q_9999, q_65536, q_99999, q_31, nI_add, pk_mul, nE, nL, nT, nM31, nShl, ib_nI, nI_clamp, bI_n0, bI_n1, bI_nar, uI_r, uI_l, uL_r, uL_i, uL_p, uA_r, uA_l, bV_some, bU_some, nar_n0, nar_n1, and_self, and_true, true_and, and_false, false_and, if_true, if_false, eq_self, Bool.false_eq_true, Bool.true_eq_false, not_true_eq_false, not_false_eq_true, ↓reduceIte, nlT, nlF, ntT, ntF, neT, neF, ieT, ieF, decide_true, decide_false, Bool.not_true, Bool.not_false, Bool.and_true, Bool.true_and, Bool.and_false, Bool.false_and, Bool.or_true, Bool.true_or, Bool.or_false, Bool.false_or, e1, q_100, h.li, h.qu, h.gi, e3, e4]
    simp (disch := omega) only [s157_0, s157_1, s157_2, s157_3, s157_6, s157_9, s157_11, s157_12, s157_13, s157_48, s157_49, s157_52, s157_54, s157_55, s157_56, s157_57, s157_58, s157_59, s157_60, s157_61, s157_64, s157_66, s157_67, s157_68, s157_69, s157_70, s157_71, s157_72, s157_73, s157_74, s157_75, s157_78, s157_79, s157_80, s157_83, s157_85, s157_86, s157_87, s157_88, s157_89, s157_90, s157_91, s157_92, s157_93, s157_94, s157_97, s157_98, s157_100, q_0, q_1, q_2, q_3, q_4, q_5, q_6, q_7, q_8, q_9, q_10, q_11, q_12, q_13, q_14, q_16, q_20, q_23, q_24, q_32, q_42, q_43, q_45, q_47, q_48, q_50, q_57, q_59, q_60, q_61, q_62, q_63, q_64, q_66, q_91, q_93, q_97, q_99, q_122, q_144, q_255, q_256, q_300, q_380, q_400, q_620, q_999, q_1000, q_4095, q_4096, q_9999, q_65536, q_99999, q_31, nI_add, pk_mul, nE, nL, nT, nM31, nShl, ib_nI, nI_clamp, bI_n0, bI_n1, bI_nar, uI_r, uI_l, uL_r, uL_i, uL_p, uA_r, uA_l, bV_some, bU_some, nar_n0, nar_n1, and_self, and_true, true_and, and_false, false_and, if_true, if_false, eq_self, Bool.false_eq_true, Bool.true_eq_false, not_true_eq_false, not_false_eq_true, ↓reduceIte, nlT, nlF, ntT, ntF, neT, neF, ieT, ieF, decide_true, decide_false, Bool.not_true, Bool.not_false, Bool.and_true, Bool.true_and, Bool.and_false, Bool.false_and, Bool.or_true, Bool.true_or, Bool.or_false, Bool.false_or, e1, q_100, h.li, h.qu, h.gi, e3, e4]
