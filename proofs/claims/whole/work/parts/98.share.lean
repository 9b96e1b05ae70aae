/-! shares -/
def fc : Nat → Nat
  | 0 => 1
  | n + 1 => (n + 1) * fc n
theorem fc_s (n : Nat) : fc (n + 1) = (n + 1) * fc n := rfl
theorem fc_pos : ∀ n, 0 < fc n
  | 0 => by decide
  | n + 1 => Nat.mul_pos (by omega) (fc_pos n)
theorem x_orders (S : Sto) {n : Nat} (hn : n ≤ 6) : call 38 0 [vI (nI n)] S = some (some (vI (nI (fc n))), S) := by
  show run 38 0 0 [vI (nI n), vU, vU] [] S = _
  simp (disch := omega) only [s38_0, s38_1, s38_2, s38_3, s38_5, s38_6, s38_9, s38_10, s38_11, s38_12, s38_13, s38_16, s38_19, s38_20, q_0, q_1, q_2, q_3, q_4, q_5, q_6, q_7, q_8, q_9, q_10, q_11, q_12, q_13, q_14, q_16, q_20, q_23, q_24, q_32, q_42, q_43, q_45, q_47, q_48, q_50, q_57, q_59, q_60, q_61, q_62, q_63, q_64, q_66, q_91, q_93, q_97, q_99, q_122, q_144, q_255, q_256, q_300, q_380, q_400, q_620, q_999, q_1000, q_4095, q_4096, q_9999, q_65536, q_99999, q_31, nI_add, pk_mul, nE, nL, nT, nM31, nShl, ib_nI, nI_clamp, bI_n0, bI_n1, bI_nar, uI_r, uI_l, uL_r, uL_i, uL_p, uA_r, uA_l, bV_some, bU_some, nar_n0, nar_n1, and_self, and_true, true_and, and_false, false_and, if_true, if_false, eq_self, Bool.false_eq_true, Bool.true_eq_false, not_true_eq_false, not_false_eq_true, ↓reduceIte, nlT, nlF, ntT, ntF, neT, neF, ieT, ieF, decide_true, decide_false, Bool.not_true, Bool.not_false, Bool.and_true, Bool.true_and, Bool.and_false, Bool.false_and, Bool.or_true, Bool.true_or, Bool.or_false, Bool.false_or]
  by_cases h1 : n = 0
  · subst h1
    rw [s38_4]
    simp (disch := omega) only [s38_0, s38_1, s38_2, s38_3, s38_5, s38_6, s38_9, s38_10, s38_11, s38_12, s38_13, s38_16, s38_19, s38_20, q_0, q_1, q_2, q_3, q_4, q_5, q_6, q_7, q_8, q_9, q_10, q_11, q_12, q_13, q_14, q_16, q_20, q_23, q_24, q_32, q_42, q_43, q_45, q_47, q_48, q_50, q_57, q_59, q_60, q_61, q_62, q_63, q_64, q_66, q_91, q_93, q_97, q_99, q_122, q_144, q_255, q_256, q_300, q_380, q_400, q_620, q_999, q_1000, q_4095, q_4096, q_9999, q_65536, q_99999, q_31, nI_add, pk_mul, nE, nL, nT, nM31, nShl, ib_nI, nI_clamp, bI_n0, bI_n1, bI_nar, uI_r, uI_l, uL_r, uL_i, uL_p, uA_r, uA_l, bV_some, bU_some, nar_n0, nar_n1, and_self, and_true, true_and, and_false, false_and, if_true, if_false, eq_self, Bool.false_eq_true, Bool.true_eq_false, not_true_eq_false, not_false_eq_true, ↓reduceIte, nlT, nlF, ntT, ntF, neT, neF, ieT, ieF, decide_true, decide_false, Bool.not_true, Bool.not_false, Bool.and_true, Bool.true_and, Bool.and_false, Bool.false_and, Bool.or_true, Bool.true_or, Bool.or_false, Bool.false_or]
    rfl
  · have key := up_ (F := fun i => run 38 0 4 [vI (nI n), vI (nI (fc (i + 1))), vI (nI (i + 2))] [] S) (N := n - 1) (R := some (some (vI (nI (fc n))), S)) ?_ ?_ 0 (by omega)
    · exact key
    · intro i hi
      have e : fc (i + 1) * (i + 2) = fc (i + 1 + 1) := by rw [fc_s (i + 1), Nat.mul_comm]
      show run 38 0 4 _ _ _ = run 38 0 4 _ _ _
      rw [s38_4]
      simp (disch := omega) only [s38_0, s38_1, s38_2, s38_3, s38_5, s38_6, s38_9, s38_10, s38_11, s38_12, s38_13, s38_16, s38_19, s38_20, q_0, q_1, q_2, q_3, q_4, q_5, q_6, q_7, q_8, q_9, q_10, q_11, q_12, q_13, q_14, q_16, q_20, q_23, q_24, q_32, q_42, q_43, q_45, q_47, q_48, q_50, q_57, q_59, q_60, q_61, q_62, q_63, q_64, q_66, q_91, q_93, q_97, q_99, q_122, q_144, q_255, q_256, q_300, q_380, q_400, q_620, q_999, q_1000, q_4095, q_4096, q_9999, q_65536, q_99999, q_31, nI_add, pk_mul, nE, nL, nT, nM31, nShl, ib_nI, nI_clamp, bI_n0, bI_n1, bI_nar, uI_r, uI_l, uL_r, uL_i, uL_p, uA_r, uA_l, bV_some, bU_some, nar_n0, nar_n1, and_self, and_true, true_and, and_false, false_and, if_true, if_false, eq_self, Bool.false_eq_true, Bool.true_eq_false, not_true_eq_false, not_false_eq_true, ↓reduceIte, nlT, nlF, ntT, ntF, neT, neF, ieT, ieF, decide_true, decide_false, Bool.not_true, Bool.not_false, Bool.and_true, Bool.true_and, Bool.and_false, Bool.false_and, Bool.or_true, Bool.true_or, Bool.or_false, Bool.false_or, e]
    · show run 38 0 4 _ _ _ = _
      rw [s38_4, show n - 1 + 1 = n by omega, show n - 1 + 2 = n + 1 by omega]
      simp (disch := omega) only [s38_0, s38_1, s38_2, s38_3, s38_5, s38_6, s38_9, s38_10, s38_11, s38_12, s38_13, s38_16, s38_19, s38_20, q_0, q_1, q_2, q_3, q_4, q_5, q_6, q_7, q_8, q_9, q_10, q_11, q_12, q_13, q_14, q_16, q_20, q_23, q_24, q_32, q_42, q_43, q_45, q_47, q_48, q_50, q_57, q_59, q_60, q_61, q_62, q_63, q_64, q_66, q_91, q_93, q_97, q_99, q_122, q_144, q_255, q_256, q_300, q_380, q_400, q_620, q_999, q_1000, q_4095, q_4096, q_9999, q_65536, q_99999, q_31, nI_add, pk_mul, nE, nL, nT, nM31, nShl, ib_nI, nI_clamp, bI_n0, bI_n1, bI_nar, uI_r, uI_l, uL_r, uL_i, uL_p, uA_r, uA_l, bV_some, bU_some, nar_n0, nar_n1, and_self, and_true, true_and, and_false, false_and, if_true, if_false, eq_self, Bool.false_eq_true, Bool.true_eq_false, not_true_eq_false, not_false_eq_true, ↓reduceIte, nlT, nlF, ntT, ntF, neT, neF, ieT, ieF, decide_true, decide_false, Bool.not_true, Bool.not_false, Bool.and_true, Bool.true_and, Bool.and_false, Bool.false_and, Bool.or_true, Bool.true_or, Bool.or_false, Bool.false_or]
theorem m_orders (S : Sto) {n : Nat} (hn : n ≤ 6) : call 232 0 [vI (nI n)] S = some (some (vL (lN (fc n))), S) := by
  have l1 : (1 : Int64) = lN 1 := rfl
  show run 232 0 0 [vI (nI n), vU, vU, vU] [] S = _
  simp (disch := omega) only [s232_0, s232_1, s232_2, s232_3, s232_5, s232_6, s232_9, s232_10, s232_11, s232_12, s232_13, s232_14, s232_17, s232_20, s232_21, q_0, q_1, q_2, q_3, q_4, q_5, q_6, q_7, q_8, q_9, q_10, q_11, q_12, q_13, q_14, q_16, q_20, q_23, q_24, q_32, q_42, q_43, q_45, q_47, q_48, q_50, q_57, q_59, q_60, q_61, q_62, q_63, q_64, q_66, q_91, q_93, q_97, q_99, q_122, q_144, q_255, q_256, q_300, q_380, q_400, q_620, q_999, q_1000, q_4095, q_4096, q_9999, q_65536, q_99999, q_31, nI_add, pk_mul, nE, nL, nT, nM31, nShl, ib_nI, nI_clamp, bI_n0, bI_n1, bI_nar, uI_r, uI_l, uL_r, uL_i, uL_p, uA_r, uA_l, bV_some, bU_some, nar_n0, nar_n1, and_self, and_true, true_and, and_false, false_and, if_true, if_false, eq_self, Bool.false_eq_true, Bool.true_eq_false, not_true_eq_false, not_false_eq_true, ↓reduceIte, nlT, nlF, ntT, ntF, neT, neF, ieT, ieF, decide_true, decide_false, Bool.not_true, Bool.not_false, Bool.and_true, Bool.true_and, Bool.and_false, Bool.false_and, Bool.or_true, Bool.true_or, Bool.or_false, Bool.false_or]
  by_cases h1 : n = 0
  · subst h1
    rw [s232_4]
    simp (disch := omega) only [s232_0, s232_1, s232_2, s232_3, s232_5, s232_6, s232_9, s232_10, s232_11, s232_12, s232_13, s232_14, s232_17, s232_20, s232_21, q_0, q_1, q_2, q_3, q_4, q_5, q_6, q_7, q_8, q_9, q_10, q_11, q_12, q_13, q_14, q_16, q_20, q_23, q_24, q_32, q_42, q_43, q_45, q_47, q_48, q_50, q_57, q_59, q_60, q_61, q_62, q_63, q_64, q_66, q_91, q_93, q_97, q_99, q_122, q_144, q_255, q_256, q_300, q_380, q_400, q_620, q_999, q_1000, q_4095, q_4096, q_9999, q_65536, q_99999, q_31, nI_add, pk_mul, nE, nL, nT, nM31, nShl, ib_nI, nI_clamp, bI_n0, bI_n1, bI_nar, uI_r, uI_l, uL_r, uL_i, uL_p, uA_r, uA_l, bV_some, bU_some, nar_n0, nar_n1, and_self, and_true, true_and, and_false, false_and, if_true, if_false, eq_self, Bool.false_eq_true, Bool.true_eq_false, not_true_eq_false, not_false_eq_true, ↓reduceIte, nlT, nlF, ntT, ntF, neT, neF, ieT, ieF, decide_true, decide_false, Bool.not_true, Bool.not_false, Bool.and_true, Bool.true_and, Bool.and_false, Bool.false_and, Bool.or_true, Bool.true_or, Bool.or_false, Bool.false_or]
    rfl
  · have key := up_ (F := fun i => run 232 0 4 [vI (nI n), vL (lN (fc (i + 1))), vU, vI (nI (i + 2))] [] S) (N := n - 1) (R := some (some (vL (lN (fc n))), S)) ?_ ?_ 0 (by omega)
    · exact key
    · intro i hi
      have e : fc (i + 1) * (i + 2) = fc (i + 1 + 1) := by rw [fc_s (i + 1), Nat.mul_comm]
      show run 232 0 4 _ _ _ = run 232 0 4 _ _ _
      rw [s232_4]
      simp (disch := omega) only [s232_0, s232_1, s232_2, s232_3, s232_5, s232_6, s232_9, s232_10, s232_11, s232_12, s232_13, s232_14, s232_17, s232_20, s232_21, q_0, q_1, q_2, q_3, q_4, q_5, q_6, q_7, q_8, q_9, q_10, q_11, q_12, q_13, q_14, q_16, q_20, q_23, q_24, q_32, q_42, q_43, q_45, q_47, q_48, q_50, q_57, q_59, q_60, q_61, q_62, q_63, q_64, q_66, q_91, q_93, q_97, q_99, q_122, q_144, q_255, q_256, q_300, q_380, q_400, q_620, q_999, q_1000, q_4095, q_4096, q_9999, q_65536, q_99999, q_31, nI_add, pk_mul, nE, nL, nT, nM31, nShl, ib_nI, nI_clamp, bI_n0, bI_n1, bI_nar, uI_r, uI_l, uL_r, uL_i, uL_p, uA_r, uA_l, bV_some, bU_some, nar_n0, nar_n1, and_self, and_true, true_and, and_false, false_and, if_true, if_false, eq_self, Bool.false_eq_true, Bool.true_eq_false, not_true_eq_false, not_false_eq_true, ↓reduceIte, nlT, nlF, ntT, ntF, neT, neF, ieT, ieF, decide_true, decide_false, Bool.not_true, Bool.not_false, Bool.and_true, Bool.true_and, Bool.and_false, Bool.false_and, Bool.or_true, Bool.true_or, Bool.or_false, Bool.false_or, nI_l, lN_mul, e]
    · show run 232 0 4 _ _ _ = _
      rw [s232_4, show n - 1 + 1 = n by omega, show n - 1 + 2 = n + 1 by omega]
      simp (disch := omega) only [s232_0, s232_1, s232_2, s232_3, s232_5, s232_6, s232_9, s232_10, s232_11, s232_12, s232_13, s232_14, s232_17, s232_20, s232_21, q_0, q_1, q_2, q_3, q_4, q_5, q_6, q_7, q_8, q_9, q_10, q_11, q_12, q_13, q_14, q_16, q_20, q_23, q_24, q_32, q_42, q_43, q_45, q_47, q_48, q_50, q_57, q_59, q_60, q_61, q_62, q_63, q_64, q_66, q_91, q_93, q_97, q_99, q_122, q_144, q_255, q_256, q_300, q_380, q_400, q_620, q_999, q_1000, q_4095, q_4096, q_9999, q_65536, q_99999, q_31, nI_add, pk_mul, nE, nL, nT, nM31, nShl, ib_nI, nI_clamp, bI_n0, bI_n1, bI_nar, uI_r, uI_l, uL_r, uL_i, uL_p, uA_r, uA_l, bV_some, bU_some, nar_n0, nar_n1, and_self, and_true, true_and, and_false, false_and, if_true, if_false, eq_self, Bool.false_eq_true, Bool.true_eq_false, not_true_eq_false, not_false_eq_true, ↓reduceIte, nlT, nlF, ntT, ntF, neT, neF, ieT, ieF, decide_true, decide_false, Bool.not_true, Bool.not_false, Bool.and_true, Bool.true_and, Bool.and_false, Bool.false_and, Bool.or_true, Bool.true_or, Bool.or_false, Bool.false_or]
theorem euc {d r : Nat} (hr : 0 < r) (h : r ≤ d) : 2 * (r * (d % r)) ≤ d * r := by
  have h1 := Nat.div_add_mod d r
  have h2 := Nat.mod_lt d hr
  have h3 : 1 ≤ d / r := (Nat.one_le_div_iff hr).mpr h
  have h4 : r * 1 ≤ r * (d / r) := Nat.mul_le_mul_left r h3
  have h5 : 2 * (d % r) ≤ d := by omega
  have h6 : r * (2 * (d % r)) ≤ r * d := Nat.mul_le_mul_left r h5
  have e1 : r * (2 * (d % r)) = 2 * (r * (d % r)) := by rw [Nat.mul_left_comm]
  have e2 : r * d = d * r := Nat.mul_comm _ _
  omega
theorem x_gcd (S : Sto) {a b : Nat} (ha : a < 2 ^ 29) (hb : b ≤ 720) : call 39 0 [vI (nI a), vI (nI b)] S = some (some (vI (nI (Nat.gcd a b))), S) := by
  show run 39 0 0 [vI (nI a), vI (nI b), vU, vU, vU, vU] [] S = _
  simp (disch := omega) only [s39_0, s39_1, s39_2, s39_3, s39_4, s39_5, s39_9, s39_11, s39_14, s39_15, s39_18, s39_19, s39_20, s39_21, s39_23, s39_24, s39_25, s39_27, s39_28, s39_31, s39_34, s39_35, q_0, q_1, q_2, q_3, q_4, q_5, q_6, q_7, q_8, q_9, q_10, q_11, q_12, q_13, q_14, q_16, q_20, q_23, q_24, q_32, q_42, q_43, q_45, q_47, q_48, q_50, q_57, q_59, q_60, q_61, q_62, q_63, q_64, q_66, q_91, q_93, q_97, q_99, q_122, q_144, q_255, q_256, q_300, q_380, q_400, q_620, q_999, q_1000, q_4095, q_4096, q_9999, q_65536, q_99999, q_31, nI_add, pk_mul, nE, nL, nT, nM31, nShl, ib_nI, nI_clamp, bI_n0, bI_n1, bI_nar, uI_r, uI_l, uL_r, uL_i, uL_p, uA_r, uA_l, bV_some, bU_some, nar_n0, nar_n1, and_self, and_true, true_and, and_false, false_and, if_true, if_false, eq_self, Bool.false_eq_true, Bool.true_eq_false, not_true_eq_false, not_false_eq_true, ↓reduceIte, nlT, nlF, ntT, ntF, neT, neF, ieT, ieF, decide_true, decide_false, Bool.not_true, Bool.not_false, Bool.and_true, Bool.true_and, Bool.and_false, Bool.false_and, Bool.or_true, Bool.true_or, Bool.or_false, Bool.false_or]
  have hp0 : a * b < 2 ^ 39 := by
    have h1 : a * b ≤ a * 720 := Nat.mul_le_mul_left a hb
    omega
  refine upS (σ := (Nat × Nat) × av) (I := fun i s => Nat.gcd s.1.1 s.1.2 = Nat.gcd a b ∧ s.1.1 < 2 ^ 31 ∧ s.1.2 < 2 ^ 31 ∧ ((i = 0 ∧ s.1.1 * s.1.2 < 2 ^ 39) ∨ (1 ≤ i ∧ s.1.2 ≤ s.1.1 ∧ s.1.1 * s.1.2 * 2 ^ (i - 1) < 2 ^ 39))) (F := fun i s => run 39 0 7 [vI (nI a), vI (nI b), vI (nI s.1.1), vI (nI s.1.2), vI (nI i), s.2] [] S) (Q := fun z => z = some (some (vI (nI (Nat.gcd a b))), S)) (N := 64) ?_ ?_ 0 ((a, b), vU) (by omega) ⟨rfl, by show a < 2 ^ 31; omega, by show b < 2 ^ 31; omega, Or.inl ⟨rfl, hp0⟩⟩
  · intro i s hi hI
    obtain ⟨⟨d, r⟩, x⟩ := s
    obtain ⟨i1, i2, i3, i4⟩ := hI
    simp only at i1 i2 i3 i4
    show run 39 0 7 [vI (nI a), vI (nI b), vI (nI d), vI (nI r), vI (nI i), x] [] S = _ ∨ ∃ s', _ ∧ run 39 0 7 [vI (nI a), vI (nI b), vI (nI d), vI (nI r), vI (nI i), x] [] S = _
    rw [s39_7]
    by_cases c : r = 0
    · subst c
      rw [Nat.gcd_zero_right] at i1
      refine Or.inl ?_
      rw [← i1]
      simp (disch := omega) only [s39_0, s39_1, s39_2, s39_3, s39_4, s39_5, s39_9, s39_11, s39_14, s39_15, s39_18, s39_19, s39_20, s39_21, s39_23, s39_24, s39_25, s39_27, s39_28, s39_31, s39_34, s39_35, q_0, q_1, q_2, q_3, q_4, q_5, q_6, q_7, q_8, q_9, q_10, q_11, q_12, q_13, q_14, q_16, q_20, q_23, q_24, q_32, q_42, q_43, q_45, q_47, q_48, q_50, q_57, q_59, q_60, q_61, q_62, q_63, q_64, q_66, q_91, q_93, q_97, q_99, q_122, q_144, q_255, q_256, q_300, q_380, q_400, q_620, q_999, q_1000, q_4095, q_4096, q_9999, q_65536, q_99999, q_31, nI_add, pk_mul, nE, nL, nT, nM31, nShl, ib_nI, nI_clamp, bI_n0, bI_n1, bI_nar, uI_r, uI_l, uL_r, uL_i, uL_p, uA_r, uA_l, bV_some, bU_some, nar_n0, nar_n1, and_self, and_true, true_and, and_false, false_and, if_true, if_false, eq_self, Bool.false_eq_true, Bool.true_eq_false, not_true_eq_false, not_false_eq_true, ↓reduceIte, nlT, nlF, ntT, ntF, neT, neF, ieT, ieF, decide_true, decide_false, Bool.not_true, Bool.not_false, Bool.and_true, Bool.true_and, Bool.and_false, Bool.false_and, Bool.or_true, Bool.true_or, Bool.or_false, Bool.false_or]
    · have hm := Nat.mod_lt d (Nat.pos_of_ne_zero c)
      refine Or.inr ⟨((r, d % r), vI (nI (d % r))), ⟨?_, i3, by show d % r < 2 ^ 31; omega, Or.inr ⟨by omega, by show d % r ≤ r; omega, ?_⟩⟩, ?_⟩
      · show Nat.gcd r (d % r) = _
        rw [← i1, Nat.gcd_comm d r, Nat.gcd_rec r d, Nat.gcd_comm]
      · show r * (d % r) * 2 ^ (i + 1 - 1) < 2 ^ 39
        rcases i4 with ⟨e0, i4⟩ | ⟨e1, e2, i4⟩
        · subst e0
          have : r * (d % r) ≤ r * d := Nat.mul_le_mul_left r (Nat.mod_le d r)
          have e3 : r * d = d * r := Nat.mul_comm _ _
          have e4 : (2 : Nat) ^ (0 + 1 - 1) = 1 := by decide
          rw [e4, Nat.mul_one]
          omega
        · have h1 := euc (Nat.pos_of_ne_zero c) e2
          have h2 : 2 * (r * (d % r)) * 2 ^ (i - 1) ≤ d * r * 2 ^ (i - 1) := Nat.mul_le_mul_right _ h1
          have h3 : r * (d % r) * 2 ^ (i + 1 - 1) = 2 * (r * (d % r)) * 2 ^ (i - 1) := by
            rw [show i + 1 - 1 = (i - 1) + 1 by omega, Nat.pow_succ, Nat.mul_comm (2 ^ (i - 1)) 2, ← Nat.mul_assoc, Nat.mul_comm (r * (d % r)) 2]
          omega
      · simp (disch := omega) only [s39_0, s39_1, s39_2, s39_3, s39_4, s39_5, s39_9, s39_11, s39_14, s39_15, s39_18, s39_19, s39_20, s39_21, s39_23, s39_24, s39_25, s39_27, s39_28, s39_31, s39_34, s39_35, q_0, q_1, q_2, q_3, q_4, q_5, q_6, q_7, q_8, q_9, q_10, q_11, q_12, q_13, q_14, q_16, q_20, q_23, q_24, q_32, q_42, q_43, q_45, q_47, q_48, q_50, q_57, q_59, q_60, q_61, q_62, q_63, q_64, q_66, q_91, q_93, q_97, q_99, q_122, q_144, q_255, q_256, q_300, q_380, q_400, q_620, q_999, q_1000, q_4095, q_4096, q_9999, q_65536, q_99999, q_31, nI_add, pk_mul, nE, nL, nT, nM31, nShl, ib_nI, nI_clamp, bI_n0, bI_n1, bI_nar, uI_r, uI_l, uL_r, uL_i, uL_p, uA_r, uA_l, bV_some, bU_some, nar_n0, nar_n1, and_self, and_true, true_and, and_false, false_and, if_true, if_false, eq_self, Bool.false_eq_true, Bool.true_eq_false, not_true_eq_false, not_false_eq_true, ↓reduceIte, nlT, nlF, ntT, ntF, neT, neF, ieT, ieF, decide_true, decide_false, Bool.not_true, Bool.not_false, Bool.and_true, Bool.true_and, Bool.and_false, Bool.false_and, Bool.or_true, Bool.true_or, Bool.or_false, Bool.false_or, nDiv, nRm]
  · intro s hI
    obtain ⟨⟨d, r⟩, x⟩ := s
    obtain ⟨i1, i2, i3, i4⟩ := hI
    simp only at i1 i2 i3 i4
    have hz : r = 0 := by
      rcases i4 with ⟨e0, _⟩ | ⟨_, e2, i4⟩
      · omega
      · apply Classical.byContradiction
        intro c
        have h1 : 1 * 1 ≤ d * r := Nat.mul_le_mul (by omega) (by omega)
        have h2 : 1 * 2 ^ (64 - 1) ≤ d * r * 2 ^ (64 - 1) := Nat.mul_le_mul_right _ (by omega)
        have h3 : (2 : Nat) ^ 39 < 1 * 2 ^ (64 - 1) := by decide
        omega
    subst hz
    rw [Nat.gcd_zero_right] at i1
    show run 39 0 7 [vI (nI a), vI (nI b), vI (nI d), vI (nI 0), vI (nI 64), x] [] S = _
    rw [s39_7, ← i1]
    simp (disch := omega) only [s39_0, s39_1, s39_2, s39_3, s39_4, s39_5, s39_9, s39_11, s39_14, s39_15, s39_18, s39_19, s39_20, s39_21, s39_23, s39_24, s39_25, s39_27, s39_28, s39_31, s39_34, s39_35, q_0, q_1, q_2, q_3, q_4, q_5, q_6, q_7, q_8, q_9, q_10, q_11, q_12, q_13, q_14, q_16, q_20, q_23, q_24, q_32, q_42, q_43, q_45, q_47, q_48, q_50, q_57, q_59, q_60, q_61, q_62, q_63, q_64, q_66, q_91, q_93, q_97, q_99, q_122, q_144, q_255, q_256, q_300, q_380, q_400, q_620, q_999, q_1000, q_4095, q_4096, q_9999, q_65536, q_99999, q_31, nI_add, pk_mul, nE, nL, nT, nM31, nShl, ib_nI, nI_clamp, bI_n0, bI_n1, bI_nar, uI_r, uI_l, uL_r, uL_i, uL_p, uA_r, uA_l, bV_some, bU_some, nar_n0, nar_n1, and_self, and_true, true_and, and_false, false_and, if_true, if_false, eq_self, Bool.false_eq_true, Bool.true_eq_false, not_true_eq_false, not_false_eq_true, ↓reduceIte, nlT, nlF, ntT, ntF, neT, neF, ieT, ieF, decide_true, decide_false, Bool.not_true, Bool.not_false, Bool.and_true, Bool.true_and, Bool.and_false, Bool.false_and, Bool.or_true, Bool.true_or, Bool.or_false, Bool.false_or]
theorem lNe {a b : Nat} (ha : a < 2 ^ 63) (hb : b < 2 ^ 63) : (lN a = lN b) = (a = b) := propext (pk_lEQ ha hb)
theorem m_gcd (S : Sto) {a b : Nat} (ha : a < 2 ^ 31) (hb : b < 2 ^ 31) : call 233 0 [vL (lN a), vL (lN b)] S = some (some (vL (lN (Nat.gcd a b))), S) := by
  have l0 : (0 : Int64) = lN 0 := rfl
  show run 233 0 0 [vL (lN a), vU, vL (lN b), vU, vU, vU, vU, vU, vU, vU] [] S = _
  simp only [s233_0, s233_1, s233_3, s233_4]
  refine dnS (σ := (Nat × Nat) × av × av) (I := fun s => Nat.gcd s.1.1 s.1.2 = Nat.gcd a b ∧ s.1.1 < 2 ^ 31 ∧ s.1.2 < 2 ^ 31) (F := fun s => run 233 0 6 [vL (lN a), vU, vL (lN b), vU, vL (lN s.1.1), vU, vL (lN s.1.2), vU, s.2.1, s.2.2] [] S) (Q := fun z => z = some (some (vL (lN (Nat.gcd a b))), S)) (fun s => s.1.1) ?_ ((a, b), vU, vU) ⟨rfl, ha, hb⟩
  intro s hI
  obtain ⟨⟨x, y⟩, u, v⟩ := s
  obtain ⟨i1, i2, i3⟩ := hI
  simp only at i1 i2 i3
  show run 233 0 6 [vL (lN a), vU, vL (lN b), vU, vL (lN x), vU, vL (lN y), vU, u, v] [] S = _ ∨ ∃ s', _ ∧ _ ∧ run 233 0 6 [vL (lN a), vU, vL (lN b), vU, vL (lN x), vU, vL (lN y), vU, u, v] [] S = _
  rw [s233_6]
  by_cases c : x = 0
  · subst c
    rw [Nat.gcd_zero_left] at i1
    refine Or.inl ?_
    rw [← i1]
    have z0 : (lN 0 = 0) = True := eq_true rfl
    simp (disch := omega) only [s233_0, s233_1, s233_3, s233_4, s233_8, s233_9, s233_10, s233_13, s233_15, s233_17, s233_18, s233_20, s233_22, s233_24, s233_26, s233_28, s233_31, s233_33, q_0, q_1, q_2, q_3, q_4, q_5, q_6, q_7, q_8, q_9, q_10, q_11, q_12, q_13, q_14, q_16, q_20, q_23, q_24, q_32, q_42, q_43, q_45, q_47, q_48, q_50, q_57, q_59, q_60, q_61, q_62, q_63, q_64, q_66, q_91, q_93, q_97, q_99, q_122, q_144, q_255, q_256, q_300, q_380, q_400, q_620, q_999, q_1000, q_4095, q_4096, q_9999, q_65536, q_99999, q_31, nI_add, pk_mul, nE, nL, nT, nM31, nShl, ib_nI, nI_clamp, bI_n0, bI_n1, bI_nar, uI_r, uI_l, uL_r, uL_i, uL_p, uA_r, uA_l, bV_some, bU_some, nar_n0, nar_n1, and_self, and_true, true_and, and_false, false_and, if_true, if_false, eq_self, Bool.false_eq_true, Bool.true_eq_false, not_true_eq_false, not_false_eq_true, ↓reduceIte, nlT, nlF, ntT, ntF, neT, neF, ieT, ieF, decide_true, decide_false, Bool.not_true, Bool.not_false, Bool.and_true, Bool.true_and, Bool.and_false, Bool.false_and, Bool.or_true, Bool.true_or, Bool.or_false, Bool.false_or, lc_eqn, z0]
  · have z0 : (lN x = 0) = False := eq_false (by rw [l0, pk_lEQ (by omega) (by decide)]; exact c)
    have hm := Nat.mod_lt y (Nat.pos_of_ne_zero c)
    have er := pk_lRem (a := y) (b := x) (by omega) (by omega) (by omega)
    refine Or.inr ⟨((y % x, x), vL (lN (y % x)), vU), ⟨?_, by show y % x < 2 ^ 31; omega, i2⟩, hm, ?_⟩
    · show Nat.gcd (y % x) x = _
      rw [← i1, Nat.gcd_rec x y]
    · simp (disch := omega) only [s233_0, s233_1, s233_3, s233_4, s233_8, s233_9, s233_10, s233_13, s233_15, s233_17, s233_18, s233_20, s233_22, s233_24, s233_26, s233_28, s233_31, s233_33, q_0, q_1, q_2, q_3, q_4, q_5, q_6, q_7, q_8, q_9, q_10, q_11, q_12, q_13, q_14, q_16, q_20, q_23, q_24, q_32, q_42, q_43, q_45, q_47, q_48, q_50, q_57, q_59, q_60, q_61, q_62, q_63, q_64, q_66, q_91, q_93, q_97, q_99, q_122, q_144, q_255, q_256, q_300, q_380, q_400, q_620, q_999, q_1000, q_4095, q_4096, q_9999, q_65536, q_99999, q_31, nI_add, pk_mul, nE, nL, nT, nM31, nShl, ib_nI, nI_clamp, bI_n0, bI_n1, bI_nar, uI_r, uI_l, uL_r, uL_i, uL_p, uA_r, uA_l, bV_some, bU_some, nar_n0, nar_n1, and_self, and_true, true_and, and_false, false_and, if_true, if_false, eq_self, Bool.false_eq_true, Bool.true_eq_false, not_true_eq_false, not_false_eq_true, ↓reduceIte, nlT, nlF, ntT, ntF, neT, neF, ieT, ieF, decide_true, decide_false, Bool.not_true, Bool.not_false, Bool.and_true, Bool.true_and, Bool.and_false, Bool.false_and, Bool.or_true, Bool.true_or, Bool.or_false, Bool.false_or, lc_eqn, z0, er]
theorem ct_sub {o : Nat} : ∀ n, n ≤ 12 → ct (fun s => dif s o == 0) (2 ^ n) ≤ 2 ^ ctp o n
  | 0, _ => by
    have := ct_le (fun s => dif s o == 0) 1
    exact this
  | n + 1, hn => by
    have ih := ct_sub (o := o) n (by omega)
    have h12 : 2 ^ n ≤ 2 ^ 12 := Nat.pow_le_pow_right (by decide) (by omega)
    have bits : ∀ s, s < 2 ^ n → ∀ i, (2 ^ n + s).testBit i = if i < n then s.testBit i else decide (i = n) := by
      intro s hs i
      have e := Nat.testBit_two_pow_mul_add 1 hs i
      rw [Nat.mul_one] at e
      rw [e]
      by_cases c : i < n
      · rw [if_pos c, if_pos c]
      · rw [if_neg c, if_neg c]
        rw [Bool.eq_iff_iff]
        simp only [decide_eq_true_eq, Nat.testBit_one_eq_true_iff_self_eq_zero]
        omega
    have e2 : 2 ^ (n + 1) = 2 ^ n + 2 ^ n := by rw [Nat.pow_succ]; omega
    rw [e2, ct_add, ctp_s]
    cases c : o.testBit n with
    | false =>
      have hz : ct (fun i => dif (2 ^ n + i) o == 0) (2 ^ n) = 0 := by
        have := ct_zero (P := fun i => dif (2 ^ n + i) o == 0) 0 (2 ^ n) (fun i _ hi => by
          show (dif (2 ^ n + i) o == 0) = false
          rw [beq_eq_false_iff_ne]
          intro e
          have h1 := (dif_0 (by omega)).mp e n (by rw [bits i (by omega), if_neg (by omega)]; simp)
          rw [c] at h1
          cases h1)
        rw [Nat.zero_add] at this
        exact this
      rw [hz]
      simpa using ih
    | true =>
      have hle : ct (fun i => dif (2 ^ n + i) o == 0) (2 ^ n) ≤ ct (fun s => dif s o == 0) (2 ^ n) := ct_mn (fun i hi h => by
        simp only [beq_iff_eq] at h ⊢
        rw [dif_0 (by omega)] at h ⊢
        intro k hk
        have hkn : k < n := by
          apply Classical.byContradiction
          intro hn2
          rw [tb_hi hi (i := k) (by omega)] at hk
          cases hk
        exact h k (by rw [bits i hi, if_pos hkn]; exact hk))
      rw [if_pos rfl, Nat.pow_succ]
      omega
theorem fs_ct {P : Nat → Bool} {t : Nat → Nat} {B : Nat} (ht : ∀ s, P s = true → t s ≤ B) : ∀ n, fsN (fun s => if P s = true then t s else 0) n ≤ B * ct P n
  | 0 => Nat.le_refl _
  | n + 1 => by
    have ih := fs_ct ht n
    rw [ct_ss]
    show fsN _ n + (if P n = true then t n else 0) ≤ _
    cases c : P n with
    | false => simpa using ih
    | true =>
      have := ht n c
      simp only [if_true]
      rw [Nat.mul_add, Nat.mul_one]
      omega
theorem op_mono {A : Tn} (hw : WF A) {p p' : Nat} (h : Sub p p') : Sub (opn A p) (opn A p') := by
  have hWk := hw.wk
  intro w hb
  unfold opn at hb ⊢
  rw [bN_bit] at hb ⊢
  simp only [Bool.and_eq_true, decide_eq_true_eq] at hb ⊢
  refine ⟨hb.1, ?_⟩
  unfold opP at hb ⊢
  have hc := crc_lt hw (w := w) (by omega)
  simp only [Bool.and_eq_true, beq_iff_eq] at hb ⊢
  refine ⟨hb.2.1, ?_⟩
  rw [dif_0 (by omega)] at hb ⊢
  exact fun i hi => h i (hb.2.2 i hi)
theorem gw_mono {A : Tn} (hw : WF A) {p p' : Nat} (h : Sub p p') : gwN A p ≤ gwN A p' := by
  obtain ⟨⟨X, x1, x2, x3⟩, _⟩ := bw_max hw (s := opn A p) (bN_lt _ _)
  have h2 := (bw_max hw (s := opn A p') (bN_lt _ _)).2.1 X (fun i hi => op_mono hw h i (x1 i hi)) x2
  have e1 := (gwN_p hw p).1
  have e2 := (gwN_p hw p').1
  omega
def shT (A : Tn) (o n s : Nat) : Nat := (gwN A (s ||| 2 ^ o) - gwN A s) * fc (pop s) * fc (n - 1 - pop s)
def shG (A : Tn) (o n t s : Nat) : Nat := if (dif s t == 0) = true then shT A o n s else 0
def shA (A : Tn) (o n t : Nat) : Nat := fsN (shG A o n t) (t + 1)
theorem fc_120 : ∀ m, m ≤ 5 → ∀ k, k ≤ m → fc k * fc (m - k) ≤ 120 := by decide
theorem sub_pop {s t : Nat} (ht : t < 2 ^ 12) (h : Sub s t) : s < 2 ^ 12 ∧ pop s ≤ pop t := by
  have hs := h.lt ht
  refine ⟨hs, ?_⟩
  rw [pop_lt hs (by decide), pop_lt ht (by decide)]
  exact ct_mn (fun i _ hi => h i hi)
theorem shT_le {A : Tn} (hw : WF A) {o n t s : Nat} (ht : t < 2 ^ 12) (hn : pop t + 1 = n) (hn6 : n ≤ 6) (hs : (dif s t == 0) = true) (hs31 : s < 2 ^ 31) : shT A o n s ≤ 119988 * 120 := by
  simp only [beq_iff_eq] at hs
  rw [dif_0 hs31] at hs
  have h1 := sub_pop ht hs
  have h2 := fc_120 (n - 1) (by omega) (pop s) (by omega)
  have h3 := (gwN_p hw (s ||| 2 ^ o)).2
  unfold shT
  rw [Nat.mul_assoc]
  exact Nat.mul_le_mul (by omega) h2
theorem shA_le {A : Tn} (hw : WF A) {o n t : Nat} (ht : t < 2 ^ 12) (hn : pop t + 1 = n) (hn6 : n ≤ 6) : shA A o n t < 2 ^ 29 := by
  have h1 : ∀ m, m ≤ 2 ^ 12 → fsN (shG A o n t) m ≤ 119988 * 120 * ct (fun s => dif s t == 0) m := by
    intro m hm
    induction m with
    | zero => exact Nat.le_refl _
    | succ m ih =>
      have ih' := ih (by omega)
      rw [ct_ss]
      show fsN _ m + shG A o n t m ≤ _
      unfold shG
      cases c : (dif m t == 0) with
      | false =>
        simp only [Bool.false_eq_true, if_false, Nat.add_zero]
        exact ih'
      | true =>
        have := shT_le hw (o := o) ht hn hn6 c (by omega)
        simp only [if_true]
        rw [Nat.mul_add, Nat.mul_one]
        exact Nat.add_le_add ih' this
  have h2 := h1 (t + 1) (by omega)
  have h3 : ct (fun s => dif s t == 0) (t + 1) ≤ ct (fun s => dif s t == 0) (2 ^ 12) := ct_mo _ (by omega)
  have h4 := ct_sub (o := t) 12 (by decide)
  have h5 : ctp t 12 ≤ 5 := by
    have : pop t = ctp t 12 := pop_12 ht
    omega
  have h6 : 2 ^ ctp t 12 ≤ 2 ^ 5 := Nat.pow_le_pow_right (by decide) h5
  have h7 : ct (fun s => dif s t == 0) (t + 1) ≤ 32 := by
    have : (2 : Nat) ^ 5 = 32 := by decide
    omega
  have h8 : 119988 * 120 * ct (fun s => dif s t == 0) (t + 1) ≤ 119988 * 120 * 32 := Nat.mul_le_mul_left _ h7
  have h9 : shA A o n t ≤ 119988 * 120 * 32 := Nat.le_trans h2 h8
  have h10 : 119988 * 120 * 32 < 2 ^ 29 := by decide
  omega
def shV (A : Tn) (p o : Nat) (z : Bool) : Int32 := if z = true then nI (shA A o (pop p) (dif p (2 ^ o)) / Nat.gcd (shA A o (pop p) (dif p (2 ^ o))) (fc (pop p))) else nI (fc (pop p) / Nat.gcd (shA A o (pop p) (dif p (2 ^ o))) (fc (pop p)))
theorem oth_pop {p o : Nat} (hp : p < 2 ^ 12) (ho : p.testBit o = true) (ho12 : o < 12) : dif p (2 ^ o) < 2 ^ 12 ∧ pop (dif p (2 ^ o)) + 1 = pop p := by
  have hd := dif_ltn (b := 2 ^ o) hp (by decide)
  refine ⟨hd, ?_⟩
  rw [pop_lt hd (by decide), pop_lt hp (by decide)]
  symm
  refine ct_ins ho12 ?_ ho (fun k _ hk => ?_)
  · show (dif p (2 ^ o)).testBit o = false
    rw [dif_bit (by omega), Nat.testBit_two_pow]
    simp
  · show p.testBit k = (dif p (2 ^ o)).testBit k
    rw [dif_bit (by omega), Nat.testBit_two_pow]
    simp [Ne.symm hk]
theorem fc_720 : ∀ n, n ≤ 6 → fc n ≤ 720 := by decide
theorem x_share {S : Sto} {q : Nat} {A : Tn} {p o : Nat} (z : Bool) (h : RepC S q A) (hw : WF A) (hp : p < 2 ^ 12) (hp6 : pop p ≤ 6) (ho : p.testBit o = true) (ho12 : o < 12) : ∃ S', call 37 0 [vR 30 0, vR 1 q, vI (nI p), vI (nI o), vI (bI z)] S = some (some (vI (shV A p o z)), S') ∧ Fr (pL [31, 34, 35]) S S' := by
  obtain ⟨S1, a1, a2, a3, a4⟩ := x_gather h hw
  have h1 := h.pl a2 (by decide)
  obtain ⟨d1, d2⟩ := oth_pop hp ho ho12
  have e2o : 2 ^ o < 2 ^ 12 := Nat.pow_lt_pow_right (by decide) ho12
  have lsa := shA_le hw (o := o) d1 d2 hp6
  have lf := fc_720 (pop p) hp6
  have lf0 := fc_pos (pop p)
  have gp : 0 < Nat.gcd (shA A o (pop p) (dif p (2 ^ o))) (fc (pop p)) := Nat.gcd_pos_of_pos_right _ lf0
  have gl : Nat.gcd (shA A o (pop p) (dif p (2 ^ o))) (fc (pop p)) ≤ fc (pop p) := Nat.gcd_le_right _ lf0
  have eo := x_orders S1 hp6
  have eg := x_gcd S1 lsa lf
  show ∃ S', run 37 0 0 [vR 30 0, vR 1 q, vI (nI p), vI (nI o), vI (bI z), vU, vU, vU, vU, vU, vU] [] S = _ ∧ _
  simp (disch := omega) only [s37_0, s37_1, s37_2, s37_5, s37_6, s37_9, s37_11, s37_12, s37_13, s37_14, s37_15, s37_16, s37_17, s37_18, s37_20, s37_21, s37_23, s37_24, s37_28, s37_30, s37_33, s37_35, s37_37, s37_38, s37_39, s37_40, s37_43, s37_44, s37_45, s37_47, s37_48, s37_49, s37_50, s37_51, s37_54, s37_55, s37_56, s37_58, s37_61, s37_62, s37_64, s37_66, s37_69, s37_71, s37_73, s37_75, s37_77, s37_80, s37_81, s37_83, s37_84, s37_85, s37_87, s37_88, s37_91, s37_92, s37_93, s37_95, s37_98, s37_101, s37_103, s37_106, s37_108, s37_110, s37_112, s37_115, s37_117, s37_119, s37_122, s37_123, s37_124, s37_126, s37_129, s37_131, s37_133, s37_134, s37_137, s37_139, s37_141, s37_142, q_0, q_1, q_2, q_3, q_4, q_5, q_6, q_7, q_8, q_9, q_10, q_11, q_12, q_13, q_14, q_16, q_20, q_23, q_24, q_32, q_42, q_43, q_45, q_47, q_48, q_50, q_57, q_59, q_60, q_61, q_62, q_63, q_64, q_66, q_91, q_93, q_97, q_99, q_122, q_144, q_255, q_256, q_300, q_380, q_400, q_620, q_999, q_1000, q_4095, q_4096, q_9999, q_65536, q_99999, q_31, nI_add, pk_mul, nE, nL, nT, nM31, nShl, ib_nI, nI_clamp, bI_n0, bI_n1, bI_nar, uI_r, uI_l, uL_r, uL_i, uL_p, uA_r, uA_l, bV_some, bU_some, nar_n0, nar_n1, and_self, and_true, true_and, and_false, false_and, if_true, if_false, eq_self, Bool.false_eq_true, Bool.true_eq_false, not_true_eq_false, not_false_eq_true, ↓reduceIte, nlT, nlF, ntT, ntF, neT, neF, ieT, ieF, decide_true, decide_false, Bool.not_true, Bool.not_false, Bool.and_true, Bool.true_and, Bool.and_false, Bool.false_and, Bool.or_true, Bool.true_or, Bool.or_false, Bool.false_or, a1, x_bitCount, nI_dif]
  refine upS (σ := av × av) (I := fun _ _ => True) (F := fun s x => run 37 0 26 [vR 30 0, vR 1 q, vI (nI p), vI (nI o), vI (bI z), vI (nI (pop p)), vI (nI (dif p (2 ^ o))), vI (nI (fsN (shG A o (pop p) (dif p (2 ^ o))) s)), vI (nI s), x.1, x.2] [] S1) (Q := fun w => ∃ S', w = some (some (vI (shV A p o z)), S') ∧ Fr (pL [31, 34, 35]) S S') (N := dif p (2 ^ o) + 1) ?_ ?_ 0 (vU, vU) (by omega) trivial
  · intro s x hs _
    have ld := dif_lt s (dif p (2 ^ o))
    refine Or.inr ?_
    show ∃ s', _ ∧ run 37 0 26 _ _ _ = run 37 0 26 [vR 30 0, vR 1 q, vI (nI p), vI (nI o), vI (bI z), vI (nI (pop p)), vI (nI (dif p (2 ^ o))), vI (nI (fsN (shG A o (pop p) (dif p (2 ^ o))) s + shG A o (pop p) (dif p (2 ^ o)) s)), vI (nI (s + 1)), _, _] [] S1
    rw [s37_26]
    unfold shG
    by_cases c : dif s (dif p (2 ^ o)) = 0
    · have c' : (dif s (dif p (2 ^ o)) == 0) = true := by simp [c]
      have c2 := c
      rw [dif_0 (by omega)] at c2
      have h2 := sub_pop d1 c2
      have e1 := x_wAmong (p := s ||| 2 ^ o) h1 hw a3 a4
      have e2 := x_wAmong (p := s) h1 hw a3 a4
      have lm : gwN A s ≤ gwN A (s ||| 2 ^ o) := gw_mono hw (fun i hi => by rw [Nat.testBit_or, hi]; rfl)
      have e3 := x_orders S1 (n := pop s) (by omega)
      have e4 := x_orders S1 (n := pop p - 1 - pop s) (by omega)
      refine ⟨(vI (nI (gwN A (s ||| 2 ^ o) - gwN A s)), vI (nI (pop s))), trivial, ?_⟩
      rw [c', if_pos rfl]
      simp (disch := omega) only [s37_0, s37_1, s37_2, s37_5, s37_6, s37_9, s37_11, s37_12, s37_13, s37_14, s37_15, s37_16, s37_17, s37_18, s37_20, s37_21, s37_23, s37_24, s37_28, s37_30, s37_33, s37_35, s37_37, s37_38, s37_39, s37_40, s37_43, s37_44, s37_45, s37_47, s37_48, s37_49, s37_50, s37_51, s37_54, s37_55, s37_56, s37_58, s37_61, s37_62, s37_64, s37_66, s37_69, s37_71, s37_73, s37_75, s37_77, s37_80, s37_81, s37_83, s37_84, s37_85, s37_87, s37_88, s37_91, s37_92, s37_93, s37_95, s37_98, s37_101, s37_103, s37_106, s37_108, s37_110, s37_112, s37_115, s37_117, s37_119, s37_122, s37_123, s37_124, s37_126, s37_129, s37_131, s37_133, s37_134, s37_137, s37_139, s37_141, s37_142, q_0, q_1, q_2, q_3, q_4, q_5, q_6, q_7, q_8, q_9, q_10, q_11, q_12, q_13, q_14, q_16, q_20, q_23, q_24, q_32, q_42, q_43, q_45, q_47, q_48, q_50, q_57, q_59, q_60, q_61, q_62, q_63, q_64, q_66, q_91, q_93, q_97, q_99, q_122, q_144, q_255, q_256, q_300, q_380, q_400, q_620, q_999, q_1000, q_4095, q_4096, q_9999, q_65536, q_99999, q_31, nI_add, pk_mul, nE, nL, nT, nM31, nShl, ib_nI, nI_clamp, bI_n0, bI_n1, bI_nar, uI_r, uI_l, uL_r, uL_i, uL_p, uA_r, uA_l, bV_some, bU_some, nar_n0, nar_n1, and_self, and_true, true_and, and_false, false_and, if_true, if_false, eq_self, Bool.false_eq_true, Bool.true_eq_false, not_true_eq_false, not_false_eq_true, ↓reduceIte, nlT, nlF, ntT, ntF, neT, neF, ieT, ieF, decide_true, decide_false, Bool.not_true, Bool.not_false, Bool.and_true, Bool.true_and, Bool.and_false, Bool.false_and, Bool.or_true, Bool.true_or, Bool.or_false, Bool.false_or, nI_dif, c, nx_or, e1, e2, nSub, x_bitCount, e3, e4]
      rfl
    · have c' : (dif s (dif p (2 ^ o)) == 0) = false := by simp [c]
      refine ⟨x, trivial, ?_⟩
      rw [c']
      simp (disch := omega) only [s37_0, s37_1, s37_2, s37_5, s37_6, s37_9, s37_11, s37_12, s37_13, s37_14, s37_15, s37_16, s37_17, s37_18, s37_20, s37_21, s37_23, s37_24, s37_28, s37_30, s37_33, s37_35, s37_37, s37_38, s37_39, s37_40, s37_43, s37_44, s37_45, s37_47, s37_48, s37_49, s37_50, s37_51, s37_54, s37_55, s37_56, s37_58, s37_61, s37_62, s37_64, s37_66, s37_69, s37_71, s37_73, s37_75, s37_77, s37_80, s37_81, s37_83, s37_84, s37_85, s37_87, s37_88, s37_91, s37_92, s37_93, s37_95, s37_98, s37_101, s37_103, s37_106, s37_108, s37_110, s37_112, s37_115, s37_117, s37_119, s37_122, s37_123, s37_124, s37_126, s37_129, s37_131, s37_133, s37_134, s37_137, s37_139, s37_141, s37_142, q_0, q_1, q_2, q_3, q_4, q_5, q_6, q_7, q_8, q_9, q_10, q_11, q_12, q_13, q_14, q_16, q_20, q_23, q_24, q_32, q_42, q_43, q_45, q_47, q_48, q_50, q_57, q_59, q_60, q_61, q_62, q_63, q_64, q_66, q_91, q_93, q_97, q_99, q_122, q_144, q_255, q_256, q_300, q_380, q_400, q_620, q_999, q_1000, q_4095, q_4096, q_9999, q_65536, q_99999, q_31, nI_add, pk_mul, nE, nL, nT, nM31, nShl, ib_nI, nI_clamp, bI_n0, bI_n1, bI_nar, uI_r, uI_l, uL_r, uL_i, uL_p, uA_r, uA_l, bV_some, bU_some, nar_n0, nar_n1, and_self, and_true, true_and, and_false, false_and, if_true, if_false, eq_self, Bool.false_eq_true, Bool.true_eq_false, not_true_eq_false, not_false_eq_true, ↓reduceIte, nlT, nlF, ntT, ntF, neT, neF, ieT, ieF, decide_true, decide_false, Bool.not_true, Bool.not_false, Bool.and_true, Bool.true_and, Bool.and_false, Bool.false_and, Bool.or_true, Bool.true_or, Bool.or_false, Bool.false_or, nI_dif, c, Nat.add_zero]
  · intro x _
    refine ⟨S1, ?_, a2⟩
    show run 37 0 26 [vR 30 0, vR 1 q, vI (nI p), vI (nI o), vI (bI z), vI (nI (pop p)), vI (nI (dif p (2 ^ o))), vI (nI (shA A o (pop p) (dif p (2 ^ o)))), vI (nI (dif p (2 ^ o) + 1)), x.1, x.2] [] S1 = _
    rw [s37_26]
    unfold shV
    cases z with
    | true => simp (disch := omega) only [s37_0, s37_1, s37_2, s37_5, s37_6, s37_9, s37_11, s37_12, s37_13, s37_14, s37_15, s37_16, s37_17, s37_18, s37_20, s37_21, s37_23, s37_24, s37_28, s37_30, s37_33, s37_35, s37_37, s37_38, s37_39, s37_40, s37_43, s37_44, s37_45, s37_47, s37_48, s37_49, s37_50, s37_51, s37_54, s37_55, s37_56, s37_58, s37_61, s37_62, s37_64, s37_66, s37_69, s37_71, s37_73, s37_75, s37_77, s37_80, s37_81, s37_83, s37_84, s37_85, s37_87, s37_88, s37_91, s37_92, s37_93, s37_95, s37_98, s37_101, s37_103, s37_106, s37_108, s37_110, s37_112, s37_115, s37_117, s37_119, s37_122, s37_123, s37_124, s37_126, s37_129, s37_131, s37_133, s37_134, s37_137, s37_139, s37_141, s37_142, q_0, q_1, q_2, q_3, q_4, q_5, q_6, q_7, q_8, q_9, q_10, q_11, q_12, q_13, q_14, q_16, q_20, q_23, q_24, q_32, q_42, q_43, q_45, q_47, q_48, q_50, q_57, q_59, q_60, q_61, q_62, q_63, q_64, q_66, q_91, q_93, q_97, q_99, q_122, q_144, q_255, q_256, q_300, q_380, q_400, q_620, q_999, q_1000, q_4095, q_4096, q_9999, q_65536, q_99999, q_31, nI_add, pk_mul, nE, nL, nT, nM31, nShl, ib_nI, nI_clamp, bI_n0, bI_n1, bI_nar, uI_r, uI_l, uL_r, uL_i, uL_p, uA_r, uA_l, bV_some, bU_some, nar_n0, nar_n1, and_self, and_true, true_and, and_false, false_and, if_true, if_false, eq_self, Bool.false_eq_true, Bool.true_eq_false, not_true_eq_false, not_false_eq_true, ↓reduceIte, nlT, nlF, ntT, ntF, neT, neF, ieT, ieF, decide_true, decide_false, Bool.not_true, Bool.not_false, Bool.and_true, Bool.true_and, Bool.and_false, Bool.false_and, Bool.or_true, Bool.true_or, Bool.or_false, Bool.false_or, eo, eg, nDiv]
    | false => simp (disch := omega) only [s37_0, s37_1, s37_2, s37_5, s37_6, s37_9, s37_11, s37_12, s37_13, s37_14, s37_15, s37_16, s37_17, s37_18, s37_20, s37_21, s37_23, s37_24, s37_28, s37_30, s37_33, s37_35, s37_37, s37_38, s37_39, s37_40, s37_43, s37_44, s37_45, s37_47, s37_48, s37_49, s37_50, s37_51, s37_54, s37_55, s37_56, s37_58, s37_61, s37_62, s37_64, s37_66, s37_69, s37_71, s37_73, s37_75, s37_77, s37_80, s37_81, s37_83, s37_84, s37_85, s37_87, s37_88, s37_91, s37_92, s37_93, s37_95, s37_98, s37_101, s37_103, s37_106, s37_108, s37_110, s37_112, s37_115, s37_117, s37_119, s37_122, s37_123, s37_124, s37_126, s37_129, s37_131, s37_133, s37_134, s37_137, s37_139, s37_141, s37_142, q_0, q_1, q_2, q_3, q_4, q_5, q_6, q_7, q_8, q_9, q_10, q_11, q_12, q_13, q_14, q_16, q_20, q_23, q_24, q_32, q_42, q_43, q_45, q_47, q_48, q_50, q_57, q_59, q_60, q_61, q_62, q_63, q_64, q_66, q_91, q_93, q_97, q_99, q_122, q_144, q_255, q_256, q_300, q_380, q_400, q_620, q_999, q_1000, q_4095, q_4096, q_9999, q_65536, q_99999, q_31, nI_add, pk_mul, nE, nL, nT, nM31, nShl, ib_nI, nI_clamp, bI_n0, bI_n1, bI_nar, uI_r, uI_l, uL_r, uL_i, uL_p, uA_r, uA_l, bV_some, bU_some, nar_n0, nar_n1, and_self, and_true, true_and, and_false, false_and, if_true, if_false, eq_self, Bool.false_eq_true, Bool.true_eq_false, not_true_eq_false, not_false_eq_true, ↓reduceIte, nlT, nlF, ntT, ntF, neT, neF, ieT, ieF, decide_true, decide_false, Bool.not_true, Bool.not_false, Bool.and_true, Bool.true_and, Bool.and_false, Bool.false_and, Bool.or_true, Bool.true_or, Bool.or_false, Bool.false_or, eo, eg, nDiv]
theorem m_share {S : Sto} {A : Tn} {p o : Nat} (z : Bool) (h : RepM S A) (hw : WF A) (hp : p < 2 ^ 12) (hp6 : pop p ≤ 6) (ho : p.testBit o = true) (ho12 : o < 12) : ∃ S', run 231 0 39 [vR 50 0, vI (nI p), vI (nI o), vI (bI (!z)), vU, vU, vU, vU, vU, vU, vU, vU, vU, vU] [] S = some (some (vI (shV A p o z)), S') ∧ Fr (pL [86]) S S' := by
  obtain ⟨S1, a1, a2, a3⟩ := m_apart h hw
  have h1 := h.pl a2 (by decide)
  obtain ⟨d1, d2⟩ := oth_pop hp ho ho12
  have e2o : 2 ^ o < 2 ^ 12 := Nat.pow_lt_pow_right (by decide) ho12
  have lsa := shA_le hw (o := o) d1 d2 hp6
  have lf := fc_720 (pop p) hp6
  have lf0 := fc_pos (pop p)
  have gp : 0 < Nat.gcd (shA A o (pop p) (dif p (2 ^ o))) (fc (pop p)) := Nat.gcd_pos_of_pos_right _ lf0
  have gl : Nat.gcd (shA A o (pop p) (dif p (2 ^ o))) (fc (pop p)) ≤ fc (pop p) := Nat.gcd_le_right _ lf0
  have eo := m_orders S1 hp6
  have eg := m_gcd S1 (a := shA A o (pop p) (dif p (2 ^ o))) (b := fc (pop p)) (by omega) (by omega)
  have l0 : (0 : Int64) = lN 0 := rfl
  have fin : ∀ x8 x10 x11, run 231 0 68 [vR 50 0, vI (nI p), vI (nI o), vI (bI (!z)), vI (nI (dif p (2 ^ o))), vI (nI (pop p)), vL (lN (shA A o (pop p) (dif p (2 ^ o)))), vU, x8, vI (nI 0), x10, x11, vU, vU] [] S1 = some (some (vI (shV A p o z)), S1) := by
    intro x8 x10 x11
    have zg : (lN (Nat.gcd (shA A o (pop p) (dif p (2 ^ o))) (fc (pop p))) = 0) = False := eq_false (by rw [l0, pk_lEQ (by omega) (by decide)]; omega)
    have q1 := pk_lDiv (a := shA A o (pop p) (dif p (2 ^ o))) (b := Nat.gcd (shA A o (pop p) (dif p (2 ^ o))) (fc (pop p))) (by omega) gp (by omega)
    have q2 := pk_lDiv (a := fc (pop p)) (b := Nat.gcd (shA A o (pop p) (dif p (2 ^ o))) (fc (pop p))) (by omega) gp (by omega)
    rw [s231_68]
    unfold shV
    cases z with
    | true => simp (disch := omega) only [s231_0, s231_1, s231_2, s231_3, s231_5, s231_8, s231_11, s231_12, s231_13, s231_16, s231_19, s231_20, s231_21, s231_24, s231_27, s231_28, s231_29, s231_30, s231_31, s231_34, s231_37, s231_38, s231_39, s231_40, s231_43, s231_44, s231_45, s231_46, s231_47, s231_48, s231_49, s231_50, s231_52, s231_53, s231_56, s231_58, s231_59, s231_61, s231_63, s231_65, s231_66, s231_70, s231_73, s231_75, s231_78, s231_80, s231_82, s231_84, s231_87, s231_89, s231_91, s231_92, s231_93, s231_94, s231_97, s231_98, s231_99, s231_101, s231_102, s231_103, s231_104, s231_105, s231_108, s231_109, s231_111, s231_114, s231_115, s231_116, s231_117, s231_118, s231_120, s231_122, s231_125, s231_126, s231_129, s231_130, s231_132, s231_134, s231_135, s231_136, s231_138, s231_139, s231_141, s231_144, s231_146, s231_149, s231_151, s231_153, s231_155, s231_158, s231_160, s231_161, s231_164, s231_166, s231_168, s231_169, s231_172, s231_174, s231_176, s231_177, s231_178, q_0, q_1, q_2, q_3, q_4, q_5, q_6, q_7, q_8, q_9, q_10, q_11, q_12, q_13, q_14, q_16, q_20, q_23, q_24, q_32, q_42, q_43, q_45, q_47, q_48, q_50, q_57, q_59, q_60, q_61, q_62, q_63, q_64, q_66, q_91, q_93, q_97, q_99, q_122, q_144, q_255, q_256, q_300, q_380, q_400, q_620, q_999, q_1000, q_4095, q_4096, q_9999, q_65536, q_99999, q_31, nI_add, pk_mul, nE, nL, nT, nM31, nShl, ib_nI, nI_clamp, bI_n0, bI_n1, bI_nar, uI_r, uI_l, uL_r, uL_i, uL_p, uA_r, uA_l, bV_some, bU_some, nar_n0, nar_n1, and_self, and_true, true_and, and_false, false_and, if_true, if_false, eq_self, Bool.false_eq_true, Bool.true_eq_false, not_true_eq_false, not_false_eq_true, ↓reduceIte, nlT, nlF, ntT, ntF, neT, neF, ieT, ieF, decide_true, decide_false, Bool.not_true, Bool.not_false, Bool.and_true, Bool.true_and, Bool.and_false, Bool.false_and, Bool.or_true, Bool.true_or, Bool.or_false, Bool.false_or, eo, eg, zg, q1, lN_i]
    | false => simp (disch := omega) only [s231_0, s231_1, s231_2, s231_3, s231_5, s231_8, s231_11, s231_12, s231_13, s231_16, s231_19, s231_20, s231_21, s231_24, s231_27, s231_28, s231_29, s231_30, s231_31, s231_34, s231_37, s231_38, s231_39, s231_40, s231_43, s231_44, s231_45, s231_46, s231_47, s231_48, s231_49, s231_50, s231_52, s231_53, s231_56, s231_58, s231_59, s231_61, s231_63, s231_65, s231_66, s231_70, s231_73, s231_75, s231_78, s231_80, s231_82, s231_84, s231_87, s231_89, s231_91, s231_92, s231_93, s231_94, s231_97, s231_98, s231_99, s231_101, s231_102, s231_103, s231_104, s231_105, s231_108, s231_109, s231_111, s231_114, s231_115, s231_116, s231_117, s231_118, s231_120, s231_122, s231_125, s231_126, s231_129, s231_130, s231_132, s231_134, s231_135, s231_136, s231_138, s231_139, s231_141, s231_144, s231_146, s231_149, s231_151, s231_153, s231_155, s231_158, s231_160, s231_161, s231_164, s231_166, s231_168, s231_169, s231_172, s231_174, s231_176, s231_177, s231_178, q_0, q_1, q_2, q_3, q_4, q_5, q_6, q_7, q_8, q_9, q_10, q_11, q_12, q_13, q_14, q_16, q_20, q_23, q_24, q_32, q_42, q_43, q_45, q_47, q_48, q_50, q_57, q_59, q_60, q_61, q_62, q_63, q_64, q_66, q_91, q_93, q_97, q_99, q_122, q_144, q_255, q_256, q_300, q_380, q_400, q_620, q_999, q_1000, q_4095, q_4096, q_9999, q_65536, q_99999, q_31, nI_add, pk_mul, nE, nL, nT, nM31, nShl, ib_nI, nI_clamp, bI_n0, bI_n1, bI_nar, uI_r, uI_l, uL_r, uL_i, uL_p, uA_r, uA_l, bV_some, bU_some, nar_n0, nar_n1, and_self, and_true, true_and, and_false, false_and, if_true, if_false, eq_self, Bool.false_eq_true, Bool.true_eq_false, not_true_eq_false, not_false_eq_true, ↓reduceIte, nlT, nlF, ntT, ntF, neT, neF, ieT, ieF, decide_true, decide_false, Bool.not_true, Bool.not_false, Bool.and_true, Bool.true_and, Bool.and_false, Bool.false_and, Bool.or_true, Bool.true_or, Bool.or_false, Bool.false_or, eo, eg, zg, q2, lN_i]
  have hsubs : ∀ t, Sub t (dif p (2 ^ o)) → t ≠ 0 → fsN (shG A o (pop p) (dif p (2 ^ o))) t = fsN (shG A o (pop p) (dif p (2 ^ o))) (((t - 1) &&& dif p (2 ^ o)) + 1) := by
    intro t ht h0
    have hlt : (t - 1) &&& dif p (2 ^ o) < t := Nat.lt_of_le_of_lt Nat.and_le_left (by omega)
    have ht12 := (sub_pop d1 ht).1
    have := fsN_zero (f := shG A o (pop p) (dif p (2 ^ o))) (((t - 1) &&& dif p (2 ^ o)) + 1) (t - (((t - 1) &&& dif p (2 ^ o)) + 1)) (fun i g1 g2 => by
      unfold shG
      cases c : (dif i (dif p (2 ^ o)) == 0) with
      | false => rfl
      | true =>
        simp only [beq_iff_eq] at c
        rw [dif_0 (by omega)] at c
        have := sm_next (X := i) (t := t) c ht (by omega)
        omega)
    rw [show ((t - 1) &&& dif p (2 ^ o)) + 1 + (t - (((t - 1) &&& dif p (2 ^ o)) + 1)) = t by omega] at this
    exact this
  simp (disch := omega) only [s231_0, s231_1, s231_2, s231_3, s231_5, s231_8, s231_11, s231_12, s231_13, s231_16, s231_19, s231_20, s231_21, s231_24, s231_27, s231_28, s231_29, s231_30, s231_31, s231_34, s231_37, s231_38, s231_39, s231_40, s231_43, s231_44, s231_45, s231_46, s231_47, s231_48, s231_49, s231_50, s231_52, s231_53, s231_56, s231_58, s231_59, s231_61, s231_63, s231_65, s231_66, s231_70, s231_73, s231_75, s231_78, s231_80, s231_82, s231_84, s231_87, s231_89, s231_91, s231_92, s231_93, s231_94, s231_97, s231_98, s231_99, s231_101, s231_102, s231_103, s231_104, s231_105, s231_108, s231_109, s231_111, s231_114, s231_115, s231_116, s231_117, s231_118, s231_120, s231_122, s231_125, s231_126, s231_129, s231_130, s231_132, s231_134, s231_135, s231_136, s231_138, s231_139, s231_141, s231_144, s231_146, s231_149, s231_151, s231_153, s231_155, s231_158, s231_160, s231_161, s231_164, s231_166, s231_168, s231_169, s231_172, s231_174, s231_176, s231_177, s231_178, q_0, q_1, q_2, q_3, q_4, q_5, q_6, q_7, q_8, q_9, q_10, q_11, q_12, q_13, q_14, q_16, q_20, q_23, q_24, q_32, q_42, q_43, q_45, q_47, q_48, q_50, q_57, q_59, q_60, q_61, q_62, q_63, q_64, q_66, q_91, q_93, q_97, q_99, q_122, q_144, q_255, q_256, q_300, q_380, q_400, q_620, q_999, q_1000, q_4095, q_4096, q_9999, q_65536, q_99999, q_31, nI_add, pk_mul, nE, nL, nT, nM31, nShl, ib_nI, nI_clamp, bI_n0, bI_n1, bI_nar, uI_r, uI_l, uL_r, uL_i, uL_p, uA_r, uA_l, bV_some, bU_some, nar_n0, nar_n1, and_self, and_true, true_and, and_false, false_and, if_true, if_false, eq_self, Bool.false_eq_true, Bool.true_eq_false, not_true_eq_false, not_false_eq_true, ↓reduceIte, nlT, nlF, ntT, ntF, neT, neF, ieT, ieF, decide_true, decide_false, Bool.not_true, Bool.not_false, Bool.and_true, Bool.true_and, Bool.and_false, Bool.false_and, Bool.or_true, Bool.true_or, Bool.or_false, Bool.false_or, a1, m_bits, nI_dif]
  have key := dnS (σ := (Nat × Nat) × av × av) (I := fun s => Sub s.1.1 (dif p (2 ^ o)) ∧ s.1.2 + fsN (shG A o (pop p) (dif p (2 ^ o))) (s.1.1 + 1) = shA A o (pop p) (dif p (2 ^ o))) (F := fun s => run 231 0 68 [vR 50 0, vI (nI p), vI (nI o), vI (bI (!z)), vI (nI (dif p (2 ^ o))), vI (nI (pop p)), vL (lN s.1.2), vU, vI (nI s.1.1), vI (nI 1), s.2.1, s.2.2, vU, vU] [] S1) (Q := fun w => w = some (some (vI (shV A p o z)), S1)) (fun s => s.1.1) ?_ ((dif p (2 ^ o), 0), vU, vU) ⟨fun i hi => hi, by show 0 + fsN _ (dif p (2 ^ o) + 1) = _; rw [Nat.zero_add]; rfl⟩
  · exact ⟨S1, key, a2⟩
  · intro s hI
    obtain ⟨⟨t, m⟩, x, y⟩ := s
    obtain ⟨i1, i2⟩ := hI
    simp only at i1 i2
    have ht := sub_pop d1 i1
    have c' : (dif t (dif p (2 ^ o)) == 0) = true := by
      simp only [beq_iff_eq]
      rw [dif_0 (by omega)]
      exact i1
    have e1 := m_greatest (p := t ||| 2 ^ o) h1 hw a3 (Nat.lt_of_lt_of_le (Nat.or_lt_two_pow ht.1 e2o) (by decide))
    have e2 := m_greatest (p := t) h1 hw a3 (by omega)
    have lm : gwN A t ≤ gwN A (t ||| 2 ^ o) := gw_mono hw (fun i hi => by rw [Nat.testBit_or, hi]; rfl)
    have lg := (gwN_p hw (t ||| 2 ^ o)).2
    have e3 := m_orders S1 (n := pop t) (by omega)
    have e4 := m_orders S1 (n := pop p - pop t - 1) (by omega)
    have et : fc (pop t) * fc (pop p - pop t - 1) * (gwN A (t ||| 2 ^ o) - gwN A t) = shG A o (pop p) (dif p (2 ^ o)) t := by
      unfold shG shT
      rw [c', if_pos rfl, show pop p - pop t - 1 = pop p - 1 - pop t by omega, Nat.mul_comm, ← Nat.mul_assoc]
    have i3 : m + shG A o (pop p) (dif p (2 ^ o)) t + fsN (shG A o (pop p) (dif p (2 ^ o))) t = shA A o (pop p) (dif p (2 ^ o)) := by
      have : fsN (shG A o (pop p) (dif p (2 ^ o))) (t + 1) = fsN (shG A o (pop p) (dif p (2 ^ o))) t + shG A o (pop p) (dif p (2 ^ o)) t := rfl
      omega
    show run 231 0 68 [vR 50 0, vI (nI p), vI (nI o), vI (bI (!z)), vI (nI (dif p (2 ^ o))), vI (nI (pop p)), vL (lN m), vU, vI (nI t), vI (nI 1), x, y, vU, vU] [] S1 = _ ∨ ∃ s', _ ∧ _ ∧ run 231 0 68 [vR 50 0, vI (nI p), vI (nI o), vI (bI (!z)), vI (nI (dif p (2 ^ o))), vI (nI (pop p)), vL (lN m), vU, vI (nI t), vI (nI 1), x, y, vU, vU] [] S1 = _
    rw [s231_68]
    by_cases c : t = 0
    · subst c
      refine Or.inl ?_
      have e5 : m + shG A o (pop p) (dif p (2 ^ o)) 0 = shA A o (pop p) (dif p (2 ^ o)) := by
        have : fsN (shG A o (pop p) (dif p (2 ^ o))) 0 = 0 := rfl
        omega
      simp (disch := omega) only [s231_0, s231_1, s231_2, s231_3, s231_5, s231_8, s231_11, s231_12, s231_13, s231_16, s231_19, s231_20, s231_21, s231_24, s231_27, s231_28, s231_29, s231_30, s231_31, s231_34, s231_37, s231_38, s231_39, s231_40, s231_43, s231_44, s231_45, s231_46, s231_47, s231_48, s231_49, s231_50, s231_52, s231_53, s231_56, s231_58, s231_59, s231_61, s231_63, s231_65, s231_66, s231_70, s231_73, s231_75, s231_78, s231_80, s231_82, s231_84, s231_87, s231_89, s231_91, s231_92, s231_93, s231_94, s231_97, s231_98, s231_99, s231_101, s231_102, s231_103, s231_104, s231_105, s231_108, s231_109, s231_111, s231_114, s231_115, s231_116, s231_117, s231_118, s231_120, s231_122, s231_125, s231_126, s231_129, s231_130, s231_132, s231_134, s231_135, s231_136, s231_138, s231_139, s231_141, s231_144, s231_146, s231_149, s231_151, s231_153, s231_155, s231_158, s231_160, s231_161, s231_164, s231_166, s231_168, s231_169, s231_172, s231_174, s231_176, s231_177, s231_178, q_0, q_1, q_2, q_3, q_4, q_5, q_6, q_7, q_8, q_9, q_10, q_11, q_12, q_13, q_14, q_16, q_20, q_23, q_24, q_32, q_42, q_43, q_45, q_47, q_48, q_50, q_57, q_59, q_60, q_61, q_62, q_63, q_64, q_66, q_91, q_93, q_97, q_99, q_122, q_144, q_255, q_256, q_300, q_380, q_400, q_620, q_999, q_1000, q_4095, q_4096, q_9999, q_65536, q_99999, q_31, nI_add, pk_mul, nE, nL, nT, nM31, nShl, ib_nI, nI_clamp, bI_n0, bI_n1, bI_nar, uI_r, uI_l, uL_r, uL_i, uL_p, uA_r, uA_l, bV_some, bU_some, nar_n0, nar_n1, and_self, and_true, true_and, and_false, false_and, if_true, if_false, eq_self, Bool.false_eq_true, Bool.true_eq_false, not_true_eq_false, not_false_eq_true, ↓reduceIte, nlT, nlF, ntT, ntF, neT, neF, ieT, ieF, decide_true, decide_false, Bool.not_true, Bool.not_false, Bool.and_true, Bool.true_and, Bool.and_false, Bool.false_and, Bool.or_true, Bool.true_or, Bool.or_false, Bool.false_or, m_bits, e3, e4, e1, e2, nx_or, nSub, nI_l, lN_mul, lN_add, et, e5]
      exact fin _ _ _
    · have hand : (t - 1) &&& dif p (2 ^ o) < t := Nat.lt_of_le_of_lt Nat.and_le_left (by omega)
      refine Or.inr ⟨(((t - 1) &&& dif p (2 ^ o), m + shG A o (pop p) (dif p (2 ^ o)) t), vI (nI (pop t)), y), ⟨?_, ?_⟩, hand, ?_⟩
      · intro i hi
        have hi' : ((t - 1) &&& dif p (2 ^ o)).testBit i = true := hi
        rw [Nat.testBit_and] at hi'
        simp only [Bool.and_eq_true] at hi'
        exact hi'.2
      · show m + shG A o (pop p) (dif p (2 ^ o)) t + fsN _ (((t - 1) &&& dif p (2 ^ o)) + 1) = _
        rw [← hsubs t i1 c]
        exact i3
      · simp (disch := omega) only [s231_0, s231_1, s231_2, s231_3, s231_5, s231_8, s231_11, s231_12, s231_13, s231_16, s231_19, s231_20, s231_21, s231_24, s231_27, s231_28, s231_29, s231_30, s231_31, s231_34, s231_37, s231_38, s231_39, s231_40, s231_43, s231_44, s231_45, s231_46, s231_47, s231_48, s231_49, s231_50, s231_52, s231_53, s231_56, s231_58, s231_59, s231_61, s231_63, s231_65, s231_66, s231_70, s231_73, s231_75, s231_78, s231_80, s231_82, s231_84, s231_87, s231_89, s231_91, s231_92, s231_93, s231_94, s231_97, s231_98, s231_99, s231_101, s231_102, s231_103, s231_104, s231_105, s231_108, s231_109, s231_111, s231_114, s231_115, s231_116, s231_117, s231_118, s231_120, s231_122, s231_125, s231_126, s231_129, s231_130, s231_132, s231_134, s231_135, s231_136, s231_138, s231_139, s231_141, s231_144, s231_146, s231_149, s231_151, s231_153, s231_155, s231_158, s231_160, s231_161, s231_164, s231_166, s231_168, s231_169, s231_172, s231_174, s231_176, s231_177, s231_178, q_0, q_1, q_2, q_3, q_4, q_5, q_6, q_7, q_8, q_9, q_10, q_11, q_12, q_13, q_14, q_16, q_20, q_23, q_24, q_32, q_42, q_43, q_45, q_47, q_48, q_50, q_57, q_59, q_60, q_61, q_62, q_63, q_64, q_66, q_91, q_93, q_97, q_99, q_122, q_144, q_255, q_256, q_300, q_380, q_400, q_620, q_999, q_1000, q_4095, q_4096, q_9999, q_65536, q_99999, q_31, nI_add, pk_mul, nE, nL, nT, nM31, nShl, ib_nI, nI_clamp, bI_n0, bI_n1, bI_nar, uI_r, uI_l, uL_r, uL_i, uL_p, uA_r, uA_l, bV_some, bU_some, nar_n0, nar_n1, and_self, and_true, true_and, and_false, false_and, if_true, if_false, eq_self, Bool.false_eq_true, Bool.true_eq_false, not_true_eq_false, not_false_eq_true, ↓reduceIte, nlT, nlF, ntT, ntF, neT, neF, ieT, ieF, decide_true, decide_false, Bool.not_true, Bool.not_false, Bool.and_true, Bool.true_and, Bool.and_false, Bool.false_and, Bool.or_true, Bool.true_or, Bool.or_false, Bool.false_or, m_bits, e3, e4, e1, e2, nx_or, nSub, nI_l, lN_mul, lN_add, et, nx_and, nA31]
def o_share (A : Tn) (p o z : Int32) : Int32 := if (stB p (A 0 0) 1 6 && lsB o (A 0 0) && p.toNatClampNeg.testBit o.toNatClampNeg && lsB z 2) = true then shV A p.toNatClampNeg o.toNatClampNeg (decide (z = nI 0)) else -nI 1
theorem c_share {S : Sto} {A : Tn} (h : RepC S 0 A) (hw : WF A) (p o z : Int32) : ∃ S1, call 122 0 [vR 0 0, vI p, vI o, vI z] S = some (some (vI (o_share A p o z)), S1) ∧ FC S S1 ∧ RepC S1 0 A := by
  have hP := hw.pe
  show ∃ S1, run 122 0 0 [vR 0 0, vI p, vI o, vI z] [] S = _ ∧ _
  unfold o_share
  cases e1 : stB p (A 0 0) 1 6 with
  | false =>
    simp (disch := omega) only [s122_0, s122_1, s122_2, s122_5, s122_8, s122_9, s122_11, s122_14, s122_17, s122_18, s122_19, s122_22, s122_25, s122_26, s122_27, s122_28, s122_31, s122_32, s122_35, s122_38, s122_39, s122_40, s122_43, s122_46, s122_47, s122_48, s122_49, s122_52, s122_53, s122_56, s122_57, s122_58, s122_59, s122_62, s122_63, s122_66, s122_67, s122_70, q_0, q_1, q_2, q_3, q_4, q_5, q_6, q_7, q_8, q_9, q_10, q_11, q_12, q_13, q_14, q_16, q_20, q_23, q_24, q_32, q_42, q_43, q_45, q_47, q_48, q_50, q_57, q_59, q_60, q_61, q_62, q_63, q_64, q_66, q_91, q_93, q_97, q_99, q_122, q_144, q_255, q_256, q_300, q_380, q_400, q_620, q_999, q_1000, q_4095, q_4096, q_9999, q_65536, q_99999, q_31, nI_add, pk_mul, nE, nL, nT, nM31, nShl, ib_nI, nI_clamp, bI_n0, bI_n1, bI_nar, uI_r, uI_l, uL_r, uL_i, uL_p, uA_r, uA_l, bV_some, bU_some, nar_n0, nar_n1, and_self, and_true, true_and, and_false, false_and, if_true, if_false, eq_self, Bool.false_eq_true, Bool.true_eq_false, not_true_eq_false, not_false_eq_true, ↓reduceIte, nlT, nlF, ntT, ntF, neT, neF, ieT, ieF, decide_true, decide_false, Bool.not_true, Bool.not_false, Bool.and_true, Bool.true_and, Bool.and_false, Bool.false_and, Bool.or_true, Bool.true_or, Bool.or_false, Bool.false_or, h.pe, x_isSet, e1]
    exact ⟨_, rfl, FC.rf, h⟩
  | true =>
    cases e4 : lsB z 2 with
    | false =>
      simp (disch := omega) only [s122_0, s122_1, s122_2, s122_5, s122_8, s122_9, s122_11, s122_14, s122_17, s122_18, s122_19, s122_22, s122_25, s122_26, s122_27, s122_28, s122_31, s122_32, s122_35, s122_38, s122_39, s122_40, s122_43, s122_46, s122_47, s122_48, s122_49, s122_52, s122_53, s122_56, s122_57, s122_58, s122_59, s122_62, s122_63, s122_66, s122_67, s122_70, q_0, q_1, q_2, q_3, q_4, q_5, q_6, q_7, q_8, q_9, q_10, q_11, q_12, q_13, q_14, q_16, q_20, q_23, q_24, q_32, q_42, q_43, q_45, q_47, q_48, q_50, q_57, q_59, q_60, q_61, q_62, q_63, q_64, q_66, q_91, q_93, q_97, q_99, q_122, q_144, q_255, q_256, q_300, q_380, q_400, q_620, q_999, q_1000, q_4095, q_4096, q_9999, q_65536, q_99999, q_31, nI_add, pk_mul, nE, nL, nT, nM31, nShl, ib_nI, nI_clamp, bI_n0, bI_n1, bI_nar, uI_r, uI_l, uL_r, uL_i, uL_p, uA_r, uA_l, bV_some, bU_some, nar_n0, nar_n1, and_self, and_true, true_and, and_false, false_and, if_true, if_false, eq_self, Bool.false_eq_true, Bool.true_eq_false, not_true_eq_false, not_false_eq_true, ↓reduceIte, nlT, nlF, ntT, ntF, neT, neF, ieT, ieF, decide_true, decide_false, Bool.not_true, Bool.not_false, Bool.and_true, Bool.true_and, Bool.and_false, Bool.false_and, Bool.or_true, Bool.true_or, Bool.or_false, Bool.false_or, h.pe, x_isSet, e1, x_in, e4]
      exact ⟨_, rfl, FC.rf, h⟩
    | true =>
      cases e2 : lsB o (A 0 0) with
      | false =>
        simp (disch := omega) only [s122_0, s122_1, s122_2, s122_5, s122_8, s122_9, s122_11, s122_14, s122_17, s122_18, s122_19, s122_22, s122_25, s122_26, s122_27, s122_28, s122_31, s122_32, s122_35, s122_38, s122_39, s122_40, s122_43, s122_46, s122_47, s122_48, s122_49, s122_52, s122_53, s122_56, s122_57, s122_58, s122_59, s122_62, s122_63, s122_66, s122_67, s122_70, q_0, q_1, q_2, q_3, q_4, q_5, q_6, q_7, q_8, q_9, q_10, q_11, q_12, q_13, q_14, q_16, q_20, q_23, q_24, q_32, q_42, q_43, q_45, q_47, q_48, q_50, q_57, q_59, q_60, q_61, q_62, q_63, q_64, q_66, q_91, q_93, q_97, q_99, q_122, q_144, q_255, q_256, q_300, q_380, q_400, q_620, q_999, q_1000, q_4095, q_4096, q_9999, q_65536, q_99999, q_31, nI_add, pk_mul, nE, nL, nT, nM31, nShl, ib_nI, nI_clamp, bI_n0, bI_n1, bI_nar, uI_r, uI_l, uL_r, uL_i, uL_p, uA_r, uA_l, bV_some, bU_some, nar_n0, nar_n1, and_self, and_true, true_and, and_false, false_and, if_true, if_false, eq_self, Bool.false_eq_true, Bool.true_eq_false, not_true_eq_false, not_false_eq_true, ↓reduceIte, nlT, nlF, ntT, ntF, neT, neF, ieT, ieF, decide_true, decide_false, Bool.not_true, Bool.not_false, Bool.and_true, Bool.true_and, Bool.and_false, Bool.false_and, Bool.or_true, Bool.true_or, Bool.or_false, Bool.false_or, h.pe, x_isSet, e1, x_in, e4, x_isP h, e2]
        exact ⟨_, rfl, FC.rf, h⟩
      | true =>
        have e1' := e1
        have e2' := e2
        have e4' := e4
        obtain ⟨m, m1, rfl, m2, m3, m4⟩ := stB_t (by omega) e1
        obtain ⟨j, hj, rfl⟩ := lsB_t e2 (by omega)
        obtain ⟨k, hk, rfl⟩ := lsB_t e4 (by decide)
        have hP2 : 2 ^ A 0 0 ≤ 2 ^ 12 := Nat.pow_le_pow_right (by decide) hP
        rw [nI_clamp (by omega), nI_clamp (by omega)]
        cases e3 : m.testBit j with
        | false =>
          simp (disch := omega) only [s122_0, s122_1, s122_2, s122_5, s122_8, s122_9, s122_11, s122_14, s122_17, s122_18, s122_19, s122_22, s122_25, s122_26, s122_27, s122_28, s122_31, s122_32, s122_35, s122_38, s122_39, s122_40, s122_43, s122_46, s122_47, s122_48, s122_49, s122_52, s122_53, s122_56, s122_57, s122_58, s122_59, s122_62, s122_63, s122_66, s122_67, s122_70, q_0, q_1, q_2, q_3, q_4, q_5, q_6, q_7, q_8, q_9, q_10, q_11, q_12, q_13, q_14, q_16, q_20, q_23, q_24, q_32, q_42, q_43, q_45, q_47, q_48, q_50, q_57, q_59, q_60, q_61, q_62, q_63, q_64, q_66, q_91, q_93, q_97, q_99, q_122, q_144, q_255, q_256, q_300, q_380, q_400, q_620, q_999, q_1000, q_4095, q_4096, q_9999, q_65536, q_99999, q_31, nI_add, pk_mul, nE, nL, nT, nM31, nShl, ib_nI, nI_clamp, bI_n0, bI_n1, bI_nar, uI_r, uI_l, uL_r, uL_i, uL_p, uA_r, uA_l, bV_some, bU_some, nar_n0, nar_n1, and_self, and_true, true_and, and_false, false_and, if_true, if_false, eq_self, Bool.false_eq_true, Bool.true_eq_false, not_true_eq_false, not_false_eq_true, ↓reduceIte, nlT, nlF, ntT, ntF, neT, neF, ieT, ieF, decide_true, decide_false, Bool.not_true, Bool.not_false, Bool.and_true, Bool.true_and, Bool.and_false, Bool.false_and, Bool.or_true, Bool.true_or, Bool.or_false, Bool.false_or, h.pe, x_isSet, e1', x_in, e4', x_isP h, e2', x_has, e3]
          exact ⟨_, rfl, FC.rf, h⟩
        | true =>
          by_cases c : k = 0
          · subst c
            obtain ⟨S1, a1, a2⟩ := x_share true h hw (by omega) m3 e3 (by omega)
            have a1' : call 37 0 [vR 30 0, vR 1 0, vI (nI m), vI (nI j), vI (nI 1)] S = some (some (vI (shV A m j true)), S1) := a1
            simp (disch := omega) only [s122_0, s122_1, s122_2, s122_5, s122_8, s122_9, s122_11, s122_14, s122_17, s122_18, s122_19, s122_22, s122_25, s122_26, s122_27, s122_28, s122_31, s122_32, s122_35, s122_38, s122_39, s122_40, s122_43, s122_46, s122_47, s122_48, s122_49, s122_52, s122_53, s122_56, s122_57, s122_58, s122_59, s122_62, s122_63, s122_66, s122_67, s122_70, q_0, q_1, q_2, q_3, q_4, q_5, q_6, q_7, q_8, q_9, q_10, q_11, q_12, q_13, q_14, q_16, q_20, q_23, q_24, q_32, q_42, q_43, q_45, q_47, q_48, q_50, q_57, q_59, q_60, q_61, q_62, q_63, q_64, q_66, q_91, q_93, q_97, q_99, q_122, q_144, q_255, q_256, q_300, q_380, q_400, q_620, q_999, q_1000, q_4095, q_4096, q_9999, q_65536, q_99999, q_31, nI_add, pk_mul, nE, nL, nT, nM31, nShl, ib_nI, nI_clamp, bI_n0, bI_n1, bI_nar, uI_r, uI_l, uL_r, uL_i, uL_p, uA_r, uA_l, bV_some, bU_some, nar_n0, nar_n1, and_self, and_true, true_and, and_false, false_and, if_true, if_false, eq_self, Bool.false_eq_true, Bool.true_eq_false, not_true_eq_false, not_false_eq_true, ↓reduceIte, nlT, nlF, ntT, ntF, neT, neF, ieT, ieF, decide_true, decide_false, Bool.not_true, Bool.not_false, Bool.and_true, Bool.true_and, Bool.and_false, Bool.false_and, Bool.or_true, Bool.true_or, Bool.or_false, Bool.false_or, h.pe, x_isSet, e1', x_in, e4', x_isP h, e2', x_has, e3, a1']
            exact ⟨_, rfl, FC.pl a2 (by decide), h.pl a2 (by decide)⟩
          · obtain ⟨S1, a1, a2⟩ := x_share false h hw (by omega) m3 e3 (by omega)
            have a1' : call 37 0 [vR 30 0, vR 1 0, vI (nI m), vI (nI j), vI (nI 0)] S = some (some (vI (shV A m j false)), S1) := a1
            simp (disch := omega) only [s122_0, s122_1, s122_2, s122_5, s122_8, s122_9, s122_11, s122_14, s122_17, s122_18, s122_19, s122_22, s122_25, s122_26, s122_27, s122_28, s122_31, s122_32, s122_35, s122_38, s122_39, s122_40, s122_43, s122_46, s122_47, s122_48, s122_49, s122_52, s122_53, s122_56, s122_57, s122_58, s122_59, s122_62, s122_63, s122_66, s122_67, s122_70, q_0, q_1, q_2, q_3, q_4, q_5, q_6, q_7, q_8, q_9, q_10, q_11, q_12, q_13, q_14, q_16, q_20, q_23, q_24, q_32, q_42, q_43, q_45, q_47, q_48, q_50, q_57, q_59, q_60, q_61, q_62, q_63, q_64, q_66, q_91, q_93, q_97, q_99, q_122, q_144, q_255, q_256, q_300, q_380, q_400, q_620, q_999, q_1000, q_4095, q_4096, q_9999, q_65536, q_99999, q_31, nI_add, pk_mul, nE, nL, nT, nM31, nShl, ib_nI, nI_clamp, bI_n0, bI_n1, bI_nar, uI_r, uI_l, uL_r, uL_i, uL_p, uA_r, uA_l, bV_some, bU_some, nar_n0, nar_n1, and_self, and_true, true_and, and_false, false_and, if_true, if_false, eq_self, Bool.false_eq_true, Bool.true_eq_false, not_true_eq_false, not_false_eq_true, ↓reduceIte, nlT, nlF, ntT, ntF, neT, neF, ieT, ieF, decide_true, decide_false, Bool.not_true, Bool.not_false, Bool.and_true, Bool.true_and, Bool.and_false, Bool.false_and, Bool.or_true, Bool.true_or, Bool.or_false, Bool.false_or, h.pe, x_isSet, e1', x_in, e4', x_isP h, e2', x_has, e3, a1', c]
            exact ⟨_, rfl, FC.pl a2 (by decide), h.pl a2 (by decide)⟩
theorem r_share {S : Sto} {A : Tn} (h : RepM S A) (hw : WF A) (p o z : Int32) : ∃ S1, call 231 0 [vR 50 0, vI p, vI o, vI z] S = some (some (vI (o_share A p o z)), S1) ∧ FM S S1 ∧ RepM S1 A := by
  have hP := hw.pe
  have e6 := m_isGroup h hw p (lo := 1) (hi := 6) (by decide) (by decide)
  show ∃ S1, run 231 0 0 [vR 50 0, vI p, vI o, vI z, vU, vU, vU, vU, vU, vU, vU, vU, vU, vU] [] S = _ ∧ _
  unfold o_share
  cases e1 : stB p (A 0 0) 1 6 with
  | false =>
    rw [e1] at e6
    simp (disch := omega) only [s231_0, s231_1, s231_2, s231_3, s231_5, s231_8, s231_11, s231_12, s231_13, s231_16, s231_19, s231_20, s231_21, s231_24, s231_27, s231_28, s231_29, s231_30, s231_31, s231_34, s231_37, s231_38, s231_39, s231_40, s231_43, s231_44, s231_45, s231_46, s231_47, s231_48, s231_49, s231_50, s231_52, s231_53, s231_56, s231_58, s231_59, s231_61, s231_63, s231_65, s231_66, s231_70, s231_73, s231_75, s231_78, s231_80, s231_82, s231_84, s231_87, s231_89, s231_91, s231_92, s231_93, s231_94, s231_97, s231_98, s231_99, s231_101, s231_102, s231_103, s231_104, s231_105, s231_108, s231_109, s231_111, s231_114, s231_115, s231_116, s231_117, s231_118, s231_120, s231_122, s231_125, s231_126, s231_129, s231_130, s231_132, s231_134, s231_135, s231_136, s231_138, s231_139, s231_141, s231_144, s231_146, s231_149, s231_151, s231_153, s231_155, s231_158, s231_160, s231_161, s231_164, s231_166, s231_168, s231_169, s231_172, s231_174, s231_176, s231_177, s231_178, q_0, q_1, q_2, q_3, q_4, q_5, q_6, q_7, q_8, q_9, q_10, q_11, q_12, q_13, q_14, q_16, q_20, q_23, q_24, q_32, q_42, q_43, q_45, q_47, q_48, q_50, q_57, q_59, q_60, q_61, q_62, q_63, q_64, q_66, q_91, q_93, q_97, q_99, q_122, q_144, q_255, q_256, q_300, q_380, q_400, q_620, q_999, q_1000, q_4095, q_4096, q_9999, q_65536, q_99999, q_31, nI_add, pk_mul, nE, nL, nT, nM31, nShl, ib_nI, nI_clamp, bI_n0, bI_n1, bI_nar, uI_r, uI_l, uL_r, uL_i, uL_p, uA_r, uA_l, bV_some, bU_some, nar_n0, nar_n1, and_self, and_true, true_and, and_false, false_and, if_true, if_false, eq_self, Bool.false_eq_true, Bool.true_eq_false, not_true_eq_false, not_false_eq_true, ↓reduceIte, nlT, nlF, ntT, ntF, neT, neF, ieT, ieF, decide_true, decide_false, Bool.not_true, Bool.not_false, Bool.and_true, Bool.true_and, Bool.and_false, Bool.false_and, Bool.or_true, Bool.true_or, Bool.or_false, Bool.false_or, e6]
    exact ⟨_, rfl, FM.rf, h⟩
  | true =>
    rw [e1] at e6
    cases e2 : lsB o (A 0 0) with
    | false =>
      simp (disch := omega) only [s231_0, s231_1, s231_2, s231_3, s231_5, s231_8, s231_11, s231_12, s231_13, s231_16, s231_19, s231_20, s231_21, s231_24, s231_27, s231_28, s231_29, s231_30, s231_31, s231_34, s231_37, s231_38, s231_39, s231_40, s231_43, s231_44, s231_45, s231_46, s231_47, s231_48, s231_49, s231_50, s231_52, s231_53, s231_56, s231_58, s231_59, s231_61, s231_63, s231_65, s231_66, s231_70, s231_73, s231_75, s231_78, s231_80, s231_82, s231_84, s231_87, s231_89, s231_91, s231_92, s231_93, s231_94, s231_97, s231_98, s231_99, s231_101, s231_102, s231_103, s231_104, s231_105, s231_108, s231_109, s231_111, s231_114, s231_115, s231_116, s231_117, s231_118, s231_120, s231_122, s231_125, s231_126, s231_129, s231_130, s231_132, s231_134, s231_135, s231_136, s231_138, s231_139, s231_141, s231_144, s231_146, s231_149, s231_151, s231_153, s231_155, s231_158, s231_160, s231_161, s231_164, s231_166, s231_168, s231_169, s231_172, s231_174, s231_176, s231_177, s231_178, q_0, q_1, q_2, q_3, q_4, q_5, q_6, q_7, q_8, q_9, q_10, q_11, q_12, q_13, q_14, q_16, q_20, q_23, q_24, q_32, q_42, q_43, q_45, q_47, q_48, q_50, q_57, q_59, q_60, q_61, q_62, q_63, q_64, q_66, q_91, q_93, q_97, q_99, q_122, q_144, q_255, q_256, q_300, q_380, q_400, q_620, q_999, q_1000, q_4095, q_4096, q_9999, q_65536, q_99999, q_31, nI_add, pk_mul, nE, nL, nT, nM31, nShl, ib_nI, nI_clamp, bI_n0, bI_n1, bI_nar, uI_r, uI_l, uL_r, uL_i, uL_p, uA_r, uA_l, bV_some, bU_some, nar_n0, nar_n1, and_self, and_true, true_and, and_false, false_and, if_true, if_false, eq_self, Bool.false_eq_true, Bool.true_eq_false, not_true_eq_false, not_false_eq_true, ↓reduceIte, nlT, nlF, ntT, ntF, neT, neF, ieT, ieF, decide_true, decide_false, Bool.not_true, Bool.not_false, Bool.and_true, Bool.true_and, Bool.and_false, Bool.false_and, Bool.or_true, Bool.true_or, Bool.or_false, Bool.false_or, e6, m_isP h hw, e2]
      exact ⟨_, rfl, FM.rf, h⟩
    | true =>
      have e1' := e1
      have e2' := e2
      obtain ⟨m, m1, rfl, m2, m3, m4⟩ := stB_t (by omega) e1
      obtain ⟨j, hj, rfl⟩ := lsB_t e2 (by omega)
      have hP2 : 2 ^ A 0 0 ≤ 2 ^ 12 := Nat.pow_le_pow_right (by decide) hP
      rw [nI_clamp (by omega), nI_clamp (by omega)]
      cases e3 : m.testBit j with
      | false =>
        simp (disch := omega) only [s231_0, s231_1, s231_2, s231_3, s231_5, s231_8, s231_11, s231_12, s231_13, s231_16, s231_19, s231_20, s231_21, s231_24, s231_27, s231_28, s231_29, s231_30, s231_31, s231_34, s231_37, s231_38, s231_39, s231_40, s231_43, s231_44, s231_45, s231_46, s231_47, s231_48, s231_49, s231_50, s231_52, s231_53, s231_56, s231_58, s231_59, s231_61, s231_63, s231_65, s231_66, s231_70, s231_73, s231_75, s231_78, s231_80, s231_82, s231_84, s231_87, s231_89, s231_91, s231_92, s231_93, s231_94, s231_97, s231_98, s231_99, s231_101, s231_102, s231_103, s231_104, s231_105, s231_108, s231_109, s231_111, s231_114, s231_115, s231_116, s231_117, s231_118, s231_120, s231_122, s231_125, s231_126, s231_129, s231_130, s231_132, s231_134, s231_135, s231_136, s231_138, s231_139, s231_141, s231_144, s231_146, s231_149, s231_151, s231_153, s231_155, s231_158, s231_160, s231_161, s231_164, s231_166, s231_168, s231_169, s231_172, s231_174, s231_176, s231_177, s231_178, q_0, q_1, q_2, q_3, q_4, q_5, q_6, q_7, q_8, q_9, q_10, q_11, q_12, q_13, q_14, q_16, q_20, q_23, q_24, q_32, q_42, q_43, q_45, q_47, q_48, q_50, q_57, q_59, q_60, q_61, q_62, q_63, q_64, q_66, q_91, q_93, q_97, q_99, q_122, q_144, q_255, q_256, q_300, q_380, q_400, q_620, q_999, q_1000, q_4095, q_4096, q_9999, q_65536, q_99999, q_31, nI_add, pk_mul, nE, nL, nT, nM31, nShl, ib_nI, nI_clamp, bI_n0, bI_n1, bI_nar, uI_r, uI_l, uL_r, uL_i, uL_p, uA_r, uA_l, bV_some, bU_some, nar_n0, nar_n1, and_self, and_true, true_and, and_false, false_and, if_true, if_false, eq_self, Bool.false_eq_true, Bool.true_eq_false, not_true_eq_false, not_false_eq_true, ↓reduceIte, nlT, nlF, ntT, ntF, neT, neF, ieT, ieF, decide_true, decide_false, Bool.not_true, Bool.not_false, Bool.and_true, Bool.true_and, Bool.and_false, Bool.false_and, Bool.or_true, Bool.true_or, Bool.or_false, Bool.false_or, e6, m_isP h hw, e2', m_has, e3]
        exact ⟨_, rfl, FM.rf, h⟩
      | true =>
        cases e4 : lsB z 2 with
        | false =>
          simp (disch := omega) only [s231_0, s231_1, s231_2, s231_3, s231_5, s231_8, s231_11, s231_12, s231_13, s231_16, s231_19, s231_20, s231_21, s231_24, s231_27, s231_28, s231_29, s231_30, s231_31, s231_34, s231_37, s231_38, s231_39, s231_40, s231_43, s231_44, s231_45, s231_46, s231_47, s231_48, s231_49, s231_50, s231_52, s231_53, s231_56, s231_58, s231_59, s231_61, s231_63, s231_65, s231_66, s231_70, s231_73, s231_75, s231_78, s231_80, s231_82, s231_84, s231_87, s231_89, s231_91, s231_92, s231_93, s231_94, s231_97, s231_98, s231_99, s231_101, s231_102, s231_103, s231_104, s231_105, s231_108, s231_109, s231_111, s231_114, s231_115, s231_116, s231_117, s231_118, s231_120, s231_122, s231_125, s231_126, s231_129, s231_130, s231_132, s231_134, s231_135, s231_136, s231_138, s231_139, s231_141, s231_144, s231_146, s231_149, s231_151, s231_153, s231_155, s231_158, s231_160, s231_161, s231_164, s231_166, s231_168, s231_169, s231_172, s231_174, s231_176, s231_177, s231_178, q_0, q_1, q_2, q_3, q_4, q_5, q_6, q_7, q_8, q_9, q_10, q_11, q_12, q_13, q_14, q_16, q_20, q_23, q_24, q_32, q_42, q_43, q_45, q_47, q_48, q_50, q_57, q_59, q_60, q_61, q_62, q_63, q_64, q_66, q_91, q_93, q_97, q_99, q_122, q_144, q_255, q_256, q_300, q_380, q_400, q_620, q_999, q_1000, q_4095, q_4096, q_9999, q_65536, q_99999, q_31, nI_add, pk_mul, nE, nL, nT, nM31, nShl, ib_nI, nI_clamp, bI_n0, bI_n1, bI_nar, uI_r, uI_l, uL_r, uL_i, uL_p, uA_r, uA_l, bV_some, bU_some, nar_n0, nar_n1, and_self, and_true, true_and, and_false, false_and, if_true, if_false, eq_self, Bool.false_eq_true, Bool.true_eq_false, not_true_eq_false, not_false_eq_true, ↓reduceIte, nlT, nlF, ntT, ntF, neT, neF, ieT, ieF, decide_true, decide_false, Bool.not_true, Bool.not_false, Bool.and_true, Bool.true_and, Bool.and_false, Bool.false_and, Bool.or_true, Bool.true_or, Bool.or_false, Bool.false_or, e6, m_isP h hw, e2', m_has, e3, min_1, min_2, min_3, min_20, min_60, min_99, min_999, min_9999, min_99999, e4]
          exact ⟨_, rfl, FM.rf, h⟩
        | true =>
          have e4' := e4
          obtain ⟨k, hk, rfl⟩ := lsB_t e4 (by decide)
          have ez : bI (!decide (nI k = nI 0)) = nI k := by
            have hc : k = 0 ∨ k = 1 := by omega
            rcases hc with rfl | rfl <;> decide
          obtain ⟨S1, a1, a2⟩ := m_share (decide (nI k = nI 0)) h hw (p := m) (o := j) (by omega) m3 e3 (by omega)
          rw [ez] at a1
          simp (disch := omega) only [s231_0, s231_1, s231_2, s231_3, s231_5, s231_8, s231_11, s231_12, s231_13, s231_16, s231_19, s231_20, s231_21, s231_24, s231_27, s231_28, s231_29, s231_30, s231_31, s231_34, q_0, q_1, q_2, q_3, q_4, q_5, q_6, q_7, q_8, q_9, q_10, q_11, q_12, q_13, q_14, q_16, q_20, q_23, q_24, q_32, q_42, q_43, q_45, q_47, q_48, q_50, q_57, q_59, q_60, q_61, q_62, q_63, q_64, q_66, q_91, q_93, q_97, q_99, q_122, q_144, q_255, q_256, q_300, q_380, q_400, q_620, q_999, q_1000, q_4095, q_4096, q_9999, q_65536, q_99999, q_31, nI_add, pk_mul, nE, nL, nT, nM31, nShl, ib_nI, nI_clamp, bI_n0, bI_n1, bI_nar, uI_r, uI_l, uL_r, uL_i, uL_p, uA_r, uA_l, bV_some, bU_some, nar_n0, nar_n1, and_self, and_true, true_and, and_false, false_and, if_true, if_false, eq_self, Bool.false_eq_true, Bool.true_eq_false, not_true_eq_false, not_false_eq_true, ↓reduceIte, nlT, nlF, ntT, ntF, neT, neF, ieT, ieF, decide_true, decide_false, Bool.not_true, Bool.not_false, Bool.and_true, Bool.true_and, Bool.and_false, Bool.false_and, Bool.or_true, Bool.true_or, Bool.or_false, Bool.false_or, e6, m_isP h hw, e2', m_has, e3, min_1, min_2, min_3, min_20, min_60, min_99, min_999, min_9999, min_99999, e4']
          refine ⟨S1, ?_, FM.pl a2 (by decide), h.pl a2 (by decide)⟩
          rw [a1]
          simp (disch := omega) only [q_0, q_1, q_2, q_3, q_4, q_5, q_6, q_7, q_8, q_9, q_10, q_11, q_12, q_13, q_14, q_16, q_20, q_23, q_24, q_32, q_42, q_43, q_45, q_47, q_48, q_50, q_57, q_59, q_60, q_61, q_62, q_63, q_64, q_66, q_91, q_93, q_97, q_99, q_122, q_144, q_255, q_256, q_300, q_380, q_400, q_620, q_999, q_1000, q_4095, q_4096, q_9999, q_65536, q_99999, q_31, nI_add, pk_mul, nE, nL, nT, nM31, nShl, ib_nI, nI_clamp, bI_n0, bI_n1, bI_nar, uI_r, uI_l, uL_r, uL_i, uL_p, uA_r, uA_l, bV_some, bU_some, nar_n0, nar_n1, and_self, and_true, true_and, and_false, false_and, if_true, if_false, eq_self, Bool.false_eq_true, Bool.true_eq_false, not_true_eq_false, not_false_eq_true, ↓reduceIte, nlT, nlF, ntT, ntF, neT, neF, ieT, ieF, decide_true, decide_false, Bool.not_true, Bool.not_false, Bool.and_true, Bool.true_and, Bool.and_false, Bool.false_and, Bool.or_true, Bool.true_or, Bool.or_false, Bool.false_or]
