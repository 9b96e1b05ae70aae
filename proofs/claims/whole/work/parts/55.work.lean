/-! sets as bits; work -/
theorem pop_r {m : Nat} (hm : m < 2 ^ 32) : pop m = m % 2 + pop (m / 2) := by
  unfold pop
  have e := ct_add (fun i => m.testBit i) 1 31
  show ct (fun i => m.testBit i) (1 + 31) = _
  rw [e]
  have e1 : ct (fun i => m.testBit i) 1 = m % 2 := by
    show 0 + (if m.testBit 0 then 1 else 0) = _
    rw [Nat.testBit_zero]
    by_cases h : m % 2 = 1
    · simp [h]
    · have : m % 2 = 0 := by omega
      simp [this]
  have e2 : ct (fun i => m.testBit (1 + i)) 31 = ct (fun i => (m / 2).testBit i) 31 := by
    apply ct_congr
    intro i _
    show m.testBit (1 + i) = (m / 2).testBit i
    rw [Nat.add_comm, Nat.testBit_succ]
  have e3 : ct (fun i => (m / 2).testBit i) (31 + 1) = ct (fun i => (m / 2).testBit i) 31 := by
    apply ct_zero
    intro i h1 h2
    exact Nat.testBit_lt_two_pow (Nat.lt_of_lt_of_le (show m / 2 < 2 ^ 31 by omega) (Nat.pow_le_pow_right (by decide) h1))
  rw [e1, e2, ← e3]
theorem and_e (a b : Nat) : (2 * a) &&& (2 * b + 1) = 2 * (a &&& b) := by
  apply Nat.eq_of_testBit_eq
  intro i
  rw [Nat.testBit_and]
  cases i with
  | zero => simp [Nat.testBit_zero]
  | succ i =>
    have e1 : (2 * b + 1) / 2 = b := by omega
    simp [Nat.testBit_succ, e1, Nat.testBit_and]
theorem and_o (a b : Nat) : (2 * a + 1) &&& (2 * b) = 2 * (a &&& b) := by
  rw [Nat.and_comm, and_e, Nat.and_comm]
theorem and_pred : ∀ {m : Nat}, 0 < m → m < 2 ^ 32 → pop (m &&& (m - 1)) + 1 = pop m ∧ m &&& (m - 1) < m
  | m, h0, h1 => by
    by_cases h2 : m % 2 = 1
    · have e : m &&& (m - 1) = m - 1 := by
        have e1 : m = 2 * (m / 2) + 1 := by omega
        have e2 : m - 1 = 2 * (m / 2) := by omega
        rw [e2]
        have := and_o (m / 2) (m / 2)
        rw [← e1, Nat.and_self] at this
        exact this
      rw [e, pop_r (m := m - 1) (by omega), pop_r (m := m) h1]
      have e3 : (m - 1) / 2 = m / 2 := by omega
      rw [e3]
      omega
    · have e1 : m = 2 * (m / 2) := by omega
      have e2 : m - 1 = 2 * (m / 2 - 1) + 1 := by omega
      have e : m &&& (m - 1) = 2 * (m / 2 &&& (m / 2 - 1)) := by
        rw [e2]
        have := and_e (m / 2) (m / 2 - 1)
        rw [← e1] at this
        exact this
      have ih := and_pred (m := m / 2) (by omega) (by omega)
      rw [e, pop_r (m := 2 * (m / 2 &&& (m / 2 - 1))) (by omega), pop_r (m := m) h1]
      have e3 : 2 * (m / 2 &&& (m / 2 - 1)) / 2 = m / 2 &&& (m / 2 - 1) := by omega
      rw [e3]
      omega
theorem pop_0 : pop 0 = 0 := by decide
theorem nI_sub1 {m : Nat} (h : 0 < m) : nI m - nI 1 = nI (m - 1) := pk_sub h
theorem m_bits (S : Sto) {m : Nat} (hm : m < 2 ^ 31) : call 148 0 [vI (nI m)] S = some (some (vI (nI (pop m))), S) := by
  show run 148 0 0 [vI (nI m), vU, vU] [] S = _
  simp only [s148_0, s148_1, s148_2, s148_3, s148_5, s148_8, s148_11, s148_12, s148_13, s148_14, s148_15, s148_16, s148_17, s148_20, s148_21]
  have key : ∀ n v, v ≤ n → v < 2 ^ 31 → pop v ≤ pop m → run 148 0 4 [vI (nI m), vI (nI (pop m - pop v)), vI (nI v)] [] S = some (some (vI (nI (pop m))), S) := by
    intro n
    induction n with
    | zero =>
      intro v h1 h2 h3
      have e : v = 0 := by omega
      subst e
      rw [s148_4]
      simp (disch := omega) only [s148_0, s148_1, s148_2, s148_3, s148_5, s148_8, s148_11, s148_12, s148_13, s148_14, s148_15, s148_16, s148_17, s148_20, s148_21, q_0, q_1, q_2, q_3, q_4, q_5, q_6, q_7, q_8, q_9, q_10, q_11, q_12, q_13, q_14, q_16, q_20, q_23, q_24, q_32, q_42, q_43, q_45, q_47, q_48, q_50, q_57, q_59, q_60, q_61, q_62, q_63, q_64, q_66, q_91, q_93, q_97, q_99, q_122, q_144, q_255, q_256, q_300, q_380, q_400, q_620, q_999, q_1000, q_4095, q_4096, q_9999, q_65536, q_99999, q_31, nI_add, pk_mul, nE, nL, nT, nM31, nShl, ib_nI, nI_clamp, bI_n0, bI_n1, bI_nar, uI_r, uI_l, uL_r, uL_i, uL_p, uA_r, uA_l, bV_some, bU_some, nar_n0, nar_n1, and_self, and_true, true_and, and_false, false_and, if_true, if_false, eq_self, Bool.false_eq_true, Bool.true_eq_false, not_true_eq_false, not_false_eq_true, ↓reduceIte, nlT, nlF, ntT, ntF, neT, neF, ieT, ieF, decide_true, decide_false, Bool.not_true, Bool.not_false, Bool.and_true, Bool.true_and, Bool.and_false, Bool.false_and, Bool.or_true, Bool.true_or, Bool.or_false, Bool.false_or, pop_0, Nat.sub_zero]
    | succ n ih =>
      intro v h1 h2 h3
      by_cases e : v = 0
      · subst e
        rw [s148_4]
        simp (disch := omega) only [s148_0, s148_1, s148_2, s148_3, s148_5, s148_8, s148_11, s148_12, s148_13, s148_14, s148_15, s148_16, s148_17, s148_20, s148_21, q_0, q_1, q_2, q_3, q_4, q_5, q_6, q_7, q_8, q_9, q_10, q_11, q_12, q_13, q_14, q_16, q_20, q_23, q_24, q_32, q_42, q_43, q_45, q_47, q_48, q_50, q_57, q_59, q_60, q_61, q_62, q_63, q_64, q_66, q_91, q_93, q_97, q_99, q_122, q_144, q_255, q_256, q_300, q_380, q_400, q_620, q_999, q_1000, q_4095, q_4096, q_9999, q_65536, q_99999, q_31, nI_add, pk_mul, nE, nL, nT, nM31, nShl, ib_nI, nI_clamp, bI_n0, bI_n1, bI_nar, uI_r, uI_l, uL_r, uL_i, uL_p, uA_r, uA_l, bV_some, bU_some, nar_n0, nar_n1, and_self, and_true, true_and, and_false, false_and, if_true, if_false, eq_self, Bool.false_eq_true, Bool.true_eq_false, not_true_eq_false, not_false_eq_true, ↓reduceIte, nlT, nlF, ntT, ntF, neT, neF, ieT, ieF, decide_true, decide_false, Bool.not_true, Bool.not_false, Bool.and_true, Bool.true_and, Bool.and_false, Bool.false_and, Bool.or_true, Bool.true_or, Bool.or_false, Bool.false_or, pop_0, Nat.sub_zero]
      · obtain ⟨h4, h5⟩ := and_pred (m := v) (by omega) (by omega)
        rw [s148_4]
        simp (disch := omega) only [s148_0, s148_1, s148_2, s148_3, s148_5, s148_8, s148_11, s148_12, s148_13, s148_14, s148_15, s148_16, s148_17, s148_20, s148_21, q_0, q_1, q_2, q_3, q_4, q_5, q_6, q_7, q_8, q_9, q_10, q_11, q_12, q_13, q_14, q_16, q_20, q_23, q_24, q_32, q_42, q_43, q_45, q_47, q_48, q_50, q_57, q_59, q_60, q_61, q_62, q_63, q_64, q_66, q_91, q_93, q_97, q_99, q_122, q_144, q_255, q_256, q_300, q_380, q_400, q_620, q_999, q_1000, q_4095, q_4096, q_9999, q_65536, q_99999, q_31, nI_add, pk_mul, nE, nL, nT, nM31, nShl, ib_nI, nI_clamp, bI_n0, bI_n1, bI_nar, uI_r, uI_l, uL_r, uL_i, uL_p, uA_r, uA_l, bV_some, bU_some, nar_n0, nar_n1, and_self, and_true, true_and, and_false, false_and, if_true, if_false, eq_self, Bool.false_eq_true, Bool.true_eq_false, not_true_eq_false, not_false_eq_true, ↓reduceIte, nlT, nlF, ntT, ntF, neT, neF, ieT, ieF, decide_true, decide_false, Bool.not_true, Bool.not_false, Bool.and_true, Bool.true_and, Bool.and_false, Bool.false_and, Bool.or_true, Bool.true_or, Bool.or_false, Bool.false_or, nI_sub1, nx_and]
        have := ih (v &&& (v - 1)) (by omega) (by omega) (by omega)
        rw [show pop m - pop v + 1 = pop m - pop (v &&& (v - 1)) by omega]
        exact this
  have := key m m (Nat.le_refl m) hm (Nat.le_refl _)
  rw [Nat.sub_self] at this
  exact this
/-- a set below bit T with lo to hi bits -/
def stB (x : Int32) (T lo hi : Nat) : Bool := lsB x (2 ^ T) && decide (lo ≤ pop x.toNatClampNeg) && decide (pop x.toNatClampNeg ≤ hi)
theorem nI_z {m : Nat} (hm : m < 2 ^ 32) : (nI m = nI 0) = (m = 0) := by
  apply propext
  constructor
  · intro h
    have := congrArg (fun x : Int32 => x.toBitVec.toNat) h
    simp only [pk_tn hm, pk_tn (show 0 < 2 ^ 32 by decide)] at this
    exact this
  · rintro rfl
    rfl
theorem nI_self (x : Int32) : x = nI x.toBitVec.toNat := by
  apply Int32.toBitVec_inj.1
  show x.toBitVec = BitVec.ofNat 32 x.toBitVec.toNat
  simp
theorem us_ok : ∀ i, i < 32 → (((nI i).toUInt32 &&& Int32.toUInt32 (nI 31)).toBitVec % 32).toNat = i := by decide +kernel
theorem lsB_f {m n : Nat} (hm : m < 2 ^ 32) (h : n ≤ m) (hn : n < 2 ^ 31) : lsB (nI m) n = false := by
  by_cases h2 : m < 2 ^ 31
  · rw [lsB_n h2 hn]
    simp
    exact h
  · have h3 : nI m < 0 := by
      rw [Int32.lt_iff_toInt_lt]
      have e : (nI m).toInt = ((m : Int)).bmod (2 ^ 32) := by
        show (Int32.ofNat m).toInt = _
        simp [Int32.toInt_ofNat]
      have e0 : (0 : Int32).toInt = 0 := rfl
      rw [e, e0, Int.bmod_def]
      have e2 : (m : Int) % ((2 ^ 32 : Nat) : Int) = m := Int.emod_eq_of_lt (by omega) (by omega)
      rw [e2, if_neg (by omega)]
      omega
    unfold lsB
    simp [h3]
theorem x_isSet (S : Sto) (x : Int32) {T lo hi : Nat} (hT : T ≤ 24) (hlo : lo < 64) (hhi : hi < 64) : call 100 0 [vI x, vI (nI T), vI (nI lo), vI (nI hi)] S = some (some (vI (bI (stB x T lo hi))), S) := by
  obtain ⟨m, hm, rfl⟩ : ∃ m, m < 2 ^ 32 ∧ x = nI m := ⟨_, x.toBitVec.isLt, nI_self x⟩
  have hp := pop_le m
  have hT2 : 2 ^ T ≤ 2 ^ 24 := Nat.pow_le_pow_right (by decide) hT
  have h1 : ((nI m).toUInt32 >>> ((nI T).toUInt32 &&& Int32.toUInt32 (nI 31))).toInt32 = nI (m / 2 ^ T) := pk_ushrN hm (nI T) T (us_ok T (by omega))
  have h2 : m / 2 ^ T < 2 ^ 32 := Nat.lt_of_le_of_lt (Nat.div_le_self _ _) hm
  show run 100 0 0 [vI (nI m), vI (nI T), vI (nI lo), vI (nI hi), vU] [] S = _
  simp (disch := omega) only [s100_0, s100_1, s100_4, s100_6, s100_7, s100_8, s100_9, s100_12, s100_14, s100_15, s100_18, s100_20, s100_21, s100_24, s100_25, s100_28, s100_29, q_0, q_1, q_2, q_3, q_4, q_5, q_6, q_7, q_8, q_9, q_10, q_11, q_12, q_13, q_14, q_16, q_20, q_23, q_24, q_32, q_42, q_43, q_45, q_47, q_48, q_50, q_57, q_59, q_60, q_61, q_62, q_63, q_64, q_66, q_91, q_93, q_97, q_99, q_122, q_144, q_255, q_256, q_300, q_380, q_400, q_620, q_999, q_1000, q_4095, q_4096, q_9999, q_65536, q_99999, q_31, nI_add, pk_mul, nE, nL, nT, nM31, nShl, ib_nI, nI_clamp, bI_n0, bI_n1, bI_nar, uI_r, uI_l, uL_r, uL_i, uL_p, uA_r, uA_l, bV_some, bU_some, nar_n0, nar_n1, and_self, and_true, true_and, and_false, false_and, if_true, if_false, eq_self, Bool.false_eq_true, Bool.true_eq_false, not_true_eq_false, not_false_eq_true, ↓reduceIte, nlT, nlF, ntT, ntF, neT, neF, ieT, ieF, decide_true, decide_false, Bool.not_true, Bool.not_false, Bool.and_true, Bool.true_and, Bool.and_false, Bool.false_and, Bool.or_true, Bool.true_or, Bool.or_false, Bool.false_or, x_bitCount, h1, nI_z]
  have h3 : m / 2 ^ T = 0 ↔ m < 2 ^ T := by
    rw [Nat.div_eq_zero_iff]
    have := Nat.two_pow_pos T
    omega
  unfold stB
  by_cases e : m < 2 ^ T
  · rw [lsB_n (by omega) (by omega), nI_clamp (by omega)]
    have e0 := h3.mpr e
    by_cases e1 : lo ≤ pop m
    · have f1 : ¬ pop m < lo := by omega
      by_cases e2 : pop m ≤ hi
      · have f2 : ¬ hi < pop m := by omega
        simp [e0, e, e1, e2, f1, f2, bI, nar_0, nar_1, nI_0, nI_one]
      · have f2 : hi < pop m := by omega
        simp [e0, e, e1, e2, f1, f2, bI, nar_0, nar_1, nI_0, nI_one]
    · have f1 : pop m < lo := by omega
      by_cases e2 : pop m ≤ hi
      · have f2 : ¬ hi < pop m := by omega
        simp [e0, e, e1, e2, f1, f2, bI, nar_0, nar_1, nI_0, nI_one]
      · have f2 : hi < pop m := by omega
        simp [e0, e, e1, e2, f1, f2, bI, nar_0, nar_1, nI_0, nI_one]
  · rw [lsB_f hm (by omega) (by omega)]
    have e0 : ¬ m / 2 ^ T = 0 := fun q => e (h3.mp q)
    simp [e0, bI, nar_0, nar_1, nI_0, nI_one]
def o_work (A : Tn) (a s u d : Int32) : Int32 × Tn := if A 0 2 < 12 ∧ alB A a = true ∧ stB s (A 0 1) 1 4 = true ∧ lsB u 10000 = true ∧ lsB d 100 = true then (nI (A 0 2), uT (uT (uT (uT (uT (uT A 10 (A 0 2) a.toNatClampNeg) 11 (A 0 2) s.toNatClampNeg) 12 (A 0 2) u.toNatClampNeg) 13 (A 0 2) d.toNatClampNeg) 14 (A 0 2) 0) 0 2 (A 0 2 + 1)) else (-nI 1, A)
theorem stB_t {x : Int32} {T lo hi : Nat} (hT : T ≤ 24) (h : stB x T lo hi = true) : ∃ m, m < 2 ^ T ∧ x = nI m ∧ lo ≤ pop m ∧ pop m ≤ hi ∧ m < 2 ^ 24 := by
  have hT2 : 2 ^ T ≤ 2 ^ 24 := Nat.pow_le_pow_right (by decide) hT
  unfold stB at h
  simp only [Bool.and_eq_true, decide_eq_true_eq] at h
  obtain ⟨m, hm, rfl⟩ := lsB_t h.1.1 (by omega)
  rw [nI_clamp (by omega)] at h
  exact ⟨m, hm, rfl, h.1.2, h.2, by omega⟩
theorem w_work {A : Tn} (h : WF A) (a s u d : Int32) : WF (o_work A a s u d).2 := by
  have hP := h.pe
  have hT := h.th
  have hW := h.wk
  unfold o_work
  split
  · rename_i e
    obtain ⟨i, hi, rfl, l1⟩ := alB_t h e.2.1
    obtain ⟨m, hm, rfl, m1, m2, m3⟩ := stB_t hT e.2.2.1
    obtain ⟨v, hv, rfl⟩ := lsB_t e.2.2.2.1 (by decide)
    obtain ⟨y, hy, rfl⟩ := lsB_t e.2.2.2.2 (by decide)
    rw [nI_clamp (by omega), nI_clamp (by omega), nI_clamp (by omega), nI_clamp (by omega)]
    have hm0 : m ≠ 0 := by
      rintro rfl
      rw [pop_0] at m1
      omega
    have hc : ct (fun i => m.testBit i) 24 ≤ 4 := by
      rw [← pop_lt m3 (by decide)]
      exact m2
    show WF (uT (uT (uT (uT (uT (uT A 10 (A 0 2) i) 11 (A 0 2) m) 12 (A 0 2) v) 13 (A 0 2) y) 14 (A 0 2) 0) 0 2 (A 0 2 + 1))
    have e3 : uT (uT (uT (uT (uT (uT A 10 (A 0 2) i) 11 (A 0 2) m) 12 (A 0 2) v) 13 (A 0 2) y) 14 (A 0 2) 0) 0 2 (A 0 2 + 1) 0 2 = A 0 2 + 1 := rfl
    refine ⟨⟨h.1.1, h.1.2.1, ?_, h.1.2.2.2⟩, h.2.1, h.2.2.1, h.2.2.2.1, h.2.2.2.2.1, fun w hw => ?_, fun w hw => ?_, fun k hk => ?_, h.2.2.2.2.2.2.2.2.1, fun w hw => ?_⟩
    · simp (disch := omega) only [uT_r, uQ_r, and_self, and_true, true_and, and_false, false_and, if_true, if_false, if_pos, if_neg]; omega
    · by_cases e1 : w = A 0 2
      · subst e1
        simp (disch := omega) only [uT_r, uQ_r, and_self, and_true, true_and, and_false, false_and, if_true, if_false, if_pos, if_neg]
        exact ⟨hi, hm, hm0, hc, by omega, by omega⟩
      · have h1 := h.w (w := w) (by omega)
        simp (disch := omega) only [uT_r, uQ_r, and_self, and_true, true_and, and_false, false_and, if_true, if_false, if_pos, if_neg]
        exact h1
    · have h1 := h.2.2.2.2.2.2.1 w hw
      by_cases e1 : w = A 0 2
      · subst e1
        simp (disch := omega) only [uT_r, uQ_r, and_self, and_true, true_and, and_false, false_and, if_true, if_false, if_pos, if_neg]
        omega
      · simp (disch := omega) only [uT_r, uQ_r, and_self, and_true, true_and, and_false, false_and, if_true, if_false, if_pos, if_neg]
        refine ⟨h1.1, fun q => ?_⟩
        have := h1.2 q
        omega
    · have h1 := h.ro (k := k) hk
      simp (disch := omega) only [uT_r, uQ_r, and_self, and_true, true_and, and_false, false_and, if_true, if_false, if_pos, if_neg]
      omega
    · have h1 := h.W hw
      by_cases e1 : w = A 0 2
      · subst e1
        simp (disch := omega) only [uT_r, uQ_r, and_self, and_true, true_and, and_false, false_and, if_true, if_false, if_pos, if_neg]
        omega
      · simp (disch := omega) only [uT_r, uQ_r, and_self, and_true, true_and, and_false, false_and, if_true, if_false, if_pos, if_neg]
        exact h1
  · exact h
theorem c_work {S : Sto} {A : Tn} (h : RepC S 0 A) (hw : WF A) (a s u d : Int32) : ∃ S1, call 99 0 [vR 0 0, vI a, vI s, vI u, vI d] S = some (some (vI (o_work A a s u d).1), S1) ∧ FC S S1 ∧ RepC S1 0 (o_work A a s u d).2 := by
  have hP := hw.pe
  have hT := hw.th
  have hW := hw.wk
  show ∃ S1, run 99 0 0 [vR 0 0, vI a, vI s, vI u, vI d, vU] [] S = _ ∧ _
  unfold o_work
  by_cases e0 : A 0 2 < 12
  · cases e1 : alB A a with
    | false =>
      simp (disch := omega) only [s99_0, s99_1, s99_4, s99_7, s99_9, s99_12, s99_13, s99_16, s99_17, s99_20, s99_23, s99_24, s99_25, s99_26, s99_27, s99_30, s99_33, s99_34, s99_35, s99_38, s99_41, s99_42, s99_43, s99_44, s99_47, s99_50, s99_53, s99_55, s99_57, s99_60, s99_63, s99_64, s99_65, s99_66, s99_69, s99_70, s99_73, s99_74, s99_75, s99_76, s99_79, s99_81, s99_82, s99_85, s99_88, s99_90, s99_91, s99_92, s99_93, s99_96, s99_99, s99_101, s99_102, s99_103, s99_104, s99_107, s99_110, s99_112, s99_113, s99_114, s99_115, s99_118, s99_121, s99_123, s99_125, s99_126, s99_128, q_0, q_1, q_2, q_3, q_4, q_5, q_6, q_7, q_8, q_9, q_10, q_11, q_12, q_13, q_14, q_16, q_20, q_23, q_24, q_32, q_42, q_43, q_45, q_47, q_48, q_50, q_57, q_59, q_60, q_61, q_62, q_63, q_64, q_66, q_91, q_93, q_97, q_99, q_122, q_144, q_255, q_256, q_300, q_380, q_400, q_620, q_999, q_1000, q_4095, q_4096, q_9999, q_65536, q_99999, q_31, nI_add, pk_mul, nE, nL, nT, nM31, nShl, ib_nI, nI_clamp, bI_n0, bI_n1, bI_nar, uI_r, uI_l, uL_r, uL_i, uL_p, uA_r, uA_l, bV_some, bU_some, nar_n0, nar_n1, and_self, and_true, true_and, and_false, false_and, if_true, if_false, eq_self, Bool.false_eq_true, Bool.true_eq_false, not_true_eq_false, not_false_eq_true, ↓reduceIte, nlT, nlF, ntT, ntF, neT, neF, ieT, ieF, decide_true, decide_false, Bool.not_true, Bool.not_false, Bool.and_true, Bool.true_and, Bool.and_false, Bool.false_and, Bool.or_true, Bool.true_or, Bool.or_false, Bool.false_or, h.wk, x_isAl h hw, e1]
      exact ⟨_, rfl, FC.rf, h⟩
    | true =>
      cases e2 : stB s (A 0 1) 1 4 with
      | false =>
        simp (disch := omega) only [s99_0, s99_1, s99_4, s99_7, s99_9, s99_12, s99_13, s99_16, s99_17, s99_20, s99_23, s99_24, s99_25, s99_26, s99_27, s99_30, s99_33, s99_34, s99_35, s99_38, s99_41, s99_42, s99_43, s99_44, s99_47, s99_50, s99_53, s99_55, s99_57, s99_60, s99_63, s99_64, s99_65, s99_66, s99_69, s99_70, s99_73, s99_74, s99_75, s99_76, s99_79, s99_81, s99_82, s99_85, s99_88, s99_90, s99_91, s99_92, s99_93, s99_96, s99_99, s99_101, s99_102, s99_103, s99_104, s99_107, s99_110, s99_112, s99_113, s99_114, s99_115, s99_118, s99_121, s99_123, s99_125, s99_126, s99_128, q_0, q_1, q_2, q_3, q_4, q_5, q_6, q_7, q_8, q_9, q_10, q_11, q_12, q_13, q_14, q_16, q_20, q_23, q_24, q_32, q_42, q_43, q_45, q_47, q_48, q_50, q_57, q_59, q_60, q_61, q_62, q_63, q_64, q_66, q_91, q_93, q_97, q_99, q_122, q_144, q_255, q_256, q_300, q_380, q_400, q_620, q_999, q_1000, q_4095, q_4096, q_9999, q_65536, q_99999, q_31, nI_add, pk_mul, nE, nL, nT, nM31, nShl, ib_nI, nI_clamp, bI_n0, bI_n1, bI_nar, uI_r, uI_l, uL_r, uL_i, uL_p, uA_r, uA_l, bV_some, bU_some, nar_n0, nar_n1, and_self, and_true, true_and, and_false, false_and, if_true, if_false, eq_self, Bool.false_eq_true, Bool.true_eq_false, not_true_eq_false, not_false_eq_true, ↓reduceIte, nlT, nlF, ntT, ntF, neT, neF, ieT, ieF, decide_true, decide_false, Bool.not_true, Bool.not_false, Bool.and_true, Bool.true_and, Bool.and_false, Bool.false_and, Bool.or_true, Bool.true_or, Bool.or_false, Bool.false_or, h.wk, h.th, x_isAl h hw, e1, x_isSet, e2]
        exact ⟨_, rfl, FC.rf, h⟩
      | true =>
        cases e3 : lsB u 10000 with
        | false =>
          simp (disch := omega) only [s99_0, s99_1, s99_4, s99_7, s99_9, s99_12, s99_13, s99_16, s99_17, s99_20, s99_23, s99_24, s99_25, s99_26, s99_27, s99_30, s99_33, s99_34, s99_35, s99_38, s99_41, s99_42, s99_43, s99_44, s99_47, s99_50, s99_53, s99_55, s99_57, s99_60, s99_63, s99_64, s99_65, s99_66, s99_69, s99_70, s99_73, s99_74, s99_75, s99_76, s99_79, s99_81, s99_82, s99_85, s99_88, s99_90, s99_91, s99_92, s99_93, s99_96, s99_99, s99_101, s99_102, s99_103, s99_104, s99_107, s99_110, s99_112, s99_113, s99_114, s99_115, s99_118, s99_121, s99_123, s99_125, s99_126, s99_128, q_0, q_1, q_2, q_3, q_4, q_5, q_6, q_7, q_8, q_9, q_10, q_11, q_12, q_13, q_14, q_16, q_20, q_23, q_24, q_32, q_42, q_43, q_45, q_47, q_48, q_50, q_57, q_59, q_60, q_61, q_62, q_63, q_64, q_66, q_91, q_93, q_97, q_99, q_122, q_144, q_255, q_256, q_300, q_380, q_400, q_620, q_999, q_1000, q_4095, q_4096, q_9999, q_65536, q_99999, q_31, nI_add, pk_mul, nE, nL, nT, nM31, nShl, ib_nI, nI_clamp, bI_n0, bI_n1, bI_nar, uI_r, uI_l, uL_r, uL_i, uL_p, uA_r, uA_l, bV_some, bU_some, nar_n0, nar_n1, and_self, and_true, true_and, and_false, false_and, if_true, if_false, eq_self, Bool.false_eq_true, Bool.true_eq_false, not_true_eq_false, not_false_eq_true, ↓reduceIte, nlT, nlF, ntT, ntF, neT, neF, ieT, ieF, decide_true, decide_false, Bool.not_true, Bool.not_false, Bool.and_true, Bool.true_and, Bool.and_false, Bool.false_and, Bool.or_true, Bool.true_or, Bool.or_false, Bool.false_or, h.wk, h.th, x_isAl h hw, e1, x_isSet, e2, x_in, e3]
          exact ⟨_, rfl, FC.rf, h⟩
        | true =>
          cases e4 : lsB d 100 with
          | false =>
            simp (disch := omega) only [s99_0, s99_1, s99_4, s99_7, s99_9, s99_12, s99_13, s99_16, s99_17, s99_20, s99_23, s99_24, s99_25, s99_26, s99_27, s99_30, s99_33, s99_34, s99_35, s99_38, s99_41, s99_42, s99_43, s99_44, s99_47, s99_50, s99_53, s99_55, s99_57, s99_60, s99_63, s99_64, s99_65, s99_66, s99_69, s99_70, s99_73, s99_74, s99_75, s99_76, s99_79, s99_81, s99_82, s99_85, s99_88, s99_90, s99_91, s99_92, s99_93, s99_96, s99_99, s99_101, s99_102, s99_103, s99_104, s99_107, s99_110, s99_112, s99_113, s99_114, s99_115, s99_118, s99_121, s99_123, s99_125, s99_126, s99_128, q_0, q_1, q_2, q_3, q_4, q_5, q_6, q_7, q_8, q_9, q_10, q_11, q_12, q_13, q_14, q_16, q_20, q_23, q_24, q_32, q_42, q_43, q_45, q_47, q_48, q_50, q_57, q_59, q_60, q_61, q_62, q_63, q_64, q_66, q_91, q_93, q_97, q_99, q_122, q_144, q_255, q_256, q_300, q_380, q_400, q_620, q_999, q_1000, q_4095, q_4096, q_9999, q_65536, q_99999, q_31, nI_add, pk_mul, nE, nL, nT, nM31, nShl, ib_nI, nI_clamp, bI_n0, bI_n1, bI_nar, uI_r, uI_l, uL_r, uL_i, uL_p, uA_r, uA_l, bV_some, bU_some, nar_n0, nar_n1, and_self, and_true, true_and, and_false, false_and, if_true, if_false, eq_self, Bool.false_eq_true, Bool.true_eq_false, not_true_eq_false, not_false_eq_true, ↓reduceIte, nlT, nlF, ntT, ntF, neT, neF, ieT, ieF, decide_true, decide_false, Bool.not_true, Bool.not_false, Bool.and_true, Bool.true_and, Bool.and_false, Bool.false_and, Bool.or_true, Bool.true_or, Bool.or_false, Bool.false_or, h.wk, h.th, x_isAl h hw, e1, x_isSet, e2, x_in, e3, e4]
            exact ⟨_, rfl, FC.rf, h⟩
          | true =>
            have e1' := e1
            have e2' := e2
            have e3' := e3
            have e4' := e4
            obtain ⟨i, hi, rfl, l1⟩ := alB_t hw e1
            obtain ⟨m, hm, rfl, m1, m2, m3⟩ := stB_t hT e2
            obtain ⟨v, hv, rfl⟩ := lsB_t e3 (by decide)
            obtain ⟨y, hy, rfl⟩ := lsB_t e4 (by decide)
            simp (disch := omega) only [s99_0, s99_1, s99_4, s99_7, s99_9, s99_12, s99_13, s99_16, s99_17, s99_20, s99_23, s99_24, s99_25, s99_26, s99_27, s99_30, s99_33, s99_34, s99_35, s99_38, s99_41, s99_42, s99_43, s99_44, s99_47, s99_50, s99_53, s99_55, s99_57, s99_60, s99_63, s99_64, s99_65, s99_66, s99_69, s99_70, s99_73, s99_74, s99_75, s99_76, s99_79, s99_81, s99_82, s99_85, s99_88, s99_90, s99_91, s99_92, s99_93, s99_96, s99_99, s99_101, s99_102, s99_103, s99_104, s99_107, s99_110, s99_112, s99_113, s99_114, s99_115, s99_118, s99_121, s99_123, s99_125, s99_126, s99_128, q_0, q_1, q_2, q_3, q_4, q_5, q_6, q_7, q_8, q_9, q_10, q_11, q_12, q_13, q_14, q_16, q_20, q_23, q_24, q_32, q_42, q_43, q_45, q_47, q_48, q_50, q_57, q_59, q_60, q_61, q_62, q_63, q_64, q_66, q_91, q_93, q_97, q_99, q_122, q_144, q_255, q_256, q_300, q_380, q_400, q_620, q_999, q_1000, q_4095, q_4096, q_9999, q_65536, q_99999, q_31, nI_add, pk_mul, nE, nL, nT, nM31, nShl, ib_nI, nI_clamp, bI_n0, bI_n1, bI_nar, uI_r, uI_l, uL_r, uL_i, uL_p, uA_r, uA_l, bV_some, bU_some, nar_n0, nar_n1, and_self, and_true, true_and, and_false, false_and, if_true, if_false, eq_self, Bool.false_eq_true, Bool.true_eq_false, not_true_eq_false, not_false_eq_true, ↓reduceIte, nlT, nlF, ntT, ntF, neT, neF, ieT, ieF, decide_true, decide_false, Bool.not_true, Bool.not_false, Bool.and_true, Bool.true_and, Bool.and_false, Bool.false_and, Bool.or_true, Bool.true_or, Bool.or_false, Bool.false_or, h.wk, h.th, x_isAl h hw, e1', x_isSet, e2', x_in, e3', e4']
            refine ⟨_, rfl, ?_, ?_⟩
            · repeat' (first | exact FC.rf | refine FC.uI ?_ rfl (by decide))
            · have hd := hw.dn (w := A 0 2) (by omega)
              have hd2 : A 14 (A 0 2) = 0 := by
                by_cases q : A 14 (A 0 2) = 1
                · have := hw.dnw (w := A 0 2) (by omega) q
                  omega
                · omega
              refine RepC.ext (((((h.s_wk _ rfl).s_ak _ _ rfl).s_ki _ _ rfl).s_wo _ _ rfl).s_da _ _ rfl) ?_
              funext g k
              by_cases q : g = 14 ∧ k = A 0 2
              · obtain ⟨rfl, rfl⟩ := q
                simp (disch := omega) only [uT_r, uQ_r, and_self, and_true, true_and, and_false, false_and, if_true, if_false, if_pos, if_neg]
                exact hd2
              · simp only [uT_r]
                rw [if_neg (c := g = 14 ∧ k = A 0 2) q]
                (repeat' split) <;> first | rfl | omega
  · simp (disch := omega) only [s99_0, s99_1, s99_4, s99_7, s99_9, s99_12, s99_13, s99_16, s99_17, s99_20, s99_23, s99_24, s99_25, s99_26, s99_27, s99_30, s99_33, s99_34, s99_35, s99_38, s99_41, s99_42, s99_43, s99_44, s99_47, s99_50, s99_53, s99_55, s99_57, s99_60, s99_63, s99_64, s99_65, s99_66, s99_69, s99_70, s99_73, s99_74, s99_75, s99_76, s99_79, s99_81, s99_82, s99_85, s99_88, s99_90, s99_91, s99_92, s99_93, s99_96, s99_99, s99_101, s99_102, s99_103, s99_104, s99_107, s99_110, s99_112, s99_113, s99_114, s99_115, s99_118, s99_121, s99_123, s99_125, s99_126, s99_128, q_0, q_1, q_2, q_3, q_4, q_5, q_6, q_7, q_8, q_9, q_10, q_11, q_12, q_13, q_14, q_16, q_20, q_23, q_24, q_32, q_42, q_43, q_45, q_47, q_48, q_50, q_57, q_59, q_60, q_61, q_62, q_63, q_64, q_66, q_91, q_93, q_97, q_99, q_122, q_144, q_255, q_256, q_300, q_380, q_400, q_620, q_999, q_1000, q_4095, q_4096, q_9999, q_65536, q_99999, q_31, nI_add, pk_mul, nE, nL, nT, nM31, nShl, ib_nI, nI_clamp, bI_n0, bI_n1, bI_nar, uI_r, uI_l, uL_r, uL_i, uL_p, uA_r, uA_l, bV_some, bU_some, nar_n0, nar_n1, and_self, and_true, true_and, and_false, false_and, if_true, if_false, eq_self, Bool.false_eq_true, Bool.true_eq_false, not_true_eq_false, not_false_eq_true, ↓reduceIte, nlT, nlF, ntT, ntF, neT, neF, ieT, ieF, decide_true, decide_false, Bool.not_true, Bool.not_false, Bool.and_true, Bool.true_and, Bool.and_false, Bool.false_and, Bool.or_true, Bool.true_or, Bool.or_false, Bool.false_or, h.wk, e0]
    exact ⟨_, rfl, FC.rf, h⟩
theorem r_work {S : Sto} {A : Tn} (h : RepM S A) (hw : WF A) (a s u d : Int32) : ∃ S1, call 147 0 [vR 50 0, vI a, vI s, vI u, vI d] S = some (some (vI (o_work A a s u d).1), S1) ∧ FM S S1 ∧ RepM S1 (o_work A a s u d).2 := by
  have hP := hw.pe
  have hT := hw.th
  have hW := hw.wk
  have hT2 : 2 ^ A 0 1 ≤ 2 ^ 24 := Nat.pow_le_pow_right (by decide) hT
  show ∃ S1, run 147 0 0 [vR 50 0, vI a, vI s, vI u, vI d, vU] [] S = _ ∧ _
  unfold o_work
  by_cases e0 : A 0 2 < 12
  · cases e1 : alB A a with
    | false =>
      simp (disch := omega) only [s147_0, s147_1, s147_4, s147_5, s147_6, s147_8, s147_10, s147_12, s147_15, s147_16, s147_17, s147_20, s147_23, s147_24, s147_25, s147_28, s147_29, s147_30, s147_33, s147_34, s147_35, s147_36, s147_39, s147_40, s147_43, s147_44, s147_47, s147_48, s147_49, s147_50, s147_53, s147_56, s147_59, s147_61, s147_62, s147_63, s147_66, s147_69, s147_72, s147_73, s147_74, s147_75, s147_78, s147_80, s147_81, s147_82, s147_83, s147_86, s147_88, s147_89, s147_90, s147_91, s147_94, s147_96, s147_97, s147_98, s147_99, s147_102, s147_104, s147_106, s147_107, s147_108, s147_111, s147_113, s147_114, s147_115, s147_116, s147_119, s147_120, s147_121, s147_122, s147_123, s147_124, s147_125, s147_127, q_0, q_1, q_2, q_3, q_4, q_5, q_6, q_7, q_8, q_9, q_10, q_11, q_12, q_13, q_14, q_16, q_20, q_23, q_24, q_32, q_42, q_43, q_45, q_47, q_48, q_50, q_57, q_59, q_60, q_61, q_62, q_63, q_64, q_66, q_91, q_93, q_97, q_99, q_122, q_144, q_255, q_256, q_300, q_380, q_400, q_620, q_999, q_1000, q_4095, q_4096, q_9999, q_65536, q_99999, q_31, nI_add, pk_mul, nE, nL, nT, nM31, nShl, ib_nI, nI_clamp, bI_n0, bI_n1, bI_nar, uI_r, uI_l, uL_r, uL_i, uL_p, uA_r, uA_l, bV_some, bU_some, nar_n0, nar_n1, and_self, and_true, true_and, and_false, false_and, if_true, if_false, eq_self, Bool.false_eq_true, Bool.true_eq_false, not_true_eq_false, not_false_eq_true, ↓reduceIte, nlT, nlF, ntT, ntF, neT, neF, ieT, ieF, decide_true, decide_false, Bool.not_true, Bool.not_false, Bool.and_true, Bool.true_and, Bool.and_false, Bool.false_and, Bool.or_true, Bool.true_or, Bool.or_false, Bool.false_or, h.sc, m_isAl h hw, e1]
      exact ⟨_, rfl, FM.rf, h⟩
    | true =>
      by_cases f1 : s < nI 1
      · have f2 : stB s (A 0 1) 1 4 = false := by
          cases q : stB s (A 0 1) 1 4 with
          | false => rfl
          | true =>
            obtain ⟨m, hm, rfl, m1, m2, m3⟩ := stB_t hT q
            rw [nT (by omega) (by decide)] at f1
            have : m = 0 := by omega
            subst this
            rw [pop_0] at m1
            omega
        have f3 : ¬ nI 1 ≤ s := Int32.not_le.mpr f1
        simp (disch := omega) only [s147_0, s147_1, s147_4, s147_5, s147_6, s147_8, s147_10, s147_12, s147_15, s147_16, s147_17, s147_20, s147_23, s147_24, s147_25, s147_28, s147_29, s147_30, s147_33, s147_34, s147_35, s147_36, s147_39, s147_40, s147_43, s147_44, s147_47, s147_48, s147_49, s147_50, s147_53, s147_56, s147_59, s147_61, s147_62, s147_63, s147_66, s147_69, s147_72, s147_73, s147_74, s147_75, s147_78, s147_80, s147_81, s147_82, s147_83, s147_86, s147_88, s147_89, s147_90, s147_91, s147_94, s147_96, s147_97, s147_98, s147_99, s147_102, s147_104, s147_106, s147_107, s147_108, s147_111, s147_113, s147_114, s147_115, s147_116, s147_119, s147_120, s147_121, s147_122, s147_123, s147_124, s147_125, s147_127, q_0, q_1, q_2, q_3, q_4, q_5, q_6, q_7, q_8, q_9, q_10, q_11, q_12, q_13, q_14, q_16, q_20, q_23, q_24, q_32, q_42, q_43, q_45, q_47, q_48, q_50, q_57, q_59, q_60, q_61, q_62, q_63, q_64, q_66, q_91, q_93, q_97, q_99, q_122, q_144, q_255, q_256, q_300, q_380, q_400, q_620, q_999, q_1000, q_4095, q_4096, q_9999, q_65536, q_99999, q_31, nI_add, pk_mul, nE, nL, nT, nM31, nShl, ib_nI, nI_clamp, bI_n0, bI_n1, bI_nar, uI_r, uI_l, uL_r, uL_i, uL_p, uA_r, uA_l, bV_some, bU_some, nar_n0, nar_n1, and_self, and_true, true_and, and_false, false_and, if_true, if_false, eq_self, Bool.false_eq_true, Bool.true_eq_false, not_true_eq_false, not_false_eq_true, ↓reduceIte, nlT, nlF, ntT, ntF, neT, neF, ieT, ieF, decide_true, decide_false, Bool.not_true, Bool.not_false, Bool.and_true, Bool.true_and, Bool.and_false, Bool.false_and, Bool.or_true, Bool.true_or, Bool.or_false, Bool.false_or, h.sc, m_isAl h hw, e1, f1, f2, f3]
        exact ⟨_, rfl, FM.rf, h⟩
      · have f3 : nI 1 ≤ s := Int32.not_lt.mp f1
        obtain ⟨m, hm, rfl⟩ := nI_of (x := s) (by
          intro q
          have q2 : s < nI 1 := by
            rw [Int32.lt_iff_toInt_lt] at q ⊢
            have e0 : (0 : Int32).toInt = 0 := rfl
            have e1 : (nI 1 : Int32).toInt = 1 := by decide
            rw [e0] at q
            rw [e1]
            omega
          exact f1 q2)
        rw [nL (by decide) hm] at f3
        have hp := pop_le m
        have h3 : m / 2 ^ A 0 1 = 0 ↔ m < 2 ^ A 0 1 := by
          rw [Nat.div_eq_zero_iff]
          have := Nat.two_pow_pos (A 0 1)
          omega
        have h4 : m / 2 ^ A 0 1 < 2 ^ 31 := Nat.lt_of_le_of_lt (Nat.div_le_self _ _) hm
        have hpos : 1 ≤ pop m := by
          have := (and_pred (m := m) (by omega) (by omega)).1
          omega
        have h5 : stB (nI m) (A 0 1) 1 4 = (decide (m < 2 ^ A 0 1) && decide (pop m ≤ 4)) := by
          unfold stB
          rw [lsB_n hm (by omega), nI_clamp hm]
          simp [hpos]
        by_cases g1 : m < 2 ^ A 0 1
        · have g2 := h3.mpr g1
          by_cases g3 : pop m ≤ 4
          · cases e3 : lsB u 10000 with
            | false =>
              simp (disch := omega) only [s147_0, s147_1, s147_4, s147_5, s147_6, s147_8, s147_10, s147_12, s147_15, s147_16, s147_17, s147_20, s147_23, s147_24, s147_25, s147_28, s147_29, s147_30, s147_33, s147_34, s147_35, s147_36, s147_39, s147_40, s147_43, s147_44, s147_47, s147_48, s147_49, s147_50, s147_53, s147_56, s147_59, s147_61, s147_62, s147_63, s147_66, s147_69, s147_72, s147_73, s147_74, s147_75, s147_78, s147_80, s147_81, s147_82, s147_83, s147_86, s147_88, s147_89, s147_90, s147_91, s147_94, s147_96, s147_97, s147_98, s147_99, s147_102, s147_104, s147_106, s147_107, s147_108, s147_111, s147_113, s147_114, s147_115, s147_116, s147_119, s147_120, s147_121, s147_122, s147_123, s147_124, s147_125, s147_127, q_0, q_1, q_2, q_3, q_4, q_5, q_6, q_7, q_8, q_9, q_10, q_11, q_12, q_13, q_14, q_16, q_20, q_23, q_24, q_32, q_42, q_43, q_45, q_47, q_48, q_50, q_57, q_59, q_60, q_61, q_62, q_63, q_64, q_66, q_91, q_93, q_97, q_99, q_122, q_144, q_255, q_256, q_300, q_380, q_400, q_620, q_999, q_1000, q_4095, q_4096, q_9999, q_65536, q_99999, q_31, nI_add, pk_mul, nE, nL, nT, nM31, nShl, ib_nI, nI_clamp, bI_n0, bI_n1, bI_nar, uI_r, uI_l, uL_r, uL_i, uL_p, uA_r, uA_l, bV_some, bU_some, nar_n0, nar_n1, and_self, and_true, true_and, and_false, false_and, if_true, if_false, eq_self, Bool.false_eq_true, Bool.true_eq_false, not_true_eq_false, not_false_eq_true, ↓reduceIte, nlT, nlF, ntT, ntF, neT, neF, ieT, ieF, decide_true, decide_false, Bool.not_true, Bool.not_false, Bool.and_true, Bool.true_and, Bool.and_false, Bool.false_and, Bool.or_true, Bool.true_or, Bool.or_false, Bool.false_or, h.sc, m_isAl h hw, e1, h5, nShr, g2, m_bits, min_1, min_2, min_3, min_20, min_60, min_99, min_999, min_9999, min_99999, e3]
              exact ⟨_, rfl, FM.rf, h⟩
            | true =>
              cases e4 : lsB d 100 with
              | false =>
                simp (disch := omega) only [s147_0, s147_1, s147_4, s147_5, s147_6, s147_8, s147_10, s147_12, s147_15, s147_16, s147_17, s147_20, s147_23, s147_24, s147_25, s147_28, s147_29, s147_30, s147_33, s147_34, s147_35, s147_36, s147_39, s147_40, s147_43, s147_44, s147_47, s147_48, s147_49, s147_50, s147_53, s147_56, s147_59, s147_61, s147_62, s147_63, s147_66, s147_69, s147_72, s147_73, s147_74, s147_75, s147_78, s147_80, s147_81, s147_82, s147_83, s147_86, s147_88, s147_89, s147_90, s147_91, s147_94, s147_96, s147_97, s147_98, s147_99, s147_102, s147_104, s147_106, s147_107, s147_108, s147_111, s147_113, s147_114, s147_115, s147_116, s147_119, s147_120, s147_121, s147_122, s147_123, s147_124, s147_125, s147_127, q_0, q_1, q_2, q_3, q_4, q_5, q_6, q_7, q_8, q_9, q_10, q_11, q_12, q_13, q_14, q_16, q_20, q_23, q_24, q_32, q_42, q_43, q_45, q_47, q_48, q_50, q_57, q_59, q_60, q_61, q_62, q_63, q_64, q_66, q_91, q_93, q_97, q_99, q_122, q_144, q_255, q_256, q_300, q_380, q_400, q_620, q_999, q_1000, q_4095, q_4096, q_9999, q_65536, q_99999, q_31, nI_add, pk_mul, nE, nL, nT, nM31, nShl, ib_nI, nI_clamp, bI_n0, bI_n1, bI_nar, uI_r, uI_l, uL_r, uL_i, uL_p, uA_r, uA_l, bV_some, bU_some, nar_n0, nar_n1, and_self, and_true, true_and, and_false, false_and, if_true, if_false, eq_self, Bool.false_eq_true, Bool.true_eq_false, not_true_eq_false, not_false_eq_true, ↓reduceIte, nlT, nlF, ntT, ntF, neT, neF, ieT, ieF, decide_true, decide_false, Bool.not_true, Bool.not_false, Bool.and_true, Bool.true_and, Bool.and_false, Bool.false_and, Bool.or_true, Bool.true_or, Bool.or_false, Bool.false_or, h.sc, m_isAl h hw, e1, h5, nShr, g2, m_bits, min_1, min_2, min_3, min_20, min_60, min_99, min_999, min_9999, min_99999, e3, e4]
                exact ⟨_, rfl, FM.rf, h⟩
              | true =>
                have e1' := e1
                have e3' := e3
                have e4' := e4
                obtain ⟨i, hi, rfl, l1⟩ := alB_t hw e1
                obtain ⟨v, hv, rfl⟩ := lsB_t e3 (by decide)
                obtain ⟨y, hy, rfl⟩ := lsB_t e4 (by decide)
                simp (disch := omega) only [s147_0, s147_1, s147_4, s147_5, s147_6, s147_8, s147_10, s147_12, s147_15, s147_16, s147_17, s147_20, s147_23, s147_24, s147_25, s147_28, s147_29, s147_30, s147_33, s147_34, s147_35, s147_36, s147_39, s147_40, s147_43, s147_44, s147_47, s147_48, s147_49, s147_50, s147_53, s147_56, s147_59, s147_61, s147_62, s147_63, s147_66, s147_69, s147_72, s147_73, s147_74, s147_75, s147_78, s147_80, s147_81, s147_82, s147_83, s147_86, s147_88, s147_89, s147_90, s147_91, s147_94, s147_96, s147_97, s147_98, s147_99, s147_102, s147_104, s147_106, s147_107, s147_108, s147_111, s147_113, s147_114, s147_115, s147_116, s147_119, s147_120, s147_121, s147_122, s147_123, s147_124, s147_125, s147_127, q_0, q_1, q_2, q_3, q_4, q_5, q_6, q_7, q_8, q_9, q_10, q_11, q_12, q_13, q_14, q_16, q_20, q_23, q_24, q_32, q_42, q_43, q_45, q_47, q_48, q_50, q_57, q_59, q_60, q_61, q_62, q_63, q_64, q_66, q_91, q_93, q_97, q_99, q_122, q_144, q_255, q_256, q_300, q_380, q_400, q_620, q_999, q_1000, q_4095, q_4096, q_9999, q_65536, q_99999, q_31, nI_add, pk_mul, nE, nL, nT, nM31, nShl, ib_nI, nI_clamp, bI_n0, bI_n1, bI_nar, uI_r, uI_l, uL_r, uL_i, uL_p, uA_r, uA_l, bV_some, bU_some, nar_n0, nar_n1, and_self, and_true, true_and, and_false, false_and, if_true, if_false, eq_self, Bool.false_eq_true, Bool.true_eq_false, not_true_eq_false, not_false_eq_true, ↓reduceIte, nlT, nlF, ntT, ntF, neT, neF, ieT, ieF, decide_true, decide_false, Bool.not_true, Bool.not_false, Bool.and_true, Bool.true_and, Bool.and_false, Bool.false_and, Bool.or_true, Bool.true_or, Bool.or_false, Bool.false_or, h.sc, m_isAl h hw, e1', h5, nShr, g2, m_bits, min_1, min_2, min_3, min_20, min_60, min_99, min_999, min_9999, min_99999, e3', e4']
                refine ⟨_, rfl, ?_, ?_⟩
                · repeat' (first | exact FM.rf | refine FM.uI ?_ rfl (by decide))
                · exact (((((h.set (f := 10) _ rfl rfl).set (f := 11) _ rfl rfl).set (f := 12) _ rfl rfl).set (f := 13) _ rfl rfl).set (f := 14) 0 rfl rfl).set (f := 0) _ rfl rfl
          · simp (disch := omega) only [s147_0, s147_1, s147_4, s147_5, s147_6, s147_8, s147_10, s147_12, s147_15, s147_16, s147_17, s147_20, s147_23, s147_24, s147_25, s147_28, s147_29, s147_30, s147_33, s147_34, s147_35, s147_36, s147_39, s147_40, s147_43, s147_44, s147_47, s147_48, s147_49, s147_50, s147_53, s147_56, s147_59, s147_61, s147_62, s147_63, s147_66, s147_69, s147_72, s147_73, s147_74, s147_75, s147_78, s147_80, s147_81, s147_82, s147_83, s147_86, s147_88, s147_89, s147_90, s147_91, s147_94, s147_96, s147_97, s147_98, s147_99, s147_102, s147_104, s147_106, s147_107, s147_108, s147_111, s147_113, s147_114, s147_115, s147_116, s147_119, s147_120, s147_121, s147_122, s147_123, s147_124, s147_125, s147_127, q_0, q_1, q_2, q_3, q_4, q_5, q_6, q_7, q_8, q_9, q_10, q_11, q_12, q_13, q_14, q_16, q_20, q_23, q_24, q_32, q_42, q_43, q_45, q_47, q_48, q_50, q_57, q_59, q_60, q_61, q_62, q_63, q_64, q_66, q_91, q_93, q_97, q_99, q_122, q_144, q_255, q_256, q_300, q_380, q_400, q_620, q_999, q_1000, q_4095, q_4096, q_9999, q_65536, q_99999, q_31, nI_add, pk_mul, nE, nL, nT, nM31, nShl, ib_nI, nI_clamp, bI_n0, bI_n1, bI_nar, uI_r, uI_l, uL_r, uL_i, uL_p, uA_r, uA_l, bV_some, bU_some, nar_n0, nar_n1, and_self, and_true, true_and, and_false, false_and, if_true, if_false, eq_self, Bool.false_eq_true, Bool.true_eq_false, not_true_eq_false, not_false_eq_true, ↓reduceIte, nlT, nlF, ntT, ntF, neT, neF, ieT, ieF, decide_true, decide_false, Bool.not_true, Bool.not_false, Bool.and_true, Bool.true_and, Bool.and_false, Bool.false_and, Bool.or_true, Bool.true_or, Bool.or_false, Bool.false_or, h.sc, m_isAl h hw, e1, h5, nShr, g2, m_bits]
            exact ⟨_, rfl, FM.rf, h⟩
        · have g2 : ¬ m / 2 ^ A 0 1 = 0 := fun q => g1 (h3.mp q)
          simp (disch := omega) only [s147_0, s147_1, s147_4, s147_5, s147_6, s147_8, s147_10, s147_12, s147_15, s147_16, s147_17, s147_20, s147_23, s147_24, s147_25, s147_28, s147_29, s147_30, s147_33, s147_34, s147_35, s147_36, s147_39, s147_40, s147_43, s147_44, s147_47, s147_48, s147_49, s147_50, s147_53, s147_56, s147_59, s147_61, s147_62, s147_63, s147_66, s147_69, s147_72, s147_73, s147_74, s147_75, s147_78, s147_80, s147_81, s147_82, s147_83, s147_86, s147_88, s147_89, s147_90, s147_91, s147_94, s147_96, s147_97, s147_98, s147_99, s147_102, s147_104, s147_106, s147_107, s147_108, s147_111, s147_113, s147_114, s147_115, s147_116, s147_119, s147_120, s147_121, s147_122, s147_123, s147_124, s147_125, s147_127, q_0, q_1, q_2, q_3, q_4, q_5, q_6, q_7, q_8, q_9, q_10, q_11, q_12, q_13, q_14, q_16, q_20, q_23, q_24, q_32, q_42, q_43, q_45, q_47, q_48, q_50, q_57, q_59, q_60, q_61, q_62, q_63, q_64, q_66, q_91, q_93, q_97, q_99, q_122, q_144, q_255, q_256, q_300, q_380, q_400, q_620, q_999, q_1000, q_4095, q_4096, q_9999, q_65536, q_99999, q_31, nI_add, pk_mul, nE, nL, nT, nM31, nShl, ib_nI, nI_clamp, bI_n0, bI_n1, bI_nar, uI_r, uI_l, uL_r, uL_i, uL_p, uA_r, uA_l, bV_some, bU_some, nar_n0, nar_n1, and_self, and_true, true_and, and_false, false_and, if_true, if_false, eq_self, Bool.false_eq_true, Bool.true_eq_false, not_true_eq_false, not_false_eq_true, ↓reduceIte, nlT, nlF, ntT, ntF, neT, neF, ieT, ieF, decide_true, decide_false, Bool.not_true, Bool.not_false, Bool.and_true, Bool.true_and, Bool.and_false, Bool.false_and, Bool.or_true, Bool.true_or, Bool.or_false, Bool.false_or, h.sc, m_isAl h hw, e1, h5, nShr, g2, m_bits]
          exact ⟨_, rfl, FM.rf, h⟩
  · simp (disch := omega) only [s147_0, s147_1, s147_4, s147_5, s147_6, s147_8, s147_10, s147_12, s147_15, s147_16, s147_17, s147_20, s147_23, s147_24, s147_25, s147_28, s147_29, s147_30, s147_33, s147_34, s147_35, s147_36, s147_39, s147_40, s147_43, s147_44, s147_47, s147_48, s147_49, s147_50, s147_53, s147_56, s147_59, s147_61, s147_62, s147_63, s147_66, s147_69, s147_72, s147_73, s147_74, s147_75, s147_78, s147_80, s147_81, s147_82, s147_83, s147_86, s147_88, s147_89, s147_90, s147_91, s147_94, s147_96, s147_97, s147_98, s147_99, s147_102, s147_104, s147_106, s147_107, s147_108, s147_111, s147_113, s147_114, s147_115, s147_116, s147_119, s147_120, s147_121, s147_122, s147_123, s147_124, s147_125, s147_127, q_0, q_1, q_2, q_3, q_4, q_5, q_6, q_7, q_8, q_9, q_10, q_11, q_12, q_13, q_14, q_16, q_20, q_23, q_24, q_32, q_42, q_43, q_45, q_47, q_48, q_50, q_57, q_59, q_60, q_61, q_62, q_63, q_64, q_66, q_91, q_93, q_97, q_99, q_122, q_144, q_255, q_256, q_300, q_380, q_400, q_620, q_999, q_1000, q_4095, q_4096, q_9999, q_65536, q_99999, q_31, nI_add, pk_mul, nE, nL, nT, nM31, nShl, ib_nI, nI_clamp, bI_n0, bI_n1, bI_nar, uI_r, uI_l, uL_r, uL_i, uL_p, uA_r, uA_l, bV_some, bU_some, nar_n0, nar_n1, and_self, and_true, true_and, and_false, false_and, if_true, if_false, eq_self, Bool.false_eq_true, Bool.true_eq_false, not_true_eq_false, not_false_eq_true, ↓reduceIte, nlT, nlF, ntT, ntF, neT, neF, ieT, ieF, decide_true, decide_false, Bool.not_true, Bool.not_false, Bool.and_true, Bool.true_and, Bool.and_false, Bool.false_and, Bool.or_true, Bool.true_or, Bool.or_false, Bool.false_or, h.sc, e0]
    exact ⟨_, rfl, FM.rf, h⟩
