/-! sets that don't clash (reference) -/
def apP (A : Tn) (s a b : Nat) : Bool := s.testBit a && (s.testBit b && clB A a b)
def apB (A : Tn) (s : Nat) : Bool := !ex (fun a => ex (apP A s a) a) 12
theorem apB_t {A : Tn} {s : Nat} : apB A s = true ↔ ∀ a b, b < a → a < 12 → s.testBit a = true → s.testBit b = true → clB A a b = false := by
  unfold apB
  rw [Bool.not_eq_true']
  constructor
  · intro h a b hba ha h1 h2
    cases c : clB A a b with
    | false => rfl
    | true =>
      have := ex_mono (P := fun a => ex (apP A s a) a) ha (ex_mono (P := apP A s a) hba (by simp [apP, h1, h2, c]))
      rw [h] at this
      cases this
  · intro h
    cases c : ex (fun a => ex (apP A s a) a) 12 with
    | false => rfl
    | true =>
      obtain ⟨a, ha, e⟩ := ex_t.mp c
      obtain ⟨b, hb, e⟩ := ex_t.mp e
      unfold apP at e
      simp only [Bool.and_eq_true] at e
      have := h a b hb ha e.1 e.2.1
      rw [this] at e
      cases e.2.2
def loP (A : Tn) (s w o : Nat) : Bool := decide (w < o) && s.testBit o && clB A o w
theorem apB_rec {A : Tn} {s : Nat} (hW : A 0 2 ≤ 12) (hs : s < 2 ^ A 0 2) (h0 : s ≠ 0) : apB A s = (apB A (rst s) && !ex (loP A s (lowB s)) (A 0 2)) := by
  have hs12 : s < 2 ^ 12 := Nat.lt_of_lt_of_le hs (Nat.pow_le_pow_right (by decide) hW)
  obtain ⟨l1, l2, l3⟩ := lowB_p hs12 h0
  rw [Bool.eq_iff_iff, Bool.and_eq_true, apB_t, apB_t]
  constructor
  · intro h
    refine ⟨fun a b hba ha h1 h2 => ?_, ?_⟩
    · rw [rst_bit hs12 h0] at h1 h2
      simp only [Bool.and_eq_true] at h1 h2
      exact h a b hba ha h1.1 h2.1
    · rw [Bool.not_eq_true']
      cases c : ex (loP A s (lowB s)) (A 0 2) with
      | false => rfl
      | true =>
        obtain ⟨o, ho, e⟩ := ex_t.mp c
        unfold loP at e
        simp only [Bool.and_eq_true, decide_eq_true_eq] at e
        have := h o (lowB s) e.1.1 (by omega) e.1.2 l1
        rw [this] at e
        cases e.2
  · rintro ⟨h, h'⟩ a b hba ha h1 h2
    rw [Bool.not_eq_true'] at h'
    have haW : a < A 0 2 := by
      apply Classical.byContradiction
      intro hn
      rw [tb_hi hs (i := a) (by omega)] at h1
      cases h1
    have hal : lowB s ≤ b := by
      apply Classical.byContradiction
      intro hn
      rw [l2 b (by omega)] at h2
      cases h2
    by_cases c : b = lowB s
    · cases e : clB A a b with
      | false => rfl
      | true =>
        have := ex_mono (P := loP A s (lowB s)) haW (by unfold loP; rw [← c, h1, e]; simp [hba])
        rw [h'] at this
        cases this
    · refine h a b hba ha ?_ ?_
      · rw [rst_bit hs12 h0, h1]
        have : a ≠ lowB s := by omega
        simp [this]
      · rw [rst_bit hs12 h0, h2]
        simp [c]
theorem rst_lts {s : Nat} (hs : s < 2 ^ 12) (h0 : s ≠ 0) : rst s < s := (and_pred (by omega) (by omega)).2
def ApI (S : Sto) (A : Tn) (n : Nat) : Prop := ∀ s, s < n → S.1 86 0 s = bI (apB A s)
theorem m_apart {S : Sto} {A : Tn} (h : RepM S A) (hw : WF A) : ∃ S', call 221 0 [vR 50 0] S = some (none, S') ∧ Fr (pL [86]) S S' ∧ ApI S' A (2 ^ A 0 2) := by
  have hWk := hw.wk
  have hM1 := Nat.two_pow_pos (A 0 2)
  have hM12 : 2 ^ A 0 2 ≤ 2 ^ 12 := Nat.pow_le_pow_right (by decide) hWk
  show ∃ S', run 221 0 0 [vR 50 0, vU, vU, vU, vU, vU] [] S = _ ∧ _
  simp (disch := omega) only [s221_0, s221_1, s221_2, s221_5, s221_6, s221_7, s221_8, s221_9, s221_10, s221_13, s221_14, s221_15, s221_16, s221_17, s221_19, s221_20, s221_23, s221_24, s221_26, s221_27, s221_30, s221_33, s221_36, s221_39, s221_40, s221_43, s221_44, s221_45, s221_46, s221_47, s221_48, s221_49, s221_51, s221_52, s221_53, s221_54, s221_58, s221_59, s221_62, s221_63, s221_64, s221_67, s221_69, s221_72, s221_73, s221_75, s221_78, s221_81, s221_82, s221_85, s221_87, s221_88, s221_89, s221_92, s221_93, s221_94, s221_97, s221_98, s221_101, s221_103, s221_104, s221_105, s221_108, s221_109, s221_110, s221_111, s221_114, s221_115, s221_118, s221_119, s221_121, s221_124, s221_127, s221_128, s221_131, s221_132, s221_134, s221_135, s221_138, s221_141, q_0, q_1, q_2, q_3, q_4, q_5, q_6, q_7, q_8, q_9, q_10, q_11, q_12, q_13, q_14, q_16, q_20, q_23, q_24, q_32, q_42, q_43, q_45, q_47, q_48, q_50, q_57, q_59, q_60, q_61, q_62, q_63, q_64, q_66, q_91, q_93, q_97, q_99, q_122, q_144, q_255, q_256, q_300, q_380, q_400, q_620, q_999, q_1000, q_4095, q_4096, q_9999, q_65536, q_99999, q_31, nI_add, pk_mul, nE, nL, nT, nM31, nShl, ib_nI, nI_clamp, bI_n0, bI_n1, bI_nar, uI_r, uI_l, uL_r, uL_i, uL_p, uA_r, uA_l, bV_some, bU_some, nar_n0, nar_n1, and_self, and_true, true_and, and_false, false_and, if_true, if_false, eq_self, Bool.false_eq_true, Bool.true_eq_false, not_true_eq_false, not_false_eq_true, ↓reduceIte, nlT, nlF, ntT, ntF, neT, neF, ieT, ieF, decide_true, decide_false, Bool.not_true, Bool.not_false, Bool.and_true, Bool.true_and, Bool.and_false, Bool.false_and, Bool.or_true, Bool.true_or, Bool.or_false, Bool.false_or, h.sc, nar_t]
  refine upS (σ := Sto × av × av × av) (I := fun s p => 1 ≤ s ∧ Fr (pL [86]) S p.1 ∧ ApI p.1 A s) (F := fun s p => run 221 0 18 [vR 50 0, vI (nI (2 ^ A 0 2)), vI (nI s), p.2.1, p.2.2.1, p.2.2.2] [] p.1) (Q := fun z => ∃ S', z = some (none, S') ∧ Fr (pL [86]) S S' ∧ ApI S' A (2 ^ A 0 2)) (N := 2 ^ A 0 2) ?_ ?_ 1 (uI S 86 0 0 (nI 1), vU, vU, vU) (by omega) ⟨by omega, Fr.rfl'.uI rfl, fun s hs => ?_⟩
  · intro s p hs hI
    obtain ⟨S1, x3, x4, x5⟩ := p
    obtain ⟨i0, i1, i2⟩ := hI
    simp only at i1 i2
    have h1 := h.pl i1 (by decide)
    have hs12 : s < 2 ^ 12 := by omega
    have hne : s ≠ 0 := by omega
    obtain ⟨l1, l2, l3⟩ := lowB_p hs12 hne
    have hkW : lowB s < A 0 2 := by
      apply Classical.byContradiction
      intro hn
      rw [tb_hi hs (i := lowB s) (by omega)] at l1
      cases l1
    have hrl := rst_lts hs12 hne
    have r1 := i2 (rst s) hrl
    have hWl := hw.W (w := lowB s) (by omega)
    have inner : run 221 0 56 [vR 50 0, vI (nI (2 ^ A 0 2)), vI (nI s), vI (nI (lowB s)), vI (bI (apB A (rst s))), vI (nI (lowB s + 1))] [] S1 = run 221 0 18 [vR 50 0, vI (nI (2 ^ A 0 2)), vI (nI (s + 1)), vI (nI (lowB s)), vI (bI (apB A s)), vI (nI (A 0 2))] [] (uI S1 86 0 s (bI (apB A s))) := by
      have e0 : ex (loP A s (lowB s)) (lowB s + 1) = false := by
        cases c : ex (loP A s (lowB s)) (lowB s + 1) with
        | false => rfl
        | true =>
          obtain ⟨o, ho, e⟩ := ex_t.mp c
          unfold loP at e
          simp only [Bool.and_eq_true, decide_eq_true_eq] at e
          omega
      have key := upS (σ := Unit) (I := fun o _ => lowB s < o) (F := fun o _ => run 221 0 56 [vR 50 0, vI (nI (2 ^ A 0 2)), vI (nI s), vI (nI (lowB s)), vI (bI (apB A (rst s) && !ex (loP A s (lowB s)) o)), vI (nI o)] [] S1) (Q := fun z => z = run 221 0 18 [vR 50 0, vI (nI (2 ^ A 0 2)), vI (nI (s + 1)), vI (nI (lowB s)), vI (bI (apB A s)), vI (nI (A 0 2))] [] (uI S1 86 0 s (bI (apB A s)))) (N := A 0 2) ?_ ?_ (lowB s + 1) () (by omega) (by omega)
      · rw [e0] at key
        simpa using key
      · intro o _ ho hlo
        have hWo := hw.W (w := o) (by omega)
        have l9 : A 11 o &&& A 11 (lowB s) < 2 ^ 31 := Nat.lt_of_le_of_lt Nat.and_le_left (by omega)
        refine Or.inr ⟨(), by omega, ?_⟩
        show run 221 0 56 _ _ _ = run 221 0 56 _ _ _
        rw [s221_56, ex_s]
        cases c0 : (apB A (rst s) && !ex (loP A s (lowB s)) o) with
        | false =>
          have e : (apB A (rst s) && !(ex (loP A s (lowB s)) o || loP A s (lowB s) o)) = false := by
            rw [Bool.not_or, ← Bool.and_assoc, c0, Bool.false_and]
          rw [e]
          simp (disch := omega) only [s221_0, s221_1, s221_2, s221_5, s221_6, s221_7, s221_8, s221_9, s221_10, s221_13, s221_14, s221_15, s221_16, s221_17, s221_19, s221_20, s221_23, s221_24, s221_26, s221_27, s221_30, s221_33, s221_36, s221_39, s221_40, s221_43, s221_44, s221_45, s221_46, s221_47, s221_48, s221_49, s221_51, s221_52, s221_53, s221_54, s221_58, s221_59, s221_62, s221_63, s221_64, s221_67, s221_69, s221_72, s221_73, s221_75, s221_78, s221_81, s221_82, s221_85, s221_87, s221_88, s221_89, s221_92, s221_93, s221_94, s221_97, s221_98, s221_101, s221_103, s221_104, s221_105, s221_108, s221_109, s221_110, s221_111, s221_114, s221_115, s221_118, s221_119, s221_121, s221_124, s221_127, s221_128, s221_131, s221_132, s221_134, s221_135, s221_138, s221_141, q_0, q_1, q_2, q_3, q_4, q_5, q_6, q_7, q_8, q_9, q_10, q_11, q_12, q_13, q_14, q_16, q_20, q_23, q_24, q_32, q_42, q_43, q_45, q_47, q_48, q_50, q_57, q_59, q_60, q_61, q_62, q_63, q_64, q_66, q_91, q_93, q_97, q_99, q_122, q_144, q_255, q_256, q_300, q_380, q_400, q_620, q_999, q_1000, q_4095, q_4096, q_9999, q_65536, q_99999, q_31, nI_add, pk_mul, nE, nL, nT, nM31, nShl, ib_nI, nI_clamp, bI_n0, bI_n1, bI_nar, uI_r, uI_l, uL_r, uL_i, uL_p, uA_r, uA_l, bV_some, bU_some, nar_n0, nar_n1, and_self, and_true, true_and, and_false, false_and, if_true, if_false, eq_self, Bool.false_eq_true, Bool.true_eq_false, not_true_eq_false, not_false_eq_true, ↓reduceIte, nlT, nlF, ntT, ntF, neT, neF, ieT, ieF, decide_true, decide_false, Bool.not_true, Bool.not_false, Bool.and_true, Bool.true_and, Bool.and_false, Bool.false_and, Bool.or_true, Bool.true_or, Bool.or_false, Bool.false_or, h1.sc]
          rfl
        | true =>
          have e : (apB A (rst s) && !(ex (loP A s (lowB s)) o || loP A s (lowB s) o)) = !loP A s (lowB s) o := by
            rw [Bool.not_or, ← Bool.and_assoc, c0, Bool.true_and]
          rw [e]
          unfold loP clB
          cases c1 : s.testBit o with
          | false =>
            simp (disch := omega) only [s221_0, s221_1, s221_2, s221_5, s221_6, s221_7, s221_8, s221_9, s221_10, s221_13, s221_14, s221_15, s221_16, s221_17, s221_19, s221_20, s221_23, s221_24, s221_26, s221_27, s221_30, s221_33, s221_36, s221_39, s221_40, s221_43, s221_44, s221_45, s221_46, s221_47, s221_48, s221_49, s221_51, s221_52, s221_53, s221_54, s221_58, s221_59, s221_62, s221_63, s221_64, s221_67, s221_69, s221_72, s221_73, s221_75, s221_78, s221_81, s221_82, s221_85, s221_87, s221_88, s221_89, s221_92, s221_93, s221_94, s221_97, s221_98, s221_101, s221_103, s221_104, s221_105, s221_108, s221_109, s221_110, s221_111, s221_114, s221_115, s221_118, s221_119, s221_121, s221_124, s221_127, s221_128, s221_131, s221_132, s221_134, s221_135, s221_138, s221_141, q_0, q_1, q_2, q_3, q_4, q_5, q_6, q_7, q_8, q_9, q_10, q_11, q_12, q_13, q_14, q_16, q_20, q_23, q_24, q_32, q_42, q_43, q_45, q_47, q_48, q_50, q_57, q_59, q_60, q_61, q_62, q_63, q_64, q_66, q_91, q_93, q_97, q_99, q_122, q_144, q_255, q_256, q_300, q_380, q_400, q_620, q_999, q_1000, q_4095, q_4096, q_9999, q_65536, q_99999, q_31, nI_add, pk_mul, nE, nL, nT, nM31, nShl, ib_nI, nI_clamp, bI_n0, bI_n1, bI_nar, uI_r, uI_l, uL_r, uL_i, uL_p, uA_r, uA_l, bV_some, bU_some, nar_n0, nar_n1, and_self, and_true, true_and, and_false, false_and, if_true, if_false, eq_self, Bool.false_eq_true, Bool.true_eq_false, not_true_eq_false, not_false_eq_true, ↓reduceIte, nlT, nlF, ntT, ntF, neT, neF, ieT, ieF, decide_true, decide_false, Bool.not_true, Bool.not_false, Bool.and_true, Bool.true_and, Bool.and_false, Bool.false_and, Bool.or_true, Bool.true_or, Bool.or_false, Bool.false_or, h1.sc, m_has, c1]
            rfl
          | true =>
            by_cases c2 : A 13 o = A 13 (lowB s)
            · have c2' : (A 13 o == A 13 (lowB s)) = true := by simp [c2]
              by_cases c3 : A 11 o &&& A 11 (lowB s) = 0
              · have c3' : (A 11 o &&& A 11 (lowB s) == 0) = true := by simp [c3]
                simp (disch := omega) only [s221_0, s221_1, s221_2, s221_5, s221_6, s221_7, s221_8, s221_9, s221_10, s221_13, s221_14, s221_15, s221_16, s221_17, s221_19, s221_20, s221_23, s221_24, s221_26, s221_27, s221_30, s221_33, s221_36, s221_39, s221_40, s221_43, s221_44, s221_45, s221_46, s221_47, s221_48, s221_49, s221_51, s221_52, s221_53, s221_54, s221_58, s221_59, s221_62, s221_63, s221_64, s221_67, s221_69, s221_72, s221_73, s221_75, s221_78, s221_81, s221_82, s221_85, s221_87, s221_88, s221_89, s221_92, s221_93, s221_94, s221_97, s221_98, s221_101, s221_103, s221_104, s221_105, s221_108, s221_109, s221_110, s221_111, s221_114, s221_115, s221_118, s221_119, s221_121, s221_124, s221_127, s221_128, s221_131, s221_132, s221_134, s221_135, s221_138, s221_141, q_0, q_1, q_2, q_3, q_4, q_5, q_6, q_7, q_8, q_9, q_10, q_11, q_12, q_13, q_14, q_16, q_20, q_23, q_24, q_32, q_42, q_43, q_45, q_47, q_48, q_50, q_57, q_59, q_60, q_61, q_62, q_63, q_64, q_66, q_91, q_93, q_97, q_99, q_122, q_144, q_255, q_256, q_300, q_380, q_400, q_620, q_999, q_1000, q_4095, q_4096, q_9999, q_65536, q_99999, q_31, nI_add, pk_mul, nE, nL, nT, nM31, nShl, ib_nI, nI_clamp, bI_n0, bI_n1, bI_nar, uI_r, uI_l, uL_r, uL_i, uL_p, uA_r, uA_l, bV_some, bU_some, nar_n0, nar_n1, and_self, and_true, true_and, and_false, false_and, if_true, if_false, eq_self, Bool.false_eq_true, Bool.true_eq_false, not_true_eq_false, not_false_eq_true, ↓reduceIte, nlT, nlF, ntT, ntF, neT, neF, ieT, ieF, decide_true, decide_false, Bool.not_true, Bool.not_false, Bool.and_true, Bool.true_and, Bool.and_false, Bool.false_and, Bool.or_true, Bool.true_or, Bool.or_false, Bool.false_or, h1.sc, h1.da, h1.se, m_has, c1, c2, c2', nx_and, nA31, c3, c3', beq_self_eq_true]
                rfl
              · have c3' : (A 11 o &&& A 11 (lowB s) == 0) = false := by simp [c3]
                simp (disch := omega) only [s221_0, s221_1, s221_2, s221_5, s221_6, s221_7, s221_8, s221_9, s221_10, s221_13, s221_14, s221_15, s221_16, s221_17, s221_19, s221_20, s221_23, s221_24, s221_26, s221_27, s221_30, s221_33, s221_36, s221_39, s221_40, s221_43, s221_44, s221_45, s221_46, s221_47, s221_48, s221_49, s221_51, s221_52, s221_53, s221_54, s221_58, s221_59, s221_62, s221_63, s221_64, s221_67, s221_69, s221_72, s221_73, s221_75, s221_78, s221_81, s221_82, s221_85, s221_87, s221_88, s221_89, s221_92, s221_93, s221_94, s221_97, s221_98, s221_101, s221_103, s221_104, s221_105, s221_108, s221_109, s221_110, s221_111, s221_114, s221_115, s221_118, s221_119, s221_121, s221_124, s221_127, s221_128, s221_131, s221_132, s221_134, s221_135, s221_138, s221_141, q_0, q_1, q_2, q_3, q_4, q_5, q_6, q_7, q_8, q_9, q_10, q_11, q_12, q_13, q_14, q_16, q_20, q_23, q_24, q_32, q_42, q_43, q_45, q_47, q_48, q_50, q_57, q_59, q_60, q_61, q_62, q_63, q_64, q_66, q_91, q_93, q_97, q_99, q_122, q_144, q_255, q_256, q_300, q_380, q_400, q_620, q_999, q_1000, q_4095, q_4096, q_9999, q_65536, q_99999, q_31, nI_add, pk_mul, nE, nL, nT, nM31, nShl, ib_nI, nI_clamp, bI_n0, bI_n1, bI_nar, uI_r, uI_l, uL_r, uL_i, uL_p, uA_r, uA_l, bV_some, bU_some, nar_n0, nar_n1, and_self, and_true, true_and, and_false, false_and, if_true, if_false, eq_self, Bool.false_eq_true, Bool.true_eq_false, not_true_eq_false, not_false_eq_true, ↓reduceIte, nlT, nlF, ntT, ntF, neT, neF, ieT, ieF, decide_true, decide_false, Bool.not_true, Bool.not_false, Bool.and_true, Bool.true_and, Bool.and_false, Bool.false_and, Bool.or_true, Bool.true_or, Bool.or_false, Bool.false_or, h1.sc, h1.da, h1.se, m_has, c1, c2, c2', nx_and, nA31, c3, c3', beq_self_eq_true]
                rfl
            · have c2' : (A 13 o == A 13 (lowB s)) = false := by simp [c2]
              simp (disch := omega) only [s221_0, s221_1, s221_2, s221_5, s221_6, s221_7, s221_8, s221_9, s221_10, s221_13, s221_14, s221_15, s221_16, s221_17, s221_19, s221_20, s221_23, s221_24, s221_26, s221_27, s221_30, s221_33, s221_36, s221_39, s221_40, s221_43, s221_44, s221_45, s221_46, s221_47, s221_48, s221_49, s221_51, s221_52, s221_53, s221_54, s221_58, s221_59, s221_62, s221_63, s221_64, s221_67, s221_69, s221_72, s221_73, s221_75, s221_78, s221_81, s221_82, s221_85, s221_87, s221_88, s221_89, s221_92, s221_93, s221_94, s221_97, s221_98, s221_101, s221_103, s221_104, s221_105, s221_108, s221_109, s221_110, s221_111, s221_114, s221_115, s221_118, s221_119, s221_121, s221_124, s221_127, s221_128, s221_131, s221_132, s221_134, s221_135, s221_138, s221_141, q_0, q_1, q_2, q_3, q_4, q_5, q_6, q_7, q_8, q_9, q_10, q_11, q_12, q_13, q_14, q_16, q_20, q_23, q_24, q_32, q_42, q_43, q_45, q_47, q_48, q_50, q_57, q_59, q_60, q_61, q_62, q_63, q_64, q_66, q_91, q_93, q_97, q_99, q_122, q_144, q_255, q_256, q_300, q_380, q_400, q_620, q_999, q_1000, q_4095, q_4096, q_9999, q_65536, q_99999, q_31, nI_add, pk_mul, nE, nL, nT, nM31, nShl, ib_nI, nI_clamp, bI_n0, bI_n1, bI_nar, uI_r, uI_l, uL_r, uL_i, uL_p, uA_r, uA_l, bV_some, bU_some, nar_n0, nar_n1, and_self, and_true, true_and, and_false, false_and, if_true, if_false, eq_self, Bool.false_eq_true, Bool.true_eq_false, not_true_eq_false, not_false_eq_true, ↓reduceIte, nlT, nlF, ntT, ntF, neT, neF, ieT, ieF, decide_true, decide_false, Bool.not_true, Bool.not_false, Bool.and_true, Bool.true_and, Bool.and_false, Bool.false_and, Bool.or_true, Bool.true_or, Bool.or_false, Bool.false_or, h1.sc, h1.da, m_has, c1, c2, c2']
              rfl
      · intro _ _
        show run 221 0 56 _ _ _ = _
        rw [s221_56, ← apB_rec hWk hs hne]
        simp (disch := omega) only [s221_0, s221_1, s221_2, s221_5, s221_6, s221_7, s221_8, s221_9, s221_10, s221_13, s221_14, s221_15, s221_16, s221_17, s221_19, s221_20, s221_23, s221_24, s221_26, s221_27, s221_30, s221_33, s221_36, s221_39, s221_40, s221_43, s221_44, s221_45, s221_46, s221_47, s221_48, s221_49, s221_51, s221_52, s221_53, s221_54, s221_58, s221_59, s221_62, s221_63, s221_64, s221_67, s221_69, s221_72, s221_73, s221_75, s221_78, s221_81, s221_82, s221_85, s221_87, s221_88, s221_89, s221_92, s221_93, s221_94, s221_97, s221_98, s221_101, s221_103, s221_104, s221_105, s221_108, s221_109, s221_110, s221_111, s221_114, s221_115, s221_118, s221_119, s221_121, s221_124, s221_127, s221_128, s221_131, s221_132, s221_134, s221_135, s221_138, s221_141, q_0, q_1, q_2, q_3, q_4, q_5, q_6, q_7, q_8, q_9, q_10, q_11, q_12, q_13, q_14, q_16, q_20, q_23, q_24, q_32, q_42, q_43, q_45, q_47, q_48, q_50, q_57, q_59, q_60, q_61, q_62, q_63, q_64, q_66, q_91, q_93, q_97, q_99, q_122, q_144, q_255, q_256, q_300, q_380, q_400, q_620, q_999, q_1000, q_4095, q_4096, q_9999, q_65536, q_99999, q_31, nI_add, pk_mul, nE, nL, nT, nM31, nShl, ib_nI, nI_clamp, bI_n0, bI_n1, bI_nar, uI_r, uI_l, uL_r, uL_i, uL_p, uA_r, uA_l, bV_some, bU_some, nar_n0, nar_n1, and_self, and_true, true_and, and_false, false_and, if_true, if_false, eq_self, Bool.false_eq_true, Bool.true_eq_false, not_true_eq_false, not_false_eq_true, ↓reduceIte, nlT, nlF, ntT, ntF, neT, neF, ieT, ieF, decide_true, decide_false, Bool.not_true, Bool.not_false, Bool.and_true, Bool.true_and, Bool.and_false, Bool.false_and, Bool.or_true, Bool.true_or, Bool.or_false, Bool.false_or, h1.sc]
    have low : run 221 0 25 [vR 50 0, vI (nI (2 ^ A 0 2)), vI (nI s), vI (nI 0), x4, x5] [] S1 = run 221 0 56 [vR 50 0, vI (nI (2 ^ A 0 2)), vI (nI s), vI (nI (lowB s)), vI (bI (apB A (rst s))), vI (nI (lowB s + 1))] [] S1 := by
      refine up_ (F := fun w => run 221 0 25 [vR 50 0, vI (nI (2 ^ A 0 2)), vI (nI s), vI (nI w), x4, x5] [] S1) (N := lowB s) ?_ ?_ 0 (by omega)
      · intro w hlt
        have c := l2 w hlt
        show run 221 0 25 _ _ _ = run 221 0 25 _ _ _
        rw [s221_25]
        simp (disch := omega) only [s221_0, s221_1, s221_2, s221_5, s221_6, s221_7, s221_8, s221_9, s221_10, s221_13, s221_14, s221_15, s221_16, s221_17, s221_19, s221_20, s221_23, s221_24, s221_26, s221_27, s221_30, s221_33, s221_36, s221_39, s221_40, s221_43, s221_44, s221_45, s221_46, s221_47, s221_48, s221_49, s221_51, s221_52, s221_53, s221_54, s221_58, s221_59, s221_62, s221_63, s221_64, s221_67, s221_69, s221_72, s221_73, s221_75, s221_78, s221_81, s221_82, s221_85, s221_87, s221_88, s221_89, s221_92, s221_93, s221_94, s221_97, s221_98, s221_101, s221_103, s221_104, s221_105, s221_108, s221_109, s221_110, s221_111, s221_114, s221_115, s221_118, s221_119, s221_121, s221_124, s221_127, s221_128, s221_131, s221_132, s221_134, s221_135, s221_138, s221_141, q_0, q_1, q_2, q_3, q_4, q_5, q_6, q_7, q_8, q_9, q_10, q_11, q_12, q_13, q_14, q_16, q_20, q_23, q_24, q_32, q_42, q_43, q_45, q_47, q_48, q_50, q_57, q_59, q_60, q_61, q_62, q_63, q_64, q_66, q_91, q_93, q_97, q_99, q_122, q_144, q_255, q_256, q_300, q_380, q_400, q_620, q_999, q_1000, q_4095, q_4096, q_9999, q_65536, q_99999, q_31, nI_add, pk_mul, nE, nL, nT, nM31, nShl, ib_nI, nI_clamp, bI_n0, bI_n1, bI_nar, uI_r, uI_l, uL_r, uL_i, uL_p, uA_r, uA_l, bV_some, bU_some, nar_n0, nar_n1, and_self, and_true, true_and, and_false, false_and, if_true, if_false, eq_self, Bool.false_eq_true, Bool.true_eq_false, not_true_eq_false, not_false_eq_true, ↓reduceIte, nlT, nlF, ntT, ntF, neT, neF, ieT, ieF, decide_true, decide_false, Bool.not_true, Bool.not_false, Bool.and_true, Bool.true_and, Bool.and_false, Bool.false_and, Bool.or_true, Bool.true_or, Bool.or_false, Bool.false_or, m_has, c]
      · have er : s &&& (s - 1) = rst s := rfl
        show run 221 0 25 _ _ _ = _
        rw [s221_25]
        simp (disch := omega) only [s221_0, s221_1, s221_2, s221_5, s221_6, s221_7, s221_8, s221_9, s221_10, s221_13, s221_14, s221_15, s221_16, s221_17, s221_19, s221_20, s221_23, s221_24, s221_26, s221_27, s221_30, s221_33, s221_36, s221_39, s221_40, s221_43, s221_44, s221_45, s221_46, s221_47, s221_48, s221_49, s221_51, s221_52, s221_53, s221_54, s221_58, s221_59, s221_62, s221_63, s221_64, s221_67, s221_69, s221_72, s221_73, s221_75, s221_78, s221_81, s221_82, s221_85, s221_87, s221_88, s221_89, s221_92, s221_93, s221_94, s221_97, s221_98, s221_101, s221_103, s221_104, s221_105, s221_108, s221_109, s221_110, s221_111, s221_114, s221_115, s221_118, s221_119, s221_121, s221_124, s221_127, s221_128, s221_131, s221_132, s221_134, s221_135, s221_138, s221_141, q_0, q_1, q_2, q_3, q_4, q_5, q_6, q_7, q_8, q_9, q_10, q_11, q_12, q_13, q_14, q_16, q_20, q_23, q_24, q_32, q_42, q_43, q_45, q_47, q_48, q_50, q_57, q_59, q_60, q_61, q_62, q_63, q_64, q_66, q_91, q_93, q_97, q_99, q_122, q_144, q_255, q_256, q_300, q_380, q_400, q_620, q_999, q_1000, q_4095, q_4096, q_9999, q_65536, q_99999, q_31, nI_add, pk_mul, nE, nL, nT, nM31, nShl, ib_nI, nI_clamp, bI_n0, bI_n1, bI_nar, uI_r, uI_l, uL_r, uL_i, uL_p, uA_r, uA_l, bV_some, bU_some, nar_n0, nar_n1, and_self, and_true, true_and, and_false, false_and, if_true, if_false, eq_self, Bool.false_eq_true, Bool.true_eq_false, not_true_eq_false, not_false_eq_true, ↓reduceIte, nlT, nlF, ntT, ntF, neT, neF, ieT, ieF, decide_true, decide_false, Bool.not_true, Bool.not_false, Bool.and_true, Bool.true_and, Bool.and_false, Bool.false_and, Bool.or_true, Bool.true_or, Bool.or_false, Bool.false_or, m_has, l1, nSub, nx_and, nA31, er, r1]
    refine Or.inr ⟨(uI S1 86 0 s (bI (apB A s)), vI (nI (lowB s)), vI (bI (apB A s)), vI (nI (A 0 2))), ⟨by omega, i1.uI rfl, fun t ht => ?_⟩, ?_⟩
    · show (uI S1 86 0 s (bI (apB A s))).1 86 0 t = _
      rw [uI_r]
      by_cases e : t = s
      · rw [if_pos ⟨rfl, rfl, e⟩, e]
      · rw [if_neg (by omega)]
        exact i2 t (by omega)
    · show run 221 0 18 [vR 50 0, vI (nI (2 ^ A 0 2)), vI (nI s), x3, x4, x5] [] S1 = run 221 0 18 [vR 50 0, vI (nI (2 ^ A 0 2)), vI (nI (s + 1)), vI (nI (lowB s)), vI (bI (apB A s)), vI (nI (A 0 2))] [] (uI S1 86 0 s (bI (apB A s)))
      rw [← inner, ← low, s221_18]
      simp (disch := omega) only [s221_0, s221_1, s221_2, s221_5, s221_6, s221_7, s221_8, s221_9, s221_10, s221_13, s221_14, s221_15, s221_16, s221_17, s221_19, s221_20, s221_23, s221_24, s221_26, s221_27, s221_30, s221_33, s221_36, s221_39, s221_40, s221_43, s221_44, s221_45, s221_46, s221_47, s221_48, s221_49, s221_51, s221_52, s221_53, s221_54, s221_58, s221_59, s221_62, s221_63, s221_64, s221_67, s221_69, s221_72, s221_73, s221_75, s221_78, s221_81, s221_82, s221_85, s221_87, s221_88, s221_89, s221_92, s221_93, s221_94, s221_97, s221_98, s221_101, s221_103, s221_104, s221_105, s221_108, s221_109, s221_110, s221_111, s221_114, s221_115, s221_118, s221_119, s221_121, s221_124, s221_127, s221_128, s221_131, s221_132, s221_134, s221_135, s221_138, s221_141, q_0, q_1, q_2, q_3, q_4, q_5, q_6, q_7, q_8, q_9, q_10, q_11, q_12, q_13, q_14, q_16, q_20, q_23, q_24, q_32, q_42, q_43, q_45, q_47, q_48, q_50, q_57, q_59, q_60, q_61, q_62, q_63, q_64, q_66, q_91, q_93, q_97, q_99, q_122, q_144, q_255, q_256, q_300, q_380, q_400, q_620, q_999, q_1000, q_4095, q_4096, q_9999, q_65536, q_99999, q_31, nI_add, pk_mul, nE, nL, nT, nM31, nShl, ib_nI, nI_clamp, bI_n0, bI_n1, bI_nar, uI_r, uI_l, uL_r, uL_i, uL_p, uA_r, uA_l, bV_some, bU_some, nar_n0, nar_n1, and_self, and_true, true_and, and_false, false_and, if_true, if_false, eq_self, Bool.false_eq_true, Bool.true_eq_false, not_true_eq_false, not_false_eq_true, ↓reduceIte, nlT, nlF, ntT, ntF, neT, neF, ieT, ieF, decide_true, decide_false, Bool.not_true, Bool.not_false, Bool.and_true, Bool.true_and, Bool.and_false, Bool.false_and, Bool.or_true, Bool.true_or, Bool.or_false, Bool.false_or]
  · intro p hI
    obtain ⟨S1, x3, x4, x5⟩ := p
    obtain ⟨i0, i1, i2⟩ := hI
    simp only at i1 i2
    show ∃ S', run 221 0 18 [vR 50 0, vI (nI (2 ^ A 0 2)), vI (nI (2 ^ A 0 2)), x3, x4, x5] [] S1 = _ ∧ _
    rw [s221_18]
    simp (disch := omega) only [s221_0, s221_1, s221_2, s221_5, s221_6, s221_7, s221_8, s221_9, s221_10, s221_13, s221_14, s221_15, s221_16, s221_17, s221_19, s221_20, s221_23, s221_24, s221_26, s221_27, s221_30, s221_33, s221_36, s221_39, s221_40, s221_43, s221_44, s221_45, s221_46, s221_47, s221_48, s221_49, s221_51, s221_52, s221_53, s221_54, s221_58, s221_59, s221_62, s221_63, s221_64, s221_67, s221_69, s221_72, s221_73, s221_75, s221_78, s221_81, s221_82, s221_85, s221_87, s221_88, s221_89, s221_92, s221_93, s221_94, s221_97, s221_98, s221_101, s221_103, s221_104, s221_105, s221_108, s221_109, s221_110, s221_111, s221_114, s221_115, s221_118, s221_119, s221_121, s221_124, s221_127, s221_128, s221_131, s221_132, s221_134, s221_135, s221_138, s221_141, q_0, q_1, q_2, q_3, q_4, q_5, q_6, q_7, q_8, q_9, q_10, q_11, q_12, q_13, q_14, q_16, q_20, q_23, q_24, q_32, q_42, q_43, q_45, q_47, q_48, q_50, q_57, q_59, q_60, q_61, q_62, q_63, q_64, q_66, q_91, q_93, q_97, q_99, q_122, q_144, q_255, q_256, q_300, q_380, q_400, q_620, q_999, q_1000, q_4095, q_4096, q_9999, q_65536, q_99999, q_31, nI_add, pk_mul, nE, nL, nT, nM31, nShl, ib_nI, nI_clamp, bI_n0, bI_n1, bI_nar, uI_r, uI_l, uL_r, uL_i, uL_p, uA_r, uA_l, bV_some, bU_some, nar_n0, nar_n1, and_self, and_true, true_and, and_false, false_and, if_true, if_false, eq_self, Bool.false_eq_true, Bool.true_eq_false, not_true_eq_false, not_false_eq_true, ↓reduceIte, nlT, nlF, ntT, ntF, neT, neF, ieT, ieF, decide_true, decide_false, Bool.not_true, Bool.not_false, Bool.and_true, Bool.true_and, Bool.and_false, Bool.false_and, Bool.or_true, Bool.true_or, Bool.or_false, Bool.false_or]
    exact ⟨_, rfl, i1, i2⟩
  · have e : s = 0 := by omega
    show (uI S 86 0 0 (nI 1)).1 86 0 s = _
    rw [e, uI_r, if_pos ⟨rfl, rfl, rfl⟩]
    have e2 : apB A 0 = true := apB_t.mpr (fun a b _ _ h1 => by simp at h1)
    rw [e2]
    rfl
def wsN (A : Tn) (m : Nat) : Nat := fsN (fun w => if m.testBit w = true then A 12 w else 0) (A 0 2)
theorem m_worthOf {S : Sto} {A : Tn} (h : RepM S A) (hw : WF A) {m : Nat} (hm : m < 2 ^ 31) : call 227 0 [vR 50 0, vI (nI m)] S = some (some (vI (nI (wsN A m))), S) := by
  have hWk := hw.wk
  show run 227 0 0 [vR 50 0, vI (nI m), vU, vU] [] S = _
  simp only [s227_0, s227_1, s227_2, s227_3]
  refine up_ (F := fun i => run 227 0 4 [vR 50 0, vI (nI m), vI (nI (fsN (fun w => if m.testBit w = true then A 12 w else 0) i)), vI (nI i)] [] S) (N := A 0 2) ?_ ?_ 0 (by omega)
  · intro i hi
    show run 227 0 4 _ _ _ = run 227 0 4 [vR 50 0, vI (nI m), vI (nI (fsN (fun w => if m.testBit w = true then A 12 w else 0) i + if m.testBit i = true then A 12 i else 0)), vI (nI (i + 1))] [] S
    rw [s227_4]
    cases c : m.testBit i with
    | false => simp (disch := omega) only [s227_0, s227_1, s227_2, s227_3, s227_5, s227_6, s227_9, s227_10, s227_11, s227_14, s227_15, s227_16, s227_17, s227_20, s227_23, s227_24, s227_27, s227_28, s227_29, s227_32, s227_33, s227_34, s227_35, s227_38, s227_41, s227_42, q_0, q_1, q_2, q_3, q_4, q_5, q_6, q_7, q_8, q_9, q_10, q_11, q_12, q_13, q_14, q_16, q_20, q_23, q_24, q_32, q_42, q_43, q_45, q_47, q_48, q_50, q_57, q_59, q_60, q_61, q_62, q_63, q_64, q_66, q_91, q_93, q_97, q_99, q_122, q_144, q_255, q_256, q_300, q_380, q_400, q_620, q_999, q_1000, q_4095, q_4096, q_9999, q_65536, q_99999, q_31, nI_add, pk_mul, nE, nL, nT, nM31, nShl, ib_nI, nI_clamp, bI_n0, bI_n1, bI_nar, uI_r, uI_l, uL_r, uL_i, uL_p, uA_r, uA_l, bV_some, bU_some, nar_n0, nar_n1, and_self, and_true, true_and, and_false, false_and, if_true, if_false, eq_self, Bool.false_eq_true, Bool.true_eq_false, not_true_eq_false, not_false_eq_true, ↓reduceIte, nlT, nlF, ntT, ntF, neT, neF, ieT, ieF, decide_true, decide_false, Bool.not_true, Bool.not_false, Bool.and_true, Bool.true_and, Bool.and_false, Bool.false_and, Bool.or_true, Bool.true_or, Bool.or_false, Bool.false_or, h.sc, m_has, c]
    | true => simp (disch := omega) only [s227_0, s227_1, s227_2, s227_3, s227_5, s227_6, s227_9, s227_10, s227_11, s227_14, s227_15, s227_16, s227_17, s227_20, s227_23, s227_24, s227_27, s227_28, s227_29, s227_32, s227_33, s227_34, s227_35, s227_38, s227_41, s227_42, q_0, q_1, q_2, q_3, q_4, q_5, q_6, q_7, q_8, q_9, q_10, q_11, q_12, q_13, q_14, q_16, q_20, q_23, q_24, q_32, q_42, q_43, q_45, q_47, q_48, q_50, q_57, q_59, q_60, q_61, q_62, q_63, q_64, q_66, q_91, q_93, q_97, q_99, q_122, q_144, q_255, q_256, q_300, q_380, q_400, q_620, q_999, q_1000, q_4095, q_4096, q_9999, q_65536, q_99999, q_31, nI_add, pk_mul, nE, nL, nT, nM31, nShl, ib_nI, nI_clamp, bI_n0, bI_n1, bI_nar, uI_r, uI_l, uL_r, uL_i, uL_p, uA_r, uA_l, bV_some, bU_some, nar_n0, nar_n1, and_self, and_true, true_and, and_false, false_and, if_true, if_false, eq_self, Bool.false_eq_true, Bool.true_eq_false, not_true_eq_false, not_false_eq_true, ↓reduceIte, nlT, nlF, ntT, ntF, neT, neF, ieT, ieF, decide_true, decide_false, Bool.not_true, Bool.not_false, Bool.and_true, Bool.true_and, Bool.and_false, Bool.false_and, Bool.or_true, Bool.true_or, Bool.or_false, Bool.false_or, h.sc, m_has, c, h.wo]
  · show run 227 0 4 _ _ _ = _
    rw [s227_4]
    simp (disch := omega) only [s227_0, s227_1, s227_2, s227_3, s227_5, s227_6, s227_9, s227_10, s227_11, s227_14, s227_15, s227_16, s227_17, s227_20, s227_23, s227_24, s227_27, s227_28, s227_29, s227_32, s227_33, s227_34, s227_35, s227_38, s227_41, s227_42, q_0, q_1, q_2, q_3, q_4, q_5, q_6, q_7, q_8, q_9, q_10, q_11, q_12, q_13, q_14, q_16, q_20, q_23, q_24, q_32, q_42, q_43, q_45, q_47, q_48, q_50, q_57, q_59, q_60, q_61, q_62, q_63, q_64, q_66, q_91, q_93, q_97, q_99, q_122, q_144, q_255, q_256, q_300, q_380, q_400, q_620, q_999, q_1000, q_4095, q_4096, q_9999, q_65536, q_99999, q_31, nI_add, pk_mul, nE, nL, nT, nM31, nShl, ib_nI, nI_clamp, bI_n0, bI_n1, bI_nar, uI_r, uI_l, uL_r, uL_i, uL_p, uA_r, uA_l, bV_some, bU_some, nar_n0, nar_n1, and_self, and_true, true_and, and_false, false_and, if_true, if_false, eq_self, Bool.false_eq_true, Bool.true_eq_false, not_true_eq_false, not_false_eq_true, ↓reduceIte, nlT, nlF, ntT, ntF, neT, neF, ieT, ieF, decide_true, decide_false, Bool.not_true, Bool.not_false, Bool.and_true, Bool.true_and, Bool.and_false, Bool.false_and, Bool.or_true, Bool.true_or, Bool.or_false, Bool.false_or, h.sc]
    rfl
theorem wsN_le {A : Tn} (hw : WF A) (m : Nat) : wsN A m ≤ 9999 * 12 := by
  have hWk := hw.wk
  unfold wsN
  have := fsN_le (f := fun w => if m.testBit w = true then A 12 w else 0) (b := 9999) (n := A 0 2) (fun i hi => by
    show (if m.testBit i = true then A 12 i else 0) ≤ 9999
    split
    · exact (hw.W (by omega)).2.2.1
    · omega)
  have h2 : 9999 * A 0 2 ≤ 9999 * 12 := Nat.mul_le_mul_left _ hWk
  omega
def wv (A : Tn) (w : Nat) : Int := (A 12 w : Int)
theorem ws_sum {A : Tn} (hW : A 0 2 ≤ 12) {X : Nat} (hX : X < 2 ^ A 0 2) : sumS (wv A) X = (wsN A X : Int) := by
  unfold sumS wsN
  have e1 : ∀ n, smZ (fun i => if X.testBit i = true then wv A i else 0) n = (fsN (fun w => if X.testBit w = true then A 12 w else 0) n : Int) := by
    intro n
    induction n with
    | zero => rfl
    | succ n ih =>
      rw [smZ_s, ih]
      show _ = ((fsN _ n + if X.testBit n = true then A 12 n else 0 : Nat) : Int)
      cases X.testBit n with
      | true =>
        simp only [if_true]
        unfold wv
        omega
      | false =>
        simp only [Bool.false_eq_true, if_false]
        omega
  rw [e1]
  have e2 := fsN_zero (f := fun w => if X.testBit w = true then A 12 w else 0) (A 0 2) (12 - A 0 2) (fun i h1 _ => by
    show (if X.testBit i = true then A 12 i else 0) = 0
    rw [tb_hi hX h1]
    rfl)
  rw [show A 0 2 + (12 - A 0 2) = 12 by omega] at e2
  rw [e2]
theorem clC_sym (A : Tn) (a b : Nat) : clC A a b = clC A b a := by
  unfold clC
  rw [Nat.and_comm (A 11 a)]
  congr 1
  rw [Bool.eq_iff_iff]
  simp only [Bool.and_eq_true, Bool.not_eq_true', beq_eq_false_iff_ne, beq_iff_eq]
  omega
theorem ap_ind {A : Tn} {X : Nat} (hX : X < 2 ^ 12) : apB A X = true ↔ Ind (clC A) X := by
  rw [apB_t]
  have hb : ∀ a, X.testBit a = true → a < 12 := by
    intro a ha
    apply Classical.byContradiction
    intro hn
    rw [tb_hi hX (i := a) (by omega)] at ha
    cases ha
  have e : ∀ a b, a ≠ b → clC A a b = clB A a b := by
    intro a b hab
    unfold clC clB
    have : (a == b) = false := by simp [hab]
    rw [this]
    rfl
  constructor
  · intro h a b ha hb' hab
    by_cases c : b < a
    · rw [e a b hab]; exact h a b c (hb a ha) ha hb'
    · rw [clC_sym, e b a (Ne.symm hab)]; exact h b a (by omega) (hb b hb') hb' ha
  · intro h a b hba _ ha hb'
    rw [← e a b (by omega)]
    exact h a b ha hb' (by omega)
theorem clS_bit {A : Tn} {k j : Nat} (hj : j < A 0 2) : (clS A k).testBit j = clC A k j := by
  unfold clS
  rw [bN_bit]
  simp [hj]
/-- the worth of the best set of those of s -/
def bwI (A : Tn) (s : Nat) : Int := bsI (wv A) (clS A) 12 s
theorem bw_max {A : Tn} (hw : WF A) {s : Nat} (hs : s < 2 ^ A 0 2) : (∃ X, Sub X s ∧ apB A X = true ∧ (wsN A X : Int) = bwI A s) ∧ (∀ X, Sub X s → apB A X = true → (wsN A X : Int) ≤ bwI A s) ∧ 0 ≤ bwI A s ∧ bwI A s ≤ 9999 * 12 := by
  have hWk := hw.wk
  have h := bs_max (v := wv A) (C := clS A) (cl := clC A) hWk (fun k _ => by unfold wv; omega) (fun k j _ hj _ => clS_bit hj) (clC_sym A) 12 s hs (ct_le _ _)
  have hX : ∀ X, Sub X s → X < 2 ^ A 0 2 := fun X h => h.lt hs
  have h12 : ∀ X, Sub X s → X < 2 ^ 12 := fun X h => Nat.lt_of_lt_of_le (hX X h) (Nat.pow_le_pow_right (by decide) hWk)
  obtain ⟨⟨X, a1, a2, a3⟩, a4⟩ := h
  rw [ws_sum hWk (hX X a1)] at a3
  have l := wsN_le hw X
  refine ⟨⟨X, a1, (ap_ind (h12 X a1)).mpr a2, a3⟩, fun Y y1 y2 => ?_, ?_, ?_⟩
  · rw [← ws_sum hWk (hX Y y1)]
    exact a4 Y y1 ((ap_ind (h12 Y y1)).mp y2)
  · show 0 ≤ bsI (wv A) (clS A) 12 s
    rw [← a3]; omega
  · show bsI (wv A) (clS A) 12 s ≤ _
    rw [← a3]; omega
