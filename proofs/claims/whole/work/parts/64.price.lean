/-! all prices of a work -/
def psF (A : Tn) (L : Lw) (w : Nat) : Nat → Option Nat
  | 0 => some 0
  | n + 1 => match psF A L w n with
    | none => none
    | some s => if (A 11 w).testBit n then (match haO A L w n with
      | none => none
      | some p => some (s + p)) else some s
theorem psF_le {A : Tn} {L : Lw} {w : Nat} : ∀ {n s : Nat}, psF A L w n = some s → s ≤ 19998 * n
  | 0, s, h => by
    have := Option.some.inj h
    omega
  | n + 1, s, h => by
    unfold psF at h
    split at h
    · cases h
    · rename_i s' hs
      have h1 := psF_le hs
      split at h
      · split at h
        · cases h
        · rename_i p hp
          have h2 := haO_le hp
          have := Option.some.inj h
          omega
      · have := Option.some.inj h
        omega
theorem psF_none {A : Tn} {L : Lw} {w m : Nat} (h : psF A L w m = none) : ∀ n, psF A L w (m + n) = none
  | 0 => h
  | n + 1 => by
    show psF A L w (m + n + 1) = none
    unfold psF
    rw [psF_none h n]
theorem psF_no {A : Tn} {L : Lw} {w m n : Nat} (h : psF A L w m = none) (hm : m ≤ n) : psF A L w n = none := by
  have := psF_none h (n - m)
  rw [show m + (n - m) = n by omega] at this
  exact this
theorem m_pricesOf {S : Sto} {A : Tn} {r : Nat} {L : Lw} {w : Nat} (h : RepM S A) (hw : WF A) (hr : r < 6) (hL : RepLM S r L) (hl : WFL L) (hv : w < 12) : ∃ S', call 207 0 [vR 50 0, vI (nI r), vI (nI w)] S = some (some (vI (nV (psF A L w (A 0 1)))), S') ∧ Fr (pL [76, 77]) S S' := by
  have hT := hw.th
  have hW := hw.W hv
  show ∃ S', run 207 0 0 [vR 50 0, vI (nI r), vI (nI w), vU, vU, vU] [] S = _ ∧ _
  simp only [s207_0, s207_1, s207_2, s207_3]
  have key := upS (σ := (Sto × av) × Nat) (I := fun i s => psF A L w i = some s.2 ∧ Fr (pL [76, 77]) S s.1.1) (F := fun i s => run 207 0 5 [vR 50 0, vI (nI r), vI (nI w), vI (nI s.2), vI (nI i), s.1.2] [] s.1.1) (Q := fun x => ∃ S', x = some (some (vI (nV (psF A L w (A 0 1)))), S') ∧ Fr (pL [76, 77]) S S') (N := A 0 1) ?_ ?_ 0 ((S, vU), 0) (by omega) ⟨rfl, Fr.rfl'⟩
  · exact key
  · intro i s hi hI
    obtain ⟨⟨S1, a5⟩, s⟩ := s
    obtain ⟨i1, i2⟩ := hI
    simp only at i1 i2
    have hs := psF_le i1
    have h1 := h.pl i2 (by decide)
    have hL1 := hL.pl i2 (by decide)
    show (∃ S', run 207 0 5 [vR 50 0, vI (nI r), vI (nI w), vI (nI s), vI (nI i), a5] [] S1 = _ ∧ _) ∨ ∃ s', _ ∧ run 207 0 5 [vR 50 0, vI (nI r), vI (nI w), vI (nI s), vI (nI i), a5] [] S1 = _
    rw [s207_5]
    cases c1 : (A 11 w).testBit i with
    | false =>
      refine Or.inr ⟨((S1, a5), s), ⟨?_, i2⟩, ?_⟩
      · unfold psF; rw [i1]; simp [c1]
      · simp (disch := omega) only [s207_0, s207_1, s207_2, s207_3, s207_7, s207_8, s207_11, s207_12, s207_13, s207_16, s207_17, s207_20, s207_21, s207_22, s207_24, s207_27, s207_30, s207_31, s207_32, s207_33, s207_35, s207_38, s207_40, s207_42, s207_45, s207_47, s207_48, s207_49, s207_51, s207_52, s207_53, s207_56, s207_59, s207_60, q_0, q_1, q_2, q_3, q_4, q_5, q_6, q_7, q_8, q_9, q_10, q_11, q_12, q_13, q_14, q_16, q_20, q_23, q_24, q_32, q_42, q_43, q_45, q_47, q_48, q_50, q_57, q_59, q_60, q_61, q_62, q_63, q_64, q_66, q_91, q_93, q_97, q_99, q_122, q_144, q_255, q_256, q_300, q_380, q_400, q_620, q_999, q_1000, q_4095, q_4096, q_9999, q_65536, q_99999, q_31, nI_add, pk_mul, nE, nL, nT, nM31, nShl, ib_nI, nI_clamp, bI_n0, bI_n1, bI_nar, uI_r, uI_l, uL_r, uL_i, uL_p, uA_r, uA_l, bV_some, bU_some, nar_n0, nar_n1, and_self, and_true, true_and, and_false, false_and, if_true, if_false, eq_self, Bool.false_eq_true, Bool.true_eq_false, not_true_eq_false, not_false_eq_true, ↓reduceIte, nlT, nlF, ntT, ntF, neT, neF, ieT, ieF, decide_true, decide_false, Bool.not_true, Bool.not_false, Bool.and_true, Bool.true_and, Bool.and_false, Bool.false_and, Bool.or_true, Bool.true_or, Bool.or_false, Bool.false_or, h1.sc, h1.se, m_has, c1]
    | true =>
      obtain ⟨S2, a1, a2⟩ := m_hadFor h1 hw hr hL1 hl hv (t := i) (by omega)
      cases c2 : haO A L w i with
      | none =>
        rw [c2] at a1
        have e : psF A L w (A 0 1) = none := by
          apply psF_no (m := i + 1) _ (by omega)
          unfold psF; rw [i1]; simp [c1, c2]
        refine Or.inl ?_
        rw [e]
        simp only [nV] at a1 ⊢
        simp (disch := omega) only [s207_0, s207_1, s207_2, s207_3, s207_7, s207_8, s207_11, s207_12, s207_13, s207_16, s207_17, s207_20, s207_21, s207_22, s207_24, s207_27, s207_30, s207_31, s207_32, s207_33, s207_35, s207_38, s207_40, s207_42, s207_45, s207_47, s207_48, s207_49, s207_51, s207_52, s207_53, s207_56, s207_59, s207_60, q_0, q_1, q_2, q_3, q_4, q_5, q_6, q_7, q_8, q_9, q_10, q_11, q_12, q_13, q_14, q_16, q_20, q_23, q_24, q_32, q_42, q_43, q_45, q_47, q_48, q_50, q_57, q_59, q_60, q_61, q_62, q_63, q_64, q_66, q_91, q_93, q_97, q_99, q_122, q_144, q_255, q_256, q_300, q_380, q_400, q_620, q_999, q_1000, q_4095, q_4096, q_9999, q_65536, q_99999, q_31, nI_add, pk_mul, nE, nL, nT, nM31, nShl, ib_nI, nI_clamp, bI_n0, bI_n1, bI_nar, uI_r, uI_l, uL_r, uL_i, uL_p, uA_r, uA_l, bV_some, bU_some, nar_n0, nar_n1, and_self, and_true, true_and, and_false, false_and, if_true, if_false, eq_self, Bool.false_eq_true, Bool.true_eq_false, not_true_eq_false, not_false_eq_true, ↓reduceIte, nlT, nlF, ntT, ntF, neT, neF, ieT, ieF, decide_true, decide_false, Bool.not_true, Bool.not_false, Bool.and_true, Bool.true_and, Bool.and_false, Bool.false_and, Bool.or_true, Bool.true_or, Bool.or_false, Bool.false_or, h1.sc, h1.se, m_has, c1, a1, n2_lt, n2_ge]
        exact ⟨_, rfl, i2.tr a2⟩
      | some p =>
        have hp := haO_le c2
        rw [c2] at a1
        simp only [nV] at a1
        refine Or.inr ⟨((S2, vI (nI p)), s + p), ⟨?_, i2.tr a2⟩, ?_⟩
        · unfold psF; rw [i1]; simp [c1, c2]
        · simp (disch := omega) only [s207_0, s207_1, s207_2, s207_3, s207_7, s207_8, s207_11, s207_12, s207_13, s207_16, s207_17, s207_20, s207_21, s207_22, s207_24, s207_27, s207_30, s207_31, s207_32, s207_33, s207_35, s207_38, s207_40, s207_42, s207_45, s207_47, s207_48, s207_49, s207_51, s207_52, s207_53, s207_56, s207_59, s207_60, q_0, q_1, q_2, q_3, q_4, q_5, q_6, q_7, q_8, q_9, q_10, q_11, q_12, q_13, q_14, q_16, q_20, q_23, q_24, q_32, q_42, q_43, q_45, q_47, q_48, q_50, q_57, q_59, q_60, q_61, q_62, q_63, q_64, q_66, q_91, q_93, q_97, q_99, q_122, q_144, q_255, q_256, q_300, q_380, q_400, q_620, q_999, q_1000, q_4095, q_4096, q_9999, q_65536, q_99999, q_31, nI_add, pk_mul, nE, nL, nT, nM31, nShl, ib_nI, nI_clamp, bI_n0, bI_n1, bI_nar, uI_r, uI_l, uL_r, uL_i, uL_p, uA_r, uA_l, bV_some, bU_some, nar_n0, nar_n1, and_self, and_true, true_and, and_false, false_and, if_true, if_false, eq_self, Bool.false_eq_true, Bool.true_eq_false, not_true_eq_false, not_false_eq_true, ↓reduceIte, nlT, nlF, ntT, ntF, neT, neF, ieT, ieF, decide_true, decide_false, Bool.not_true, Bool.not_false, Bool.and_true, Bool.true_and, Bool.and_false, Bool.false_and, Bool.or_true, Bool.true_or, Bool.or_false, Bool.false_or, h1.sc, h1.se, m_has, c1, a1]
  · intro s hI
    obtain ⟨⟨S1, a5⟩, s⟩ := s
    obtain ⟨i1, i2⟩ := hI
    simp only at i1 i2
    have hs := psF_le i1
    have h1 := h.pl i2 (by decide)
    show ∃ S', run 207 0 5 [vR 50 0, vI (nI r), vI (nI w), vI (nI s), vI (nI (A 0 1)), a5] [] S1 = _ ∧ _
    rw [s207_5, i1]
    simp (disch := omega) only [s207_0, s207_1, s207_2, s207_3, s207_7, s207_8, s207_11, s207_12, s207_13, s207_16, s207_17, s207_20, s207_21, s207_22, s207_24, s207_27, s207_30, s207_31, s207_32, s207_33, s207_35, s207_38, s207_40, s207_42, s207_45, s207_47, s207_48, s207_49, s207_51, s207_52, s207_53, s207_56, s207_59, s207_60, q_0, q_1, q_2, q_3, q_4, q_5, q_6, q_7, q_8, q_9, q_10, q_11, q_12, q_13, q_14, q_16, q_20, q_23, q_24, q_32, q_42, q_43, q_45, q_47, q_48, q_50, q_57, q_59, q_60, q_61, q_62, q_63, q_64, q_66, q_91, q_93, q_97, q_99, q_122, q_144, q_255, q_256, q_300, q_380, q_400, q_620, q_999, q_1000, q_4095, q_4096, q_9999, q_65536, q_99999, q_31, nI_add, pk_mul, nE, nL, nT, nM31, nShl, ib_nI, nI_clamp, bI_n0, bI_n1, bI_nar, uI_r, uI_l, uL_r, uL_i, uL_p, uA_r, uA_l, bV_some, bU_some, nar_n0, nar_n1, and_self, and_true, true_and, and_false, false_and, if_true, if_false, eq_self, Bool.false_eq_true, Bool.true_eq_false, not_true_eq_false, not_false_eq_true, ↓reduceIte, nlT, nlF, ntT, ntF, neT, neF, ieT, ieF, decide_true, decide_false, Bool.not_true, Bool.not_false, Bool.and_true, Bool.true_and, Bool.and_false, Bool.false_and, Bool.or_true, Bool.true_or, Bool.or_false, Bool.false_or, h1.sc, nV]
    exact ⟨_, rfl, i2⟩
def lpB (x : Option Nat) (c : Nat) : Bool := match x with
  | none => false
  | some s => decide (s ≤ c)
def caB (A : Tn) (L : Lw) (w : Nat) : Bool := frB A w && lpB (psF A L w (A 0 1)) (A 1 (A 10 w))
theorem m_inC (S : Sto) {c : Nat} (hc : c < 2 ^ 31) (x : Option Nat) (hx : ∀ p, x = some p → p < 2 ^ 31) : call 137 0 [vL (nV x).toInt64, vL 0, vL (nI c).toInt64] S = some (some (vI (bI (lpB x c))), S) := by
  rw [m_inI S (nV x) 0 (nI c) (a := 0) (by decide) rfl]
  cases x with
  | none =>
    have e : (nV none < 0) = True := n2_lt
    simp only [e, decide_true, Bool.not_true, Bool.false_and, lpB]
  | some p =>
    have hp := hx p rfl
    have e1 : (nV (some p) < 0) = (p < 0) := nT (b := 0) hp (by decide)
    have e2 : (nI c < nV (some p)) = (c < p) := nT hc hp
    simp only [e1, e2, lpB]
    congr 4
    by_cases q : p ≤ c
    · simp [q, Nat.not_lt.mpr q]
    · simp [q, Nat.not_le.mp q]
theorem m_canBe {S : Sto} {A : Tn} {r : Nat} {L : Lw} {w : Nat} (h : RepM S A) (hw : WF A) (hr : r < 6) (hL : RepLM S r L) (hl : WFL L) (hv : w < A 0 2) : ∃ S', call 205 0 [vR 50 0, vI (nI r), vI (nI w)] S = some (some (vI (bI (caB A L w))), S') ∧ Fr (pL [76, 77]) S S' := by
  have hT := hw.th
  have hWk := hw.wk
  have hW := hw.W (w := w) (by omega)
  have hd := hw.dn (w := w) (by omega)
  have hlv := hw.lv (p := A 10 w) (by omega)
  have hco := hw.co (p := A 10 w) (by omega)
  show ∃ S', run 205 0 0 [vR 50 0, vI (nI r), vI (nI w)] [] S = _ ∧ _
  unfold caB frB
  by_cases c1 : A 14 w = 1
  · have c1' : (A 14 w == 1) = true := by simp [c1]
    simp (disch := omega) only [s205_0, s205_1, s205_4, s205_5, s205_6, s205_7, s205_10, s205_11, s205_14, s205_15, s205_18, s205_19, s205_20, s205_21, s205_24, s205_25, s205_26, s205_29, s205_32, s205_33, s205_34, s205_35, s205_36, s205_37, s205_40, s205_41, s205_42, s205_43, s205_46, s205_47, s205_50, s205_51, s205_52, s205_53, s205_54, s205_57, q_0, q_1, q_2, q_3, q_4, q_5, q_6, q_7, q_8, q_9, q_10, q_11, q_12, q_13, q_14, q_16, q_20, q_23, q_24, q_32, q_42, q_43, q_45, q_47, q_48, q_50, q_57, q_59, q_60, q_61, q_62, q_63, q_64, q_66, q_91, q_93, q_97, q_99, q_122, q_144, q_255, q_256, q_300, q_380, q_400, q_620, q_999, q_1000, q_4095, q_4096, q_9999, q_65536, q_99999, q_31, nI_add, pk_mul, nE, nL, nT, nM31, nShl, ib_nI, nI_clamp, bI_n0, bI_n1, bI_nar, uI_r, uI_l, uL_r, uL_i, uL_p, uA_r, uA_l, bV_some, bU_some, nar_n0, nar_n1, and_self, and_true, true_and, and_false, false_and, if_true, if_false, eq_self, Bool.false_eq_true, Bool.true_eq_false, not_true_eq_false, not_false_eq_true, ↓reduceIte, nlT, nlF, ntT, ntF, neT, neF, ieT, ieF, decide_true, decide_false, Bool.not_true, Bool.not_false, Bool.and_true, Bool.true_and, Bool.and_false, Bool.false_and, Bool.or_true, Bool.true_or, Bool.or_false, Bool.false_or, h.dn, c1, c1']
    exact ⟨_, rfl, Fr.rfl'⟩
  · have c1' : (A 14 w == 1) = false := by simp [c1]
    by_cases c2 : A 2 (A 10 w) = 1
    · have c2' : (A 2 (A 10 w) == 1) = true := by simp [c2]
      cases c3 : tkB A w with
      | true =>
        simp (disch := omega) only [s205_0, s205_1, s205_4, s205_5, s205_6, s205_7, s205_10, s205_11, s205_14, s205_15, s205_18, s205_19, s205_20, s205_21, s205_24, s205_25, s205_26, s205_29, s205_32, s205_33, s205_34, s205_35, s205_36, s205_37, s205_40, s205_41, s205_42, s205_43, s205_46, s205_47, s205_50, s205_51, s205_52, s205_53, s205_54, s205_57, q_0, q_1, q_2, q_3, q_4, q_5, q_6, q_7, q_8, q_9, q_10, q_11, q_12, q_13, q_14, q_16, q_20, q_23, q_24, q_32, q_42, q_43, q_45, q_47, q_48, q_50, q_57, q_59, q_60, q_61, q_62, q_63, q_64, q_66, q_91, q_93, q_97, q_99, q_122, q_144, q_255, q_256, q_300, q_380, q_400, q_620, q_999, q_1000, q_4095, q_4096, q_9999, q_65536, q_99999, q_31, nI_add, pk_mul, nE, nL, nT, nM31, nShl, ib_nI, nI_clamp, bI_n0, bI_n1, bI_nar, uI_r, uI_l, uL_r, uL_i, uL_p, uA_r, uA_l, bV_some, bU_some, nar_n0, nar_n1, and_self, and_true, true_and, and_false, false_and, if_true, if_false, eq_self, Bool.false_eq_true, Bool.true_eq_false, not_true_eq_false, not_false_eq_true, ↓reduceIte, nlT, nlF, ntT, ntF, neT, neF, ieT, ieF, decide_true, decide_false, Bool.not_true, Bool.not_false, Bool.and_true, Bool.true_and, Bool.and_false, Bool.false_and, Bool.or_true, Bool.true_or, Bool.or_false, Bool.false_or, h.dn, h.ak, h.lv, c1, c1', c2', m_isTaken h hw, c3]
        exact ⟨_, rfl, Fr.rfl'⟩
      | false =>
        obtain ⟨S1, a1, a2⟩ := m_pricesOf h hw hr hL hl (w := w) (by omega)
        have h1 := h.pl a2 (by decide)
        have e := m_inC S1 (c := A 1 (A 10 w)) (by omega) (psF A L w (A 0 1)) (fun p hp => by have := psF_le hp; omega)
        simp (disch := omega) only [s205_0, s205_1, s205_4, s205_5, s205_6, s205_7, s205_10, s205_11, s205_14, s205_15, s205_18, s205_19, s205_20, s205_21, s205_24, s205_25, s205_26, s205_29, s205_32, s205_33, s205_34, s205_35, s205_36, s205_37, s205_40, s205_41, s205_42, s205_43, s205_46, s205_47, s205_50, s205_51, s205_52, s205_53, s205_54, s205_57, q_0, q_1, q_2, q_3, q_4, q_5, q_6, q_7, q_8, q_9, q_10, q_11, q_12, q_13, q_14, q_16, q_20, q_23, q_24, q_32, q_42, q_43, q_45, q_47, q_48, q_50, q_57, q_59, q_60, q_61, q_62, q_63, q_64, q_66, q_91, q_93, q_97, q_99, q_122, q_144, q_255, q_256, q_300, q_380, q_400, q_620, q_999, q_1000, q_4095, q_4096, q_9999, q_65536, q_99999, q_31, nI_add, pk_mul, nE, nL, nT, nM31, nShl, ib_nI, nI_clamp, bI_n0, bI_n1, bI_nar, uI_r, uI_l, uL_r, uL_i, uL_p, uA_r, uA_l, bV_some, bU_some, nar_n0, nar_n1, and_self, and_true, true_and, and_false, false_and, if_true, if_false, eq_self, Bool.false_eq_true, Bool.true_eq_false, not_true_eq_false, not_false_eq_true, ↓reduceIte, nlT, nlF, ntT, ntF, neT, neF, ieT, ieF, decide_true, decide_false, Bool.not_true, Bool.not_false, Bool.and_true, Bool.true_and, Bool.and_false, Bool.false_and, Bool.or_true, Bool.true_or, Bool.or_false, Bool.false_or, h.dn, h.ak, h.lv, c1, c1', c2', m_isTaken h hw, c3, a1, h1.ak, h1.co, e]
        exact ⟨_, rfl, a2⟩
    · have c2' : (A 2 (A 10 w) == 1) = false := by simp [c2]
      have c2'' : A 2 (A 10 w) = 0 := by omega
      simp (disch := omega) only [s205_0, s205_1, s205_4, s205_5, s205_6, s205_7, s205_10, s205_11, s205_14, s205_15, s205_18, s205_19, s205_20, s205_21, s205_24, s205_25, s205_26, s205_29, s205_32, s205_33, s205_34, s205_35, s205_36, s205_37, s205_40, s205_41, s205_42, s205_43, s205_46, s205_47, s205_50, s205_51, s205_52, s205_53, s205_54, s205_57, q_0, q_1, q_2, q_3, q_4, q_5, q_6, q_7, q_8, q_9, q_10, q_11, q_12, q_13, q_14, q_16, q_20, q_23, q_24, q_32, q_42, q_43, q_45, q_47, q_48, q_50, q_57, q_59, q_60, q_61, q_62, q_63, q_64, q_66, q_91, q_93, q_97, q_99, q_122, q_144, q_255, q_256, q_300, q_380, q_400, q_620, q_999, q_1000, q_4095, q_4096, q_9999, q_65536, q_99999, q_31, nI_add, pk_mul, nE, nL, nT, nM31, nShl, ib_nI, nI_clamp, bI_n0, bI_n1, bI_nar, uI_r, uI_l, uL_r, uL_i, uL_p, uA_r, uA_l, bV_some, bU_some, nar_n0, nar_n1, and_self, and_true, true_and, and_false, false_and, if_true, if_false, eq_self, Bool.false_eq_true, Bool.true_eq_false, not_true_eq_false, not_false_eq_true, ↓reduceIte, nlT, nlF, ntT, ntF, neT, neF, ieT, ieF, decide_true, decide_false, Bool.not_true, Bool.not_false, Bool.and_true, Bool.true_and, Bool.and_false, Bool.false_and, Bool.or_true, Bool.true_or, Bool.or_false, Bool.false_or, h.dn, h.ak, h.lv, c1, c1', c2']
      exact ⟨_, rfl, Fr.rfl'⟩
/-- what a person gets of a work's prices, and how many nods -/
def pdF (A : Tn) (L : Lw) (w p : Nat) : Nat → Nat
  | 0 => 0
  | n + 1 => pdF A L w p n + if (A 11 w).testBit n then (if A 7 n = p then (k1O A L w n).getD 0 else 0) + (if A 8 n = p then (k2O A L w n).getD 0 else 0) else 0
def nnF (A : Tn) (L : Lw) (w p : Nat) : Nat → Nat
  | 0 => 0
  | n + 1 => nnF A L w p n + if (A 11 w).testBit n then (if A 7 n = p then (if (k1O A L w n).isSome then 1 else 0) else 0) + (if A 8 n = p then (if (k2O A L w n).isSome then 1 else 0) else 0) else 0
theorem pdF_s (A : Tn) (L : Lw) (w p n : Nat) : pdF A L w p (n + 1) = pdF A L w p n + if (A 11 w).testBit n then (if A 7 n = p then (k1O A L w n).getD 0 else 0) + (if A 8 n = p then (k2O A L w n).getD 0 else 0) else 0 := rfl
theorem nnF_s (A : Tn) (L : Lw) (w p n : Nat) : nnF A L w p (n + 1) = nnF A L w p n + if (A 11 w).testBit n then (if A 7 n = p then (if (k1O A L w n).isSome then 1 else 0) else 0) + (if A 8 n = p then (if (k2O A L w n).isSome then 1 else 0) else 0) else 0 := rfl
theorem k1O_le {A : Tn} {L : Lw} {w t p : Nat} (h : k1O A L w t = some p) : p ≤ 9999 := by
  unfold k1O kp1 at h
  cases hx : ndO A L w t (A 7 t) with
  | none =>
    rw [hx] at h
    split at h <;> cases h
  | some a =>
    have ha := ndO_le hx
    rw [hx] at h
    split at h
    · have := Option.some.inj h; omega
    · cases hy : ndO A L w t (A 8 t) with
      | none =>
        rw [hy] at h
        have := Option.some.inj h; omega
      | some b =>
        rw [hy] at h
        simp only at h
        split at h
        · have := Option.some.inj h; omega
        · cases h
theorem k2O_le {A : Tn} {L : Lw} {w t p : Nat} (h : k2O A L w t = some p) : p ≤ 9999 := by
  unfold k2O kp2 at h
  cases hy : ndO A L w t (A 8 t) with
  | none =>
    rw [hy] at h
    split at h
    · cases h
    · cases hx : ndO A L w t (A 7 t) <;> rw [hx] at h <;> cases h
  | some b =>
    have hb := ndO_le hy
    rw [hy] at h
    split at h
    · have := Option.some.inj h; omega
    · cases hx : ndO A L w t (A 7 t) with
      | none =>
        rw [hx] at h
        have := Option.some.inj h; omega
      | some a =>
        rw [hx] at h
        simp only at h
        split at h
        · cases h
        · have := Option.some.inj h; omega
theorem x_keepNod {S : Sto} {o : Nat} (ho : o < 12) (x : Option Nat) (hx : ∀ p, x = some p → p ≤ 9999) : ∃ S', call 23 0 [vR 26 0, vI (nI o), vI (nV x)] S = some (none, S') ∧ Fr (pL [28, 29]) S S' ∧ ∀ p, S'.1 28 0 p = S.1 28 0 p + nI (if o = p then x.getD 0 else 0) ∧ S'.1 29 0 p = S.1 29 0 p + nI (if o = p then (if x.isSome then 1 else 0) else 0) := by
  have z : ∀ y : Int32, y + nI 0 = y := fun y => by show y + 0 = y; simp
  show ∃ S', run 23 0 0 [vR 26 0, vI (nI o), vI (nV x)] [] S = _ ∧ _
  cases x with
  | none =>
    simp (disch := omega) only [s23_0, s23_1, s23_4, s23_5, s23_8, s23_9, s23_10, s23_11, s23_12, s23_13, s23_14, s23_15, s23_18, s23_19, s23_20, s23_21, s23_22, s23_23, s23_24, q_0, q_1, q_2, q_3, q_4, q_5, q_6, q_7, q_8, q_9, q_10, q_11, q_12, q_13, q_14, q_16, q_20, q_23, q_24, q_32, q_42, q_43, q_45, q_47, q_48, q_50, q_57, q_59, q_60, q_61, q_62, q_63, q_64, q_66, q_91, q_93, q_97, q_99, q_122, q_144, q_255, q_256, q_300, q_380, q_400, q_620, q_999, q_1000, q_4095, q_4096, q_9999, q_65536, q_99999, q_31, nI_add, pk_mul, nE, nL, nT, nM31, nShl, ib_nI, nI_clamp, bI_n0, bI_n1, bI_nar, uI_r, uI_l, uL_r, uL_i, uL_p, uA_r, uA_l, bV_some, bU_some, nar_n0, nar_n1, and_self, and_true, true_and, and_false, false_and, if_true, if_false, eq_self, Bool.false_eq_true, Bool.true_eq_false, not_true_eq_false, not_false_eq_true, ↓reduceIte, nlT, nlF, ntT, ntF, neT, neF, ieT, ieF, decide_true, decide_false, Bool.not_true, Bool.not_false, Bool.and_true, Bool.true_and, Bool.and_false, Bool.false_and, Bool.or_true, Bool.true_or, Bool.or_false, Bool.false_or, nV, n2_lt]
    refine ⟨_, rfl, Fr.rfl', fun p => ?_⟩
    simp [z]
  | some a =>
    have ha := hx a rfl
    simp (disch := omega) only [s23_0, s23_1, s23_4, s23_5, s23_8, s23_9, s23_10, s23_11, s23_12, s23_13, s23_14, s23_15, s23_18, s23_19, s23_20, s23_21, s23_22, s23_23, s23_24, q_0, q_1, q_2, q_3, q_4, q_5, q_6, q_7, q_8, q_9, q_10, q_11, q_12, q_13, q_14, q_16, q_20, q_23, q_24, q_32, q_42, q_43, q_45, q_47, q_48, q_50, q_57, q_59, q_60, q_61, q_62, q_63, q_64, q_66, q_91, q_93, q_97, q_99, q_122, q_144, q_255, q_256, q_300, q_380, q_400, q_620, q_999, q_1000, q_4095, q_4096, q_9999, q_65536, q_99999, q_31, nI_add, pk_mul, nE, nL, nT, nM31, nShl, ib_nI, nI_clamp, bI_n0, bI_n1, bI_nar, uI_r, uI_l, uL_r, uL_i, uL_p, uA_r, uA_l, bV_some, bU_some, nar_n0, nar_n1, and_self, and_true, true_and, and_false, false_and, if_true, if_false, eq_self, Bool.false_eq_true, Bool.true_eq_false, not_true_eq_false, not_false_eq_true, ↓reduceIte, nlT, nlF, ntT, ntF, neT, neF, ieT, ieF, decide_true, decide_false, Bool.not_true, Bool.not_false, Bool.and_true, Bool.true_and, Bool.and_false, Bool.false_and, Bool.or_true, Bool.true_or, Bool.or_false, Bool.false_or, nV]
    refine ⟨_, rfl, (Fr.rfl'.uI rfl).uI rfl, fun p => ⟨?_, ?_⟩⟩
    · rw [uI_r, uI_r]
      rw [if_neg (by omega)]
      by_cases e : p = o
      · rw [if_pos ⟨rfl, rfl, e⟩, if_pos e.symm, e]
        rfl
      · rw [if_neg (by omega), if_neg (fun q => e q.symm), z]
    · rw [uI_r, uI_r]
      by_cases e : p = o
      · rw [if_pos ⟨rfl, rfl, e⟩, if_pos e.symm, e]
        simp
      · rw [if_neg (by omega), if_neg (by omega), if_neg (fun q => e q.symm), z]
theorem x_canBe {S : Sto} {q : Nat} {A : Tn} {r : Nat} {L : Lw} {w : Nat} (h : RepC S q A) (hw : WF A) (hL : RepLC S r L) (hl : WFL L) (hv : w < A 0 2) : ∃ S', call 22 0 [vR 26 0, vR 1 q, vR 17 r, vI (nI w)] S = some (some (vI (bI (caB A L w))), S') ∧ Fr (pL [23, 26, 27, 28, 29]) S S' ∧ (caB A L w = true → S'.1 26 0 3 = nI ((psF A L w (A 0 1)).getD 0) ∧ ∀ p, p < 12 → S'.1 28 0 p = nI (pdF A L w p (A 0 1)) ∧ S'.1 29 0 p = nI (nnF A L w p (A 0 1))) := by
  have hT := hw.th
  have hWk := hw.wk
  have hW := hw.W (w := w) (by omega)
  have hco := hw.co (p := A 10 w) (by omega)
  have e0 := x_isFree h hw hv
  show ∃ S', run 22 0 0 [vR 26 0, vR 1 q, vR 17 r, vI (nI w), vU, vU] [] S = _ ∧ _
  cases c0 : frB A w with
  | false =>
    have e1 : caB A L w = false := by unfold caB; rw [c0]; rfl
    rw [c0] at e0
    simp (disch := omega) only [s22_0, s22_1, s22_2, s22_5, s22_8, s22_9, s22_10, s22_11, s22_12, s22_15, s22_16, s22_19, s22_20, s22_23, s22_24, s22_27, s22_28, s22_31, s22_32, s22_36, s22_37, s22_40, s22_43, s22_44, s22_47, s22_48, s22_49, s22_51, s22_54, s22_57, s22_58, s22_59, s22_60, s22_61, s22_63, s22_66, s22_68, s22_70, s22_73, s22_74, s22_75, s22_76, s22_77, s22_80, s22_82, s22_83, s22_86, s22_87, s22_88, s22_91, s22_92, s22_94, s22_95, s22_96, s22_97, s22_100, s22_103, s22_104, s22_105, s22_108, s22_109, s22_111, s22_112, s22_113, s22_114, s22_115, s22_116, s22_119, s22_122, s22_125, s22_128, s22_129, s22_132, s22_133, s22_136, s22_137, s22_140, s22_141, s22_142, s22_143, s22_146, s22_147, s22_150, s22_151, q_0, q_1, q_2, q_3, q_4, q_5, q_6, q_7, q_8, q_9, q_10, q_11, q_12, q_13, q_14, q_16, q_20, q_23, q_24, q_32, q_42, q_43, q_45, q_47, q_48, q_50, q_57, q_59, q_60, q_61, q_62, q_63, q_64, q_66, q_91, q_93, q_97, q_99, q_122, q_144, q_255, q_256, q_300, q_380, q_400, q_620, q_999, q_1000, q_4095, q_4096, q_9999, q_65536, q_99999, q_31, nI_add, pk_mul, nE, nL, nT, nM31, nShl, ib_nI, nI_clamp, bI_n0, bI_n1, bI_nar, uI_r, uI_l, uL_r, uL_i, uL_p, uA_r, uA_l, bV_some, bU_some, nar_n0, nar_n1, and_self, and_true, true_and, and_false, false_and, if_true, if_false, eq_self, Bool.false_eq_true, Bool.true_eq_false, not_true_eq_false, not_false_eq_true, ↓reduceIte, nlT, nlF, ntT, ntF, neT, neF, ieT, ieF, decide_true, decide_false, Bool.not_true, Bool.not_false, Bool.and_true, Bool.true_and, Bool.and_false, Bool.false_and, Bool.or_true, Bool.true_or, Bool.or_false, Bool.false_or, e0, e1]
    exact ⟨_, rfl, Fr.rfl', fun q => by cases q⟩
  | true =>
    rw [c0] at e0
    have fa : Fr (pL [26]) S (uI S 26 0 3 (nI 0)) := Fr.rfl'.uI rfl
    obtain ⟨S1, a1, a2, a3⟩ := x_fillI (S := uI S 26 0 3 (nI 0)) (t := 28) (n := 12) (nI 0) rfl rfl (by decide)
    obtain ⟨S2, b1, b2, b3⟩ := x_fillI (S := S1) (t := 29) (n := 12) (nI 0) rfl rfl (by decide)
    have f0 : Fr (pL [23, 26, 27, 28, 29]) S S2 := ((fa.pl (by simp)).tr (a2.pl (by simp))).tr (b2.pl (by simp))
    simp (disch := omega) only [s22_0, s22_1, s22_2, s22_5, s22_8, s22_9, s22_10, s22_11, s22_12, s22_15, s22_16, s22_19, s22_20, s22_23, s22_24, s22_27, s22_28, s22_31, s22_32, s22_36, s22_37, s22_40, s22_43, s22_44, s22_47, s22_48, s22_49, s22_51, s22_54, s22_57, s22_58, s22_59, s22_60, s22_61, s22_63, s22_66, s22_68, s22_70, s22_73, s22_74, s22_75, s22_76, s22_77, s22_80, s22_82, s22_83, s22_86, s22_87, s22_88, s22_91, s22_92, s22_94, s22_95, s22_96, s22_97, s22_100, s22_103, s22_104, s22_105, s22_108, s22_109, s22_111, s22_112, s22_113, s22_114, s22_115, s22_116, s22_119, s22_122, s22_125, s22_128, s22_129, s22_132, s22_133, s22_136, s22_137, s22_140, s22_141, s22_142, s22_143, s22_146, s22_147, s22_150, s22_151, q_0, q_1, q_2, q_3, q_4, q_5, q_6, q_7, q_8, q_9, q_10, q_11, q_12, q_13, q_14, q_16, q_20, q_23, q_24, q_32, q_42, q_43, q_45, q_47, q_48, q_50, q_57, q_59, q_60, q_61, q_62, q_63, q_64, q_66, q_91, q_93, q_97, q_99, q_122, q_144, q_255, q_256, q_300, q_380, q_400, q_620, q_999, q_1000, q_4095, q_4096, q_9999, q_65536, q_99999, q_31, nI_add, pk_mul, nE, nL, nT, nM31, nShl, ib_nI, nI_clamp, bI_n0, bI_n1, bI_nar, uI_r, uI_l, uL_r, uL_i, uL_p, uA_r, uA_l, bV_some, bU_some, nar_n0, nar_n1, and_self, and_true, true_and, and_false, false_and, if_true, if_false, eq_self, Bool.false_eq_true, Bool.true_eq_false, not_true_eq_false, not_false_eq_true, ↓reduceIte, nlT, nlF, ntT, ntF, neT, neF, ieT, ieF, decide_true, decide_false, Bool.not_true, Bool.not_false, Bool.and_true, Bool.true_and, Bool.and_false, Bool.false_and, Bool.or_true, Bool.true_or, Bool.or_false, Bool.false_or, e0, a1, b1]
    have key := upS (σ := (Sto × av) × Nat) (I := fun i s => psF A L w i = some s.2 ∧ Fr (pL [23, 26, 27, 28, 29]) S s.1.1 ∧ s.1.1.1 26 0 3 = nI s.2 ∧ ∀ p, p < 12 → s.1.1.1 28 0 p = nI (pdF A L w p i) ∧ s.1.1.1 29 0 p = nI (nnF A L w p i)) (F := fun i s => run 22 0 34 [vR 26 0, vR 1 q, vR 17 r, vI (nI w), vI (nI i), s.1.2] [] s.1.1) (Q := fun x => ∃ S', x = some (some (vI (bI (caB A L w))), S') ∧ Fr (pL [23, 26, 27, 28, 29]) S S' ∧ (caB A L w = true → S'.1 26 0 3 = nI ((psF A L w (A 0 1)).getD 0) ∧ ∀ p, p < 12 → S'.1 28 0 p = nI (pdF A L w p (A 0 1)) ∧ S'.1 29 0 p = nI (nnF A L w p (A 0 1)))) (N := A 0 1) ?_ ?_ 0 ((S2, vU), 0) (by omega) ⟨rfl, f0, by rw [b2.i rfl, a2.i rfl, uI_r, if_pos ⟨rfl, rfl, rfl⟩], fun p hp => ⟨by rw [b2.i rfl]; exact a3 p hp, b3 p hp⟩⟩
    · exact key
    · intro i s hi hI
      obtain ⟨⟨S3, a5⟩, s⟩ := s
      obtain ⟨i1, i2, i3, i4⟩ := hI
      simp only at i1 i2 i3 i4
      have hs := psF_le i1
      have hO := hw.o (t := i) (by omega)
      have h3 := h.pl i2 (by decide)
      have hL3 := hL.pl i2 (by decide)
      show (∃ S', run 22 0 34 [vR 26 0, vR 1 q, vR 17 r, vI (nI w), vI (nI i), a5] [] S3 = _ ∧ _) ∨ ∃ s', _ ∧ run 22 0 34 [vR 26 0, vR 1 q, vR 17 r, vI (nI w), vI (nI i), a5] [] S3 = _
      rw [s22_34]
      cases c1 : (A 11 w).testBit i with
      | false =>
        refine Or.inr ⟨((S3, a5), s), ⟨?_, i2, i3, ?_⟩, ?_⟩
        · unfold psF; rw [i1]; simp [c1]
        · intro p hp
          rw [pdF_s, nnF_s]
          simp only [c1, Bool.false_eq_true, if_false, Nat.add_zero]
          exact i4 p hp
        · simp (disch := omega) only [s22_0, s22_1, s22_2, s22_5, s22_8, s22_9, s22_10, s22_11, s22_12, s22_15, s22_16, s22_19, s22_20, s22_23, s22_24, s22_27, s22_28, s22_31, s22_32, s22_36, s22_37, s22_40, s22_43, s22_44, s22_47, s22_48, s22_49, s22_51, s22_54, s22_57, s22_58, s22_59, s22_60, s22_61, s22_63, s22_66, s22_68, s22_70, s22_73, s22_74, s22_75, s22_76, s22_77, s22_80, s22_82, s22_83, s22_86, s22_87, s22_88, s22_91, s22_92, s22_94, s22_95, s22_96, s22_97, s22_100, s22_103, s22_104, s22_105, s22_108, s22_109, s22_111, s22_112, s22_113, s22_114, s22_115, s22_116, s22_119, s22_122, s22_125, s22_128, s22_129, s22_132, s22_133, s22_136, s22_137, s22_140, s22_141, s22_142, s22_143, s22_146, s22_147, s22_150, s22_151, q_0, q_1, q_2, q_3, q_4, q_5, q_6, q_7, q_8, q_9, q_10, q_11, q_12, q_13, q_14, q_16, q_20, q_23, q_24, q_32, q_42, q_43, q_45, q_47, q_48, q_50, q_57, q_59, q_60, q_61, q_62, q_63, q_64, q_66, q_91, q_93, q_97, q_99, q_122, q_144, q_255, q_256, q_300, q_380, q_400, q_620, q_999, q_1000, q_4095, q_4096, q_9999, q_65536, q_99999, q_31, nI_add, pk_mul, nE, nL, nT, nM31, nShl, ib_nI, nI_clamp, bI_n0, bI_n1, bI_nar, uI_r, uI_l, uL_r, uL_i, uL_p, uA_r, uA_l, bV_some, bU_some, nar_n0, nar_n1, and_self, and_true, true_and, and_false, false_and, if_true, if_false, eq_self, Bool.false_eq_true, Bool.true_eq_false, not_true_eq_false, not_false_eq_true, ↓reduceIte, nlT, nlF, ntT, ntF, neT, neF, ieT, ieF, decide_true, decide_false, Bool.not_true, Bool.not_false, Bool.and_true, Bool.true_and, Bool.and_false, Bool.false_and, Bool.or_true, Bool.true_or, Bool.or_false, Bool.false_or, h3.th, h3.ki, x_has, c1]
      | true =>
        obtain ⟨S4, d1, d2, d3, d4, d5⟩ := x_hadFor h3 hw hL3 hl hv hi
        have h4 := h3.pl d2 (by decide)
        cases c2 : haO A L w i with
        | none =>
          rw [c2] at d1
          have e : psF A L w (A 0 1) = none := by
            apply psF_no (m := i + 1) _ (by omega)
            unfold psF; rw [i1]; simp [c1, c2]
          have e1 : caB A L w = false := by unfold caB; rw [e]; simp [lpB]
          refine Or.inl ?_
          simp only [nV] at d1
          simp (disch := omega) only [s22_0, s22_1, s22_2, s22_5, s22_8, s22_9, s22_10, s22_11, s22_12, s22_15, s22_16, s22_19, s22_20, s22_23, s22_24, s22_27, s22_28, s22_31, s22_32, s22_36, s22_37, s22_40, s22_43, s22_44, s22_47, s22_48, s22_49, s22_51, s22_54, s22_57, s22_58, s22_59, s22_60, s22_61, s22_63, s22_66, s22_68, s22_70, s22_73, s22_74, s22_75, s22_76, s22_77, s22_80, s22_82, s22_83, s22_86, s22_87, s22_88, s22_91, s22_92, s22_94, s22_95, s22_96, s22_97, s22_100, s22_103, s22_104, s22_105, s22_108, s22_109, s22_111, s22_112, s22_113, s22_114, s22_115, s22_116, s22_119, s22_122, s22_125, s22_128, s22_129, s22_132, s22_133, s22_136, s22_137, s22_140, s22_141, s22_142, s22_143, s22_146, s22_147, s22_150, s22_151, q_0, q_1, q_2, q_3, q_4, q_5, q_6, q_7, q_8, q_9, q_10, q_11, q_12, q_13, q_14, q_16, q_20, q_23, q_24, q_32, q_42, q_43, q_45, q_47, q_48, q_50, q_57, q_59, q_60, q_61, q_62, q_63, q_64, q_66, q_91, q_93, q_97, q_99, q_122, q_144, q_255, q_256, q_300, q_380, q_400, q_620, q_999, q_1000, q_4095, q_4096, q_9999, q_65536, q_99999, q_31, nI_add, pk_mul, nE, nL, nT, nM31, nShl, ib_nI, nI_clamp, bI_n0, bI_n1, bI_nar, uI_r, uI_l, uL_r, uL_i, uL_p, uA_r, uA_l, bV_some, bU_some, nar_n0, nar_n1, and_self, and_true, true_and, and_false, false_and, if_true, if_false, eq_self, Bool.false_eq_true, Bool.true_eq_false, not_true_eq_false, not_false_eq_true, ↓reduceIte, nlT, nlF, ntT, ntF, neT, neF, ieT, ieF, decide_true, decide_false, Bool.not_true, Bool.not_false, Bool.and_true, Bool.true_and, Bool.and_false, Bool.false_and, Bool.or_true, Bool.true_or, Bool.or_false, Bool.false_or, h3.th, h3.ki, x_has, c1, d1, n2_lt, n2_ge, e1]
          exact ⟨_, rfl, i2.tr (d2.pl (by simp)), fun q => by cases q⟩
        | some p =>
          have hp := haO_le c2
          rw [c2] at d1
          simp only [nV] at d1
          have fb : Fr (pL [26]) S4 (uI S4 26 0 3 (nI (s + p))) := Fr.rfl'.uI rfl
          obtain ⟨S5, g1, g2, g3⟩ := x_keepNod (S := uI S4 26 0 3 (nI (s + p))) (o := A 7 i) hO.1 (k1O A L w i) (fun p hp => k1O_le hp)
          obtain ⟨S6, k1, k2, k3⟩ := x_keepNod (S := S5) (o := A 8 i) hO.2 (k2O A L w i) (fun p hp => k2O_le hp)
          have w1 := h4.own (i := 2 * i) (by omega)
          have w2 := (h4.pl fb (by decide)).pl g2 (by decide) |>.own (i := 2 * i + 1) (by omega)
          rw [ow_0] at w1
          rw [ow_1] at w2
          have v3 : S4.1 26 0 3 = nI s := by rw [d3, i3]
          have v5 : S5.1 26 0 5 = nV (k2O A L w i) := by rw [g2.i rfl, uI_r, if_neg (by decide), d5]
          refine Or.inr ⟨((S6, vI (nI p)), s + p), ⟨?_, ?_, ?_, ?_⟩, ?_⟩
          · unfold psF; rw [i1]; simp [c1, c2]
          · exact (((i2.tr (d2.pl (by simp))).tr (fb.pl (by simp))).tr (g2.pl (by simp))).tr (k2.pl (by simp))
          · show S6.1 26 0 3 = _
            rw [k2.i rfl, g2.i rfl, uI_r, if_pos ⟨rfl, rfl, rfl⟩]
          · intro p' hp'
            have u1 := i4 p' hp'
            show S6.1 28 0 p' = _ ∧ S6.1 29 0 p' = _
            rw [(k3 p').1, (k3 p').2, (g3 p').1, (g3 p').2, fb.i rfl, fb.i rfl, d2.i rfl, d2.i rfl, u1.1, u1.2]
            simp only [nI_add]
            rw [pdF_s, nnF_s]
            simp only [c1, if_true, Nat.add_assoc]
            exact ⟨trivial, trivial⟩
          · simp (disch := omega) only [s22_0, s22_1, s22_2, s22_5, s22_8, s22_9, s22_10, s22_11, s22_12, s22_15, s22_16, s22_19, s22_20, s22_23, s22_24, s22_27, s22_28, s22_31, s22_32, s22_36, s22_37, s22_40, s22_43, s22_44, s22_47, s22_48, s22_49, s22_51, s22_54, s22_57, s22_58, s22_59, s22_60, s22_61, s22_63, s22_66, s22_68, s22_70, s22_73, s22_74, s22_75, s22_76, s22_77, s22_80, s22_82, s22_83, s22_86, s22_87, s22_88, s22_91, s22_92, s22_94, s22_95, s22_96, s22_97, s22_100, s22_103, s22_104, s22_105, s22_108, s22_109, s22_111, s22_112, s22_113, s22_114, s22_115, s22_116, s22_119, s22_122, s22_125, s22_128, s22_129, s22_132, s22_133, s22_136, s22_137, s22_140, s22_141, s22_142, s22_143, s22_146, s22_147, s22_150, s22_151, q_0, q_1, q_2, q_3, q_4, q_5, q_6, q_7, q_8, q_9, q_10, q_11, q_12, q_13, q_14, q_16, q_20, q_23, q_24, q_32, q_42, q_43, q_45, q_47, q_48, q_50, q_57, q_59, q_60, q_61, q_62, q_63, q_64, q_66, q_91, q_93, q_97, q_99, q_122, q_144, q_255, q_256, q_300, q_380, q_400, q_620, q_999, q_1000, q_4095, q_4096, q_9999, q_65536, q_99999, q_31, nI_add, pk_mul, nE, nL, nT, nM31, nShl, ib_nI, nI_clamp, bI_n0, bI_n1, bI_nar, uI_r, uI_l, uL_r, uL_i, uL_p, uA_r, uA_l, bV_some, bU_some, nar_n0, nar_n1, and_self, and_true, true_and, and_false, false_and, if_true, if_false, eq_self, Bool.false_eq_true, Bool.true_eq_false, not_true_eq_false, not_false_eq_true, ↓reduceIte, nlT, nlF, ntT, ntF, neT, neF, ieT, ieF, decide_true, decide_false, Bool.not_true, Bool.not_false, Bool.and_true, Bool.true_and, Bool.and_false, Bool.false_and, Bool.or_true, Bool.true_or, Bool.or_false, Bool.false_or, h3.th, h3.ki, x_has, c1, d1, v3, d4, w1, w2, g1, v5, k1]
    · intro s hI
      obtain ⟨⟨S3, a5⟩, s⟩ := s
      obtain ⟨i1, i2, i3, i4⟩ := hI
      simp only at i1 i2 i3 i4
      have hs := psF_le i1
      have h3 := h.pl i2 (by decide)
      have ec : caB A L w = decide (s ≤ A 1 (A 10 w)) := by unfold caB; rw [c0, i1]; rfl
      show ∃ S', run 22 0 34 [vR 26 0, vR 1 q, vR 17 r, vI (nI w), vI (nI (A 0 1)), a5] [] S3 = _ ∧ _
      rw [s22_34, ec, i1]
      by_cases c3 : s ≤ A 1 (A 10 w)
      · simp (disch := omega) only [s22_0, s22_1, s22_2, s22_5, s22_8, s22_9, s22_10, s22_11, s22_12, s22_15, s22_16, s22_19, s22_20, s22_23, s22_24, s22_27, s22_28, s22_31, s22_32, s22_36, s22_37, s22_40, s22_43, s22_44, s22_47, s22_48, s22_49, s22_51, s22_54, s22_57, s22_58, s22_59, s22_60, s22_61, s22_63, s22_66, s22_68, s22_70, s22_73, s22_74, s22_75, s22_76, s22_77, s22_80, s22_82, s22_83, s22_86, s22_87, s22_88, s22_91, s22_92, s22_94, s22_95, s22_96, s22_97, s22_100, s22_103, s22_104, s22_105, s22_108, s22_109, s22_111, s22_112, s22_113, s22_114, s22_115, s22_116, s22_119, s22_122, s22_125, s22_128, s22_129, s22_132, s22_133, s22_136, s22_137, s22_140, s22_141, s22_142, s22_143, s22_146, s22_147, s22_150, s22_151, q_0, q_1, q_2, q_3, q_4, q_5, q_6, q_7, q_8, q_9, q_10, q_11, q_12, q_13, q_14, q_16, q_20, q_23, q_24, q_32, q_42, q_43, q_45, q_47, q_48, q_50, q_57, q_59, q_60, q_61, q_62, q_63, q_64, q_66, q_91, q_93, q_97, q_99, q_122, q_144, q_255, q_256, q_300, q_380, q_400, q_620, q_999, q_1000, q_4095, q_4096, q_9999, q_65536, q_99999, q_31, nI_add, pk_mul, nE, nL, nT, nM31, nShl, ib_nI, nI_clamp, bI_n0, bI_n1, bI_nar, uI_r, uI_l, uL_r, uL_i, uL_p, uA_r, uA_l, bV_some, bU_some, nar_n0, nar_n1, and_self, and_true, true_and, and_false, false_and, if_true, if_false, eq_self, Bool.false_eq_true, Bool.true_eq_false, not_true_eq_false, not_false_eq_true, ↓reduceIte, nlT, nlF, ntT, ntF, neT, neF, ieT, ieF, decide_true, decide_false, Bool.not_true, Bool.not_false, Bool.and_true, Bool.true_and, Bool.and_false, Bool.false_and, Bool.or_true, Bool.true_or, Bool.or_false, Bool.false_or, h3.th, h3.ak, h3.co, i3, c3]
        exact ⟨_, rfl, i2, fun _ => ⟨i3, i4⟩⟩
      · simp (disch := omega) only [s22_0, s22_1, s22_2, s22_5, s22_8, s22_9, s22_10, s22_11, s22_12, s22_15, s22_16, s22_19, s22_20, s22_23, s22_24, s22_27, s22_28, s22_31, s22_32, s22_36, s22_37, s22_40, s22_43, s22_44, s22_47, s22_48, s22_49, s22_51, s22_54, s22_57, s22_58, s22_59, s22_60, s22_61, s22_63, s22_66, s22_68, s22_70, s22_73, s22_74, s22_75, s22_76, s22_77, s22_80, s22_82, s22_83, s22_86, s22_87, s22_88, s22_91, s22_92, s22_94, s22_95, s22_96, s22_97, s22_100, s22_103, s22_104, s22_105, s22_108, s22_109, s22_111, s22_112, s22_113, s22_114, s22_115, s22_116, s22_119, s22_122, s22_125, s22_128, s22_129, s22_132, s22_133, s22_136, s22_137, s22_140, s22_141, s22_142, s22_143, s22_146, s22_147, s22_150, s22_151, q_0, q_1, q_2, q_3, q_4, q_5, q_6, q_7, q_8, q_9, q_10, q_11, q_12, q_13, q_14, q_16, q_20, q_23, q_24, q_32, q_42, q_43, q_45, q_47, q_48, q_50, q_57, q_59, q_60, q_61, q_62, q_63, q_64, q_66, q_91, q_93, q_97, q_99, q_122, q_144, q_255, q_256, q_300, q_380, q_400, q_620, q_999, q_1000, q_4095, q_4096, q_9999, q_65536, q_99999, q_31, nI_add, pk_mul, nE, nL, nT, nM31, nShl, ib_nI, nI_clamp, bI_n0, bI_n1, bI_nar, uI_r, uI_l, uL_r, uL_i, uL_p, uA_r, uA_l, bV_some, bU_some, nar_n0, nar_n1, and_self, and_true, true_and, and_false, false_and, if_true, if_false, eq_self, Bool.false_eq_true, Bool.true_eq_false, not_true_eq_false, not_false_eq_true, ↓reduceIte, nlT, nlF, ntT, ntF, neT, neF, ieT, ieF, decide_true, decide_false, Bool.not_true, Bool.not_false, Bool.and_true, Bool.true_and, Bool.and_false, Bool.false_and, Bool.or_true, Bool.true_or, Bool.or_false, Bool.false_or, h3.th, h3.ak, h3.co, i3, c3]
        exact ⟨_, rfl, i2, fun q => by simp at q⟩
