/-! who hangs together -/
def foS (A : Tn) (g : Nat) : Nat := orN (fun p => if g.testBit p = true then foeB A p else 0) (A 0 0)
def clI (A : Tn) (g : Nat) : Nat → Nat
  | 0 => g
  | n + 1 => clI A g n ||| foS A (clI A g n)
theorem clI_s (A : Tn) (g n : Nat) : clI A g (n + 1) = clI A g n ||| foS A (clI A g n) := rfl
theorem foS_lt (A : Tn) (g : Nat) : foS A g < 2 ^ 12 := by
  apply orN_lt
  intro k _
  show (if g.testBit k = true then foeB A k else 0) < 2 ^ 12
  split
  · exact bN_lt _ _
  · decide
theorem clI_lt {A : Tn} {g : Nat} (hg : g < 2 ^ 12) : ∀ n, clI A g n < 2 ^ 12
  | 0 => hg
  | n + 1 => Nat.or_lt_two_pow (clI_lt hg n) (foS_lt _ _)
theorem x_foesOf {S : Sto} {q : Nat} {A : Tn} (h : RepC S q A) (hw : WF A) {g : Nat} (hg : g < 2 ^ 31) : call 53 0 [vR 1 q, vI (nI g)] S = some (some (vI (nI (foS A g))), S) := by
  have hP := hw.pe
  show run 53 0 0 [vR 1 q, vI (nI g), vU, vU] [] S = _
  simp only [s53_0, s53_1, s53_2, s53_3]
  refine up_ (F := fun i => run 53 0 4 [vR 1 q, vI (nI g), vI (nI (orN (fun p => if g.testBit p = true then foeB A p else 0) i)), vI (nI i)] [] S) (N := A 0 0) ?_ ?_ 0 (by omega)
  · intro i hi
    show run 53 0 4 _ _ _ = run 53 0 4 _ _ _
    rw [s53_4, orN_s]
    cases c1 : g.testBit i with
    | false => simp (disch := omega) only [s53_0, s53_1, s53_2, s53_3, s53_5, s53_6, s53_9, s53_12, s53_13, s53_14, s53_17, s53_20, s53_21, s53_22, s53_25, s53_26, s53_27, s53_28, s53_29, s53_32, s53_35, s53_36, q_0, q_1, q_2, q_3, q_4, q_5, q_6, q_7, q_8, q_9, q_10, q_11, q_12, q_13, q_14, q_16, q_20, q_23, q_24, q_32, q_42, q_43, q_45, q_47, q_48, q_50, q_57, q_59, q_60, q_61, q_62, q_63, q_64, q_66, q_91, q_93, q_97, q_99, q_122, q_144, q_255, q_256, q_300, q_380, q_400, q_620, q_999, q_1000, q_4095, q_4096, q_9999, q_65536, q_99999, q_31, nI_add, pk_mul, nE, nL, nT, nM31, nShl, ib_nI, nI_clamp, bI_n0, bI_n1, bI_nar, uI_r, uI_l, uL_r, uL_i, uL_p, uA_r, uA_l, bV_some, bU_some, nar_n0, nar_n1, and_self, and_true, true_and, and_false, false_and, if_true, if_false, eq_self, Bool.false_eq_true, Bool.true_eq_false, not_true_eq_false, not_false_eq_true, ↓reduceIte, nlT, nlF, ntT, ntF, neT, neF, ieT, ieF, decide_true, decide_false, Bool.not_true, Bool.not_false, Bool.and_true, Bool.true_and, Bool.and_false, Bool.false_and, Bool.or_true, Bool.true_or, Bool.or_false, Bool.false_or, h.pe, x_has, c1, Nat.or_zero]
    | true => simp (disch := omega) only [s53_0, s53_1, s53_2, s53_3, s53_5, s53_6, s53_9, s53_12, s53_13, s53_14, s53_17, s53_20, s53_21, s53_22, s53_25, s53_26, s53_27, s53_28, s53_29, s53_32, s53_35, s53_36, q_0, q_1, q_2, q_3, q_4, q_5, q_6, q_7, q_8, q_9, q_10, q_11, q_12, q_13, q_14, q_16, q_20, q_23, q_24, q_32, q_42, q_43, q_45, q_47, q_48, q_50, q_57, q_59, q_60, q_61, q_62, q_63, q_64, q_66, q_91, q_93, q_97, q_99, q_122, q_144, q_255, q_256, q_300, q_380, q_400, q_620, q_999, q_1000, q_4095, q_4096, q_9999, q_65536, q_99999, q_31, nI_add, pk_mul, nE, nL, nT, nM31, nShl, ib_nI, nI_clamp, bI_n0, bI_n1, bI_nar, uI_r, uI_l, uL_r, uL_i, uL_p, uA_r, uA_l, bV_some, bU_some, nar_n0, nar_n1, and_self, and_true, true_and, and_false, false_and, if_true, if_false, eq_self, Bool.false_eq_true, Bool.true_eq_false, not_true_eq_false, not_false_eq_true, ↓reduceIte, nlT, nlF, ntT, ntF, neT, neF, ieT, ieF, decide_true, decide_false, Bool.not_true, Bool.not_false, Bool.and_true, Bool.true_and, Bool.and_false, Bool.false_and, Bool.or_true, Bool.true_or, Bool.or_false, Bool.false_or, h.pe, x_has, c1, h.fo, nx_or]
  · show run 53 0 4 _ _ _ = _
    rw [s53_4]
    simp (disch := omega) only [s53_0, s53_1, s53_2, s53_3, s53_5, s53_6, s53_9, s53_12, s53_13, s53_14, s53_17, s53_20, s53_21, s53_22, s53_25, s53_26, s53_27, s53_28, s53_29, s53_32, s53_35, s53_36, q_0, q_1, q_2, q_3, q_4, q_5, q_6, q_7, q_8, q_9, q_10, q_11, q_12, q_13, q_14, q_16, q_20, q_23, q_24, q_32, q_42, q_43, q_45, q_47, q_48, q_50, q_57, q_59, q_60, q_61, q_62, q_63, q_64, q_66, q_91, q_93, q_97, q_99, q_122, q_144, q_255, q_256, q_300, q_380, q_400, q_620, q_999, q_1000, q_4095, q_4096, q_9999, q_65536, q_99999, q_31, nI_add, pk_mul, nE, nL, nT, nM31, nShl, ib_nI, nI_clamp, bI_n0, bI_n1, bI_nar, uI_r, uI_l, uL_r, uL_i, uL_p, uA_r, uA_l, bV_some, bU_some, nar_n0, nar_n1, and_self, and_true, true_and, and_false, false_and, if_true, if_false, eq_self, Bool.false_eq_true, Bool.true_eq_false, not_true_eq_false, not_false_eq_true, ↓reduceIte, nlT, nlF, ntT, ntF, neT, neF, ieT, ieF, decide_true, decide_false, Bool.not_true, Bool.not_false, Bool.and_true, Bool.true_and, Bool.and_false, Bool.false_and, Bool.or_true, Bool.true_or, Bool.or_false, Bool.false_or, h.pe]
    rfl
def mxN (f : Nat → Nat) : Nat → Nat
  | 0 => 0
  | n + 1 => if mxN f n < f n then f n else mxN f n
theorem mxN_s (f : Nat → Nat) (n : Nat) : mxN f (n + 1) = if mxN f n < f n then f n else mxN f n := rfl
theorem mxN_le {f : Nat → Nat} {b : Nat} (h : ∀ i, f i ≤ b) : ∀ n, mxN f n ≤ b
  | 0 => Nat.zero_le _
  | n + 1 => by
    rw [mxN_s]
    split
    · exact h n
    · exact mxN_le h n
def gpN (A : Tn) (p : Nat) : Nat := pop (clI A (2 ^ p) (A 0 0))
theorem x_group {S : Sto} {q : Nat} {A : Tn} (h : RepC S q A) (hw : WF A) : call 52 0 [vR 36 0, vR 1 q] S = some (some (vI (nI (mxN (gpN A) (A 0 0)))), S) := by
  have hP := hw.pe
  have hg : ∀ n, mxN (gpN A) n ≤ 32 := mxN_le (fun i => pop_le _)
  show run 52 0 0 [vR 36 0, vR 1 q, vU, vU, vU, vU] [] S = _
  simp only [s52_0, s52_1, s52_2, s52_3]
  refine upS (σ := av × av) (I := fun _ _ => True) (F := fun p s => run 52 0 4 [vR 36 0, vR 1 q, vI (nI (mxN (gpN A) p)), vI (nI p), s.1, s.2] [] S) (Q := fun z => z = some (some (vI (nI (mxN (gpN A) (A 0 0)))), S)) (N := A 0 0) ?_ ?_ 0 (vU, vU) (by omega) trivial
  · intro p s hp _
    refine Or.inr ⟨(vI (nI (clI A (2 ^ p) (A 0 0))), vI (nI (A 0 0))), trivial, ?_⟩
    have h2 : 2 ^ p < 2 ^ 12 := Nat.pow_lt_pow_right (by decide) (by omega)
    have inner : run 52 0 20 [vR 36 0, vR 1 q, vI (nI (mxN (gpN A) p)), vI (nI p), vI (nI (clI A (2 ^ p) 0)), vI (nI 0)] [] S = run 52 0 4 [vR 36 0, vR 1 q, vI (nI (mxN (gpN A) (p + 1))), vI (nI (p + 1)), vI (nI (clI A (2 ^ p) (A 0 0))), vI (nI (A 0 0))] [] S := by
      refine up_ (F := fun i => run 52 0 20 [vR 36 0, vR 1 q, vI (nI (mxN (gpN A) p)), vI (nI p), vI (nI (clI A (2 ^ p) i)), vI (nI i)] [] S) (N := A 0 0) ?_ ?_ 0 (by omega)
      · intro i hi
        have hl := clI_lt (A := A) h2 i
        have e1 := x_foesOf h hw (g := clI A (2 ^ p) i) (by omega)
        show run 52 0 20 _ _ _ = run 52 0 20 _ _ _
        rw [s52_20]
        simp (disch := omega) only [s52_0, s52_1, s52_2, s52_3, s52_5, s52_6, s52_9, s52_12, s52_13, s52_14, s52_15, s52_17, s52_18, s52_22, s52_23, s52_26, s52_29, s52_31, s52_32, s52_34, s52_37, s52_38, s52_40, s52_43, s52_46, s52_47, s52_49, s52_52, s52_55, s52_56, s52_59, s52_62, s52_63, q_0, q_1, q_2, q_3, q_4, q_5, q_6, q_7, q_8, q_9, q_10, q_11, q_12, q_13, q_14, q_16, q_20, q_23, q_24, q_32, q_42, q_43, q_45, q_47, q_48, q_50, q_57, q_59, q_60, q_61, q_62, q_63, q_64, q_66, q_91, q_93, q_97, q_99, q_122, q_144, q_255, q_256, q_300, q_380, q_400, q_620, q_999, q_1000, q_4095, q_4096, q_9999, q_65536, q_99999, q_31, nI_add, pk_mul, nE, nL, nT, nM31, nShl, ib_nI, nI_clamp, bI_n0, bI_n1, bI_nar, uI_r, uI_l, uL_r, uL_i, uL_p, uA_r, uA_l, bV_some, bU_some, nar_n0, nar_n1, and_self, and_true, true_and, and_false, false_and, if_true, if_false, eq_self, Bool.false_eq_true, Bool.true_eq_false, not_true_eq_false, not_false_eq_true, ↓reduceIte, nlT, nlF, ntT, ntF, neT, neF, ieT, ieF, decide_true, decide_false, Bool.not_true, Bool.not_false, Bool.and_true, Bool.true_and, Bool.and_false, Bool.false_and, Bool.or_true, Bool.true_or, Bool.or_false, Bool.false_or, h.pe, e1, nx_or, clI_s]
      · have hl := clI_lt (A := A) h2 (A 0 0)
        have hm := hg p
        have e2 := pop_le (clI A (2 ^ p) (A 0 0))
        show run 52 0 20 _ _ _ = _
        rw [s52_20, mxN_s]
        unfold gpN
        by_cases c : mxN (fun p => pop (clI A (2 ^ p) (A 0 0))) p < pop (clI A (2 ^ p) (A 0 0))
        · have hm' : mxN (fun p => pop (clI A (2 ^ p) (A 0 0))) p ≤ 32 := hm
          simp (disch := omega) only [s52_0, s52_1, s52_2, s52_3, s52_5, s52_6, s52_9, s52_12, s52_13, s52_14, s52_15, s52_17, s52_18, s52_22, s52_23, s52_26, s52_29, s52_31, s52_32, s52_34, s52_37, s52_38, s52_40, s52_43, s52_46, s52_47, s52_49, s52_52, s52_55, s52_56, s52_59, s52_62, s52_63, q_0, q_1, q_2, q_3, q_4, q_5, q_6, q_7, q_8, q_9, q_10, q_11, q_12, q_13, q_14, q_16, q_20, q_23, q_24, q_32, q_42, q_43, q_45, q_47, q_48, q_50, q_57, q_59, q_60, q_61, q_62, q_63, q_64, q_66, q_91, q_93, q_97, q_99, q_122, q_144, q_255, q_256, q_300, q_380, q_400, q_620, q_999, q_1000, q_4095, q_4096, q_9999, q_65536, q_99999, q_31, nI_add, pk_mul, nE, nL, nT, nM31, nShl, ib_nI, nI_clamp, bI_n0, bI_n1, bI_nar, uI_r, uI_l, uL_r, uL_i, uL_p, uA_r, uA_l, bV_some, bU_some, nar_n0, nar_n1, and_self, and_true, true_and, and_false, false_and, if_true, if_false, eq_self, Bool.false_eq_true, Bool.true_eq_false, not_true_eq_false, not_false_eq_true, ↓reduceIte, nlT, nlF, ntT, ntF, neT, neF, ieT, ieF, decide_true, decide_false, Bool.not_true, Bool.not_false, Bool.and_true, Bool.true_and, Bool.and_false, Bool.false_and, Bool.or_true, Bool.true_or, Bool.or_false, Bool.false_or, h.pe, x_bitCount, c]
        · have hm' : mxN (fun p => pop (clI A (2 ^ p) (A 0 0))) p ≤ 32 := hm
          simp (disch := omega) only [s52_0, s52_1, s52_2, s52_3, s52_5, s52_6, s52_9, s52_12, s52_13, s52_14, s52_15, s52_17, s52_18, s52_22, s52_23, s52_26, s52_29, s52_31, s52_32, s52_34, s52_37, s52_38, s52_40, s52_43, s52_46, s52_47, s52_49, s52_52, s52_55, s52_56, s52_59, s52_62, s52_63, q_0, q_1, q_2, q_3, q_4, q_5, q_6, q_7, q_8, q_9, q_10, q_11, q_12, q_13, q_14, q_16, q_20, q_23, q_24, q_32, q_42, q_43, q_45, q_47, q_48, q_50, q_57, q_59, q_60, q_61, q_62, q_63, q_64, q_66, q_91, q_93, q_97, q_99, q_122, q_144, q_255, q_256, q_300, q_380, q_400, q_620, q_999, q_1000, q_4095, q_4096, q_9999, q_65536, q_99999, q_31, nI_add, pk_mul, nE, nL, nT, nM31, nShl, ib_nI, nI_clamp, bI_n0, bI_n1, bI_nar, uI_r, uI_l, uL_r, uL_i, uL_p, uA_r, uA_l, bV_some, bU_some, nar_n0, nar_n1, and_self, and_true, true_and, and_false, false_and, if_true, if_false, eq_self, Bool.false_eq_true, Bool.true_eq_false, not_true_eq_false, not_false_eq_true, ↓reduceIte, nlT, nlF, ntT, ntF, neT, neF, ieT, ieF, decide_true, decide_false, Bool.not_true, Bool.not_false, Bool.and_true, Bool.true_and, Bool.and_false, Bool.false_and, Bool.or_true, Bool.true_or, Bool.or_false, Bool.false_or, h.pe, x_bitCount, c]
    show run 52 0 4 _ _ _ = run 52 0 4 _ _ _
    rw [s52_4]
    simp (disch := omega) only [s52_0, s52_1, s52_2, s52_3, s52_5, s52_6, s52_9, s52_12, s52_13, s52_14, s52_15, s52_17, s52_18, s52_22, s52_23, s52_26, s52_29, s52_31, s52_32, s52_34, s52_37, s52_38, s52_40, s52_43, s52_46, s52_47, s52_49, s52_52, s52_55, s52_56, s52_59, s52_62, s52_63, q_0, q_1, q_2, q_3, q_4, q_5, q_6, q_7, q_8, q_9, q_10, q_11, q_12, q_13, q_14, q_16, q_20, q_23, q_24, q_32, q_42, q_43, q_45, q_47, q_48, q_50, q_57, q_59, q_60, q_61, q_62, q_63, q_64, q_66, q_91, q_93, q_97, q_99, q_122, q_144, q_255, q_256, q_300, q_380, q_400, q_620, q_999, q_1000, q_4095, q_4096, q_9999, q_65536, q_99999, q_31, nI_add, pk_mul, nE, nL, nT, nM31, nShl, ib_nI, nI_clamp, bI_n0, bI_n1, bI_nar, uI_r, uI_l, uL_r, uL_i, uL_p, uA_r, uA_l, bV_some, bU_some, nar_n0, nar_n1, and_self, and_true, true_and, and_false, false_and, if_true, if_false, eq_self, Bool.false_eq_true, Bool.true_eq_false, not_true_eq_false, not_false_eq_true, ↓reduceIte, nlT, nlF, ntT, ntF, neT, neF, ieT, ieF, decide_true, decide_false, Bool.not_true, Bool.not_false, Bool.and_true, Bool.true_and, Bool.and_false, Bool.false_and, Bool.or_true, Bool.true_or, Bool.or_false, Bool.false_or, h.pe]
    exact inner
  · intro s _
    show run 52 0 4 _ _ _ = _
    rw [s52_4]
    simp (disch := omega) only [s52_0, s52_1, s52_2, s52_3, s52_5, s52_6, s52_9, s52_12, s52_13, s52_14, s52_15, s52_17, s52_18, s52_22, s52_23, s52_26, s52_29, s52_31, s52_32, s52_34, s52_37, s52_38, s52_40, s52_43, s52_46, s52_47, s52_49, s52_52, s52_55, s52_56, s52_59, s52_62, s52_63, q_0, q_1, q_2, q_3, q_4, q_5, q_6, q_7, q_8, q_9, q_10, q_11, q_12, q_13, q_14, q_16, q_20, q_23, q_24, q_32, q_42, q_43, q_45, q_47, q_48, q_50, q_57, q_59, q_60, q_61, q_62, q_63, q_64, q_66, q_91, q_93, q_97, q_99, q_122, q_144, q_255, q_256, q_300, q_380, q_400, q_620, q_999, q_1000, q_4095, q_4096, q_9999, q_65536, q_99999, q_31, nI_add, pk_mul, nE, nL, nT, nM31, nShl, ib_nI, nI_clamp, bI_n0, bI_n1, bI_nar, uI_r, uI_l, uL_r, uL_i, uL_p, uA_r, uA_l, bV_some, bU_some, nar_n0, nar_n1, and_self, and_true, true_and, and_false, false_and, if_true, if_false, eq_self, Bool.false_eq_true, Bool.true_eq_false, not_true_eq_false, not_false_eq_true, ↓reduceIte, nlT, nlF, ntT, ntF, neT, neF, ieT, ieF, decide_true, decide_false, Bool.not_true, Bool.not_false, Bool.and_true, Bool.true_and, Bool.and_false, Bool.false_and, Bool.or_true, Bool.true_or, Bool.or_false, Bool.false_or, h.pe]
theorem ct_mn {P Q : Nat → Bool} : ∀ {n : Nat}, (∀ i, i < n → P i = true → Q i = true) → ct P n ≤ ct Q n
  | 0, _ => Nat.le_refl _
  | n + 1, h => by
    have ih := ct_mn (n := n) (fun i hi => h i (by omega))
    rw [ct_ss, ct_ss]
    by_cases e : P n = true
    · rw [if_pos e, if_pos (h n (by omega) e)]; omega
    · rw [if_neg e]; omega
theorem ct_lt {P Q : Nat → Bool} : ∀ {n : Nat}, (∀ i, i < n → P i = true → Q i = true) → (∃ i, i < n ∧ P i = false ∧ Q i = true) → ct P n + 1 ≤ ct Q n
  | 0, _, ⟨i, hi, _⟩ => by omega
  | n + 1, h, ⟨i, hi, h1, h2⟩ => by
    rw [ct_ss, ct_ss]
    by_cases e : i = n
    · subst e
      have ih := ct_mn (n := i) (fun k hk => h k (by omega))
      rw [h1, h2]
      simp only [Bool.false_eq_true, if_false, if_true]
      omega
    · have ih := ct_lt (n := n) (fun k hk => h k (by omega)) ⟨i, by omega, h1, h2⟩
      by_cases e : P n = true
      · rw [if_pos e, if_pos (h n (by omega) e)]; omega
      · rw [if_neg e]; omega
theorem foS_bit {A : Tn} (hw : WF A) (g k : Nat) : (foS A g).testBit k = true ↔ ∃ p, p < A 0 0 ∧ k < 12 ∧ g.testBit p = true ∧ A 5 (12 * p + k) = 1 := by
  unfold foS
  rw [orN_bit]
  simp only [decide_eq_true_eq]
  constructor
  · rintro ⟨p, hp, e⟩
    cases c : g.testBit p with
    | false => rw [c] at e; simp at e
    | true =>
      rw [c, if_pos rfl] at e
      unfold foeB at e
      rw [bN_bit] at e
      simp only [Bool.and_eq_true, decide_eq_true_eq, beq_iff_eq] at e
      exact ⟨p, hp, e.1, c, e.2⟩
  · rintro ⟨p, hp, hk, c, e⟩
    refine ⟨p, hp, ?_⟩
    rw [c, if_pos rfl, foeB_bit A hk]
    simp [e]
theorem clI_pe {A : Tn} (hw : WF A) {o : Nat} (ho : o < A 0 0) : ∀ n k, (clI A (2 ^ o) n).testBit k = true → k < A 0 0
  | 0, k, e => by
    have e' : (2 ^ o).testBit k = true := e
    rw [Nat.testBit_two_pow] at e'
    simp only [decide_eq_true_eq] at e'
    omega
  | n + 1, k, e => by
    have hP := hw.pe
    rw [clI_s, Nat.testBit_or, Bool.or_eq_true] at e
    rcases e with e | e
    · exact clI_pe hw ho n k e
    · obtain ⟨p, hp, hk, _, e2⟩ := (foS_bit hw _ _).mp e
      exact (hw.qp (by omega) hk e2).2
theorem clI_st {A : Tn} (hw : WF A) {o : Nat} (ho : o < A 0 0) : ∀ n, clI A (2 ^ o) (n + 1) = clI A (2 ^ o) n ∨ n + 1 ≤ ct (fun k => (clI A (2 ^ o) n).testBit k) (A 0 0)
  | 0 => by
    right
    have : 0 < ct (fun k => (clI A (2 ^ o) 0).testBit k) (A 0 0) := ct_pos.mpr ⟨o, ho, by show (2 ^ o).testBit o = true; rw [Nat.testBit_two_pow]; simp⟩
    omega
  | n + 1 => by
    rcases clI_st hw ho n with e | e
    · left
      rw [clI_s A _ (n + 1), e, ← clI_s]
      exact e
    · by_cases c : clI A (2 ^ o) (n + 1) = clI A (2 ^ o) n
      · left
        rw [clI_s A _ (n + 1), c, ← clI_s]
        exact c
      · right
        have hsub : ∀ k, (clI A (2 ^ o) n).testBit k = true → (clI A (2 ^ o) (n + 1)).testBit k = true := by
          intro k hk
          rw [clI_s, Nat.testBit_or, hk, Bool.true_or]
        have hex : ∃ k, (clI A (2 ^ o) n).testBit k = false ∧ (clI A (2 ^ o) (n + 1)).testBit k = true := by
          apply Classical.byContradiction
          intro hn
          apply c
          apply Nat.eq_of_testBit_eq
          intro k
          cases e1 : (clI A (2 ^ o) n).testBit k with
          | true => exact hsub k e1
          | false =>
            cases e2 : (clI A (2 ^ o) (n + 1)).testBit k with
            | false => rfl
            | true => exact absurd ⟨k, e1, e2⟩ hn
        obtain ⟨k, k1, k2⟩ := hex
        have := ct_lt (P := fun k => (clI A (2 ^ o) n).testBit k) (Q := fun k => (clI A (2 ^ o) (n + 1)).testBit k) (n := A 0 0) (fun i _ h => hsub i h) ⟨k, clI_pe hw ho _ _ k2, k1, k2⟩
        omega
theorem clI_cl {A : Tn} (hw : WF A) {o : Nat} (ho : o < A 0 0) : clI A (2 ^ o) (A 0 0 + 1) = clI A (2 ^ o) (A 0 0) := by
  rcases clI_st hw ho (A 0 0) with e | e
  · exact e
  · have := ct_le (fun k => (clI A (2 ^ o) (A 0 0)).testBit k) (A 0 0)
    omega
def GrI (A : Tn) (o : Nat) (l : List Nat) : Prop := LW l ∧ l.contains o = true ∧ ∀ C : Nat → Prop, C o → (∀ a k, a < 12 → k < 12 → C a → A 5 (12 * a + k) = 1 → C k) → ∀ p, p ∈ l → C p
theorem gr_len {A : Tn} (hw : WF A) {o : Nat} {l : List Nat} (ho : o < A 0 0) (h : GrI A o l) (hc : ∀ j k, j < l.length → k < 12 → A 5 (12 * l.getD j 0 + k) = 1 → l.contains k = true) : l.length = gpN A o := by
  have hP := hw.pe
  obtain ⟨h1, h2, h3⟩ := h
  have hin : ∀ a, a ∈ l → ∀ k, k < 12 → A 5 (12 * a + k) = 1 → k ∈ l := by
    intro a ha k hk e
    obtain ⟨j, hj, ej⟩ := List.getElem_of_mem ha
    have := hc j k hj hk (by simp [List.getD_eq_getElem?_getD, List.getElem?_eq_getElem hj, ej, e])
    simpa using this
  have hlo : ∀ n k, (clI A (2 ^ o) n).testBit k = true → k ∈ l := by
    intro n
    induction n with
    | zero =>
      intro k e
      have e' : (2 ^ o).testBit k = true := e
      rw [Nat.testBit_two_pow] at e'
      simp only [decide_eq_true_eq] at e'
      rw [← e']
      simpa using h2
    | succ n ih =>
      intro k e
      rw [clI_s, Nat.testBit_or, Bool.or_eq_true] at e
      rcases e with e | e
      · exact ih k e
      · obtain ⟨p, hp, hk, e1, e2⟩ := (foS_bit hw _ _).mp e
        exact hin p (ih p e1) k hk e2
  have hup : ∀ p, p ∈ l → (clI A (2 ^ o) (A 0 0)).testBit p = true := by
    apply h3 (fun p => (clI A (2 ^ o) (A 0 0)).testBit p = true)
    · have : ∀ n, (clI A (2 ^ o) n).testBit o = true := by
        intro n
        induction n with
        | zero => show (2 ^ o).testBit o = true; rw [Nat.testBit_two_pow]; simp
        | succ n ih => rw [clI_s, Nat.testBit_or, ih, Bool.true_or]
      exact this _
    · intro a k ha hk c e
      have := (foS_bit hw (clI A (2 ^ o) (A 0 0)) k).mpr ⟨a, (hw.qp ha hk e).1, hk, c, e⟩
      rw [← clI_cl hw ho, clI_s, Nat.testBit_or, this, Bool.or_true]
  rw [← h1.2]
  unfold gpN
  rw [pop_lt (clI_lt (Nat.pow_lt_pow_right (by decide) (by omega)) _) (by decide)]
  apply ct_congr
  intro i _
  rw [Bool.eq_iff_iff]
  constructor
  · intro e
    exact hup i (by simpa using e)
  · intro e
    have := hlo _ i e
    simpa using this
def GrS (S : Sto) (l : List Nat) : Prop := (∀ j, j < l.length → S.1 96 0 j = nI (l.getD j 0)) ∧ ∀ k, k < 12 → S.1 95 0 k = bI (l.contains k)
def GrD (A : Tn) (l : List Nat) (i n : Nat) : Prop := ∀ j k, j < i → k < n → A 5 (12 * l.getD j 0 + k) = 1 → l.contains k = true
def GrE (A : Tn) (l : List Nat) (i n : Nat) : Prop := ∀ k, k < n → A 5 (12 * l.getD i 0 + k) = 1 → l.contains k = true
theorem GrD.push {A : Tn} {l : List Nat} {i n x : Nat} (h : GrD A l i n) (hi : i ≤ l.length) : GrD A (l ++ [x]) i n := by
  intro j k hj hk e
  rw [getD_app (by omega), if_neg (by omega)] at e
  rw [cont_app, h j k hj hk e, Bool.true_or]
theorem GrE.push {A : Tn} {l : List Nat} {i n x : Nat} (h : GrE A l i n) (hi : i < l.length) : GrE A (l ++ [x]) i n := by
  intro k hk e
  rw [getD_app (by omega), if_neg (by omega)] at e
  rw [cont_app, h k hk e, Bool.true_or]
theorem GrI.push {A : Tn} {o : Nat} {l : List Nat} {i x : Nat} (h : GrI A o l) (hi : i < l.length) (hx : x < 12) (hn : l.contains x = false) (e : A 5 (12 * l.getD i 0 + x) = 1) : GrI A o (l ++ [x]) := by
  obtain ⟨h1, h2, h3⟩ := h
  refine ⟨h1.push hx hn, ?_, fun C c1 c2 p hp => ?_⟩
  · rw [cont_app, h2, Bool.true_or]
  · simp only [List.mem_append, List.mem_singleton] at hp
    rcases hp with hp | rfl
    · exact h3 C c1 c2 p hp
    · have hm : l.getD i 0 ∈ l := by
        rw [List.getD_eq_getElem?_getD, List.getElem?_eq_getElem hi]
        exact List.getElem_mem hi
      exact c2 _ _ (h1.1 _ hm) hx (h3 C c1 c2 _ hm) e
theorem GrS.push {S : Sto} {l : List Nat} {x : Nat} (h : GrS S l) : GrS (uI (uI S 95 0 x (nI 1)) 96 0 l.length (nI x)) (l ++ [x]) := by
  refine ⟨fun j hj => ?_, fun k hk => ?_⟩
  · simp at hj
    rw [getD_app (by omega), uI_r]
    by_cases e : j = l.length
    · rw [if_pos ⟨rfl, rfl, e⟩, if_pos e]
    · rw [if_neg (by omega), if_neg e, uI_r, if_neg (by omega)]
      exact h.1 j (by omega)
  · rw [cont_app, uI_r, if_neg (by omega), uI_r]
    by_cases e : k = x
    · rw [if_pos ⟨rfl, rfl, e⟩]
      simp [e]
      rfl
    · have e' : (k == x) = false := by simp [e]
      rw [if_neg (by omega), h.2 k hk, e', Bool.or_false]
theorem m_grIn {S : Sto} {A : Tn} (h : RepM S A) (hw : WF A) {S1 : Sto} {l : List Nat} {i o : Nat} (hf : Fr (pL [95, 96]) S S1) (hg : GrI A o l) (hs : GrS S1 l) (hi : i < l.length) (hd : GrD A l i 12) : ∃ S2 l2 x, run 264 0 47 [vR 50 0, vI (nI o), vI (nI l.length), vI (nI i), vI (nI 0)] [] S1 = run 264 0 39 [vR 50 0, vI (nI o), vI (nI l2.length), vI (nI (i + 1)), x] [] S2 ∧ Fr (pL [95, 96]) S S2 ∧ GrI A o l2 ∧ GrS S2 l2 ∧ i < l2.length ∧ GrD A l2 (i + 1) 12 := by
  refine upS (σ := Sto × List Nat) (I := fun k s => Fr (pL [95, 96]) S s.1 ∧ GrI A o s.2 ∧ GrS s.1 s.2 ∧ i < s.2.length ∧ GrD A s.2 i 12 ∧ GrE A s.2 i k) (F := fun k s => run 264 0 47 [vR 50 0, vI (nI o), vI (nI s.2.length), vI (nI i), vI (nI k)] [] s.1) (Q := fun z => ∃ S2 l2 x, z = run 264 0 39 [vR 50 0, vI (nI o), vI (nI l2.length), vI (nI (i + 1)), x] [] S2 ∧ Fr (pL [95, 96]) S S2 ∧ GrI A o l2 ∧ GrS S2 l2 ∧ i < l2.length ∧ GrD A l2 (i + 1) 12) (N := 12) ?_ ?_ 0 (S1, l) (by omega) ⟨hf, hg, hs, hi, hd, fun k hk => by omega⟩
  · intro k s hk hI
    obtain ⟨S2, l2⟩ := s
    obtain ⟨i1, i2, i3, i4, i5, i6⟩ := hI
    simp only at i1 i2 i3 i4 i5 i6
    have h2 := h.pl i1 (by decide)
    have hl := i2.1.le
    have hm : l2.getD i 0 < 12 := lw_get i2.1 i4
    have e1 := m_areAtOdds h2 hw (a := l2.getD i 0) (b := k) hm hk
    have r1 := i3.1 i i4
    have r2 := i3.2 k hk
    show (∃ S2' l2' x, run 264 0 47 [vR 50 0, vI (nI o), vI (nI l2.length), vI (nI i), vI (nI k)] [] S2 = _ ∧ _) ∨ ∃ s', _ ∧ run 264 0 47 [vR 50 0, vI (nI o), vI (nI l2.length), vI (nI i), vI (nI k)] [] S2 = _
    refine Or.inr ?_
    rw [s264_47]
    cases c1 : (A 5 (12 * l2.getD i 0 + k) == 1) with
    | false =>
      rw [c1] at e1
      refine ⟨(S2, l2), ⟨i1, i2, i3, i4, i5, ?_⟩, ?_⟩
      · intro k' hk' e
        by_cases c : k' = k
        · subst c
          have e' : A 5 (12 * l2.getD i 0 + k') = 1 := e
          rw [e'] at c1
          cases c1
        · exact i6 k' (by omega) e
      · simp (disch := omega) only [s264_0, s264_1, s264_3, s264_5, s264_8, s264_9, s264_12, s264_13, s264_14, s264_15, s264_18, s264_21, s264_22, s264_25, s264_26, s264_27, s264_28, s264_29, s264_32, s264_33, s264_34, s264_35, s264_36, s264_37, s264_38, s264_40, s264_41, s264_44, s264_45, s264_49, s264_51, s264_54, s264_55, s264_56, s264_59, s264_60, s264_61, s264_63, s264_66, s264_69, s264_70, s264_73, s264_75, s264_76, s264_79, s264_80, s264_83, s264_85, s264_86, s264_87, s264_88, s264_91, s264_92, s264_94, s264_95, s264_98, s264_101, s264_104, s264_107, s264_110, s264_111, q_0, q_1, q_2, q_3, q_4, q_5, q_6, q_7, q_8, q_9, q_10, q_11, q_12, q_13, q_14, q_16, q_20, q_23, q_24, q_32, q_42, q_43, q_45, q_47, q_48, q_50, q_57, q_59, q_60, q_61, q_62, q_63, q_64, q_66, q_91, q_93, q_97, q_99, q_122, q_144, q_255, q_256, q_300, q_380, q_400, q_620, q_999, q_1000, q_4095, q_4096, q_9999, q_65536, q_99999, q_31, nI_add, pk_mul, nE, nL, nT, nM31, nShl, ib_nI, nI_clamp, bI_n0, bI_n1, bI_nar, uI_r, uI_l, uL_r, uL_i, uL_p, uA_r, uA_l, bV_some, bU_some, nar_n0, nar_n1, and_self, and_true, true_and, and_false, false_and, if_true, if_false, eq_self, Bool.false_eq_true, Bool.true_eq_false, not_true_eq_false, not_false_eq_true, ↓reduceIte, nlT, nlF, ntT, ntF, neT, neF, ieT, ieF, decide_true, decide_false, Bool.not_true, Bool.not_false, Bool.and_true, Bool.true_and, Bool.and_false, Bool.false_and, Bool.or_true, Bool.true_or, Bool.or_false, Bool.false_or, r1, e1]
    | true =>
      rw [c1] at e1
      cases c2 : l2.contains k with
      | true =>
        rw [c2] at r2
        refine ⟨(S2, l2), ⟨i1, i2, i3, i4, i5, ?_⟩, ?_⟩
        · intro k' hk' e
          by_cases c : k' = k
          · subst c
            exact c2
          · exact i6 k' (by omega) e
        · simp (disch := omega) only [s264_0, s264_1, s264_3, s264_5, s264_8, s264_9, s264_12, s264_13, s264_14, s264_15, s264_18, s264_21, s264_22, s264_25, s264_26, s264_27, s264_28, s264_29, s264_32, s264_33, s264_34, s264_35, s264_36, s264_37, s264_38, s264_40, s264_41, s264_44, s264_45, s264_49, s264_51, s264_54, s264_55, s264_56, s264_59, s264_60, s264_61, s264_63, s264_66, s264_69, s264_70, s264_73, s264_75, s264_76, s264_79, s264_80, s264_83, s264_85, s264_86, s264_87, s264_88, s264_91, s264_92, s264_94, s264_95, s264_98, s264_101, s264_104, s264_107, s264_110, s264_111, q_0, q_1, q_2, q_3, q_4, q_5, q_6, q_7, q_8, q_9, q_10, q_11, q_12, q_13, q_14, q_16, q_20, q_23, q_24, q_32, q_42, q_43, q_45, q_47, q_48, q_50, q_57, q_59, q_60, q_61, q_62, q_63, q_64, q_66, q_91, q_93, q_97, q_99, q_122, q_144, q_255, q_256, q_300, q_380, q_400, q_620, q_999, q_1000, q_4095, q_4096, q_9999, q_65536, q_99999, q_31, nI_add, pk_mul, nE, nL, nT, nM31, nShl, ib_nI, nI_clamp, bI_n0, bI_n1, bI_nar, uI_r, uI_l, uL_r, uL_i, uL_p, uA_r, uA_l, bV_some, bU_some, nar_n0, nar_n1, and_self, and_true, true_and, and_false, false_and, if_true, if_false, eq_self, Bool.false_eq_true, Bool.true_eq_false, not_true_eq_false, not_false_eq_true, ↓reduceIte, nlT, nlF, ntT, ntF, neT, neF, ieT, ieF, decide_true, decide_false, Bool.not_true, Bool.not_false, Bool.and_true, Bool.true_and, Bool.and_false, Bool.false_and, Bool.or_true, Bool.true_or, Bool.or_false, Bool.false_or, r1, e1, r2]
      | false =>
        rw [c2] at r2
        have hln := (i2.1.push hk c2).le
        simp at hln
        refine ⟨(uI (uI S2 95 0 k (nI 1)) 96 0 l2.length (nI k), l2 ++ [k]), ⟨(i1.uI rfl).uI rfl, i2.push i4 hk c2 (by simpa using c1), i3.push, by simp; omega, i5.push (by omega), ?_⟩, ?_⟩
        · intro k' hk' e
          by_cases c : k' = k
          · subst c
            rw [cont_app]
            simp
          · exact (i6.push i4) k' (by omega) e
        · have e9 : (l2 ++ [k]).length = l2.length + 1 := by simp
          simp (disch := omega) only [s264_0, s264_1, s264_3, s264_5, s264_8, s264_9, s264_12, s264_13, s264_14, s264_15, s264_18, s264_21, s264_22, s264_25, s264_26, s264_27, s264_28, s264_29, s264_32, s264_33, s264_34, s264_35, s264_36, s264_37, s264_38, s264_40, s264_41, s264_44, s264_45, s264_49, s264_51, s264_54, s264_55, s264_56, s264_59, s264_60, s264_61, s264_63, s264_66, s264_69, s264_70, s264_73, s264_75, s264_76, s264_79, s264_80, s264_83, s264_85, s264_86, s264_87, s264_88, s264_91, s264_92, s264_94, s264_95, s264_98, s264_101, s264_104, s264_107, s264_110, s264_111, q_0, q_1, q_2, q_3, q_4, q_5, q_6, q_7, q_8, q_9, q_10, q_11, q_12, q_13, q_14, q_16, q_20, q_23, q_24, q_32, q_42, q_43, q_45, q_47, q_48, q_50, q_57, q_59, q_60, q_61, q_62, q_63, q_64, q_66, q_91, q_93, q_97, q_99, q_122, q_144, q_255, q_256, q_300, q_380, q_400, q_620, q_999, q_1000, q_4095, q_4096, q_9999, q_65536, q_99999, q_31, nI_add, pk_mul, nE, nL, nT, nM31, nShl, ib_nI, nI_clamp, bI_n0, bI_n1, bI_nar, uI_r, uI_l, uL_r, uL_i, uL_p, uA_r, uA_l, bV_some, bU_some, nar_n0, nar_n1, and_self, and_true, true_and, and_false, false_and, if_true, if_false, eq_self, Bool.false_eq_true, Bool.true_eq_false, not_true_eq_false, not_false_eq_true, ↓reduceIte, nlT, nlF, ntT, ntF, neT, neF, ieT, ieF, decide_true, decide_false, Bool.not_true, Bool.not_false, Bool.and_true, Bool.true_and, Bool.and_false, Bool.false_and, Bool.or_true, Bool.true_or, Bool.or_false, Bool.false_or, r1, e1, r2, nar_t, e9]
  · intro s hI
    obtain ⟨S2, l2⟩ := s
    obtain ⟨i1, i2, i3, i4, i5, i6⟩ := hI
    simp only at i1 i2 i3 i4 i5 i6
    refine ⟨S2, l2, vI (nI 12), ?_, i1, i2, i3, i4, ?_⟩
    · show run 264 0 47 [vR 50 0, vI (nI o), vI (nI l2.length), vI (nI i), vI (nI 12)] [] S2 = _
      rw [s264_47]
      simp (disch := omega) only [s264_0, s264_1, s264_3, s264_5, s264_8, s264_9, s264_12, s264_13, s264_14, s264_15, s264_18, s264_21, s264_22, s264_25, s264_26, s264_27, s264_28, s264_29, s264_32, s264_33, s264_34, s264_35, s264_36, s264_37, s264_38, s264_40, s264_41, s264_44, s264_45, s264_49, s264_51, s264_54, s264_55, s264_56, s264_59, s264_60, s264_61, s264_63, s264_66, s264_69, s264_70, s264_73, s264_75, s264_76, s264_79, s264_80, s264_83, s264_85, s264_86, s264_87, s264_88, s264_91, s264_92, s264_94, s264_95, s264_98, s264_101, s264_104, s264_107, s264_110, s264_111, q_0, q_1, q_2, q_3, q_4, q_5, q_6, q_7, q_8, q_9, q_10, q_11, q_12, q_13, q_14, q_16, q_20, q_23, q_24, q_32, q_42, q_43, q_45, q_47, q_48, q_50, q_57, q_59, q_60, q_61, q_62, q_63, q_64, q_66, q_91, q_93, q_97, q_99, q_122, q_144, q_255, q_256, q_300, q_380, q_400, q_620, q_999, q_1000, q_4095, q_4096, q_9999, q_65536, q_99999, q_31, nI_add, pk_mul, nE, nL, nT, nM31, nShl, ib_nI, nI_clamp, bI_n0, bI_n1, bI_nar, uI_r, uI_l, uL_r, uL_i, uL_p, uA_r, uA_l, bV_some, bU_some, nar_n0, nar_n1, and_self, and_true, true_and, and_false, false_and, if_true, if_false, eq_self, Bool.false_eq_true, Bool.true_eq_false, not_true_eq_false, not_false_eq_true, ↓reduceIte, nlT, nlF, ntT, ntF, neT, neF, ieT, ieF, decide_true, decide_false, Bool.not_true, Bool.not_false, Bool.and_true, Bool.true_and, Bool.and_false, Bool.false_and, Bool.or_true, Bool.true_or, Bool.or_false, Bool.false_or]
    · intro j k hj hk e
      by_cases c : j = i
      · subst c
        exact i6 k hk e
      · exact i5 j k (by omega) hk e
theorem m_group {S : Sto} {A : Tn} (h : RepM S A) (hw : WF A) {o : Nat} (ho : o < A 0 0) : ∃ S', call 264 0 [vR 50 0, vI (nI o)] S = some (some (vI (nI (gpN A o))), S') ∧ Fr (pL [95, 96]) S S' := by
  have hP := hw.pe
  have L2 : ∀ S0 x, Fr (pL [95, 96]) S S0 → GrS S0 [o] → ∃ S', run 264 0 39 [vR 50 0, vI (nI o), vI (nI 1), vI (nI 0), x] [] S0 = some (some (vI (nI (gpN A o))), S') ∧ Fr (pL [95, 96]) S S' := by
    intro S0 x0 hf0 hs0
    have hlw : LW [o] := LW.nil.push (x := o) (by omega) rfl
    refine upS (σ := (Sto × List Nat) × av) (I := fun i s => Fr (pL [95, 96]) S s.1.1 ∧ GrI A o s.1.2 ∧ GrS s.1.1 s.1.2 ∧ i ≤ s.1.2.length ∧ GrD A s.1.2 i 12) (F := fun i s => run 264 0 39 [vR 50 0, vI (nI o), vI (nI s.1.2.length), vI (nI i), s.2] [] s.1.1) (Q := fun z => ∃ S', z = some (some (vI (nI (gpN A o))), S') ∧ Fr (pL [95, 96]) S S') (N := 12) ?_ ?_ 0 ((S0, [o]), x0) (by omega) ⟨hf0, ⟨hlw, by simp, fun C c1 c2 p hp => by simp at hp; rw [hp]; exact c1⟩, hs0, by simp, fun j k hj => by omega⟩
    · intro i s hi hI
      obtain ⟨⟨S1, l⟩, x⟩ := s
      obtain ⟨i1, i2, i3, i4, i5⟩ := hI
      simp only at i1 i2 i3 i4 i5
      have hl := i2.1.le
      show (∃ S', run 264 0 39 [vR 50 0, vI (nI o), vI (nI l.length), vI (nI i), x] [] S1 = _ ∧ _) ∨ ∃ s', _ ∧ run 264 0 39 [vR 50 0, vI (nI o), vI (nI l.length), vI (nI i), x] [] S1 = _
      rw [s264_39]
      by_cases c : i < l.length
      · obtain ⟨S2, l2, y, a1, a2, a3, a4, a5, a6⟩ := m_grIn h hw i1 i2 i3 c i5
        refine Or.inr ⟨((S2, l2), y), ⟨a2, a3, a4, by show i + 1 ≤ l2.length; omega, a6⟩, ?_⟩
        simp (disch := omega) only [s264_0, s264_1, s264_3, s264_5, s264_8, s264_9, s264_12, s264_13, s264_14, s264_15, s264_18, s264_21, s264_22, s264_25, s264_26, s264_27, s264_28, s264_29, s264_32, s264_33, s264_34, s264_35, s264_36, s264_37, s264_38, s264_40, s264_41, s264_44, s264_45, s264_49, s264_51, s264_54, s264_55, s264_56, s264_59, s264_60, s264_61, s264_63, s264_66, s264_69, s264_70, s264_73, s264_75, s264_76, s264_79, s264_80, s264_83, s264_85, s264_86, s264_87, s264_88, s264_91, s264_92, s264_94, s264_95, s264_98, s264_101, s264_104, s264_107, s264_110, s264_111, q_0, q_1, q_2, q_3, q_4, q_5, q_6, q_7, q_8, q_9, q_10, q_11, q_12, q_13, q_14, q_16, q_20, q_23, q_24, q_32, q_42, q_43, q_45, q_47, q_48, q_50, q_57, q_59, q_60, q_61, q_62, q_63, q_64, q_66, q_91, q_93, q_97, q_99, q_122, q_144, q_255, q_256, q_300, q_380, q_400, q_620, q_999, q_1000, q_4095, q_4096, q_9999, q_65536, q_99999, q_31, nI_add, pk_mul, nE, nL, nT, nM31, nShl, ib_nI, nI_clamp, bI_n0, bI_n1, bI_nar, uI_r, uI_l, uL_r, uL_i, uL_p, uA_r, uA_l, bV_some, bU_some, nar_n0, nar_n1, and_self, and_true, true_and, and_false, false_and, if_true, if_false, eq_self, Bool.false_eq_true, Bool.true_eq_false, not_true_eq_false, not_false_eq_true, ↓reduceIte, nlT, nlF, ntT, ntF, neT, neF, ieT, ieF, decide_true, decide_false, Bool.not_true, Bool.not_false, Bool.and_true, Bool.true_and, Bool.and_false, Bool.false_and, Bool.or_true, Bool.true_or, Bool.or_false, Bool.false_or]
        exact a1
      · have e : l.length = gpN A o := gr_len hw ho i2 (fun j k hj hk e => i5 j k (by omega) hk e)
        refine Or.inl ⟨S1, ?_, i1⟩
        simp (disch := omega) only [s264_0, s264_1, s264_3, s264_5, s264_8, s264_9, s264_12, s264_13, s264_14, s264_15, s264_18, s264_21, s264_22, s264_25, s264_26, s264_27, s264_28, s264_29, s264_32, s264_33, s264_34, s264_35, s264_36, s264_37, s264_38, s264_40, s264_41, s264_44, s264_45, s264_49, s264_51, s264_54, s264_55, s264_56, s264_59, s264_60, s264_61, s264_63, s264_66, s264_69, s264_70, s264_73, s264_75, s264_76, s264_79, s264_80, s264_83, s264_85, s264_86, s264_87, s264_88, s264_91, s264_92, s264_94, s264_95, s264_98, s264_101, s264_104, s264_107, s264_110, s264_111, q_0, q_1, q_2, q_3, q_4, q_5, q_6, q_7, q_8, q_9, q_10, q_11, q_12, q_13, q_14, q_16, q_20, q_23, q_24, q_32, q_42, q_43, q_45, q_47, q_48, q_50, q_57, q_59, q_60, q_61, q_62, q_63, q_64, q_66, q_91, q_93, q_97, q_99, q_122, q_144, q_255, q_256, q_300, q_380, q_400, q_620, q_999, q_1000, q_4095, q_4096, q_9999, q_65536, q_99999, q_31, nI_add, pk_mul, nE, nL, nT, nM31, nShl, ib_nI, nI_clamp, bI_n0, bI_n1, bI_nar, uI_r, uI_l, uL_r, uL_i, uL_p, uA_r, uA_l, bV_some, bU_some, nar_n0, nar_n1, and_self, and_true, true_and, and_false, false_and, if_true, if_false, eq_self, Bool.false_eq_true, Bool.true_eq_false, not_true_eq_false, not_false_eq_true, ↓reduceIte, nlT, nlF, ntT, ntF, neT, neF, ieT, ieF, decide_true, decide_false, Bool.not_true, Bool.not_false, Bool.and_true, Bool.true_and, Bool.and_false, Bool.false_and, Bool.or_true, Bool.true_or, Bool.or_false, Bool.false_or]
        rw [e]
    · intro s hI
      obtain ⟨⟨S1, l⟩, x⟩ := s
      obtain ⟨i1, i2, i3, i4, i5⟩ := hI
      simp only at i1 i2 i3 i4 i5
      have hl := i2.1.le
      have e : l.length = gpN A o := gr_len hw ho i2 (fun j k hj hk e => i5 j k (by omega) hk e)
      refine ⟨S1, ?_, i1⟩
      show run 264 0 39 [vR 50 0, vI (nI o), vI (nI l.length), vI (nI 12), x] [] S1 = _
      rw [s264_39]
      simp (disch := omega) only [s264_0, s264_1, s264_3, s264_5, s264_8, s264_9, s264_12, s264_13, s264_14, s264_15, s264_18, s264_21, s264_22, s264_25, s264_26, s264_27, s264_28, s264_29, s264_32, s264_33, s264_34, s264_35, s264_36, s264_37, s264_38, s264_40, s264_41, s264_44, s264_45, s264_49, s264_51, s264_54, s264_55, s264_56, s264_59, s264_60, s264_61, s264_63, s264_66, s264_69, s264_70, s264_73, s264_75, s264_76, s264_79, s264_80, s264_83, s264_85, s264_86, s264_87, s264_88, s264_91, s264_92, s264_94, s264_95, s264_98, s264_101, s264_104, s264_107, s264_110, s264_111, q_0, q_1, q_2, q_3, q_4, q_5, q_6, q_7, q_8, q_9, q_10, q_11, q_12, q_13, q_14, q_16, q_20, q_23, q_24, q_32, q_42, q_43, q_45, q_47, q_48, q_50, q_57, q_59, q_60, q_61, q_62, q_63, q_64, q_66, q_91, q_93, q_97, q_99, q_122, q_144, q_255, q_256, q_300, q_380, q_400, q_620, q_999, q_1000, q_4095, q_4096, q_9999, q_65536, q_99999, q_31, nI_add, pk_mul, nE, nL, nT, nM31, nShl, ib_nI, nI_clamp, bI_n0, bI_n1, bI_nar, uI_r, uI_l, uL_r, uL_i, uL_p, uA_r, uA_l, bV_some, bU_some, nar_n0, nar_n1, and_self, and_true, true_and, and_false, false_and, if_true, if_false, eq_self, Bool.false_eq_true, Bool.true_eq_false, not_true_eq_false, not_false_eq_true, ↓reduceIte, nlT, nlF, ntT, ntF, neT, neF, ieT, ieF, decide_true, decide_false, Bool.not_true, Bool.not_false, Bool.and_true, Bool.true_and, Bool.and_false, Bool.false_and, Bool.or_true, Bool.true_or, Bool.or_false, Bool.false_or]
      rw [e]
  show ∃ S', run 264 0 0 [vR 50 0, vI (nI o), vU, vU, vU] [] S = _ ∧ _
  simp only [s264_0, s264_1]
  refine upS (σ := Sto) (I := fun i S1 => Fr (pL [95, 96]) S S1 ∧ ∀ p, p < i → S1.1 95 0 p = nI 0) (F := fun i S1 => run 264 0 2 [vR 50 0, vI (nI o), vI (nI i), vU, vU] [] S1) (Q := fun z => ∃ S', z = some (some (vI (nI (gpN A o))), S') ∧ Fr (pL [95, 96]) S S') (N := 12) ?_ ?_ 0 S (by omega) ⟨Fr.rfl', fun p hp => by omega⟩
  · intro i S1 hi hI
    refine Or.inr ⟨uI S1 95 0 i (nI 0), ⟨hI.1.uI rfl, fun p hp => ?_⟩, ?_⟩
    · rw [uI_r]
      by_cases e : p = i
      · rw [if_pos ⟨rfl, rfl, e⟩]
      · rw [if_neg (by omega)]
        exact hI.2 p (by omega)
    · show run 264 0 2 _ _ _ = run 264 0 2 _ _ _
      rw [s264_2]
      simp (disch := omega) only [s264_0, s264_1, s264_3, s264_5, s264_8, s264_9, s264_12, s264_13, s264_14, s264_15, s264_18, s264_21, s264_22, s264_25, s264_26, s264_27, s264_28, s264_29, s264_32, s264_33, s264_34, s264_35, s264_36, s264_37, s264_38, s264_40, s264_41, s264_44, s264_45, s264_49, s264_51, s264_54, s264_55, s264_56, s264_59, s264_60, s264_61, s264_63, s264_66, s264_69, s264_70, s264_73, s264_75, s264_76, s264_79, s264_80, s264_83, s264_85, s264_86, s264_87, s264_88, s264_91, s264_92, s264_94, s264_95, s264_98, s264_101, s264_104, s264_107, s264_110, s264_111, q_0, q_1, q_2, q_3, q_4, q_5, q_6, q_7, q_8, q_9, q_10, q_11, q_12, q_13, q_14, q_16, q_20, q_23, q_24, q_32, q_42, q_43, q_45, q_47, q_48, q_50, q_57, q_59, q_60, q_61, q_62, q_63, q_64, q_66, q_91, q_93, q_97, q_99, q_122, q_144, q_255, q_256, q_300, q_380, q_400, q_620, q_999, q_1000, q_4095, q_4096, q_9999, q_65536, q_99999, q_31, nI_add, pk_mul, nE, nL, nT, nM31, nShl, ib_nI, nI_clamp, bI_n0, bI_n1, bI_nar, uI_r, uI_l, uL_r, uL_i, uL_p, uA_r, uA_l, bV_some, bU_some, nar_n0, nar_n1, and_self, and_true, true_and, and_false, false_and, if_true, if_false, eq_self, Bool.false_eq_true, Bool.true_eq_false, not_true_eq_false, not_false_eq_true, ↓reduceIte, nlT, nlF, ntT, ntF, neT, neF, ieT, ieF, decide_true, decide_false, Bool.not_true, Bool.not_false, Bool.and_true, Bool.true_and, Bool.and_false, Bool.false_and, Bool.or_true, Bool.true_or, Bool.or_false, Bool.false_or, nar_f]
  · intro S1 hI
    show ∃ S', run 264 0 2 [vR 50 0, vI (nI o), vI (nI 12), vU, vU] [] S1 = _ ∧ _
    rw [s264_2]
    simp (disch := omega) only [s264_0, s264_1, s264_3, s264_5, s264_8, s264_9, s264_12, s264_13, s264_14, s264_15, s264_18, s264_21, s264_22, s264_25, s264_26, s264_27, s264_28, s264_29, s264_32, s264_33, s264_34, s264_35, s264_36, s264_37, s264_38, s264_40, s264_41, s264_44, s264_45, s264_49, s264_51, s264_54, s264_55, s264_56, s264_59, s264_60, s264_61, s264_63, s264_66, s264_69, s264_70, s264_73, s264_75, s264_76, s264_79, s264_80, s264_83, s264_85, s264_86, s264_87, s264_88, s264_91, s264_92, s264_94, s264_95, s264_98, s264_101, s264_104, s264_107, s264_110, s264_111, q_0, q_1, q_2, q_3, q_4, q_5, q_6, q_7, q_8, q_9, q_10, q_11, q_12, q_13, q_14, q_16, q_20, q_23, q_24, q_32, q_42, q_43, q_45, q_47, q_48, q_50, q_57, q_59, q_60, q_61, q_62, q_63, q_64, q_66, q_91, q_93, q_97, q_99, q_122, q_144, q_255, q_256, q_300, q_380, q_400, q_620, q_999, q_1000, q_4095, q_4096, q_9999, q_65536, q_99999, q_31, nI_add, pk_mul, nE, nL, nT, nM31, nShl, ib_nI, nI_clamp, bI_n0, bI_n1, bI_nar, uI_r, uI_l, uL_r, uL_i, uL_p, uA_r, uA_l, bV_some, bU_some, nar_n0, nar_n1, and_self, and_true, true_and, and_false, false_and, if_true, if_false, eq_self, Bool.false_eq_true, Bool.true_eq_false, not_true_eq_false, not_false_eq_true, ↓reduceIte, nlT, nlF, ntT, ntF, neT, neF, ieT, ieF, decide_true, decide_false, Bool.not_true, Bool.not_false, Bool.and_true, Bool.true_and, Bool.and_false, Bool.false_and, Bool.or_true, Bool.true_or, Bool.or_false, Bool.false_or, nar_t]
    refine L2 _ _ ((hI.1.uI rfl).uI rfl) ⟨fun j hj => ?_, fun k hk => ?_⟩
    · simp at hj
      subst hj
      rw [uI_r, if_pos ⟨rfl, rfl, rfl⟩]
      rfl
    · rw [uI_r, if_neg (by omega), uI_r]
      by_cases e : k = o
      · rw [if_pos ⟨rfl, rfl, e⟩]
        simp [e]
        rfl
      · rw [if_neg (by omega), hI.2 k hk]
        simp [e]
        rfl
