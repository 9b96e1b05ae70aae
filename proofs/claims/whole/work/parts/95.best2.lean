/-! the class's best -/
theorem ntz_m {m : Nat} (hm : m < 2 ^ 12) (h0 : m ≠ 0) : (nI m ^^^ (-nI 1)) &&& nI (m - 1) = nI (2 ^ lowB m - 1) := by
  obtain ⟨h1, h2, h3⟩ := lowB_p hm h0
  rw [Int32.and_comm]
  apply nI_andm
  intro i _
  rw [Nat.testBit_two_pow_sub_one, low_pred h1 h2]
  by_cases c1 : i < lowB m
  · rw [if_pos c1, h2 i c1]; simp [c1]
  · rw [if_neg c1]
    by_cases c2 : i = lowB m
    · rw [if_pos c2]; simp [c2]
    · rw [if_neg c2]
      cases m.testBit i <;> simp [c1]
theorem x_ntz (S : Sto) {m : Nat} (hm : m < 2 ^ 12) (h0 : m ≠ 0) : call 271 0 [vI (nI m)] S = some (some (vI (nI (lowB m))), S) := by
  obtain ⟨h1, h2, h3⟩ := lowB_p hm h0
  have e1 := ntz_m hm h0
  show run 271 0 0 [vI (nI m), vU] [] S = _
  have key : ∀ k, k < 12 → run 271 0 8 [vI (nI (2 ^ k - 1)), vU] [] S = some (some (vI (nI k)), S) := by
    intro k hk
    have hc : k = 0 ∨ k = 1 ∨ k = 2 ∨ k = 3 ∨ k = 4 ∨ k = 5 ∨ k = 6 ∨ k = 7 ∨ k = 8 ∨ k = 9 ∨ k = 10 ∨ k = 11 := by omega
    rcases hc with rfl | rfl | rfl | rfl | rfl | rfl | rfl | rfl | rfl | rfl | rfl | rfl <;> (simp (disch := omega) only [s271_0, s271_1, s271_2, s271_3, s271_4, s271_5, s271_6, s271_7, s271_8, s271_9, s271_12, s271_13, s271_15, s271_16, s271_17, s271_18, s271_19, s271_20, s271_23, s271_26, s271_29, s271_30, s271_32, s271_33, s271_34, s271_35, s271_38, s271_41, s271_44, s271_45, s271_47, s271_48, s271_49, s271_50, s271_52, s271_55, s271_58, s271_59, s271_60, s271_61, s271_62, s271_63, s271_64, s271_67, s271_70, s271_71, s271_72, s271_73, s271_74, s271_75, s271_76, s271_77, s271_78, s271_79, q_0, q_1, q_2, q_3, q_4, q_5, q_6, q_7, q_8, q_9, q_10, q_11, q_12, q_13, q_14, q_16, q_20, q_23, q_24, q_32, q_42, q_43, q_45, q_47, q_48, q_50, q_57, q_59, q_60, q_61, q_62, q_63, q_64, q_66, q_91, q_93, q_97, q_99, q_122, q_144, q_255, q_256, q_300, q_380, q_400, q_620, q_999, q_1000, q_4095, q_4096, q_9999, q_65536, q_99999, q_31, nI_add, pk_mul, nE, nL, nT, nM31, nShl, ib_nI, nI_clamp, bI_n0, bI_n1, bI_nar, uI_r, uI_l, uL_r, uL_i, uL_p, uA_r, uA_l, bV_some, bU_some, nar_n0, nar_n1, and_self, and_true, true_and, and_false, false_and, if_true, if_false, eq_self, Bool.false_eq_true, Bool.true_eq_false, not_true_eq_false, not_false_eq_true, ↓reduceIte, nlT, nlF, ntT, ntF, neT, neF, ieT, ieF, decide_true, decide_false, Bool.not_true, Bool.not_false, Bool.and_true, Bool.true_and, Bool.and_false, Bool.false_and, Bool.or_true, Bool.true_or, Bool.or_false, Bool.false_or, nUsh]; first | rfl | done)
  rw [← key _ h3]
  simp (disch := omega) only [s271_0, s271_1, s271_2, s271_3, s271_4, s271_5, s271_6, s271_7, q_0, q_1, q_2, q_3, q_4, q_5, q_6, q_7, q_8, q_9, q_10, q_11, q_12, q_13, q_14, q_16, q_20, q_23, q_24, q_32, q_42, q_43, q_45, q_47, q_48, q_50, q_57, q_59, q_60, q_61, q_62, q_63, q_64, q_66, q_91, q_93, q_97, q_99, q_122, q_144, q_255, q_256, q_300, q_380, q_400, q_620, q_999, q_1000, q_4095, q_4096, q_9999, q_65536, q_99999, q_31, nI_add, pk_mul, nE, nL, nT, nM31, nShl, ib_nI, nI_clamp, bI_n0, bI_n1, bI_nar, uI_r, uI_l, uL_r, uL_i, uL_p, uA_r, uA_l, bV_some, bU_some, nar_n0, nar_n1, and_self, and_true, true_and, and_false, false_and, if_true, if_false, eq_self, Bool.false_eq_true, Bool.true_eq_false, not_true_eq_false, not_false_eq_true, ↓reduceIte, nlT, nlF, ntT, ntF, neT, neF, ieT, ieF, decide_true, decide_false, Bool.not_true, Bool.not_false, Bool.and_true, Bool.true_and, Bool.and_false, Bool.false_and, Bool.or_true, Bool.true_or, Bool.or_false, Bool.false_or, nSub, e1]
def clC (A : Tn) (w o : Nat) : Bool := !(w == o) && A 13 w == A 13 o && !(A 11 w &&& A 11 o == 0)
def clS (A : Tn) (w : Nat) : Nat := bN (clC A w) (A 0 2)
theorem clS_lt {A : Tn} (hw : WF A) (w : Nat) : clS A w < 2 ^ 12 := Nat.lt_of_lt_of_le (bN_lt _ _) (Nat.pow_le_pow_right (by decide) hw.wk)
def ClI (S : Sto) (A : Tn) (n : Nat) : Prop := ∀ w, w < n → S.1 31 0 w = nI (clS A w)
theorem x_findCl {S : Sto} {q : Nat} {A : Tn} (h : RepC S q A) (hw : WF A) : ∃ S', call 28 0 [vR 30 0, vR 1 q] S = some (none, S') ∧ Fr (pL [31]) S S' ∧ ClI S' A (A 0 2) := by
  have hWk := hw.wk
  show ∃ S', run 28 0 0 [vR 30 0, vR 1 q, vU, vU] [] S = _ ∧ _
  simp only [s28_0, s28_1]
  refine upS (σ := Sto × av) (I := fun w s => Fr (pL [31]) S s.1 ∧ ClI s.1 A w) (F := fun w s => run 28 0 2 [vR 30 0, vR 1 q, vI (nI w), s.2] [] s.1) (Q := fun z => ∃ S', z = some (none, S') ∧ Fr (pL [31]) S S' ∧ ClI S' A (A 0 2)) (N := A 0 2) ?_ ?_ 0 (S, vU) (by omega) ⟨Fr.rfl', fun w hw => by omega⟩
  · intro w s hlt hI
    obtain ⟨S1, x⟩ := s
    obtain ⟨i1, i2⟩ := hI
    simp only at i1 i2
    have h1 := h.pl i1 (by decide)
    have inner : ∃ S2, run 28 0 19 [vR 30 0, vR 1 q, vI (nI w), vI (nI 0)] [] (uI S1 31 0 w (nI 0)) = run 28 0 2 [vR 30 0, vR 1 q, vI (nI (w + 1)), vI (nI (A 0 2))] [] S2 ∧ Fr (pL [31]) S S2 ∧ ClI S2 A (w + 1) := by
      refine upS (σ := Sto) (I := fun o S2 => Fr (pL [31]) S S2 ∧ ClI S2 A w ∧ S2.1 31 0 w = nI (bN (clC A w) o)) (F := fun o S2 => run 28 0 19 [vR 30 0, vR 1 q, vI (nI w), vI (nI o)] [] S2) (Q := fun z => ∃ S2, z = run 28 0 2 [vR 30 0, vR 1 q, vI (nI (w + 1)), vI (nI (A 0 2))] [] S2 ∧ Fr (pL [31]) S S2 ∧ ClI S2 A (w + 1)) (N := A 0 2) ?_ ?_ 0 (uI S1 31 0 w (nI 0)) (by omega) ⟨i1.uI rfl, fun v hv => ?_, ?_⟩
      · intro o S2 ho hI2
        obtain ⟨j1, j2, j3⟩ := hI2
        have h2 := h.pl j1 (by decide)
        have e1 : call 81 0 [vR 1 q, vI (nI w), vI (nI o)] S2 = some (some (vI (bI (clC A w o))), S2) := x_clash_A h2 hw (by omega) (by omega)
        refine Or.inr ?_
        show ∃ s', _ ∧ run 28 0 19 _ _ _ = run 28 0 19 _ _ _
        rw [s28_19]
        cases c : clC A w o with
        | false =>
          rw [c] at e1
          refine ⟨S2, ⟨j1, j2, by rw [bN_f c]; exact j3⟩, ?_⟩
          simp (disch := omega) only [s28_0, s28_1, s28_3, s28_4, s28_7, s28_10, s28_11, s28_14, s28_15, s28_16, s28_17, s28_18, s28_20, s28_21, s28_24, s28_27, s28_28, s28_29, s28_30, s28_33, s28_36, s28_37, s28_40, s28_41, s28_42, s28_43, s28_44, s28_45, s28_46, s28_47, s28_48, s28_51, s28_54, s28_57, s28_60, q_0, q_1, q_2, q_3, q_4, q_5, q_6, q_7, q_8, q_9, q_10, q_11, q_12, q_13, q_14, q_16, q_20, q_23, q_24, q_32, q_42, q_43, q_45, q_47, q_48, q_50, q_57, q_59, q_60, q_61, q_62, q_63, q_64, q_66, q_91, q_93, q_97, q_99, q_122, q_144, q_255, q_256, q_300, q_380, q_400, q_620, q_999, q_1000, q_4095, q_4096, q_9999, q_65536, q_99999, q_31, nI_add, pk_mul, nE, nL, nT, nM31, nShl, ib_nI, nI_clamp, bI_n0, bI_n1, bI_nar, uI_r, uI_l, uL_r, uL_i, uL_p, uA_r, uA_l, bV_some, bU_some, nar_n0, nar_n1, and_self, and_true, true_and, and_false, false_and, if_true, if_false, eq_self, Bool.false_eq_true, Bool.true_eq_false, not_true_eq_false, not_false_eq_true, ↓reduceIte, nlT, nlF, ntT, ntF, neT, neF, ieT, ieF, decide_true, decide_false, Bool.not_true, Bool.not_false, Bool.and_true, Bool.true_and, Bool.and_false, Bool.false_and, Bool.or_true, Bool.true_or, Bool.or_false, Bool.false_or, h2.wk, e1]
        | true =>
          rw [c] at e1
          refine ⟨uI S2 31 0 w (nI (bN (clC A w) o ||| 2 ^ o)), ⟨j1.uI rfl, fun v hv => ?_, ?_⟩, ?_⟩
          · rw [uI_r, if_neg (by omega)]
            exact j2 v hv
          · rw [uI_r, if_pos ⟨rfl, rfl, rfl⟩, bN_t c]
          · simp (disch := omega) only [s28_0, s28_1, s28_3, s28_4, s28_7, s28_10, s28_11, s28_14, s28_15, s28_16, s28_17, s28_18, s28_20, s28_21, s28_24, s28_27, s28_28, s28_29, s28_30, s28_33, s28_36, s28_37, s28_40, s28_41, s28_42, s28_43, s28_44, s28_45, s28_46, s28_47, s28_48, s28_51, s28_54, s28_57, s28_60, q_0, q_1, q_2, q_3, q_4, q_5, q_6, q_7, q_8, q_9, q_10, q_11, q_12, q_13, q_14, q_16, q_20, q_23, q_24, q_32, q_42, q_43, q_45, q_47, q_48, q_50, q_57, q_59, q_60, q_61, q_62, q_63, q_64, q_66, q_91, q_93, q_97, q_99, q_122, q_144, q_255, q_256, q_300, q_380, q_400, q_620, q_999, q_1000, q_4095, q_4096, q_9999, q_65536, q_99999, q_31, nI_add, pk_mul, nE, nL, nT, nM31, nShl, ib_nI, nI_clamp, bI_n0, bI_n1, bI_nar, uI_r, uI_l, uL_r, uL_i, uL_p, uA_r, uA_l, bV_some, bU_some, nar_n0, nar_n1, and_self, and_true, true_and, and_false, false_and, if_true, if_false, eq_self, Bool.false_eq_true, Bool.true_eq_false, not_true_eq_false, not_false_eq_true, ↓reduceIte, nlT, nlF, ntT, ntF, neT, neF, ieT, ieF, decide_true, decide_false, Bool.not_true, Bool.not_false, Bool.and_true, Bool.true_and, Bool.and_false, Bool.false_and, Bool.or_true, Bool.true_or, Bool.or_false, Bool.false_or, h2.wk, e1, j3, nx_or]
      · intro S2 hI2
        obtain ⟨j1, j2, j3⟩ := hI2
        have h2 := h.pl j1 (by decide)
        refine ⟨S2, ?_, j1, fun v hv => ?_⟩
        · show run 28 0 19 _ _ _ = _
          rw [s28_19]
          simp (disch := omega) only [s28_0, s28_1, s28_3, s28_4, s28_7, s28_10, s28_11, s28_14, s28_15, s28_16, s28_17, s28_18, s28_20, s28_21, s28_24, s28_27, s28_28, s28_29, s28_30, s28_33, s28_36, s28_37, s28_40, s28_41, s28_42, s28_43, s28_44, s28_45, s28_46, s28_47, s28_48, s28_51, s28_54, s28_57, s28_60, q_0, q_1, q_2, q_3, q_4, q_5, q_6, q_7, q_8, q_9, q_10, q_11, q_12, q_13, q_14, q_16, q_20, q_23, q_24, q_32, q_42, q_43, q_45, q_47, q_48, q_50, q_57, q_59, q_60, q_61, q_62, q_63, q_64, q_66, q_91, q_93, q_97, q_99, q_122, q_144, q_255, q_256, q_300, q_380, q_400, q_620, q_999, q_1000, q_4095, q_4096, q_9999, q_65536, q_99999, q_31, nI_add, pk_mul, nE, nL, nT, nM31, nShl, ib_nI, nI_clamp, bI_n0, bI_n1, bI_nar, uI_r, uI_l, uL_r, uL_i, uL_p, uA_r, uA_l, bV_some, bU_some, nar_n0, nar_n1, and_self, and_true, true_and, and_false, false_and, if_true, if_false, eq_self, Bool.false_eq_true, Bool.true_eq_false, not_true_eq_false, not_false_eq_true, ↓reduceIte, nlT, nlF, ntT, ntF, neT, neF, ieT, ieF, decide_true, decide_false, Bool.not_true, Bool.not_false, Bool.and_true, Bool.true_and, Bool.and_false, Bool.false_and, Bool.or_true, Bool.true_or, Bool.or_false, Bool.false_or, h2.wk]
        · by_cases e : v = w
          · rw [e]; exact j3
          · exact j2 v (by omega)
      · rw [uI_r, if_neg (by omega)]
        exact i2 v hv
      · rw [uI_r, if_pos ⟨rfl, rfl, rfl⟩]
        rfl
    obtain ⟨S2, a1, a2, a3⟩ := inner
    refine Or.inr ⟨(S2, vI (nI (A 0 2))), ⟨a2, a3⟩, ?_⟩
    show run 28 0 2 [vR 30 0, vR 1 q, vI (nI w), x] [] S1 = run 28 0 2 [vR 30 0, vR 1 q, vI (nI (w + 1)), vI (nI (A 0 2))] [] S2
    rw [← a1, s28_2]
    simp (disch := omega) only [s28_0, s28_1, s28_3, s28_4, s28_7, s28_10, s28_11, s28_14, s28_15, s28_16, s28_17, s28_18, s28_20, s28_21, s28_24, s28_27, s28_28, s28_29, s28_30, s28_33, s28_36, s28_37, s28_40, s28_41, s28_42, s28_43, s28_44, s28_45, s28_46, s28_47, s28_48, s28_51, s28_54, s28_57, s28_60, q_0, q_1, q_2, q_3, q_4, q_5, q_6, q_7, q_8, q_9, q_10, q_11, q_12, q_13, q_14, q_16, q_20, q_23, q_24, q_32, q_42, q_43, q_45, q_47, q_48, q_50, q_57, q_59, q_60, q_61, q_62, q_63, q_64, q_66, q_91, q_93, q_97, q_99, q_122, q_144, q_255, q_256, q_300, q_380, q_400, q_620, q_999, q_1000, q_4095, q_4096, q_9999, q_65536, q_99999, q_31, nI_add, pk_mul, nE, nL, nT, nM31, nShl, ib_nI, nI_clamp, bI_n0, bI_n1, bI_nar, uI_r, uI_l, uL_r, uL_i, uL_p, uA_r, uA_l, bV_some, bU_some, nar_n0, nar_n1, and_self, and_true, true_and, and_false, false_and, if_true, if_false, eq_self, Bool.false_eq_true, Bool.true_eq_false, not_true_eq_false, not_false_eq_true, ↓reduceIte, nlT, nlF, ntT, ntF, neT, neF, ieT, ieF, decide_true, decide_false, Bool.not_true, Bool.not_false, Bool.and_true, Bool.true_and, Bool.and_false, Bool.false_and, Bool.or_true, Bool.true_or, Bool.or_false, Bool.false_or, h1.wk]
  · intro s hI
    obtain ⟨S1, x⟩ := s
    obtain ⟨i1, i2⟩ := hI
    simp only at i1 i2
    have h1 := h.pl i1 (by decide)
    show ∃ S', run 28 0 2 [vR 30 0, vR 1 q, vI (nI (A 0 2)), x] [] S1 = _ ∧ _
    rw [s28_2]
    simp (disch := omega) only [s28_0, s28_1, s28_3, s28_4, s28_7, s28_10, s28_11, s28_14, s28_15, s28_16, s28_17, s28_18, s28_20, s28_21, s28_24, s28_27, s28_28, s28_29, s28_30, s28_33, s28_36, s28_37, s28_40, s28_41, s28_42, s28_43, s28_44, s28_45, s28_46, s28_47, s28_48, s28_51, s28_54, s28_57, s28_60, q_0, q_1, q_2, q_3, q_4, q_5, q_6, q_7, q_8, q_9, q_10, q_11, q_12, q_13, q_14, q_16, q_20, q_23, q_24, q_32, q_42, q_43, q_45, q_47, q_48, q_50, q_57, q_59, q_60, q_61, q_62, q_63, q_64, q_66, q_91, q_93, q_97, q_99, q_122, q_144, q_255, q_256, q_300, q_380, q_400, q_620, q_999, q_1000, q_4095, q_4096, q_9999, q_65536, q_99999, q_31, nI_add, pk_mul, nE, nL, nT, nM31, nShl, ib_nI, nI_clamp, bI_n0, bI_n1, bI_nar, uI_r, uI_l, uL_r, uL_i, uL_p, uA_r, uA_l, bV_some, bU_some, nar_n0, nar_n1, and_self, and_true, true_and, and_false, false_and, if_true, if_false, eq_self, Bool.false_eq_true, Bool.true_eq_false, not_true_eq_false, not_false_eq_true, ↓reduceIte, nlT, nlF, ntT, ntF, neT, neF, ieT, ieF, decide_true, decide_false, Bool.not_true, Bool.not_false, Bool.and_true, Bool.true_and, Bool.and_false, Bool.false_and, Bool.or_true, Bool.true_or, Bool.or_false, Bool.false_or, h1.wk]
    exact ⟨_, rfl, i1, i2⟩
theorem ofI_to {x : Int} (h0 : 0 ≤ x) (h1 : x < 2 ^ 62) : (Int64.ofInt x).toInt = x := Int64.toInt_ofInt_of_le (by omega) (by omega)
theorem ofI_lt {x y : Int} (h0 : 0 ≤ x) (h1 : x < 2 ^ 62) (h2 : 0 ≤ y) (h3 : y < 2 ^ 62) : (Int64.ofInt x < Int64.ofInt y) = (x < y) := by
  apply propext
  rw [Int64.lt_iff_toInt_lt, ofI_to h0 h1, ofI_to h2 h3]
theorem x_best {S : Sto} {v : Nat → Int} {C : Nat → Nat} {W U : Nat} (hW : W ≤ 12) (hv0 : ∀ k, k < W → 0 ≤ v k) (hv1 : ∀ k, k < W → v k ≤ 2 ^ 36) (hC : ∀ k, k < W → C k < 2 ^ 12) (hV : ∀ k, k < W → U.testBit k = true → S.2.1 35 0 k = Int64.ofInt (v k)) (hS : ∀ k, k < W → S.1 31 0 k = nI (C k)) : ∀ n s d j, Sub s U → s < 2 ^ W → ctp s 12 ≤ n → n + d ≤ 12 → n ≤ j → call 33 j [vI (nI s), vR 35 0, vR 31 0, vI (nI d)] S = some (some (vL (Int64.ofInt (bsI v C n s))), S) := by
  have hb1 : Nat.beq 35 103 = false := rfl
  have hb2 : Nat.beq 31 103 = false := rfl
  have hk1 : (knd 35).1 = 2 := rfl
  have hk2 : (knd 31).1 = 1 := rfl
  have hk3 : (knd 35).2.1 = 12 := rfl
  have hk4 : (knd 31).2.1 = 12 := rfl
  have zero : ∀ n d j, call 33 j [vI (nI 0), vR 35 0, vR 31 0, vI (nI d)] S = some (some (vL (Int64.ofInt (bsI v C n 0))), S) := by
    intro n d j
    show run 33 j 0 [vI (nI 0), vR 35 0, vR 31 0, vI (nI d), vU, vU, vU, vU] [] S = _
    rw [bsI_0]
    simp (disch := first | omega | assumption) only [s33_0, s33_1, s33_10, s33_11, q_0, q_1, q_2, q_3, q_4, q_5, q_6, q_7, q_8, q_9, q_10, q_11, q_12, q_13, q_14, q_16, q_20, q_23, q_24, q_32, q_42, q_43, q_45, q_47, q_48, q_50, q_57, q_59, q_60, q_61, q_62, q_63, q_64, q_66, q_91, q_93, q_97, q_99, q_122, q_144, q_255, q_256, q_300, q_380, q_400, q_620, q_999, q_1000, q_4095, q_4096, q_9999, q_65536, q_99999, q_31, nI_add, pk_mul, nE, nL, nT, nM31, nShl, ib_nI, nI_clamp, bI_n0, bI_n1, bI_nar, uI_r, uI_l, uL_r, uL_i, uL_p, uA_r, uA_l, bV_some, bU_some, nar_n0, nar_n1, and_self, and_true, true_and, and_false, false_and, if_true, if_false, eq_self, Bool.false_eq_true, Bool.true_eq_false, not_true_eq_false, not_false_eq_true, ↓reduceIte, nlT, nlF, ntT, ntF, neT, neF, ieT, ieF, decide_true, decide_false, Bool.not_true, Bool.not_false, Bool.and_true, Bool.true_and, Bool.and_false, Bool.false_and, Bool.or_true, Bool.true_or, Bool.or_false, Bool.false_or]
    rfl
  intro n
  induction n with
  | zero =>
    intro s d j _ hs hc _ _
    have e : s = 0 := by
      apply Classical.byContradiction
      intro c
      have hs12 : s < 2 ^ 12 := Nat.lt_of_lt_of_le hs (Nat.pow_le_pow_right (by decide) hW)
      have := rst_ct hs12 c
      omega
    subst e
    exact zero 0 d j
  | succ n ih =>
    intro s d j hU hs hc hd hj
    by_cases c : s = 0
    · subst c; exact zero (n + 1) d j
    · have hs12 : s < 2 ^ 12 := Nat.lt_of_lt_of_le hs (Nat.pow_le_pow_right (by decide) hW)
      obtain ⟨l1, l2, l3⟩ := lowB_p hs12 c
      have hkW : lowB s < W := by
        apply Classical.byContradiction
        intro hn
        rw [tb_hi hs (i := lowB s) (by omega)] at l1
        cases l1
      obtain ⟨j, rfl⟩ : ∃ j', j = j' + 1 := ⟨j - 1, by omega⟩
      have hct := rst_ct hs12 c
      have hrl := rst_lt hs
      have hr31 : rst s < 2 ^ 31 := Nat.lt_of_lt_of_le hrl (Nat.pow_le_pow_right (by decide) (by omega))
      have hdl : dif (rst s) (C (lowB s)) < 2 ^ W := dif_ltn hrl (by omega)
      have hdc : ctp (dif (rst s) (C (lowB s))) 12 ≤ n := by
        have : ctp (dif (rst s) (C (lowB s))) 12 ≤ ctp (rst s) 12 := ct_mn (fun i _ h => by
          have h' := h
          rw [dif_bit hr31] at h'
          simp only [Bool.and_eq_true] at h'
          exact h'.1)
        omega
      have hrU : Sub (rst s) U := fun i hi => by
        rw [rst_bit hs12 c] at hi
        simp only [Bool.and_eq_true] at hi
        exact hU i hi.1
      have hdU : Sub (dif (rst s) (C (lowB s))) U := fun i hi => by
        rw [dif_bit hr31] at hi
        simp only [Bool.and_eq_true] at hi
        exact hrU i hi.1
      have e1 := ih (dif (rst s) (C (lowB s))) (d + 1) j hdU hdl hdc (by omega) (by omega)
      have e2 := ih (rst s) (d + 1) j hrU hrl (by omega) (by omega) (by omega)
      have r1 := hV _ hkW (hU _ l1)
      have r2 := hS _ hkW
      have lC := hC _ hkW
      have la : rst s &&& C (lowB s) < 2 ^ 31 := Nat.lt_of_le_of_lt Nat.and_le_left hr31
      have en := x_ntz S hs12 c
      have er : s &&& (s - 1) = rst s := rfl
      have b1 := bsI_lo (C := C) hW hv0 (n := n) hdl
      have b2 := bsI_lo (C := C) hW hv0 (n := n) hrl
      have b3 := bsI_hi (C := C) hW hv1 (n := n) hdl
      have b4 := bsI_hi (C := C) hW hv1 (n := n) hrl
      have v0 := hv0 _ hkW
      have v1 := hv1 _ hkW
      have ea : Int64.ofInt (v (lowB s)) + Int64.ofInt (bsI v C n (dif (rst s) (C (lowB s)))) = Int64.ofInt (v (lowB s) + bsI v C n (dif (rst s) (C (lowB s)))) := (Int64.ofInt_add _ _).symm
      rw [bsI_s, if_neg c]
      show run 33 (j + 1) 0 [vI (nI s), vR 35 0, vR 31 0, vI (nI d), vU, vU, vU, vU] [] S = _
      by_cases c2 : rst s &&& C (lowB s) = 0
      · rw [if_pos c2]
        simp (disch := first | omega | assumption) only [s33_0, s33_1, s33_4, s33_5, s33_7, s33_10, s33_11, s33_12, s33_13, s33_16, s33_18, s33_21, s33_23, s33_24, s33_25, s33_26, s33_27, s33_28, s33_30, s33_31, s33_33, s33_34, s33_36, s33_37, s33_39, s33_40, s33_41, s33_42, s33_43, s33_44, s33_45, s33_46, s33_47, s33_48, s33_51, s33_52, s33_54, s33_56, s33_57, s33_59, s33_60, s33_61, s33_64, s33_66, s33_67, s33_69, s33_71, s33_72, s33_73, s33_74, s33_75, s33_76, s33_79, s33_82, q_0, q_1, q_2, q_3, q_4, q_5, q_6, q_7, q_8, q_9, q_10, q_11, q_12, q_13, q_14, q_16, q_20, q_23, q_24, q_32, q_42, q_43, q_45, q_47, q_48, q_50, q_57, q_59, q_60, q_61, q_62, q_63, q_64, q_66, q_91, q_93, q_97, q_99, q_122, q_144, q_255, q_256, q_300, q_380, q_400, q_620, q_999, q_1000, q_4095, q_4096, q_9999, q_65536, q_99999, q_31, nI_add, pk_mul, nE, nL, nT, nM31, nShl, ib_nI, nI_clamp, bI_n0, bI_n1, bI_nar, uI_r, uI_l, uL_r, uL_i, uL_p, uA_r, uA_l, bV_some, bU_some, nar_n0, nar_n1, and_self, and_true, true_and, and_false, false_and, if_true, if_false, eq_self, Bool.false_eq_true, Bool.true_eq_false, not_true_eq_false, not_false_eq_true, ↓reduceIte, nlT, nlF, ntT, ntF, neT, neF, ieT, ieF, decide_true, decide_false, Bool.not_true, Bool.not_false, Bool.and_true, Bool.true_and, Bool.and_false, Bool.false_and, Bool.or_true, Bool.true_or, Bool.or_false, Bool.false_or, hk3, hk4, en, nSub, nx_and, nA31, er, r1, r2, nI_dif, e1, ea, c2]
      · rw [if_neg c2]
        have lt : (Int64.ofInt (bsI v C n (rst s)) < Int64.ofInt (v (lowB s) + bsI v C n (dif (rst s) (C (lowB s))))) = (bsI v C n (rst s) < v (lowB s) + bsI v C n (dif (rst s) (C (lowB s)))) := ofI_lt b2 (by omega) (by omega) (by omega)
        have lt' : (Int64.ofInt (v (lowB s) + bsI v C n (dif (rst s) (C (lowB s)))) < Int64.ofInt (bsI v C n (rst s))) = (v (lowB s) + bsI v C n (dif (rst s) (C (lowB s))) < bsI v C n (rst s)) := ofI_lt (by omega) (by omega) b2 (by omega)
        by_cases c3 : v (lowB s) + bsI v C n (dif (rst s) (C (lowB s))) < bsI v C n (rst s)
        · have c4 : ¬ bsI v C n (rst s) < v (lowB s) + bsI v C n (dif (rst s) (C (lowB s))) := by omega
          rw [Int.max_eq_right (by omega)]
          simp (disch := first | omega | assumption) only [s33_0, s33_1, s33_4, s33_5, s33_7, s33_10, s33_11, s33_12, s33_13, s33_16, s33_18, s33_21, s33_23, s33_24, s33_25, s33_26, s33_27, s33_28, s33_30, s33_31, s33_33, s33_34, s33_36, s33_37, s33_39, s33_40, s33_41, s33_42, s33_43, s33_44, s33_45, s33_46, s33_47, s33_48, s33_51, s33_52, s33_54, s33_56, s33_57, s33_59, s33_60, s33_61, s33_64, s33_66, s33_67, s33_69, s33_71, s33_72, s33_73, s33_74, s33_75, s33_76, s33_79, s33_82, q_0, q_1, q_2, q_3, q_4, q_5, q_6, q_7, q_8, q_9, q_10, q_11, q_12, q_13, q_14, q_16, q_20, q_23, q_24, q_32, q_42, q_43, q_45, q_47, q_48, q_50, q_57, q_59, q_60, q_61, q_62, q_63, q_64, q_66, q_91, q_93, q_97, q_99, q_122, q_144, q_255, q_256, q_300, q_380, q_400, q_620, q_999, q_1000, q_4095, q_4096, q_9999, q_65536, q_99999, q_31, nI_add, pk_mul, nE, nL, nT, nM31, nShl, ib_nI, nI_clamp, bI_n0, bI_n1, bI_nar, uI_r, uI_l, uL_r, uL_i, uL_p, uA_r, uA_l, bV_some, bU_some, nar_n0, nar_n1, and_self, and_true, true_and, and_false, false_and, if_true, if_false, eq_self, Bool.false_eq_true, Bool.true_eq_false, not_true_eq_false, not_false_eq_true, ↓reduceIte, nlT, nlF, ntT, ntF, neT, neF, ieT, ieF, decide_true, decide_false, Bool.not_true, Bool.not_false, Bool.and_true, Bool.true_and, Bool.and_false, Bool.false_and, Bool.or_true, Bool.true_or, Bool.or_false, Bool.false_or, hk3, hk4, en, nSub, nx_and, nA31, er, r1, r2, nI_dif, e1, e2, ea, c2, lt, lt', c3, c4]
        · rw [Int.max_eq_left (by omega)]
          by_cases c4 : bsI v C n (rst s) < v (lowB s) + bsI v C n (dif (rst s) (C (lowB s)))
          · simp (disch := first | omega | assumption) only [s33_0, s33_1, s33_4, s33_5, s33_7, s33_10, s33_11, s33_12, s33_13, s33_16, s33_18, s33_21, s33_23, s33_24, s33_25, s33_26, s33_27, s33_28, s33_30, s33_31, s33_33, s33_34, s33_36, s33_37, s33_39, s33_40, s33_41, s33_42, s33_43, s33_44, s33_45, s33_46, s33_47, s33_48, s33_51, s33_52, s33_54, s33_56, s33_57, s33_59, s33_60, s33_61, s33_64, s33_66, s33_67, s33_69, s33_71, s33_72, s33_73, s33_74, s33_75, s33_76, s33_79, s33_82, q_0, q_1, q_2, q_3, q_4, q_5, q_6, q_7, q_8, q_9, q_10, q_11, q_12, q_13, q_14, q_16, q_20, q_23, q_24, q_32, q_42, q_43, q_45, q_47, q_48, q_50, q_57, q_59, q_60, q_61, q_62, q_63, q_64, q_66, q_91, q_93, q_97, q_99, q_122, q_144, q_255, q_256, q_300, q_380, q_400, q_620, q_999, q_1000, q_4095, q_4096, q_9999, q_65536, q_99999, q_31, nI_add, pk_mul, nE, nL, nT, nM31, nShl, ib_nI, nI_clamp, bI_n0, bI_n1, bI_nar, uI_r, uI_l, uL_r, uL_i, uL_p, uA_r, uA_l, bV_some, bU_some, nar_n0, nar_n1, and_self, and_true, true_and, and_false, false_and, if_true, if_false, eq_self, Bool.false_eq_true, Bool.true_eq_false, not_true_eq_false, not_false_eq_true, ↓reduceIte, nlT, nlF, ntT, ntF, neT, neF, ieT, ieF, decide_true, decide_false, Bool.not_true, Bool.not_false, Bool.and_true, Bool.true_and, Bool.and_false, Bool.false_and, Bool.or_true, Bool.true_or, Bool.or_false, Bool.false_or, hk3, hk4, en, nSub, nx_and, nA31, er, r1, r2, nI_dif, e1, e2, ea, c2, lt, lt', c3, c4]
          · have c5 : bsI v C n (rst s) = v (lowB s) + bsI v C n (dif (rst s) (C (lowB s))) := by omega
            simp (disch := first | omega | assumption) only [s33_0, s33_1, s33_4, s33_5, s33_7, s33_10, s33_11, s33_12, s33_13, s33_16, s33_18, s33_21, s33_23, s33_24, s33_25, s33_26, s33_27, s33_28, s33_30, s33_31, s33_33, s33_34, s33_36, s33_37, s33_39, s33_40, s33_41, s33_42, s33_43, s33_44, s33_45, s33_46, s33_47, s33_48, s33_51, s33_52, s33_54, s33_56, s33_57, s33_59, s33_60, s33_61, s33_64, s33_66, s33_67, s33_69, s33_71, s33_72, s33_73, s33_74, s33_75, s33_76, s33_79, s33_82, q_0, q_1, q_2, q_3, q_4, q_5, q_6, q_7, q_8, q_9, q_10, q_11, q_12, q_13, q_14, q_16, q_20, q_23, q_24, q_32, q_42, q_43, q_45, q_47, q_48, q_50, q_57, q_59, q_60, q_61, q_62, q_63, q_64, q_66, q_91, q_93, q_97, q_99, q_122, q_144, q_255, q_256, q_300, q_380, q_400, q_620, q_999, q_1000, q_4095, q_4096, q_9999, q_65536, q_99999, q_31, nI_add, pk_mul, nE, nL, nT, nM31, nShl, ib_nI, nI_clamp, bI_n0, bI_n1, bI_nar, uI_r, uI_l, uL_r, uL_i, uL_p, uA_r, uA_l, bV_some, bU_some, nar_n0, nar_n1, and_self, and_true, true_and, and_false, false_and, if_true, if_false, eq_self, Bool.false_eq_true, Bool.true_eq_false, not_true_eq_false, not_false_eq_true, ↓reduceIte, nlT, nlF, ntT, ntF, neT, neF, ieT, ieF, decide_true, decide_false, Bool.not_true, Bool.not_false, Bool.and_true, Bool.true_and, Bool.and_false, Bool.false_and, Bool.or_true, Bool.true_or, Bool.or_false, Bool.false_or, hk3, hk4, en, nSub, nx_and, nA31, er, r1, r2, nI_dif, e1, e2, ea, c2, lt, lt', c3, c4]
            rw [c5]
