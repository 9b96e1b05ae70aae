/-! what quarrels stop -/
def st0 (A : Tn) (t o p w : Nat) : Bool := (A 11 w).testBit t && (A 5 (12 * o + p) == 1 || (A 5 (12 * o + A 10 w) == 1 || A 5 (12 * p + A 10 w) == 1))
def stP (A : Tn) (t o p w : Nat) : Bool := st0 A t o p w && A 14 w == 0
def stT (A : Tn) (t o p : Nat) : Nat := bN (stP A t o p) (A 0 2)
theorem nI_andm {a b c : Nat} (h : ∀ i, i < 32 → c.testBit i = (a.testBit i && !b.testBit i)) : nI a &&& (nI b ^^^ (-nI 1)) = nI c := nI_andn h
theorem stT_done {A : Tn} (hw : WF A) (t o p : Nat) : nI (bN (st0 A t o p) (A 0 2)) &&& (nI (donB A) ^^^ (-nI 1)) = nI (stT A t o p) := by
  have hWk := hw.wk
  apply nI_andm
  intro i _
  unfold stT
  rw [bN_bit, bN_bit]
  by_cases hi : i < A 0 2
  · rw [donB_bit A (show i < 12 by omega)]
    have hd := hw.dn (w := i) (by omega)
    by_cases c : A 14 i = 1
    · simp [stP, c, hi]
    · have c0 : A 14 i = 0 := by omega
      simp [stP, c0, hi]
  · simp [hi]
theorem x_stThr {S : Sto} {q : Nat} {A : Tn} (h : RepC S q A) (hw : WF A) {t o p : Nat} (ht : t < 24) (ho : o < 12) (hp : p < 12) : call 44 0 [vR 1 q, vI (nI t), vI (nI o), vI (nI p)] S = some (some (vI (nI (stT A t o p))), S) := by
  have hWk := hw.wk
  have f1 := foeB_lt A o
  have f2 := foeB_lt A p
  have f3 : foeB A o ||| foeB A p < 2 ^ 31 := Nat.or_lt_two_pow f1 f2
  have e1 := x_atOdds_A h (a := o) (b := p) ho hp
  show run 44 0 0 [vR 1 q, vI (nI t), vI (nI o), vI (nI p), vU, vU, vU, vU] [] S = _
  simp (disch := omega) only [s44_0, s44_1, s44_3, s44_4, s44_7, s44_8, s44_9, s44_10, s44_13, s44_14, s44_15, s44_16, s44_18, s44_19, s44_20, s44_21, s44_24, s44_26, s44_27, s44_31, s44_32, s44_35, s44_38, s44_39, s44_42, s44_44, s44_45, s44_46, s44_49, s44_52, s44_54, s44_57, s44_59, s44_60, s44_63, s44_65, s44_66, s44_69, s44_72, s44_74, s44_75, s44_77, s44_78, s44_79, s44_81, s44_84, s44_87, s44_89, s44_90, s44_93, s44_94, s44_95, s44_96, q_0, q_1, q_2, q_3, q_4, q_5, q_6, q_7, q_8, q_9, q_10, q_11, q_12, q_13, q_14, q_16, q_20, q_23, q_24, q_32, q_42, q_43, q_45, q_47, q_48, q_50, q_57, q_59, q_60, q_61, q_62, q_63, q_64, q_66, q_91, q_93, q_97, q_99, q_122, q_144, q_255, q_256, q_300, q_380, q_400, q_620, q_999, q_1000, q_4095, q_4096, q_9999, q_65536, q_99999, q_31, nI_add, pk_mul, nE, nL, nT, nM31, nShl, ib_nI, nI_clamp, bI_n0, bI_n1, bI_nar, uI_r, uI_l, uL_r, uL_i, uL_p, uA_r, uA_l, bV_some, bU_some, nar_n0, nar_n1, and_self, and_true, true_and, and_false, false_and, if_true, if_false, eq_self, Bool.false_eq_true, Bool.true_eq_false, not_true_eq_false, not_false_eq_true, ↓reduceIte, nlT, nlF, ntT, ntF, neT, neF, ieT, ieF, decide_true, decide_false, Bool.not_true, Bool.not_false, Bool.and_true, Bool.true_and, Bool.and_false, Bool.false_and, Bool.or_true, Bool.true_or, Bool.or_false, Bool.false_or, h.fo, nx_or, e1]
  refine up_ (F := fun i => run 44 0 29 [vR 1 q, vI (nI t), vI (nI o), vI (nI p), vI (nI (bN (st0 A t o p) i)), vI (nI (foeB A o ||| foeB A p)), vI (bI (A 5 (12 * o + p) == 1)), vI (nI i)] [] S) (N := A 0 2) ?_ ?_ 0 (by omega)
  · intro i hi
    have hW := hw.W (w := i) (by omega)
    have hb : (foeB A o ||| foeB A p).testBit (A 10 i) = (A 5 (12 * o + A 10 i) == 1 || A 5 (12 * p + A 10 i) == 1) := by
      rw [Nat.testBit_or, foeB_bit A hW.1, foeB_bit A hW.1]
    show run 44 0 29 _ _ _ = run 44 0 29 _ _ _
    rw [s44_29]
    cases c1 : (A 11 i).testBit t with
    | false =>
      have eb := bN_f (P := st0 A t o p) (i := i) (by simp [st0, c1])
      simp (disch := omega) only [s44_0, s44_1, s44_3, s44_4, s44_7, s44_8, s44_9, s44_10, s44_13, s44_14, s44_15, s44_16, s44_18, s44_19, s44_20, s44_21, s44_24, s44_26, s44_27, s44_31, s44_32, s44_35, s44_38, s44_39, s44_42, s44_44, s44_45, s44_46, s44_49, s44_52, s44_54, s44_57, s44_59, s44_60, s44_63, s44_65, s44_66, s44_69, s44_72, s44_74, s44_75, s44_77, s44_78, s44_79, s44_81, s44_84, s44_87, s44_89, s44_90, s44_93, s44_94, s44_95, s44_96, q_0, q_1, q_2, q_3, q_4, q_5, q_6, q_7, q_8, q_9, q_10, q_11, q_12, q_13, q_14, q_16, q_20, q_23, q_24, q_32, q_42, q_43, q_45, q_47, q_48, q_50, q_57, q_59, q_60, q_61, q_62, q_63, q_64, q_66, q_91, q_93, q_97, q_99, q_122, q_144, q_255, q_256, q_300, q_380, q_400, q_620, q_999, q_1000, q_4095, q_4096, q_9999, q_65536, q_99999, q_31, nI_add, pk_mul, nE, nL, nT, nM31, nShl, ib_nI, nI_clamp, bI_n0, bI_n1, bI_nar, uI_r, uI_l, uL_r, uL_i, uL_p, uA_r, uA_l, bV_some, bU_some, nar_n0, nar_n1, and_self, and_true, true_and, and_false, false_and, if_true, if_false, eq_self, Bool.false_eq_true, Bool.true_eq_false, not_true_eq_false, not_false_eq_true, ↓reduceIte, nlT, nlF, ntT, ntF, neT, neF, ieT, ieF, decide_true, decide_false, Bool.not_true, Bool.not_false, Bool.and_true, Bool.true_and, Bool.and_false, Bool.false_and, Bool.or_true, Bool.true_or, Bool.or_false, Bool.false_or, h.wk, h.ki, x_has, c1, eb]
    | true =>
      cases c2 : (A 5 (12 * o + p) == 1) with
      | true =>
        have eb := bN_t (P := st0 A t o p) (i := i) (by simp [st0, c1, c2])
        simp (disch := omega) only [s44_0, s44_1, s44_3, s44_4, s44_7, s44_8, s44_9, s44_10, s44_13, s44_14, s44_15, s44_16, s44_18, s44_19, s44_20, s44_21, s44_24, s44_26, s44_27, s44_31, s44_32, s44_35, s44_38, s44_39, s44_42, s44_44, s44_45, s44_46, s44_49, s44_52, s44_54, s44_57, s44_59, s44_60, s44_63, s44_65, s44_66, s44_69, s44_72, s44_74, s44_75, s44_77, s44_78, s44_79, s44_81, s44_84, s44_87, s44_89, s44_90, s44_93, s44_94, s44_95, s44_96, q_0, q_1, q_2, q_3, q_4, q_5, q_6, q_7, q_8, q_9, q_10, q_11, q_12, q_13, q_14, q_16, q_20, q_23, q_24, q_32, q_42, q_43, q_45, q_47, q_48, q_50, q_57, q_59, q_60, q_61, q_62, q_63, q_64, q_66, q_91, q_93, q_97, q_99, q_122, q_144, q_255, q_256, q_300, q_380, q_400, q_620, q_999, q_1000, q_4095, q_4096, q_9999, q_65536, q_99999, q_31, nI_add, pk_mul, nE, nL, nT, nM31, nShl, ib_nI, nI_clamp, bI_n0, bI_n1, bI_nar, uI_r, uI_l, uL_r, uL_i, uL_p, uA_r, uA_l, bV_some, bU_some, nar_n0, nar_n1, and_self, and_true, true_and, and_false, false_and, if_true, if_false, eq_self, Bool.false_eq_true, Bool.true_eq_false, not_true_eq_false, not_false_eq_true, ↓reduceIte, nlT, nlF, ntT, ntF, neT, neF, ieT, ieF, decide_true, decide_false, Bool.not_true, Bool.not_false, Bool.and_true, Bool.true_and, Bool.and_false, Bool.false_and, Bool.or_true, Bool.true_or, Bool.or_false, Bool.false_or, h.wk, h.ki, x_has, c1, c2, eb, nx_or]
      | false =>
        cases c3 : (A 5 (12 * o + A 10 i) == 1 || A 5 (12 * p + A 10 i) == 1) with
        | true =>
          have eb := bN_t (P := st0 A t o p) (i := i) (by unfold st0; rw [c1, c2, c3]; rfl)
          simp (disch := omega) only [s44_0, s44_1, s44_3, s44_4, s44_7, s44_8, s44_9, s44_10, s44_13, s44_14, s44_15, s44_16, s44_18, s44_19, s44_20, s44_21, s44_24, s44_26, s44_27, s44_31, s44_32, s44_35, s44_38, s44_39, s44_42, s44_44, s44_45, s44_46, s44_49, s44_52, s44_54, s44_57, s44_59, s44_60, s44_63, s44_65, s44_66, s44_69, s44_72, s44_74, s44_75, s44_77, s44_78, s44_79, s44_81, s44_84, s44_87, s44_89, s44_90, s44_93, s44_94, s44_95, s44_96, q_0, q_1, q_2, q_3, q_4, q_5, q_6, q_7, q_8, q_9, q_10, q_11, q_12, q_13, q_14, q_16, q_20, q_23, q_24, q_32, q_42, q_43, q_45, q_47, q_48, q_50, q_57, q_59, q_60, q_61, q_62, q_63, q_64, q_66, q_91, q_93, q_97, q_99, q_122, q_144, q_255, q_256, q_300, q_380, q_400, q_620, q_999, q_1000, q_4095, q_4096, q_9999, q_65536, q_99999, q_31, nI_add, pk_mul, nE, nL, nT, nM31, nShl, ib_nI, nI_clamp, bI_n0, bI_n1, bI_nar, uI_r, uI_l, uL_r, uL_i, uL_p, uA_r, uA_l, bV_some, bU_some, nar_n0, nar_n1, and_self, and_true, true_and, and_false, false_and, if_true, if_false, eq_self, Bool.false_eq_true, Bool.true_eq_false, not_true_eq_false, not_false_eq_true, ↓reduceIte, nlT, nlF, ntT, ntF, neT, neF, ieT, ieF, decide_true, decide_false, Bool.not_true, Bool.not_false, Bool.and_true, Bool.true_and, Bool.and_false, Bool.false_and, Bool.or_true, Bool.true_or, Bool.or_false, Bool.false_or, h.wk, h.ki, h.ak, x_has, c1, c2, c3, hb, eb, nx_or]
        | false =>
          have eb := bN_f (P := st0 A t o p) (i := i) (by unfold st0; rw [c1, c2, c3]; rfl)
          simp (disch := omega) only [s44_0, s44_1, s44_3, s44_4, s44_7, s44_8, s44_9, s44_10, s44_13, s44_14, s44_15, s44_16, s44_18, s44_19, s44_20, s44_21, s44_24, s44_26, s44_27, s44_31, s44_32, s44_35, s44_38, s44_39, s44_42, s44_44, s44_45, s44_46, s44_49, s44_52, s44_54, s44_57, s44_59, s44_60, s44_63, s44_65, s44_66, s44_69, s44_72, s44_74, s44_75, s44_77, s44_78, s44_79, s44_81, s44_84, s44_87, s44_89, s44_90, s44_93, s44_94, s44_95, s44_96, q_0, q_1, q_2, q_3, q_4, q_5, q_6, q_7, q_8, q_9, q_10, q_11, q_12, q_13, q_14, q_16, q_20, q_23, q_24, q_32, q_42, q_43, q_45, q_47, q_48, q_50, q_57, q_59, q_60, q_61, q_62, q_63, q_64, q_66, q_91, q_93, q_97, q_99, q_122, q_144, q_255, q_256, q_300, q_380, q_400, q_620, q_999, q_1000, q_4095, q_4096, q_9999, q_65536, q_99999, q_31, nI_add, pk_mul, nE, nL, nT, nM31, nShl, ib_nI, nI_clamp, bI_n0, bI_n1, bI_nar, uI_r, uI_l, uL_r, uL_i, uL_p, uA_r, uA_l, bV_some, bU_some, nar_n0, nar_n1, and_self, and_true, true_and, and_false, false_and, if_true, if_false, eq_self, Bool.false_eq_true, Bool.true_eq_false, not_true_eq_false, not_false_eq_true, ↓reduceIte, nlT, nlF, ntT, ntF, neT, neF, ieT, ieF, decide_true, decide_false, Bool.not_true, Bool.not_false, Bool.and_true, Bool.true_and, Bool.and_false, Bool.false_and, Bool.or_true, Bool.true_or, Bool.or_false, Bool.false_or, h.wk, h.ki, h.ak, x_has, c1, c2, c3, hb, eb]
  · have e2 := stT_done hw t o p
    show run 44 0 29 _ _ _ = _
    rw [s44_29]
    simp (disch := omega) only [s44_0, s44_1, s44_3, s44_4, s44_7, s44_8, s44_9, s44_10, s44_13, s44_14, s44_15, s44_16, s44_18, s44_19, s44_20, s44_21, s44_24, s44_26, s44_27, s44_31, s44_32, s44_35, s44_38, s44_39, s44_42, s44_44, s44_45, s44_46, s44_49, s44_52, s44_54, s44_57, s44_59, s44_60, s44_63, s44_65, s44_66, s44_69, s44_72, s44_74, s44_75, s44_77, s44_78, s44_79, s44_81, s44_84, s44_87, s44_89, s44_90, s44_93, s44_94, s44_95, s44_96, q_0, q_1, q_2, q_3, q_4, q_5, q_6, q_7, q_8, q_9, q_10, q_11, q_12, q_13, q_14, q_16, q_20, q_23, q_24, q_32, q_42, q_43, q_45, q_47, q_48, q_50, q_57, q_59, q_60, q_61, q_62, q_63, q_64, q_66, q_91, q_93, q_97, q_99, q_122, q_144, q_255, q_256, q_300, q_380, q_400, q_620, q_999, q_1000, q_4095, q_4096, q_9999, q_65536, q_99999, q_31, nI_add, pk_mul, nE, nL, nT, nM31, nShl, ib_nI, nI_clamp, bI_n0, bI_n1, bI_nar, uI_r, uI_l, uL_r, uL_i, uL_p, uA_r, uA_l, bV_some, bU_some, nar_n0, nar_n1, and_self, and_true, true_and, and_false, false_and, if_true, if_false, eq_self, Bool.false_eq_true, Bool.true_eq_false, not_true_eq_false, not_false_eq_true, ↓reduceIte, nlT, nlF, ntT, ntF, neT, neF, ieT, ieF, decide_true, decide_false, Bool.not_true, Bool.not_false, Bool.and_true, Bool.true_and, Bool.and_false, Bool.false_and, Bool.or_true, Bool.true_or, Bool.or_false, Bool.false_or, h.wk, h.dnb, e2]
/-- stopped by all things but those of a set -/
def stW (A : Tn) (m : Nat) : Nat := orN (fun t => if m.testBit t = true then 0 else stT A t (A 7 t) (A 8 t)) (A 0 1)
theorem stT_lt {A : Tn} (hw : WF A) (t o p : Nat) : stT A t o p < 2 ^ 12 := Nat.lt_of_lt_of_le (bN_lt _ _) (Nat.pow_le_pow_right (by decide) hw.wk)
theorem stW_lt {A : Tn} (hw : WF A) (m : Nat) : stW A m < 2 ^ 12 := by
  apply orN_lt
  intro k _
  show (if m.testBit k = true then 0 else stT A k (A 7 k) (A 8 k)) < 2 ^ 12
  split
  · decide
  · exact stT_lt hw _ _ _
theorem x_stWo {S : Sto} {q : Nat} {A : Tn} (h : RepC S q A) (hw : WF A) {m : Nat} (hm : m < 2 ^ 31) : call 43 0 [vR 1 q, vI (nI m)] S = some (some (vI (nI (stW A m))), S) := by
  have hT := hw.th
  show run 43 0 0 [vR 1 q, vI (nI m), vU, vU] [] S = _
  simp only [s43_0, s43_1, s43_2, s43_3]
  refine up_ (F := fun i => run 43 0 4 [vR 1 q, vI (nI m), vI (nI (orN (fun t => if m.testBit t = true then 0 else stT A t (A 7 t) (A 8 t)) i)), vI (nI i)] [] S) (N := A 0 1) ?_ ?_ 0 (by omega)
  · intro i hi
    have ho := hw.o (t := i) (by omega)
    have e1 := x_stThr h hw (t := i) (o := A 7 i) (p := A 8 i) (by omega) ho.1 ho.2
    have w1 := h.own (i := 2 * i) (by omega)
    have w2 := h.own (i := 2 * i + 1) (by omega)
    rw [ow_0] at w1
    rw [ow_1] at w2
    show run 43 0 4 _ _ _ = run 43 0 4 _ _ _
    rw [s43_4, orN_s]
    cases c1 : m.testBit i with
    | true => simp (disch := omega) only [s43_0, s43_1, s43_2, s43_3, s43_5, s43_6, s43_9, s43_12, s43_13, s43_14, s43_17, s43_20, s43_21, s43_22, s43_23, s43_24, s43_27, s43_28, s43_29, s43_30, s43_31, s43_32, s43_35, s43_36, s43_37, s43_38, s43_39, s43_40, s43_41, s43_44, s43_45, s43_46, s43_49, s43_52, s43_53, q_0, q_1, q_2, q_3, q_4, q_5, q_6, q_7, q_8, q_9, q_10, q_11, q_12, q_13, q_14, q_16, q_20, q_23, q_24, q_32, q_42, q_43, q_45, q_47, q_48, q_50, q_57, q_59, q_60, q_61, q_62, q_63, q_64, q_66, q_91, q_93, q_97, q_99, q_122, q_144, q_255, q_256, q_300, q_380, q_400, q_620, q_999, q_1000, q_4095, q_4096, q_9999, q_65536, q_99999, q_31, nI_add, pk_mul, nE, nL, nT, nM31, nShl, ib_nI, nI_clamp, bI_n0, bI_n1, bI_nar, uI_r, uI_l, uL_r, uL_i, uL_p, uA_r, uA_l, bV_some, bU_some, nar_n0, nar_n1, and_self, and_true, true_and, and_false, false_and, if_true, if_false, eq_self, Bool.false_eq_true, Bool.true_eq_false, not_true_eq_false, not_false_eq_true, ↓reduceIte, nlT, nlF, ntT, ntF, neT, neF, ieT, ieF, decide_true, decide_false, Bool.not_true, Bool.not_false, Bool.and_true, Bool.true_and, Bool.and_false, Bool.false_and, Bool.or_true, Bool.true_or, Bool.or_false, Bool.false_or, h.th, x_has, c1, Nat.or_zero]
    | false => simp (disch := omega) only [s43_0, s43_1, s43_2, s43_3, s43_5, s43_6, s43_9, s43_12, s43_13, s43_14, s43_17, s43_20, s43_21, s43_22, s43_23, s43_24, s43_27, s43_28, s43_29, s43_30, s43_31, s43_32, s43_35, s43_36, s43_37, s43_38, s43_39, s43_40, s43_41, s43_44, s43_45, s43_46, s43_49, s43_52, s43_53, q_0, q_1, q_2, q_3, q_4, q_5, q_6, q_7, q_8, q_9, q_10, q_11, q_12, q_13, q_14, q_16, q_20, q_23, q_24, q_32, q_42, q_43, q_45, q_47, q_48, q_50, q_57, q_59, q_60, q_61, q_62, q_63, q_64, q_66, q_91, q_93, q_97, q_99, q_122, q_144, q_255, q_256, q_300, q_380, q_400, q_620, q_999, q_1000, q_4095, q_4096, q_9999, q_65536, q_99999, q_31, nI_add, pk_mul, nE, nL, nT, nM31, nShl, ib_nI, nI_clamp, bI_n0, bI_n1, bI_nar, uI_r, uI_l, uL_r, uL_i, uL_p, uA_r, uA_l, bV_some, bU_some, nar_n0, nar_n1, and_self, and_true, true_and, and_false, false_and, if_true, if_false, eq_self, Bool.false_eq_true, Bool.true_eq_false, not_true_eq_false, not_false_eq_true, ↓reduceIte, nlT, nlF, ntT, ntF, neT, neF, ieT, ieF, decide_true, decide_false, Bool.not_true, Bool.not_false, Bool.and_true, Bool.true_and, Bool.and_false, Bool.false_and, Bool.or_true, Bool.true_or, Bool.or_false, Bool.false_or, h.th, x_has, c1, w1, w2, e1, nx_or]
  · show run 43 0 4 _ _ _ = _
    rw [s43_4]
    simp (disch := omega) only [s43_0, s43_1, s43_2, s43_3, s43_5, s43_6, s43_9, s43_12, s43_13, s43_14, s43_17, s43_20, s43_21, s43_22, s43_23, s43_24, s43_27, s43_28, s43_29, s43_30, s43_31, s43_32, s43_35, s43_36, s43_37, s43_38, s43_39, s43_40, s43_41, s43_44, s43_45, s43_46, s43_49, s43_52, s43_53, q_0, q_1, q_2, q_3, q_4, q_5, q_6, q_7, q_8, q_9, q_10, q_11, q_12, q_13, q_14, q_16, q_20, q_23, q_24, q_32, q_42, q_43, q_45, q_47, q_48, q_50, q_57, q_59, q_60, q_61, q_62, q_63, q_64, q_66, q_91, q_93, q_97, q_99, q_122, q_144, q_255, q_256, q_300, q_380, q_400, q_620, q_999, q_1000, q_4095, q_4096, q_9999, q_65536, q_99999, q_31, nI_add, pk_mul, nE, nL, nT, nM31, nShl, ib_nI, nI_clamp, bI_n0, bI_n1, bI_nar, uI_r, uI_l, uL_r, uL_i, uL_p, uA_r, uA_l, bV_some, bU_some, nar_n0, nar_n1, and_self, and_true, true_and, and_false, false_and, if_true, if_false, eq_self, Bool.false_eq_true, Bool.true_eq_false, not_true_eq_false, not_false_eq_true, ↓reduceIte, nlT, nlF, ntT, ntF, neT, neF, ieT, ieF, decide_true, decide_false, Bool.not_true, Bool.not_false, Bool.and_true, Bool.true_and, Bool.and_false, Bool.false_and, Bool.or_true, Bool.true_or, Bool.or_false, Bool.false_or, h.th]
    rfl
def isQ (A : Tn) (w a b : Nat) : Bool := A 5 (12 * a + b) == 1 && ndB A w a b
def isB (A : Tn) (w : Nat) : Bool := ex (fun a => ex (isQ A w a) a) 12
def istW (A : Tn) (w : Nat) : Bool := A 14 w == 0 && isB A w
theorem ex_le {P : Nat → Bool} {i n : Nat} (h : i ≤ n) (e : ex P i = true) : ex P n = true := by
  obtain ⟨k, h1, h2⟩ := ex_t.mp e
  exact ex_t.mpr ⟨k, by omega, h2⟩
theorem m_isStIn {S : Sto} {A : Tn} (h : RepM S A) (hw : WF A) {w a : Nat} (hv : w < 12) (ha : a < 12) : ∃ x, run 235 0 13 [vR 50 0, vI (nI w), vI (nI 0), vI (nI a), vI (nI 0)] [] S = run 235 0 4 [vR 50 0, vI (nI w), vI (bI (ex (isQ A w a) a)), vI (nI (a + 1)), x] [] S := by
  refine upS (σ := Bool) (I := fun b s => s = ex (isQ A w a) b) (F := fun b s => run 235 0 13 [vR 50 0, vI (nI w), vI (bI s), vI (nI a), vI (nI b)] [] S) (Q := fun z => ∃ x, z = run 235 0 4 [vR 50 0, vI (nI w), vI (bI (ex (isQ A w a) a)), vI (nI (a + 1)), x] [] S) (N := a) ?_ ?_ 0 false (by omega) rfl
  · intro b s hb hI
    show (∃ x, run 235 0 13 _ _ _ = _) ∨ ∃ s', _ ∧ run 235 0 13 _ _ _ = run 235 0 13 _ _ _
    rw [s235_13]
    cases s with
    | true =>
      have e := ex_le (n := a) (by omega) hI.symm
      refine Or.inl ⟨vI (nI b), ?_⟩
      simp (disch := omega) only [s235_0, s235_1, s235_2, s235_3, s235_5, s235_7, s235_10, s235_11, s235_15, s235_16, s235_19, s235_20, s235_23, s235_24, s235_25, s235_27, s235_30, s235_33, s235_34, s235_35, s235_36, s235_38, s235_41, s235_44, s235_45, s235_48, s235_49, s235_50, s235_53, s235_56, s235_59, s235_62, s235_63, q_0, q_1, q_2, q_3, q_4, q_5, q_6, q_7, q_8, q_9, q_10, q_11, q_12, q_13, q_14, q_16, q_20, q_23, q_24, q_32, q_42, q_43, q_45, q_47, q_48, q_50, q_57, q_59, q_60, q_61, q_62, q_63, q_64, q_66, q_91, q_93, q_97, q_99, q_122, q_144, q_255, q_256, q_300, q_380, q_400, q_620, q_999, q_1000, q_4095, q_4096, q_9999, q_65536, q_99999, q_31, nI_add, pk_mul, nE, nL, nT, nM31, nShl, ib_nI, nI_clamp, bI_n0, bI_n1, bI_nar, uI_r, uI_l, uL_r, uL_i, uL_p, uA_r, uA_l, bV_some, bU_some, nar_n0, nar_n1, and_self, and_true, true_and, and_false, false_and, if_true, if_false, eq_self, Bool.false_eq_true, Bool.true_eq_false, not_true_eq_false, not_false_eq_true, ↓reduceIte, nlT, nlF, ntT, ntF, neT, neF, ieT, ieF, decide_true, decide_false, Bool.not_true, Bool.not_false, Bool.and_true, Bool.true_and, Bool.and_false, Bool.false_and, Bool.or_true, Bool.true_or, Bool.or_false, Bool.false_or, e]
    | false =>
      have e1 := m_areAtOdds h hw (a := a) (b := b) (by omega) (by omega)
      have e2 := m_needs h hw (w := w) (a := a) (b := b) (by omega) (by omega) (by omega)
      refine Or.inr ⟨isQ A w a b, ?_, ?_⟩
      · rw [ex_s, ← hI, Bool.false_or]
      · unfold isQ
        cases c1 : (A 5 (12 * a + b) == 1) with
        | false =>
          rw [c1] at e1
          simp (disch := omega) only [s235_0, s235_1, s235_2, s235_3, s235_5, s235_7, s235_10, s235_11, s235_15, s235_16, s235_19, s235_20, s235_23, s235_24, s235_25, s235_27, s235_30, s235_33, s235_34, s235_35, s235_36, s235_38, s235_41, s235_44, s235_45, s235_48, s235_49, s235_50, s235_53, s235_56, s235_59, s235_62, s235_63, q_0, q_1, q_2, q_3, q_4, q_5, q_6, q_7, q_8, q_9, q_10, q_11, q_12, q_13, q_14, q_16, q_20, q_23, q_24, q_32, q_42, q_43, q_45, q_47, q_48, q_50, q_57, q_59, q_60, q_61, q_62, q_63, q_64, q_66, q_91, q_93, q_97, q_99, q_122, q_144, q_255, q_256, q_300, q_380, q_400, q_620, q_999, q_1000, q_4095, q_4096, q_9999, q_65536, q_99999, q_31, nI_add, pk_mul, nE, nL, nT, nM31, nShl, ib_nI, nI_clamp, bI_n0, bI_n1, bI_nar, uI_r, uI_l, uL_r, uL_i, uL_p, uA_r, uA_l, bV_some, bU_some, nar_n0, nar_n1, and_self, and_true, true_and, and_false, false_and, if_true, if_false, eq_self, Bool.false_eq_true, Bool.true_eq_false, not_true_eq_false, not_false_eq_true, ↓reduceIte, nlT, nlF, ntT, ntF, neT, neF, ieT, ieF, decide_true, decide_false, Bool.not_true, Bool.not_false, Bool.and_true, Bool.true_and, Bool.and_false, Bool.false_and, Bool.or_true, Bool.true_or, Bool.or_false, Bool.false_or, e1]
          rfl
        | true =>
          rw [c1] at e1
          cases c2 : ndB A w a b with
          | false =>
            rw [c2] at e2
            simp (disch := omega) only [s235_0, s235_1, s235_2, s235_3, s235_5, s235_7, s235_10, s235_11, s235_15, s235_16, s235_19, s235_20, s235_23, s235_24, s235_25, s235_27, s235_30, s235_33, s235_34, s235_35, s235_36, s235_38, s235_41, s235_44, s235_45, s235_48, s235_49, s235_50, s235_53, s235_56, s235_59, s235_62, s235_63, q_0, q_1, q_2, q_3, q_4, q_5, q_6, q_7, q_8, q_9, q_10, q_11, q_12, q_13, q_14, q_16, q_20, q_23, q_24, q_32, q_42, q_43, q_45, q_47, q_48, q_50, q_57, q_59, q_60, q_61, q_62, q_63, q_64, q_66, q_91, q_93, q_97, q_99, q_122, q_144, q_255, q_256, q_300, q_380, q_400, q_620, q_999, q_1000, q_4095, q_4096, q_9999, q_65536, q_99999, q_31, nI_add, pk_mul, nE, nL, nT, nM31, nShl, ib_nI, nI_clamp, bI_n0, bI_n1, bI_nar, uI_r, uI_l, uL_r, uL_i, uL_p, uA_r, uA_l, bV_some, bU_some, nar_n0, nar_n1, and_self, and_true, true_and, and_false, false_and, if_true, if_false, eq_self, Bool.false_eq_true, Bool.true_eq_false, not_true_eq_false, not_false_eq_true, ↓reduceIte, nlT, nlF, ntT, ntF, neT, neF, ieT, ieF, decide_true, decide_false, Bool.not_true, Bool.not_false, Bool.and_true, Bool.true_and, Bool.and_false, Bool.false_and, Bool.or_true, Bool.true_or, Bool.or_false, Bool.false_or, e1, e2]
            rfl
          | true =>
            rw [c2] at e2
            simp (disch := omega) only [s235_0, s235_1, s235_2, s235_3, s235_5, s235_7, s235_10, s235_11, s235_15, s235_16, s235_19, s235_20, s235_23, s235_24, s235_25, s235_27, s235_30, s235_33, s235_34, s235_35, s235_36, s235_38, s235_41, s235_44, s235_45, s235_48, s235_49, s235_50, s235_53, s235_56, s235_59, s235_62, s235_63, q_0, q_1, q_2, q_3, q_4, q_5, q_6, q_7, q_8, q_9, q_10, q_11, q_12, q_13, q_14, q_16, q_20, q_23, q_24, q_32, q_42, q_43, q_45, q_47, q_48, q_50, q_57, q_59, q_60, q_61, q_62, q_63, q_64, q_66, q_91, q_93, q_97, q_99, q_122, q_144, q_255, q_256, q_300, q_380, q_400, q_620, q_999, q_1000, q_4095, q_4096, q_9999, q_65536, q_99999, q_31, nI_add, pk_mul, nE, nL, nT, nM31, nShl, ib_nI, nI_clamp, bI_n0, bI_n1, bI_nar, uI_r, uI_l, uL_r, uL_i, uL_p, uA_r, uA_l, bV_some, bU_some, nar_n0, nar_n1, and_self, and_true, true_and, and_false, false_and, if_true, if_false, eq_self, Bool.false_eq_true, Bool.true_eq_false, not_true_eq_false, not_false_eq_true, ↓reduceIte, nlT, nlF, ntT, ntF, neT, neF, ieT, ieF, decide_true, decide_false, Bool.not_true, Bool.not_false, Bool.and_true, Bool.true_and, Bool.and_false, Bool.false_and, Bool.or_true, Bool.true_or, Bool.or_false, Bool.false_or, e1, e2]
            rfl
  · intro s hI
    show ∃ x, run 235 0 13 _ _ _ = _
    rw [s235_13, hI]
    refine ⟨vI (nI a), ?_⟩
    simp (disch := omega) only [s235_0, s235_1, s235_2, s235_3, s235_5, s235_7, s235_10, s235_11, s235_15, s235_16, s235_19, s235_20, s235_23, s235_24, s235_25, s235_27, s235_30, s235_33, s235_34, s235_35, s235_36, s235_38, s235_41, s235_44, s235_45, s235_48, s235_49, s235_50, s235_53, s235_56, s235_59, s235_62, s235_63, q_0, q_1, q_2, q_3, q_4, q_5, q_6, q_7, q_8, q_9, q_10, q_11, q_12, q_13, q_14, q_16, q_20, q_23, q_24, q_32, q_42, q_43, q_45, q_47, q_48, q_50, q_57, q_59, q_60, q_61, q_62, q_63, q_64, q_66, q_91, q_93, q_97, q_99, q_122, q_144, q_255, q_256, q_300, q_380, q_400, q_620, q_999, q_1000, q_4095, q_4096, q_9999, q_65536, q_99999, q_31, nI_add, pk_mul, nE, nL, nT, nM31, nShl, ib_nI, nI_clamp, bI_n0, bI_n1, bI_nar, uI_r, uI_l, uL_r, uL_i, uL_p, uA_r, uA_l, bV_some, bU_some, nar_n0, nar_n1, and_self, and_true, true_and, and_false, false_and, if_true, if_false, eq_self, Bool.false_eq_true, Bool.true_eq_false, not_true_eq_false, not_false_eq_true, ↓reduceIte, nlT, nlF, ntT, ntF, neT, neF, ieT, ieF, decide_true, decide_false, Bool.not_true, Bool.not_false, Bool.and_true, Bool.true_and, Bool.and_false, Bool.false_and, Bool.or_true, Bool.true_or, Bool.or_false, Bool.false_or]
theorem m_isSt {S : Sto} {A : Tn} (h : RepM S A) (hw : WF A) {w : Nat} (hv : w < 12) : call 235 0 [vR 50 0, vI (nI w)] S = some (some (vI (bI (isB A w))), S) := by
  show run 235 0 0 [vR 50 0, vI (nI w), vU, vU, vU] [] S = _
  simp only [s235_0, s235_1, s235_2, s235_3]
  refine upS (σ := av) (I := fun _ _ => True) (F := fun a s => run 235 0 4 [vR 50 0, vI (nI w), vI (bI (ex (fun a => ex (isQ A w a) a) a)), vI (nI a), s] [] S) (Q := fun z => z = some (some (vI (bI (isB A w))), S)) (N := 12) ?_ ?_ 0 vU (by omega) trivial
  · intro a s ha _
    refine Or.inr ?_
    show ∃ s', _ ∧ run 235 0 4 _ _ _ = run 235 0 4 _ _ _
    rw [s235_4, ex_s]
    cases c : ex (fun a => ex (isQ A w a) a) a with
    | true =>
      have z : run 235 0 13 [vR 50 0, vI (nI w), vI (bI true), vI (nI a), vI (nI 0)] [] S = run 235 0 4 [vR 50 0, vI (nI w), vI (bI true), vI (nI (a + 1)), vI (nI 0)] [] S := by
        rw [s235_13]
        by_cases c2 : 0 < a
        · simp (disch := omega) only [s235_0, s235_1, s235_2, s235_3, s235_5, s235_7, s235_10, s235_11, s235_15, s235_16, s235_19, s235_20, s235_23, s235_24, s235_25, s235_27, s235_30, s235_33, s235_34, s235_35, s235_36, s235_38, s235_41, s235_44, s235_45, s235_48, s235_49, s235_50, s235_53, s235_56, s235_59, s235_62, s235_63, q_0, q_1, q_2, q_3, q_4, q_5, q_6, q_7, q_8, q_9, q_10, q_11, q_12, q_13, q_14, q_16, q_20, q_23, q_24, q_32, q_42, q_43, q_45, q_47, q_48, q_50, q_57, q_59, q_60, q_61, q_62, q_63, q_64, q_66, q_91, q_93, q_97, q_99, q_122, q_144, q_255, q_256, q_300, q_380, q_400, q_620, q_999, q_1000, q_4095, q_4096, q_9999, q_65536, q_99999, q_31, nI_add, pk_mul, nE, nL, nT, nM31, nShl, ib_nI, nI_clamp, bI_n0, bI_n1, bI_nar, uI_r, uI_l, uL_r, uL_i, uL_p, uA_r, uA_l, bV_some, bU_some, nar_n0, nar_n1, and_self, and_true, true_and, and_false, false_and, if_true, if_false, eq_self, Bool.false_eq_true, Bool.true_eq_false, not_true_eq_false, not_false_eq_true, ↓reduceIte, nlT, nlF, ntT, ntF, neT, neF, ieT, ieF, decide_true, decide_false, Bool.not_true, Bool.not_false, Bool.and_true, Bool.true_and, Bool.and_false, Bool.false_and, Bool.or_true, Bool.true_or, Bool.or_false, Bool.false_or]
        · simp (disch := omega) only [s235_0, s235_1, s235_2, s235_3, s235_5, s235_7, s235_10, s235_11, s235_15, s235_16, s235_19, s235_20, s235_23, s235_24, s235_25, s235_27, s235_30, s235_33, s235_34, s235_35, s235_36, s235_38, s235_41, s235_44, s235_45, s235_48, s235_49, s235_50, s235_53, s235_56, s235_59, s235_62, s235_63, q_0, q_1, q_2, q_3, q_4, q_5, q_6, q_7, q_8, q_9, q_10, q_11, q_12, q_13, q_14, q_16, q_20, q_23, q_24, q_32, q_42, q_43, q_45, q_47, q_48, q_50, q_57, q_59, q_60, q_61, q_62, q_63, q_64, q_66, q_91, q_93, q_97, q_99, q_122, q_144, q_255, q_256, q_300, q_380, q_400, q_620, q_999, q_1000, q_4095, q_4096, q_9999, q_65536, q_99999, q_31, nI_add, pk_mul, nE, nL, nT, nM31, nShl, ib_nI, nI_clamp, bI_n0, bI_n1, bI_nar, uI_r, uI_l, uL_r, uL_i, uL_p, uA_r, uA_l, bV_some, bU_some, nar_n0, nar_n1, and_self, and_true, true_and, and_false, false_and, if_true, if_false, eq_self, Bool.false_eq_true, Bool.true_eq_false, not_true_eq_false, not_false_eq_true, ↓reduceIte, nlT, nlF, ntT, ntF, neT, neF, ieT, ieF, decide_true, decide_false, Bool.not_true, Bool.not_false, Bool.and_true, Bool.true_and, Bool.and_false, Bool.false_and, Bool.or_true, Bool.true_or, Bool.or_false, Bool.false_or]
      refine ⟨vI (nI 0), trivial, ?_⟩
      simp (disch := omega) only [s235_0, s235_1, s235_2, s235_3, s235_5, s235_7, s235_10, s235_11, s235_15, s235_16, s235_19, s235_20, s235_23, s235_24, s235_25, s235_27, s235_30, s235_33, s235_34, s235_35, s235_36, s235_38, s235_41, s235_44, s235_45, s235_48, s235_49, s235_50, s235_53, s235_56, s235_59, s235_62, s235_63, q_0, q_1, q_2, q_3, q_4, q_5, q_6, q_7, q_8, q_9, q_10, q_11, q_12, q_13, q_14, q_16, q_20, q_23, q_24, q_32, q_42, q_43, q_45, q_47, q_48, q_50, q_57, q_59, q_60, q_61, q_62, q_63, q_64, q_66, q_91, q_93, q_97, q_99, q_122, q_144, q_255, q_256, q_300, q_380, q_400, q_620, q_999, q_1000, q_4095, q_4096, q_9999, q_65536, q_99999, q_31, nI_add, pk_mul, nE, nL, nT, nM31, nShl, ib_nI, nI_clamp, bI_n0, bI_n1, bI_nar, uI_r, uI_l, uL_r, uL_i, uL_p, uA_r, uA_l, bV_some, bU_some, nar_n0, nar_n1, and_self, and_true, true_and, and_false, false_and, if_true, if_false, eq_self, Bool.false_eq_true, Bool.true_eq_false, not_true_eq_false, not_false_eq_true, ↓reduceIte, nlT, nlF, ntT, ntF, neT, neF, ieT, ieF, decide_true, decide_false, Bool.not_true, Bool.not_false, Bool.and_true, Bool.true_and, Bool.and_false, Bool.false_and, Bool.or_true, Bool.true_or, Bool.or_false, Bool.false_or]
      exact z
    | false =>
      obtain ⟨x, hx⟩ := m_isStIn h hw (w := w) (a := a) hv ha
      refine ⟨x, trivial, ?_⟩
      simp (disch := omega) only [s235_0, s235_1, s235_2, s235_3, s235_5, s235_7, s235_10, s235_11, s235_15, s235_16, s235_19, s235_20, s235_23, s235_24, s235_25, s235_27, s235_30, s235_33, s235_34, s235_35, s235_36, s235_38, s235_41, s235_44, s235_45, s235_48, s235_49, s235_50, s235_53, s235_56, s235_59, s235_62, s235_63, q_0, q_1, q_2, q_3, q_4, q_5, q_6, q_7, q_8, q_9, q_10, q_11, q_12, q_13, q_14, q_16, q_20, q_23, q_24, q_32, q_42, q_43, q_45, q_47, q_48, q_50, q_57, q_59, q_60, q_61, q_62, q_63, q_64, q_66, q_91, q_93, q_97, q_99, q_122, q_144, q_255, q_256, q_300, q_380, q_400, q_620, q_999, q_1000, q_4095, q_4096, q_9999, q_65536, q_99999, q_31, nI_add, pk_mul, nE, nL, nT, nM31, nShl, ib_nI, nI_clamp, bI_n0, bI_n1, bI_nar, uI_r, uI_l, uL_r, uL_i, uL_p, uA_r, uA_l, bV_some, bU_some, nar_n0, nar_n1, and_self, and_true, true_and, and_false, false_and, if_true, if_false, eq_self, Bool.false_eq_true, Bool.true_eq_false, not_true_eq_false, not_false_eq_true, ↓reduceIte, nlT, nlF, ntT, ntF, neT, neF, ieT, ieF, decide_true, decide_false, Bool.not_true, Bool.not_false, Bool.and_true, Bool.true_and, Bool.and_false, Bool.false_and, Bool.or_true, Bool.true_or, Bool.or_false, Bool.false_or]
      exact hx
  · intro s _
    show run 235 0 4 _ _ _ = _
    rw [s235_4]
    simp (disch := omega) only [s235_0, s235_1, s235_2, s235_3, s235_5, s235_7, s235_10, s235_11, s235_15, s235_16, s235_19, s235_20, s235_23, s235_24, s235_25, s235_27, s235_30, s235_33, s235_34, s235_35, s235_36, s235_38, s235_41, s235_44, s235_45, s235_48, s235_49, s235_50, s235_53, s235_56, s235_59, s235_62, s235_63, q_0, q_1, q_2, q_3, q_4, q_5, q_6, q_7, q_8, q_9, q_10, q_11, q_12, q_13, q_14, q_16, q_20, q_23, q_24, q_32, q_42, q_43, q_45, q_47, q_48, q_50, q_57, q_59, q_60, q_61, q_62, q_63, q_64, q_66, q_91, q_93, q_97, q_99, q_122, q_144, q_255, q_256, q_300, q_380, q_400, q_620, q_999, q_1000, q_4095, q_4096, q_9999, q_65536, q_99999, q_31, nI_add, pk_mul, nE, nL, nT, nM31, nShl, ib_nI, nI_clamp, bI_n0, bI_n1, bI_nar, uI_r, uI_l, uL_r, uL_i, uL_p, uA_r, uA_l, bV_some, bU_some, nar_n0, nar_n1, and_self, and_true, true_and, and_false, false_and, if_true, if_false, eq_self, Bool.false_eq_true, Bool.true_eq_false, not_true_eq_false, not_false_eq_true, ↓reduceIte, nlT, nlF, ntT, ntF, neT, neF, ieT, ieF, decide_true, decide_false, Bool.not_true, Bool.not_false, Bool.and_true, Bool.true_and, Bool.and_false, Bool.false_and, Bool.or_true, Bool.true_or, Bool.or_false, Bool.false_or]
    rfl
theorem m_stopped {S : Sto} {A : Tn} (h : RepM S A) (hw : WF A) : call 234 0 [vR 50 0] S = some (some (vI (nI (ct (istW A) (A 0 2)))), S) := by
  have hWk := hw.wk
  show run 234 0 0 [vR 50 0, vU, vU] [] S = _
  simp only [s234_0, s234_1, s234_2, s234_3]
  refine up_ (F := fun i => run 234 0 4 [vR 50 0, vI (nI (ct (istW A) i)), vI (nI i)] [] S) (N := A 0 2) ?_ ?_ 0 (by omega)
  · intro i hi
    have hd := hw.dn (w := i) (by omega)
    have e1 := m_isSt h hw (w := i) (by omega)
    show run 234 0 4 _ _ _ = run 234 0 4 _ _ _
    rw [s234_4, ct_ss]
    by_cases c1 : A 14 i = 0
    · cases c2 : isB A i with
      | false =>
        have e : istW A i = false := by simp [istW, c2]
        rw [c2] at e1
        simp (disch := omega) only [s234_0, s234_1, s234_2, s234_3, s234_5, s234_6, s234_9, s234_10, s234_11, s234_14, s234_15, s234_16, s234_19, s234_20, s234_21, s234_24, s234_25, s234_26, s234_29, s234_32, s234_33, s234_36, s234_37, s234_38, s234_39, s234_42, s234_45, s234_46, q_0, q_1, q_2, q_3, q_4, q_5, q_6, q_7, q_8, q_9, q_10, q_11, q_12, q_13, q_14, q_16, q_20, q_23, q_24, q_32, q_42, q_43, q_45, q_47, q_48, q_50, q_57, q_59, q_60, q_61, q_62, q_63, q_64, q_66, q_91, q_93, q_97, q_99, q_122, q_144, q_255, q_256, q_300, q_380, q_400, q_620, q_999, q_1000, q_4095, q_4096, q_9999, q_65536, q_99999, q_31, nI_add, pk_mul, nE, nL, nT, nM31, nShl, ib_nI, nI_clamp, bI_n0, bI_n1, bI_nar, uI_r, uI_l, uL_r, uL_i, uL_p, uA_r, uA_l, bV_some, bU_some, nar_n0, nar_n1, and_self, and_true, true_and, and_false, false_and, if_true, if_false, eq_self, Bool.false_eq_true, Bool.true_eq_false, not_true_eq_false, not_false_eq_true, ↓reduceIte, nlT, nlF, ntT, ntF, neT, neF, ieT, ieF, decide_true, decide_false, Bool.not_true, Bool.not_false, Bool.and_true, Bool.true_and, Bool.and_false, Bool.false_and, Bool.or_true, Bool.true_or, Bool.or_false, Bool.false_or, h.sc, h.dn, c1, e1, e]
      | true =>
        have e : istW A i = true := by simp [istW, c2, c1]
        rw [c2] at e1
        simp (disch := omega) only [s234_0, s234_1, s234_2, s234_3, s234_5, s234_6, s234_9, s234_10, s234_11, s234_14, s234_15, s234_16, s234_19, s234_20, s234_21, s234_24, s234_25, s234_26, s234_29, s234_32, s234_33, s234_36, s234_37, s234_38, s234_39, s234_42, s234_45, s234_46, q_0, q_1, q_2, q_3, q_4, q_5, q_6, q_7, q_8, q_9, q_10, q_11, q_12, q_13, q_14, q_16, q_20, q_23, q_24, q_32, q_42, q_43, q_45, q_47, q_48, q_50, q_57, q_59, q_60, q_61, q_62, q_63, q_64, q_66, q_91, q_93, q_97, q_99, q_122, q_144, q_255, q_256, q_300, q_380, q_400, q_620, q_999, q_1000, q_4095, q_4096, q_9999, q_65536, q_99999, q_31, nI_add, pk_mul, nE, nL, nT, nM31, nShl, ib_nI, nI_clamp, bI_n0, bI_n1, bI_nar, uI_r, uI_l, uL_r, uL_i, uL_p, uA_r, uA_l, bV_some, bU_some, nar_n0, nar_n1, and_self, and_true, true_and, and_false, false_and, if_true, if_false, eq_self, Bool.false_eq_true, Bool.true_eq_false, not_true_eq_false, not_false_eq_true, ↓reduceIte, nlT, nlF, ntT, ntF, neT, neF, ieT, ieF, decide_true, decide_false, Bool.not_true, Bool.not_false, Bool.and_true, Bool.true_and, Bool.and_false, Bool.false_and, Bool.or_true, Bool.true_or, Bool.or_false, Bool.false_or, h.sc, h.dn, c1, e1, e]
    · have e : istW A i = false := by simp [istW, c1]
      simp (disch := omega) only [s234_0, s234_1, s234_2, s234_3, s234_5, s234_6, s234_9, s234_10, s234_11, s234_14, s234_15, s234_16, s234_19, s234_20, s234_21, s234_24, s234_25, s234_26, s234_29, s234_32, s234_33, s234_36, s234_37, s234_38, s234_39, s234_42, s234_45, s234_46, q_0, q_1, q_2, q_3, q_4, q_5, q_6, q_7, q_8, q_9, q_10, q_11, q_12, q_13, q_14, q_16, q_20, q_23, q_24, q_32, q_42, q_43, q_45, q_47, q_48, q_50, q_57, q_59, q_60, q_61, q_62, q_63, q_64, q_66, q_91, q_93, q_97, q_99, q_122, q_144, q_255, q_256, q_300, q_380, q_400, q_620, q_999, q_1000, q_4095, q_4096, q_9999, q_65536, q_99999, q_31, nI_add, pk_mul, nE, nL, nT, nM31, nShl, ib_nI, nI_clamp, bI_n0, bI_n1, bI_nar, uI_r, uI_l, uL_r, uL_i, uL_p, uA_r, uA_l, bV_some, bU_some, nar_n0, nar_n1, and_self, and_true, true_and, and_false, false_and, if_true, if_false, eq_self, Bool.false_eq_true, Bool.true_eq_false, not_true_eq_false, not_false_eq_true, ↓reduceIte, nlT, nlF, ntT, ntF, neT, neF, ieT, ieF, decide_true, decide_false, Bool.not_true, Bool.not_false, Bool.and_true, Bool.true_and, Bool.and_false, Bool.false_and, Bool.or_true, Bool.true_or, Bool.or_false, Bool.false_or, h.sc, h.dn, c1, e]
  · show run 234 0 4 _ _ _ = _
    rw [s234_4]
    simp (disch := omega) only [s234_0, s234_1, s234_2, s234_3, s234_5, s234_6, s234_9, s234_10, s234_11, s234_14, s234_15, s234_16, s234_19, s234_20, s234_21, s234_24, s234_25, s234_26, s234_29, s234_32, s234_33, s234_36, s234_37, s234_38, s234_39, s234_42, s234_45, s234_46, q_0, q_1, q_2, q_3, q_4, q_5, q_6, q_7, q_8, q_9, q_10, q_11, q_12, q_13, q_14, q_16, q_20, q_23, q_24, q_32, q_42, q_43, q_45, q_47, q_48, q_50, q_57, q_59, q_60, q_61, q_62, q_63, q_64, q_66, q_91, q_93, q_97, q_99, q_122, q_144, q_255, q_256, q_300, q_380, q_400, q_620, q_999, q_1000, q_4095, q_4096, q_9999, q_65536, q_99999, q_31, nI_add, pk_mul, nE, nL, nT, nM31, nShl, ib_nI, nI_clamp, bI_n0, bI_n1, bI_nar, uI_r, uI_l, uL_r, uL_i, uL_p, uA_r, uA_l, bV_some, bU_some, nar_n0, nar_n1, and_self, and_true, true_and, and_false, false_and, if_true, if_false, eq_self, Bool.false_eq_true, Bool.true_eq_false, not_true_eq_false, not_false_eq_true, ↓reduceIte, nlT, nlF, ntT, ntF, neT, neF, ieT, ieF, decide_true, decide_false, Bool.not_true, Bool.not_false, Bool.and_true, Bool.true_and, Bool.and_false, Bool.false_and, Bool.or_true, Bool.true_or, Bool.or_false, Bool.false_or, h.sc]
theorem br_isB {A : Tn} (hw : WF A) {w : Nat} (hv : w < A 0 2) : isB A w = true ↔ ∃ t, t < A 0 1 ∧ st0 A t (A 7 t) (A 8 t) w = true := by
  have hP := hw.pe
  have hT := hw.th
  have hWk := hw.wk
  have hk := (hw.w hv).1
  unfold isB
  rw [ex_t]
  constructor
  · rintro ⟨a, ha, e⟩
    obtain ⟨b, hb, e⟩ := ex_t.mp e
    unfold isQ at e
    simp only [Bool.and_eq_true, beq_iff_eq] at e
    obtain ⟨e1, e2⟩ := e
    obtain ⟨t, ht, e3⟩ := ex_t.mp e2
    have hs := hw.qs (a := a) (b := b) (by omega) (by omega)
    refine ⟨t, ht, ?_⟩
    unfold ndP owB at e3
    unfold st0
    simp only [Bool.and_eq_true, Bool.or_eq_true, beq_iff_eq] at e3 ⊢
    obtain ⟨e4, e5⟩ := e3
    refine ⟨e4, ?_⟩
    rcases e5 with (⟨o1, o2⟩ | ⟨o1, o2⟩) | ⟨o1, o2⟩
    · have : (A 7 t = a ∧ A 8 t = b) ∨ (A 7 t = b ∧ A 8 t = a) := by omega
      rcases this with ⟨x, y⟩ | ⟨x, y⟩
      · left; rw [x, y]; exact e1
      · left; rw [x, y, ← hs]; exact e1
    · rw [o1]
      rcases o2 with x | x
      · right; left; rw [x, ← hs]; exact e1
      · right; right; rw [x, ← hs]; exact e1
    · rw [o1]
      rcases o2 with x | x
      · right; left; rw [x]; exact e1
      · right; right; rw [x]; exact e1
  · rintro ⟨t, ht, e⟩
    have h1 := hw.t ht
    unfold st0 at e
    simp only [Bool.and_eq_true, Bool.or_eq_true, beq_iff_eq] at e
    obtain ⟨e1, e2⟩ := e
    have key : ∀ x y, x < A 0 0 → y < A 0 0 → A 5 (12 * x + y) = 1 → (∀ a b, (a = x ∧ b = y) ∨ (a = y ∧ b = x) → ndP A w a b t = true) → ∃ k, k < 12 ∧ ex (isQ A w k) k = true := by
      intro x y hx hy hq hn
      have hs := hw.qs (a := x) (b := y) (by omega) (by omega)
      have hne : x ≠ y := by
        intro e
        subst e
        have := hw.qd (a := x) (by omega)
        omega
      by_cases c : y < x
      · refine ⟨x, by omega, ex_t.mpr ⟨y, c, ?_⟩⟩
        unfold isQ
        simp only [Bool.and_eq_true, beq_iff_eq]
        exact ⟨hq, ex_t.mpr ⟨t, ht, hn x y (Or.inl ⟨rfl, rfl⟩)⟩⟩
      · refine ⟨y, by omega, ex_t.mpr ⟨x, by omega, ?_⟩⟩
        unfold isQ
        simp only [Bool.and_eq_true, beq_iff_eq]
        exact ⟨by rw [← hs]; exact hq, ex_t.mpr ⟨t, ht, hn y x (Or.inr ⟨rfl, rfl⟩)⟩⟩
    rcases e2 with e2 | e2 | e2
    · refine key _ _ h1.1 h1.2.1 e2 (fun a b hab => ?_)
      unfold ndP owB
      simp only [Bool.and_eq_true, Bool.or_eq_true, beq_iff_eq]
      refine ⟨e1, Or.inl (Or.inl ?_)⟩
      omega
    · refine key _ _ h1.1 hk e2 (fun a b hab => ?_)
      unfold ndP owB
      simp only [Bool.and_eq_true, Bool.or_eq_true, beq_iff_eq]
      refine ⟨e1, ?_⟩
      omega
    · refine key _ _ h1.2.1 hk e2 (fun a b hab => ?_)
      unfold ndP owB
      simp only [Bool.and_eq_true, Bool.or_eq_true, beq_iff_eq]
      refine ⟨e1, ?_⟩
      omega
theorem br_stopped {A : Tn} (hw : WF A) : pop (stW A 0) = ct (istW A) (A 0 2) := by
  have hWk := hw.wk
  have e : stW A 0 = bN (istW A) (A 0 2) := by
    apply Nat.eq_of_testBit_eq
    intro w
    unfold stW
    rw [orN_bit, bN_bit, Bool.eq_iff_iff]
    simp only [decide_eq_true_eq, Bool.and_eq_true, Nat.zero_testBit, Bool.false_eq_true, if_false]
    unfold stT istW
    simp only [bN_bit, Bool.and_eq_true, decide_eq_true_eq, stP, beq_iff_eq]
    constructor
    · rintro ⟨t, ht, h1, h2, h3⟩
      exact ⟨h1, h3, (br_isB hw h1).mpr ⟨t, ht, h2⟩⟩
    · rintro ⟨h1, h2, h3⟩
      obtain ⟨t, ht, h4⟩ := (br_isB hw h1).mp h3
      exact ⟨t, ht, h1, h4, h2⟩
  rw [e, pop_bN _ (by omega)]
theorem c_stopped {S : Sto} {A : Tn} (h : RepC S 0 A) (hw : WF A) : call 123 0 [vR 0 0] S = some (some (vI (nI (ct (istW A) (A 0 2)))), S) := by
  have e1 := x_stWo h hw (m := 0) (by decide)
  have l := stW_lt hw 0
  have e2 : call 42 0 [vR 36 0, vR 1 0] S = some (some (vI (nI (ct (istW A) (A 0 2)))), S) := by
    show run 42 0 0 [vR 36 0, vR 1 0] [] S = _
    simp (disch := omega) only [s42_0, s42_1, s42_2, s42_5, s42_8, q_0, q_1, q_2, q_3, q_4, q_5, q_6, q_7, q_8, q_9, q_10, q_11, q_12, q_13, q_14, q_16, q_20, q_23, q_24, q_32, q_42, q_43, q_45, q_47, q_48, q_50, q_57, q_59, q_60, q_61, q_62, q_63, q_64, q_66, q_91, q_93, q_97, q_99, q_122, q_144, q_255, q_256, q_300, q_380, q_400, q_620, q_999, q_1000, q_4095, q_4096, q_9999, q_65536, q_99999, q_31, nI_add, pk_mul, nE, nL, nT, nM31, nShl, ib_nI, nI_clamp, bI_n0, bI_n1, bI_nar, uI_r, uI_l, uL_r, uL_i, uL_p, uA_r, uA_l, bV_some, bU_some, nar_n0, nar_n1, and_self, and_true, true_and, and_false, false_and, if_true, if_false, eq_self, Bool.false_eq_true, Bool.true_eq_false, not_true_eq_false, not_false_eq_true, ↓reduceIte, nlT, nlF, ntT, ntF, neT, neF, ieT, ieF, decide_true, decide_false, Bool.not_true, Bool.not_false, Bool.and_true, Bool.true_and, Bool.and_false, Bool.false_and, Bool.or_true, Bool.true_or, Bool.or_false, Bool.false_or, e1, x_bitCount, br_stopped hw]
  show run 123 0 0 [vR 0 0] [] S = _
  simp (disch := omega) only [s123_0, s123_1, s123_4, s123_5, s123_8, s123_11, q_0, q_1, q_2, q_3, q_4, q_5, q_6, q_7, q_8, q_9, q_10, q_11, q_12, q_13, q_14, q_16, q_20, q_23, q_24, q_32, q_42, q_43, q_45, q_47, q_48, q_50, q_57, q_59, q_60, q_61, q_62, q_63, q_64, q_66, q_91, q_93, q_97, q_99, q_122, q_144, q_255, q_256, q_300, q_380, q_400, q_620, q_999, q_1000, q_4095, q_4096, q_9999, q_65536, q_99999, q_31, nI_add, pk_mul, nE, nL, nT, nM31, nShl, ib_nI, nI_clamp, bI_n0, bI_n1, bI_nar, uI_r, uI_l, uL_r, uL_i, uL_p, uA_r, uA_l, bV_some, bU_some, nar_n0, nar_n1, and_self, and_true, true_and, and_false, false_and, if_true, if_false, eq_self, Bool.false_eq_true, Bool.true_eq_false, not_true_eq_false, not_false_eq_true, ↓reduceIte, nlT, nlF, ntT, ntF, neT, neF, ieT, ieF, decide_true, decide_false, Bool.not_true, Bool.not_false, Bool.and_true, Bool.true_and, Bool.and_false, Bool.false_and, Bool.or_true, Bool.true_or, Bool.or_false, Bool.false_or, e2]
