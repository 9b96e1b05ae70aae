/-! what some are worth -/
theorem ofI_n {n : Nat} (h : n < 2 ^ 31) : Int64.ofInt (n : Int) = (nI n).toInt64 := by
  apply Int64.toInt_inj.mp
  rw [ofI_to (by omega) (by omega), toI64 h]
theorem ofI_32 {x : Int} (h0 : 0 ≤ x) (h1 : x < 2 ^ 31) : (Int64.ofInt x).toInt32 = nI x.toNat := by
  obtain ⟨n, rfl⟩ : ∃ n : Nat, x = n := ⟨x.toNat, by omega⟩
  rw [ofI_n (by omega), Int32.toInt32_toInt64, Int.toNat_natCast]
def crc (A : Tn) (w : Nat) : Nat := 2 ^ A 10 w ||| orN (fun i => if (A 11 w).testBit (i / 2) = true then 2 ^ ow A i else 0) (2 * A 0 1)
theorem crc_lt {A : Tn} (hw : WF A) {w : Nat} (hv : w < 12) : crc A w < 2 ^ 12 := by
  have hT := hw.th
  refine Nat.or_lt_two_pow (Nat.pow_lt_pow_right (by decide) (hw.W hv).1) (orN_lt (fun k hk => ?_))
  show (if (A 11 w).testBit (k / 2) = true then 2 ^ ow A k else 0) < 2 ^ 12
  split
  · exact Nat.pow_lt_pow_right (by decide) (hw.ow12 (by omega))
  · decide
def GaI (S : Sto) (A : Tn) (n : Nat) : Prop := ∀ w, w < n → S.2.1 35 0 w = Int64.ofInt (wv A w) ∧ S.1 34 0 w = nI (crc A w)
theorem x_gather {S : Sto} {q : Nat} {A : Tn} (h : RepC S q A) (hw : WF A) : ∃ S', call 35 0 [vR 30 0, vR 1 q] S = some (none, S') ∧ Fr (pL [31, 34, 35]) S S' ∧ ClI S' A (A 0 2) ∧ GaI S' A (A 0 2) := by
  have hWk := hw.wk
  have hT := hw.th
  obtain ⟨S0, a1, a2, a3⟩ := x_findCl h hw
  show ∃ S', run 35 0 0 [vR 30 0, vR 1 q, vU, vU] [] S = _ ∧ _
  simp (disch := omega) only [s35_0, s35_1, s35_2, s35_5, s35_6, s35_8, s35_9, s35_12, s35_15, s35_16, s35_19, s35_20, s35_21, s35_24, s35_25, s35_26, s35_27, s35_28, s35_29, s35_32, s35_33, s35_34, s35_35, s35_38, s35_39, s35_40, s35_41, s35_42, s35_43, s35_45, s35_46, s35_47, s35_50, s35_51, s35_54, s35_55, s35_58, s35_59, s35_60, s35_61, s35_62, s35_63, s35_66, s35_69, s35_70, s35_73, s35_74, s35_75, s35_76, s35_77, s35_78, s35_81, s35_82, s35_83, s35_84, s35_85, s35_86, s35_89, s35_92, s35_95, s35_98, q_0, q_1, q_2, q_3, q_4, q_5, q_6, q_7, q_8, q_9, q_10, q_11, q_12, q_13, q_14, q_16, q_20, q_23, q_24, q_32, q_42, q_43, q_45, q_47, q_48, q_50, q_57, q_59, q_60, q_61, q_62, q_63, q_64, q_66, q_91, q_93, q_97, q_99, q_122, q_144, q_255, q_256, q_300, q_380, q_400, q_620, q_999, q_1000, q_4095, q_4096, q_9999, q_65536, q_99999, q_31, nI_add, pk_mul, nE, nL, nT, nM31, nShl, ib_nI, nI_clamp, bI_n0, bI_n1, bI_nar, uI_r, uI_l, uL_r, uL_i, uL_p, uA_r, uA_l, bV_some, bU_some, nar_n0, nar_n1, and_self, and_true, true_and, and_false, false_and, if_true, if_false, eq_self, Bool.false_eq_true, Bool.true_eq_false, not_true_eq_false, not_false_eq_true, ↓reduceIte, nlT, nlF, ntT, ntF, neT, neF, ieT, ieF, decide_true, decide_false, Bool.not_true, Bool.not_false, Bool.and_true, Bool.true_and, Bool.and_false, Bool.false_and, Bool.or_true, Bool.true_or, Bool.or_false, Bool.false_or, a1]
  refine upS (σ := Sto × av) (I := fun w s => Fr (pL [31, 34, 35]) S s.1 ∧ ClI s.1 A (A 0 2) ∧ GaI s.1 A w) (F := fun w s => run 35 0 7 [vR 30 0, vR 1 q, vI (nI w), s.2] [] s.1) (Q := fun z => ∃ S', z = some (none, S') ∧ Fr (pL [31, 34, 35]) S S' ∧ ClI S' A (A 0 2) ∧ GaI S' A (A 0 2)) (N := A 0 2) ?_ ?_ 0 (S0, vU) (by omega) ⟨a2.pl (by simp), a3, fun w hw => by omega⟩
  · intro w s hlt hI
    obtain ⟨S1, x⟩ := s
    obtain ⟨i1, i2, i3⟩ := hI
    simp only at i1 i2 i3
    have h1 := h.pl i1 (by decide)
    have hW := hw.W (w := w) (by omega)
    have ev : Int64.ofInt (wv A w) = (nI (A 12 w)).toInt64 := ofI_n (by omega)
    have inner : ∃ S2, run 35 0 44 [vR 30 0, vR 1 q, vI (nI w), vI (nI 0)] [] (uI (uL S1 35 0 w (nI (A 12 w)).toInt64) 34 0 w (nI (2 ^ A 10 w))) = run 35 0 7 [vR 30 0, vR 1 q, vI (nI (w + 1)), vI (nI (2 * A 0 1))] [] S2 ∧ Fr (pL [31, 34, 35]) S S2 ∧ ClI S2 A (A 0 2) ∧ GaI S2 A (w + 1) := by
      refine upS (σ := Sto) (I := fun i S2 => Fr (pL [31, 34, 35]) S S2 ∧ ClI S2 A (A 0 2) ∧ GaI S2 A w ∧ S2.2.1 35 0 w = Int64.ofInt (wv A w) ∧ S2.1 34 0 w = nI (2 ^ A 10 w ||| orN (fun i => if (A 11 w).testBit (i / 2) = true then 2 ^ ow A i else 0) i)) (F := fun i S2 => run 35 0 44 [vR 30 0, vR 1 q, vI (nI w), vI (nI i)] [] S2) (Q := fun z => ∃ S2, z = run 35 0 7 [vR 30 0, vR 1 q, vI (nI (w + 1)), vI (nI (2 * A 0 1))] [] S2 ∧ Fr (pL [31, 34, 35]) S S2 ∧ ClI S2 A (A 0 2) ∧ GaI S2 A (w + 1)) (N := 2 * A 0 1) ?_ ?_ 0 (uI (uL S1 35 0 w (nI (A 12 w)).toInt64) 34 0 w (nI (2 ^ A 10 w))) (by omega) ⟨(i1.uL rfl).uI rfl, fun v hv => ?_, fun v hv => ?_, ?_, ?_⟩
      · intro i S2 hi hI2
        obtain ⟨j1, j2, j3, j4, j5⟩ := hI2
        have h2 := h.pl j1 (by decide)
        have o1 := hw.ow12 (i := i) (by omega)
        refine Or.inr ?_
        show ∃ s', _ ∧ run 35 0 44 _ _ _ = run 35 0 44 _ _ _
        rw [s35_44]
        cases c : (A 11 w).testBit (i / 2) with
        | false =>
          refine ⟨S2, ⟨j1, j2, j3, j4, by rw [orN_s, c]; simpa using j5⟩, ?_⟩
          simp (disch := omega) only [s35_0, s35_1, s35_2, s35_5, s35_6, s35_8, s35_9, s35_12, s35_15, s35_16, s35_19, s35_20, s35_21, s35_24, s35_25, s35_26, s35_27, s35_28, s35_29, s35_32, s35_33, s35_34, s35_35, s35_38, s35_39, s35_40, s35_41, s35_42, s35_43, s35_45, s35_46, s35_47, s35_50, s35_51, s35_54, s35_55, s35_58, s35_59, s35_60, s35_61, s35_62, s35_63, s35_66, s35_69, s35_70, s35_73, s35_74, s35_75, s35_76, s35_77, s35_78, s35_81, s35_82, s35_83, s35_84, s35_85, s35_86, s35_89, s35_92, s35_95, s35_98, q_0, q_1, q_2, q_3, q_4, q_5, q_6, q_7, q_8, q_9, q_10, q_11, q_12, q_13, q_14, q_16, q_20, q_23, q_24, q_32, q_42, q_43, q_45, q_47, q_48, q_50, q_57, q_59, q_60, q_61, q_62, q_63, q_64, q_66, q_91, q_93, q_97, q_99, q_122, q_144, q_255, q_256, q_300, q_380, q_400, q_620, q_999, q_1000, q_4095, q_4096, q_9999, q_65536, q_99999, q_31, nI_add, pk_mul, nE, nL, nT, nM31, nShl, ib_nI, nI_clamp, bI_n0, bI_n1, bI_nar, uI_r, uI_l, uL_r, uL_i, uL_p, uA_r, uA_l, bV_some, bU_some, nar_n0, nar_n1, and_self, and_true, true_and, and_false, false_and, if_true, if_false, eq_self, Bool.false_eq_true, Bool.true_eq_false, not_true_eq_false, not_false_eq_true, ↓reduceIte, nlT, nlF, ntT, ntF, neT, neF, ieT, ieF, decide_true, decide_false, Bool.not_true, Bool.not_false, Bool.and_true, Bool.true_and, Bool.and_false, Bool.false_and, Bool.or_true, Bool.true_or, Bool.or_false, Bool.false_or, h2.th, h2.ki, nDiv, x_has, c]
        | true =>
          refine ⟨uI S2 34 0 w (nI (2 ^ A 10 w ||| orN (fun i => if (A 11 w).testBit (i / 2) = true then 2 ^ ow A i else 0) i ||| 2 ^ ow A i)), ⟨j1.uI rfl, fun v hv => ?_, fun v hv => ?_, j4, ?_⟩, ?_⟩
          · rw [uI_r, if_neg (by omega)]
            exact j2 v hv
          · rw [uI_r, if_neg (by omega)]
            exact j3 v hv
          · rw [uI_r, if_pos ⟨rfl, rfl, rfl⟩, orN_s, c, if_pos rfl, Nat.or_assoc]
          · simp (disch := omega) only [s35_0, s35_1, s35_2, s35_5, s35_6, s35_8, s35_9, s35_12, s35_15, s35_16, s35_19, s35_20, s35_21, s35_24, s35_25, s35_26, s35_27, s35_28, s35_29, s35_32, s35_33, s35_34, s35_35, s35_38, s35_39, s35_40, s35_41, s35_42, s35_43, s35_45, s35_46, s35_47, s35_50, s35_51, s35_54, s35_55, s35_58, s35_59, s35_60, s35_61, s35_62, s35_63, s35_66, s35_69, s35_70, s35_73, s35_74, s35_75, s35_76, s35_77, s35_78, s35_81, s35_82, s35_83, s35_84, s35_85, s35_86, s35_89, s35_92, s35_95, s35_98, q_0, q_1, q_2, q_3, q_4, q_5, q_6, q_7, q_8, q_9, q_10, q_11, q_12, q_13, q_14, q_16, q_20, q_23, q_24, q_32, q_42, q_43, q_45, q_47, q_48, q_50, q_57, q_59, q_60, q_61, q_62, q_63, q_64, q_66, q_91, q_93, q_97, q_99, q_122, q_144, q_255, q_256, q_300, q_380, q_400, q_620, q_999, q_1000, q_4095, q_4096, q_9999, q_65536, q_99999, q_31, nI_add, pk_mul, nE, nL, nT, nM31, nShl, ib_nI, nI_clamp, bI_n0, bI_n1, bI_nar, uI_r, uI_l, uL_r, uL_i, uL_p, uA_r, uA_l, bV_some, bU_some, nar_n0, nar_n1, and_self, and_true, true_and, and_false, false_and, if_true, if_false, eq_self, Bool.false_eq_true, Bool.true_eq_false, not_true_eq_false, not_false_eq_true, ↓reduceIte, nlT, nlF, ntT, ntF, neT, neF, ieT, ieF, decide_true, decide_false, Bool.not_true, Bool.not_false, Bool.and_true, Bool.true_and, Bool.and_false, Bool.false_and, Bool.or_true, Bool.true_or, Bool.or_false, Bool.false_or, h2.th, h2.ki, h2.own, nDiv, x_has, c, j5, nx_or]
      · intro S2 hI2
        obtain ⟨j1, j2, j3, j4, j5⟩ := hI2
        have h2 := h.pl j1 (by decide)
        refine ⟨S2, ?_, j1, j2, fun v hv => ?_⟩
        · show run 35 0 44 _ _ _ = _
          rw [s35_44]
          simp (disch := omega) only [s35_0, s35_1, s35_2, s35_5, s35_6, s35_8, s35_9, s35_12, s35_15, s35_16, s35_19, s35_20, s35_21, s35_24, s35_25, s35_26, s35_27, s35_28, s35_29, s35_32, s35_33, s35_34, s35_35, s35_38, s35_39, s35_40, s35_41, s35_42, s35_43, s35_45, s35_46, s35_47, s35_50, s35_51, s35_54, s35_55, s35_58, s35_59, s35_60, s35_61, s35_62, s35_63, s35_66, s35_69, s35_70, s35_73, s35_74, s35_75, s35_76, s35_77, s35_78, s35_81, s35_82, s35_83, s35_84, s35_85, s35_86, s35_89, s35_92, s35_95, s35_98, q_0, q_1, q_2, q_3, q_4, q_5, q_6, q_7, q_8, q_9, q_10, q_11, q_12, q_13, q_14, q_16, q_20, q_23, q_24, q_32, q_42, q_43, q_45, q_47, q_48, q_50, q_57, q_59, q_60, q_61, q_62, q_63, q_64, q_66, q_91, q_93, q_97, q_99, q_122, q_144, q_255, q_256, q_300, q_380, q_400, q_620, q_999, q_1000, q_4095, q_4096, q_9999, q_65536, q_99999, q_31, nI_add, pk_mul, nE, nL, nT, nM31, nShl, ib_nI, nI_clamp, bI_n0, bI_n1, bI_nar, uI_r, uI_l, uL_r, uL_i, uL_p, uA_r, uA_l, bV_some, bU_some, nar_n0, nar_n1, and_self, and_true, true_and, and_false, false_and, if_true, if_false, eq_self, Bool.false_eq_true, Bool.true_eq_false, not_true_eq_false, not_false_eq_true, ↓reduceIte, nlT, nlF, ntT, ntF, neT, neF, ieT, ieF, decide_true, decide_false, Bool.not_true, Bool.not_false, Bool.and_true, Bool.true_and, Bool.and_false, Bool.false_and, Bool.or_true, Bool.true_or, Bool.or_false, Bool.false_or, h2.th]
        · by_cases e : v = w
          · rw [e]; exact ⟨j4, j5⟩
          · exact j3 v (by omega)
      · rw [uI_r, if_neg (by omega)]
        exact i2 v hv
      · rw [uI_r, if_neg (by omega), uI_l, uL_r, if_neg (by omega)]
        exact i3 v hv
      · rw [uI_l, uL_r, if_pos ⟨rfl, rfl, rfl⟩, ev]
      · rw [uI_r, if_pos ⟨rfl, rfl, rfl⟩]
        show _ = nI (2 ^ A 10 w ||| 0)
        rw [Nat.or_zero]
    obtain ⟨S2, b1, b2, b3, b4⟩ := inner
    refine Or.inr ⟨(S2, vI (nI (2 * A 0 1))), ⟨b2, b3, b4⟩, ?_⟩
    show run 35 0 7 [vR 30 0, vR 1 q, vI (nI w), x] [] S1 = run 35 0 7 [vR 30 0, vR 1 q, vI (nI (w + 1)), vI (nI (2 * A 0 1))] [] S2
    rw [← b1, s35_7]
    simp (disch := omega) only [s35_0, s35_1, s35_2, s35_5, s35_6, s35_8, s35_9, s35_12, s35_15, s35_16, s35_19, s35_20, s35_21, s35_24, s35_25, s35_26, s35_27, s35_28, s35_29, s35_32, s35_33, s35_34, s35_35, s35_38, s35_39, s35_40, s35_41, s35_42, s35_43, s35_45, s35_46, s35_47, s35_50, s35_51, s35_54, s35_55, s35_58, s35_59, s35_60, s35_61, s35_62, s35_63, s35_66, s35_69, s35_70, s35_73, s35_74, s35_75, s35_76, s35_77, s35_78, s35_81, s35_82, s35_83, s35_84, s35_85, s35_86, s35_89, s35_92, s35_95, s35_98, q_0, q_1, q_2, q_3, q_4, q_5, q_6, q_7, q_8, q_9, q_10, q_11, q_12, q_13, q_14, q_16, q_20, q_23, q_24, q_32, q_42, q_43, q_45, q_47, q_48, q_50, q_57, q_59, q_60, q_61, q_62, q_63, q_64, q_66, q_91, q_93, q_97, q_99, q_122, q_144, q_255, q_256, q_300, q_380, q_400, q_620, q_999, q_1000, q_4095, q_4096, q_9999, q_65536, q_99999, q_31, nI_add, pk_mul, nE, nL, nT, nM31, nShl, ib_nI, nI_clamp, bI_n0, bI_n1, bI_nar, uI_r, uI_l, uL_r, uL_i, uL_p, uA_r, uA_l, bV_some, bU_some, nar_n0, nar_n1, and_self, and_true, true_and, and_false, false_and, if_true, if_false, eq_self, Bool.false_eq_true, Bool.true_eq_false, not_true_eq_false, not_false_eq_true, ↓reduceIte, nlT, nlF, ntT, ntF, neT, neF, ieT, ieF, decide_true, decide_false, Bool.not_true, Bool.not_false, Bool.and_true, Bool.true_and, Bool.and_false, Bool.false_and, Bool.or_true, Bool.true_or, Bool.or_false, Bool.false_or, h1.wk, h1.wo, h1.ak]
  · intro s hI
    obtain ⟨S1, x⟩ := s
    obtain ⟨i1, i2, i3⟩ := hI
    simp only at i1 i2 i3
    have h1 := h.pl i1 (by decide)
    show ∃ S', run 35 0 7 [vR 30 0, vR 1 q, vI (nI (A 0 2)), x] [] S1 = _ ∧ _
    rw [s35_7]
    simp (disch := omega) only [s35_0, s35_1, s35_2, s35_5, s35_6, s35_8, s35_9, s35_12, s35_15, s35_16, s35_19, s35_20, s35_21, s35_24, s35_25, s35_26, s35_27, s35_28, s35_29, s35_32, s35_33, s35_34, s35_35, s35_38, s35_39, s35_40, s35_41, s35_42, s35_43, s35_45, s35_46, s35_47, s35_50, s35_51, s35_54, s35_55, s35_58, s35_59, s35_60, s35_61, s35_62, s35_63, s35_66, s35_69, s35_70, s35_73, s35_74, s35_75, s35_76, s35_77, s35_78, s35_81, s35_82, s35_83, s35_84, s35_85, s35_86, s35_89, s35_92, s35_95, s35_98, q_0, q_1, q_2, q_3, q_4, q_5, q_6, q_7, q_8, q_9, q_10, q_11, q_12, q_13, q_14, q_16, q_20, q_23, q_24, q_32, q_42, q_43, q_45, q_47, q_48, q_50, q_57, q_59, q_60, q_61, q_62, q_63, q_64, q_66, q_91, q_93, q_97, q_99, q_122, q_144, q_255, q_256, q_300, q_380, q_400, q_620, q_999, q_1000, q_4095, q_4096, q_9999, q_65536, q_99999, q_31, nI_add, pk_mul, nE, nL, nT, nM31, nShl, ib_nI, nI_clamp, bI_n0, bI_n1, bI_nar, uI_r, uI_l, uL_r, uL_i, uL_p, uA_r, uA_l, bV_some, bU_some, nar_n0, nar_n1, and_self, and_true, true_and, and_false, false_and, if_true, if_false, eq_self, Bool.false_eq_true, Bool.true_eq_false, not_true_eq_false, not_false_eq_true, ↓reduceIte, nlT, nlF, ntT, ntF, neT, neF, ieT, ieF, decide_true, decide_false, Bool.not_true, Bool.not_false, Bool.and_true, Bool.true_and, Bool.and_false, Bool.false_and, Bool.or_true, Bool.true_or, Bool.or_false, Bool.false_or, h1.wk]
    exact ⟨_, rfl, i1, i2, i3⟩
def opP (A : Tn) (p w : Nat) : Bool := A 14 w == 0 && dif (crc A w) p == 0
def opn (A : Tn) (p : Nat) : Nat := bN (opP A p) (A 0 2)
def gwN (A : Tn) (p : Nat) : Nat := (bwI A (opn A p)).toNat
theorem gwN_p {A : Tn} (hw : WF A) (p : Nat) : (gwN A p : Int) = bwI A (opn A p) ∧ gwN A p ≤ 9999 * 12 := by
  have h := (bw_max hw (s := opn A p) (bN_lt _ _)).2.2
  unfold gwN
  omega
theorem x_wAmong {S : Sto} {q : Nat} {A : Tn} {p : Nat} (h : RepC S q A) (hw : WF A) (hc : ClI S A (A 0 2)) (hg : GaI S A (A 0 2)) : call 36 0 [vR 30 0, vR 1 q, vI (nI p)] S = some (some (vI (nI (gwN A p))), S) := by
  have hWk := hw.wk
  have f1 := donB_lt A
  show run 36 0 0 [vR 30 0, vR 1 q, vI (nI p), vU, vU] [] S = _
  simp only [s36_0, s36_1, s36_2, s36_3]
  refine up_ (F := fun w => run 36 0 5 [vR 30 0, vR 1 q, vI (nI p), vI (nI (bN (opP A p) w)), vI (nI w)] [] S) (N := A 0 2) ?_ ?_ 0 (by omega)
  · intro w hlt
    have hd := hw.dn (w := w) (by omega)
    have r1 := (hg w hlt).2
    have lc := crc_lt hw (w := w) (by omega)
    have ld := dif_lt (crc A w) p
    show run 36 0 5 _ _ _ = run 36 0 5 _ _ _
    rw [s36_5]
    by_cases c1 : A 14 w = 1
    · have c1' : (A 14 w == 1) = true := by simp [c1]
      have e := bN_f (P := opP A p) (i := w) (by simp [opP, c1])
      simp (disch := omega) only [s36_0, s36_1, s36_2, s36_3, s36_7, s36_8, s36_11, s36_14, s36_15, s36_18, s36_20, s36_23, s36_26, s36_27, s36_30, s36_32, s36_33, s36_34, s36_35, s36_36, s36_37, s36_40, s36_41, s36_42, s36_44, s36_45, s36_46, s36_47, s36_50, s36_53, s36_54, s36_55, s36_58, s36_59, s36_62, s36_63, s36_66, s36_67, q_0, q_1, q_2, q_3, q_4, q_5, q_6, q_7, q_8, q_9, q_10, q_11, q_12, q_13, q_14, q_16, q_20, q_23, q_24, q_32, q_42, q_43, q_45, q_47, q_48, q_50, q_57, q_59, q_60, q_61, q_62, q_63, q_64, q_66, q_91, q_93, q_97, q_99, q_122, q_144, q_255, q_256, q_300, q_380, q_400, q_620, q_999, q_1000, q_4095, q_4096, q_9999, q_65536, q_99999, q_31, nI_add, pk_mul, nE, nL, nT, nM31, nShl, ib_nI, nI_clamp, bI_n0, bI_n1, bI_nar, uI_r, uI_l, uL_r, uL_i, uL_p, uA_r, uA_l, bV_some, bU_some, nar_n0, nar_n1, and_self, and_true, true_and, and_false, false_and, if_true, if_false, eq_self, Bool.false_eq_true, Bool.true_eq_false, not_true_eq_false, not_false_eq_true, ↓reduceIte, nlT, nlF, ntT, ntF, neT, neF, ieT, ieF, decide_true, decide_false, Bool.not_true, Bool.not_false, Bool.and_true, Bool.true_and, Bool.and_false, Bool.false_and, Bool.or_true, Bool.true_or, Bool.or_false, Bool.false_or, h.wk, h.dnb, x_has, donB_bit, c1', e]
    · have c1' : (A 14 w == 1) = false := by simp [c1]
      have c0 : A 14 w = 0 := by omega
      by_cases c2 : dif (crc A w) p = 0
      · have e := bN_t (P := opP A p) (i := w) (by simp [opP, c0, c2])
        simp (disch := omega) only [s36_0, s36_1, s36_2, s36_3, s36_7, s36_8, s36_11, s36_14, s36_15, s36_18, s36_20, s36_23, s36_26, s36_27, s36_30, s36_32, s36_33, s36_34, s36_35, s36_36, s36_37, s36_40, s36_41, s36_42, s36_44, s36_45, s36_46, s36_47, s36_50, s36_53, s36_54, s36_55, s36_58, s36_59, s36_62, s36_63, s36_66, s36_67, q_0, q_1, q_2, q_3, q_4, q_5, q_6, q_7, q_8, q_9, q_10, q_11, q_12, q_13, q_14, q_16, q_20, q_23, q_24, q_32, q_42, q_43, q_45, q_47, q_48, q_50, q_57, q_59, q_60, q_61, q_62, q_63, q_64, q_66, q_91, q_93, q_97, q_99, q_122, q_144, q_255, q_256, q_300, q_380, q_400, q_620, q_999, q_1000, q_4095, q_4096, q_9999, q_65536, q_99999, q_31, nI_add, pk_mul, nE, nL, nT, nM31, nShl, ib_nI, nI_clamp, bI_n0, bI_n1, bI_nar, uI_r, uI_l, uL_r, uL_i, uL_p, uA_r, uA_l, bV_some, bU_some, nar_n0, nar_n1, and_self, and_true, true_and, and_false, false_and, if_true, if_false, eq_self, Bool.false_eq_true, Bool.true_eq_false, not_true_eq_false, not_false_eq_true, ↓reduceIte, nlT, nlF, ntT, ntF, neT, neF, ieT, ieF, decide_true, decide_false, Bool.not_true, Bool.not_false, Bool.and_true, Bool.true_and, Bool.and_false, Bool.false_and, Bool.or_true, Bool.true_or, Bool.or_false, Bool.false_or, h.wk, h.dnb, x_has, donB_bit, c1', r1, nI_dif, c2, e, nx_or]
      · have e := bN_f (P := opP A p) (i := w) (by simp [opP, c2])
        simp (disch := omega) only [s36_0, s36_1, s36_2, s36_3, s36_7, s36_8, s36_11, s36_14, s36_15, s36_18, s36_20, s36_23, s36_26, s36_27, s36_30, s36_32, s36_33, s36_34, s36_35, s36_36, s36_37, s36_40, s36_41, s36_42, s36_44, s36_45, s36_46, s36_47, s36_50, s36_53, s36_54, s36_55, s36_58, s36_59, s36_62, s36_63, s36_66, s36_67, q_0, q_1, q_2, q_3, q_4, q_5, q_6, q_7, q_8, q_9, q_10, q_11, q_12, q_13, q_14, q_16, q_20, q_23, q_24, q_32, q_42, q_43, q_45, q_47, q_48, q_50, q_57, q_59, q_60, q_61, q_62, q_63, q_64, q_66, q_91, q_93, q_97, q_99, q_122, q_144, q_255, q_256, q_300, q_380, q_400, q_620, q_999, q_1000, q_4095, q_4096, q_9999, q_65536, q_99999, q_31, nI_add, pk_mul, nE, nL, nT, nM31, nShl, ib_nI, nI_clamp, bI_n0, bI_n1, bI_nar, uI_r, uI_l, uL_r, uL_i, uL_p, uA_r, uA_l, bV_some, bU_some, nar_n0, nar_n1, and_self, and_true, true_and, and_false, false_and, if_true, if_false, eq_self, Bool.false_eq_true, Bool.true_eq_false, not_true_eq_false, not_false_eq_true, ↓reduceIte, nlT, nlF, ntT, ntF, neT, neF, ieT, ieF, decide_true, decide_false, Bool.not_true, Bool.not_false, Bool.and_true, Bool.true_and, Bool.and_false, Bool.false_and, Bool.or_true, Bool.true_or, Bool.or_false, Bool.false_or, h.wk, h.dnb, x_has, donB_bit, c1', r1, nI_dif, c2, e]
  · have hs : opn A p < 2 ^ A 0 2 := bN_lt _ _
    have eb := x_best (S := S) (v := wv A) (C := clS A) (U := opn A p) hWk (fun k _ => by unfold wv; omega) (fun k hk => by
      have := (hw.W (w := k) (by omega)).2.2.1
      unfold wv
      omega) (fun k _ => clS_lt hw k) (fun k hk _ => (hg k hk).1) (fun k hk => hc k hk) 12 (opn A p) 0 16 (fun i h => h) hs (ct_le _ _) (by omega) (by omega)
    have eb' : call 33 16 [vI (nI (bN (opP A p) (A 0 2))), vR 35 0, vR 31 0, vI (nI 0)] S = some (some (vL (Int64.ofInt (bwI A (opn A p)))), S) := eb
    have lb := (bw_max hw hs).2.2
    have e3 := ofI_32 lb.1 (by omega)
    show run 36 0 5 _ _ _ = _
    rw [s36_5]
    simp (disch := omega) only [s36_0, s36_1, s36_2, s36_3, s36_7, s36_8, s36_11, s36_14, s36_15, s36_18, s36_20, s36_23, s36_26, s36_27, s36_30, s36_32, s36_33, s36_34, s36_35, s36_36, s36_37, s36_40, s36_41, s36_42, s36_44, s36_45, s36_46, s36_47, s36_50, s36_53, s36_54, s36_55, s36_58, s36_59, s36_62, s36_63, s36_66, s36_67, q_0, q_1, q_2, q_3, q_4, q_5, q_6, q_7, q_8, q_9, q_10, q_11, q_12, q_13, q_14, q_16, q_20, q_23, q_24, q_32, q_42, q_43, q_45, q_47, q_48, q_50, q_57, q_59, q_60, q_61, q_62, q_63, q_64, q_66, q_91, q_93, q_97, q_99, q_122, q_144, q_255, q_256, q_300, q_380, q_400, q_620, q_999, q_1000, q_4095, q_4096, q_9999, q_65536, q_99999, q_31, nI_add, pk_mul, nE, nL, nT, nM31, nShl, ib_nI, nI_clamp, bI_n0, bI_n1, bI_nar, uI_r, uI_l, uL_r, uL_i, uL_p, uA_r, uA_l, bV_some, bU_some, nar_n0, nar_n1, and_self, and_true, true_and, and_false, false_and, if_true, if_false, eq_self, Bool.false_eq_true, Bool.true_eq_false, not_true_eq_false, not_false_eq_true, ↓reduceIte, nlT, nlF, ntT, ntF, neT, neF, ieT, ieF, decide_true, decide_false, Bool.not_true, Bool.not_false, Bool.and_true, Bool.true_and, Bool.and_false, Bool.false_and, Bool.or_true, Bool.true_or, Bool.or_false, Bool.false_or, h.wk, eb', e3]
    rfl
theorem x_worthFor {S : Sto} {q : Nat} {A : Tn} {p : Nat} (h : RepC S q A) (hw : WF A) : ∃ S', call 34 0 [vR 30 0, vR 1 q, vI (nI p)] S = some (some (vI (nI (gwN A p))), S') ∧ Fr (pL [31, 34, 35]) S S' := by
  obtain ⟨S1, a1, a2, a3, a4⟩ := x_gather h hw
  have e := x_wAmong (p := p) (h.pl a2 (by decide)) hw a3 a4
  show ∃ S', run 34 0 0 [vR 30 0, vR 1 q, vI (nI p)] [] S = _ ∧ _
  simp (disch := omega) only [s34_0, s34_1, s34_2, s34_5, s34_6, s34_7, s34_8, s34_11, q_0, q_1, q_2, q_3, q_4, q_5, q_6, q_7, q_8, q_9, q_10, q_11, q_12, q_13, q_14, q_16, q_20, q_23, q_24, q_32, q_42, q_43, q_45, q_47, q_48, q_50, q_57, q_59, q_60, q_61, q_62, q_63, q_64, q_66, q_91, q_93, q_97, q_99, q_122, q_144, q_255, q_256, q_300, q_380, q_400, q_620, q_999, q_1000, q_4095, q_4096, q_9999, q_65536, q_99999, q_31, nI_add, pk_mul, nE, nL, nT, nM31, nShl, ib_nI, nI_clamp, bI_n0, bI_n1, bI_nar, uI_r, uI_l, uL_r, uL_i, uL_p, uA_r, uA_l, bV_some, bU_some, nar_n0, nar_n1, and_self, and_true, true_and, and_false, false_and, if_true, if_false, eq_self, Bool.false_eq_true, Bool.true_eq_false, not_true_eq_false, not_false_eq_true, ↓reduceIte, nlT, nlF, ntT, ntF, neT, neF, ieT, ieF, decide_true, decide_false, Bool.not_true, Bool.not_false, Bool.and_true, Bool.true_and, Bool.and_false, Bool.false_and, Bool.or_true, Bool.true_or, Bool.or_false, Bool.false_or, a1, e]
  exact ⟨_, rfl, a2⟩
def o_worth (A : Tn) (p : Int32) : Int32 := if stB p (A 0 0) 1 6 = true then nI (gwN A p.toNatClampNeg) else -nI 1
theorem c_worth {S : Sto} {A : Tn} (h : RepC S 0 A) (hw : WF A) (p : Int32) : ∃ S1, call 121 0 [vR 0 0, vI p] S = some (some (vI (o_worth A p)), S1) ∧ FC S S1 ∧ RepC S1 0 A := by
  have hP := hw.pe
  show ∃ S1, run 121 0 0 [vR 0 0, vI p] [] S = _ ∧ _
  unfold o_worth
  cases e1 : stB p (A 0 0) 1 6 with
  | false =>
    simp (disch := omega) only [s121_0, s121_1, s121_2, s121_5, s121_8, s121_9, s121_11, s121_14, s121_17, s121_18, s121_19, s121_20, s121_23, s121_24, s121_27, s121_28, s121_31, q_0, q_1, q_2, q_3, q_4, q_5, q_6, q_7, q_8, q_9, q_10, q_11, q_12, q_13, q_14, q_16, q_20, q_23, q_24, q_32, q_42, q_43, q_45, q_47, q_48, q_50, q_57, q_59, q_60, q_61, q_62, q_63, q_64, q_66, q_91, q_93, q_97, q_99, q_122, q_144, q_255, q_256, q_300, q_380, q_400, q_620, q_999, q_1000, q_4095, q_4096, q_9999, q_65536, q_99999, q_31, nI_add, pk_mul, nE, nL, nT, nM31, nShl, ib_nI, nI_clamp, bI_n0, bI_n1, bI_nar, uI_r, uI_l, uL_r, uL_i, uL_p, uA_r, uA_l, bV_some, bU_some, nar_n0, nar_n1, and_self, and_true, true_and, and_false, false_and, if_true, if_false, eq_self, Bool.false_eq_true, Bool.true_eq_false, not_true_eq_false, not_false_eq_true, ↓reduceIte, nlT, nlF, ntT, ntF, neT, neF, ieT, ieF, decide_true, decide_false, Bool.not_true, Bool.not_false, Bool.and_true, Bool.true_and, Bool.and_false, Bool.false_and, Bool.or_true, Bool.true_or, Bool.or_false, Bool.false_or, h.pe, x_isSet, e1]
    exact ⟨_, rfl, FC.rf, h⟩
  | true =>
    have e1' := e1
    obtain ⟨m, m1, rfl, m2, m3, m4⟩ := stB_t (by omega) e1
    rw [nI_clamp (by omega)]
    obtain ⟨S1, a1, a2⟩ := x_worthFor (p := m) h hw
    simp (disch := omega) only [s121_0, s121_1, s121_2, s121_5, s121_8, s121_9, s121_11, s121_14, s121_17, s121_18, s121_19, s121_20, s121_23, s121_24, s121_27, s121_28, s121_31, q_0, q_1, q_2, q_3, q_4, q_5, q_6, q_7, q_8, q_9, q_10, q_11, q_12, q_13, q_14, q_16, q_20, q_23, q_24, q_32, q_42, q_43, q_45, q_47, q_48, q_50, q_57, q_59, q_60, q_61, q_62, q_63, q_64, q_66, q_91, q_93, q_97, q_99, q_122, q_144, q_255, q_256, q_300, q_380, q_400, q_620, q_999, q_1000, q_4095, q_4096, q_9999, q_65536, q_99999, q_31, nI_add, pk_mul, nE, nL, nT, nM31, nShl, ib_nI, nI_clamp, bI_n0, bI_n1, bI_nar, uI_r, uI_l, uL_r, uL_i, uL_p, uA_r, uA_l, bV_some, bU_some, nar_n0, nar_n1, and_self, and_true, true_and, and_false, false_and, if_true, if_false, eq_self, Bool.false_eq_true, Bool.true_eq_false, not_true_eq_false, not_false_eq_true, ↓reduceIte, nlT, nlF, ntT, ntF, neT, neF, ieT, ieF, decide_true, decide_false, Bool.not_true, Bool.not_false, Bool.and_true, Bool.true_and, Bool.and_false, Bool.false_and, Bool.or_true, Bool.true_or, Bool.or_false, Bool.false_or, h.pe, x_isSet, e1', a1]
    exact ⟨_, rfl, FC.pl a2 (by decide), h.pl a2 (by decide)⟩
theorem sm_next : ∀ {o t X : Nat}, Sub X o → Sub t o → X < t → X ≤ (t - 1) &&& o := by
  intro o
  induction o using Nat.strongRecOn with
  | _ o ih =>
    intro t X hX ht hlt
    have half : ∀ {Y : Nat}, Sub Y o → Sub (Y / 2) (o / 2) ∧ Y % 2 ≤ o % 2 := by
      intro Y hY
      refine ⟨fun i h => ?_, ?_⟩
      · rw [← Nat.testBit_succ] at h ⊢
        exact hY _ h
      · have := hY 0
        rw [Nat.testBit_zero, Nat.testBit_zero] at this
        simp only [decide_eq_true_eq] at this
        omega
    have hX' := half hX
    have ht' := half ht
    by_cases ho : o = 0
    · subst ho
      have e1 : t = 0 := by
        have := ht.lt (n := 0) (by decide)
        omega
      omega
    · have eand : (t - 1) &&& o = 2 * ((t - 1) / 2 &&& o / 2) + ((t - 1) % 2) * (o % 2) := by
        apply Nat.eq_of_testBit_eq
        intro i
        rw [Nat.testBit_and]
        cases i with
        | zero =>
          rw [Nat.testBit_zero, Nat.testBit_zero, Nat.testBit_zero]
          have c1 : (t - 1) % 2 = 0 ∨ (t - 1) % 2 = 1 := by omega
          have c2 : o % 2 = 0 ∨ o % 2 = 1 := by omega
          rcases c1 with c1 | c1 <;> rcases c2 with c2 | c2 <;> rw [c1, c2] <;> simp <;> omega
        | succ i =>
          rw [Nat.testBit_succ, Nat.testBit_succ, Nat.testBit_succ, ← Nat.testBit_and]
          congr 1
          have c1 : (t - 1) % 2 = 0 ∨ (t - 1) % 2 = 1 := by omega
          have c2 : o % 2 = 0 ∨ o % 2 = 1 := by omega
          rcases c1 with c1 | c1 <;> rcases c2 with c2 | c2 <;> rw [c1, c2] <;> omega
      rw [eand]
      by_cases c : t % 2 = 1
      · have e1 : (t - 1) / 2 = t / 2 := by omega
        have e2 : t / 2 &&& o / 2 = t / 2 := by
          apply Nat.eq_of_testBit_eq
          intro i
          rw [Nat.testBit_and]
          cases e : (t / 2).testBit i with
          | false => rfl
          | true => rw [ht'.1 i e]; rfl
        rw [e1, e2]
        omega
      · have e1 : (t - 1) / 2 = t / 2 - 1 := by omega
        have e2 : (t - 1) % 2 = 1 := by omega
        have := ih (o / 2) (by omega) hX'.1 ht'.1 (by omega)
        rw [e1, e2]
        omega
def myP (A : Tn) (p w t : Nat) : Bool := (A 11 w).testBit t && !(p.testBit (A 7 t) && p.testBit (A 8 t))
theorem op_my {A : Tn} (hw : WF A) {p w : Nat} (hv : w < A 0 2) : opP A p w = ((A 14 w == 0 && p.testBit (A 10 w)) && !ex (myP A p w) (A 0 1)) := by
  have hWk := hw.wk
  have hT := hw.th
  unfold opP
  rw [Bool.and_assoc]
  congr 1
  rw [Bool.eq_iff_iff, beq_iff_eq, dif_0 (Nat.lt_of_lt_of_le (crc_lt hw (by omega)) (by decide)), Bool.and_eq_true, Bool.not_eq_true']
  have hb : ∀ i, (crc A w).testBit i = true ↔ i = A 10 w ∨ ∃ k, k < 2 * A 0 1 ∧ (A 11 w).testBit (k / 2) = true ∧ i = ow A k := by
    intro i
    unfold crc
    rw [Nat.testBit_or, Bool.or_eq_true, Nat.testBit_two_pow, orN_bit]
    simp only [decide_eq_true_eq]
    constructor
    · rintro (h | ⟨k, h1, h2⟩)
      · exact Or.inl h.symm
      · cases c : (A 11 w).testBit (k / 2) with
        | false => rw [c] at h2; simp at h2
        | true =>
          rw [c, if_pos rfl, Nat.testBit_two_pow] at h2
          simp only [decide_eq_true_eq] at h2
          exact Or.inr ⟨k, h1, c, h2.symm⟩
    · rintro (h | ⟨k, h1, h2, h3⟩)
      · exact Or.inl h.symm
      · refine Or.inr ⟨k, h1, ?_⟩
        rw [h2, if_pos rfl, Nat.testBit_two_pow, h3]
        simp
  constructor
  · intro h
    refine ⟨h _ ((hb _).mpr (Or.inl rfl)), ?_⟩
    cases c : ex (myP A p w) (A 0 1) with
    | false => rfl
    | true =>
      obtain ⟨t, ht, e⟩ := ex_t.mp c
      unfold myP at e
      simp only [Bool.and_eq_true, Bool.not_eq_true'] at e
      have h7 := h (A 7 t) ((hb _).mpr (Or.inr ⟨2 * t, by omega, by rw [show 2 * t / 2 = t by omega]; exact e.1, (ow_0 A t).symm⟩))
      have h8 := h (A 8 t) ((hb _).mpr (Or.inr ⟨2 * t + 1, by omega, by rw [show (2 * t + 1) / 2 = t by omega]; exact e.1, (ow_1 A t).symm⟩))
      rw [h7, h8] at e
      simp at e
  · rintro ⟨h1, h2⟩ i hi
    rcases (hb i).mp hi with e | ⟨k, k1, k2, k3⟩
    · rw [e]; exact h1
    · have hn : (p.testBit (A 7 (k / 2)) && p.testBit (A 8 (k / 2))) = true := by
        cases c : (p.testBit (A 7 (k / 2)) && p.testBit (A 8 (k / 2))) with
        | true => rfl
        | false =>
          have := ex_mono (P := myP A p w) (show k / 2 < A 0 1 by omega) (by unfold myP; rw [k2, c]; rfl)
          rw [h2] at this
          cases this
      simp only [Bool.and_eq_true] at hn
      rw [k3]
      by_cases e : k % 2 = 0
      · rw [show k = 2 * (k / 2) by omega, ow_0]; exact hn.1
      · rw [show k = 2 * (k / 2) + 1 by omega, ow_1]; exact hn.2
theorem m_greatest {S : Sto} {A : Tn} {p : Nat} (h : RepM S A) (hw : WF A) (ha : ApI S A (2 ^ A 0 2)) (hp : p < 2 ^ 31) : call 230 0 [vR 50 0, vI (nI p)] S = some (some (vI (nI (gwN A p))), S) := by
  have hWk := hw.wk
  have hT := hw.th
  have hM12 : 2 ^ A 0 2 ≤ 2 ^ 12 := Nat.pow_le_pow_right (by decide) hWk
  have hs : opn A p < 2 ^ A 0 2 := bN_lt _ _
  have L2 : ∀ x5, run 230 0 143 [vR 50 0, vI (nI p), vI (nI (opn A p)), vI (nI 0), vI (nI (opn A p)), x5] [] S = some (some (vI (nI (gwN A p))), S) := by
    intro x5
    refine dnS (σ := (Nat × Nat) × av) (I := fun s => Sub s.1.1 (opn A p) ∧ s.1.2 ≤ 9999 * 12 ∧ (∀ X, Sub X (opn A p) → s.1.1 < X → apB A X = true → wsN A X ≤ s.1.2) ∧ (s.1.2 = 0 ∨ ∃ X, Sub X (opn A p) ∧ apB A X = true ∧ wsN A X = s.1.2)) (F := fun s => run 230 0 143 [vR 50 0, vI (nI p), vI (nI (opn A p)), vI (nI s.1.2), vI (nI s.1.1), s.2] [] S) (Q := fun z => z = some (some (vI (nI (gwN A p))), S)) (fun s => s.1.1) ?_ ((opn A p, 0), x5) ⟨fun i h => h, Nat.zero_le _, fun X hX hlt => ?_, Or.inl rfl⟩
    · intro s hI
      obtain ⟨⟨t, m⟩, x⟩ := s
      obtain ⟨i1, i2, i3, i4⟩ := hI
      simp only at i1 i2 i3 i4
      have htl := i1.lt hs
      show run 230 0 143 [vR 50 0, vI (nI p), vI (nI (opn A p)), vI (nI m), vI (nI t), x] [] S = _ ∨ ∃ s', _ ∧ _ ∧ run 230 0 143 [vR 50 0, vI (nI p), vI (nI (opn A p)), vI (nI m), vI (nI t), x] [] S = _
      rw [s230_143]
      by_cases c : t = 0
      · refine Or.inl ?_
        have e : m = gwN A p := by
          obtain ⟨⟨X, x1, x2, x3⟩, y2, y3, y4⟩ := bw_max hw hs
          have eg := (gwN_p hw p).1
          have h1 : wsN A X ≤ m := by
            by_cases cX : X = 0
            · have : wsN A X = 0 := by
                rw [cX]
                unfold wsN
                have := fsN_zero (f := fun w => if (0 : Nat).testBit w = true then A 12 w else 0) 0 (A 0 2) (fun i _ _ => by simp)
                rw [Nat.zero_add] at this
                exact this
              omega
            · exact i3 X x1 (by omega) x2
          rcases i4 with i4 | ⟨Y, z1, z2, z3⟩
          · omega
          · have := y2 Y z1 z2
            omega
        subst c
        rw [← e]
        simp (disch := omega) only [s230_0, s230_1, s230_2, s230_3, s230_5, s230_6, s230_9, s230_10, s230_11, s230_14, s230_15, s230_18, s230_19, s230_20, s230_23, s230_24, s230_25, s230_28, s230_29, s230_30, s230_33, s230_36, s230_37, s230_40, s230_41, s230_43, s230_44, s230_48, s230_49, s230_52, s230_53, s230_54, s230_57, s230_59, s230_62, s230_63, s230_66, s230_67, s230_68, s230_70, s230_73, s230_76, s230_77, s230_78, s230_81, s230_83, s230_84, s230_87, s230_90, s230_91, s230_92, s230_95, s230_97, s230_98, s230_101, s230_104, s230_105, s230_108, s230_109, s230_111, s230_114, s230_117, s230_118, s230_120, s230_123, s230_124, s230_125, s230_126, s230_129, s230_130, s230_131, s230_132, s230_135, s230_138, s230_139, s230_140, s230_141, s230_145, s230_148, s230_149, s230_152, s230_154, s230_155, s230_158, s230_159, s230_161, s230_164, s230_167, s230_168, s230_170, s230_172, s230_173, s230_176, s230_178, s230_181, s230_182, s230_183, s230_185, s230_186, s230_187, s230_188, s230_189, s230_191, s230_194, s230_195, q_0, q_1, q_2, q_3, q_4, q_5, q_6, q_7, q_8, q_9, q_10, q_11, q_12, q_13, q_14, q_16, q_20, q_23, q_24, q_32, q_42, q_43, q_45, q_47, q_48, q_50, q_57, q_59, q_60, q_61, q_62, q_63, q_64, q_66, q_91, q_93, q_97, q_99, q_122, q_144, q_255, q_256, q_300, q_380, q_400, q_620, q_999, q_1000, q_4095, q_4096, q_9999, q_65536, q_99999, q_31, nI_add, pk_mul, nE, nL, nT, nM31, nShl, ib_nI, nI_clamp, bI_n0, bI_n1, bI_nar, uI_r, uI_l, uL_r, uL_i, uL_p, uA_r, uA_l, bV_some, bU_some, nar_n0, nar_n1, and_self, and_true, true_and, and_false, false_and, if_true, if_false, eq_self, Bool.false_eq_true, Bool.true_eq_false, not_true_eq_false, not_false_eq_true, ↓reduceIte, nlT, nlF, ntT, ntF, neT, neF, ieT, ieF, decide_true, decide_false, Bool.not_true, Bool.not_false, Bool.and_true, Bool.true_and, Bool.and_false, Bool.false_and, Bool.or_true, Bool.true_or, Bool.or_false, Bool.false_or]
      · have r1 := ha t htl
        have e1 := m_worthOf h hw (m := t) (by omega)
        have lw := wsN_le hw t
        have hand : (t - 1) &&& opn A p < t := Nat.lt_of_le_of_lt Nat.and_le_left (by omega)
        have hsub : Sub ((t - 1) &&& opn A p) (opn A p) := by
          intro i hi
          rw [Nat.testBit_and] at hi
          simp only [Bool.and_eq_true] at hi
          exact hi.2
        refine Or.inr ?_
        cases c1 : apB A t with
        | false =>
          rw [c1] at r1
          refine ⟨(((t - 1) &&& opn A p, m), vI (nI 0)), ⟨hsub, i2, fun X hX hlt hap => ?_, i4⟩, hand, ?_⟩
          · by_cases e : X = t
            · rw [e, c1] at hap; cases hap
            · by_cases e2 : X < t
              · have := sm_next hX i1 e2
                simp only at hlt
                omega
              · exact i3 X hX (by omega) hap
          · simp (disch := omega) only [s230_0, s230_1, s230_2, s230_3, s230_5, s230_6, s230_9, s230_10, s230_11, s230_14, s230_15, s230_18, s230_19, s230_20, s230_23, s230_24, s230_25, s230_28, s230_29, s230_30, s230_33, s230_36, s230_37, s230_40, s230_41, s230_43, s230_44, s230_48, s230_49, s230_52, s230_53, s230_54, s230_57, s230_59, s230_62, s230_63, s230_66, s230_67, s230_68, s230_70, s230_73, s230_76, s230_77, s230_78, s230_81, s230_83, s230_84, s230_87, s230_90, s230_91, s230_92, s230_95, s230_97, s230_98, s230_101, s230_104, s230_105, s230_108, s230_109, s230_111, s230_114, s230_117, s230_118, s230_120, s230_123, s230_124, s230_125, s230_126, s230_129, s230_130, s230_131, s230_132, s230_135, s230_138, s230_139, s230_140, s230_141, s230_145, s230_148, s230_149, s230_152, s230_154, s230_155, s230_158, s230_159, s230_161, s230_164, s230_167, s230_168, s230_170, s230_172, s230_173, s230_176, s230_178, s230_181, s230_182, s230_183, s230_185, s230_186, s230_187, s230_188, s230_189, s230_191, s230_194, s230_195, q_0, q_1, q_2, q_3, q_4, q_5, q_6, q_7, q_8, q_9, q_10, q_11, q_12, q_13, q_14, q_16, q_20, q_23, q_24, q_32, q_42, q_43, q_45, q_47, q_48, q_50, q_57, q_59, q_60, q_61, q_62, q_63, q_64, q_66, q_91, q_93, q_97, q_99, q_122, q_144, q_255, q_256, q_300, q_380, q_400, q_620, q_999, q_1000, q_4095, q_4096, q_9999, q_65536, q_99999, q_31, nI_add, pk_mul, nE, nL, nT, nM31, nShl, ib_nI, nI_clamp, bI_n0, bI_n1, bI_nar, uI_r, uI_l, uL_r, uL_i, uL_p, uA_r, uA_l, bV_some, bU_some, nar_n0, nar_n1, and_self, and_true, true_and, and_false, false_and, if_true, if_false, eq_self, Bool.false_eq_true, Bool.true_eq_false, not_true_eq_false, not_false_eq_true, ↓reduceIte, nlT, nlF, ntT, ntF, neT, neF, ieT, ieF, decide_true, decide_false, Bool.not_true, Bool.not_false, Bool.and_true, Bool.true_and, Bool.and_false, Bool.false_and, Bool.or_true, Bool.true_or, Bool.or_false, Bool.false_or, r1, nSub, nx_and, nA31]
        | true =>
          rw [c1] at r1
          by_cases c2 : m < wsN A t
          · refine ⟨(((t - 1) &&& opn A p, wsN A t), vI (nI (wsN A t))), ⟨hsub, lw, fun X hX hlt hap => ?_, Or.inr ⟨t, i1, c1, rfl⟩⟩, hand, ?_⟩
            · by_cases e : X = t
              · rw [e]; exact Nat.le_refl _
              · by_cases e2 : X < t
                · have := sm_next hX i1 e2
                  simp only at hlt
                  omega
                · have := i3 X hX (by omega) hap
                  show wsN A X ≤ wsN A t
                  omega
            · simp (disch := omega) only [s230_0, s230_1, s230_2, s230_3, s230_5, s230_6, s230_9, s230_10, s230_11, s230_14, s230_15, s230_18, s230_19, s230_20, s230_23, s230_24, s230_25, s230_28, s230_29, s230_30, s230_33, s230_36, s230_37, s230_40, s230_41, s230_43, s230_44, s230_48, s230_49, s230_52, s230_53, s230_54, s230_57, s230_59, s230_62, s230_63, s230_66, s230_67, s230_68, s230_70, s230_73, s230_76, s230_77, s230_78, s230_81, s230_83, s230_84, s230_87, s230_90, s230_91, s230_92, s230_95, s230_97, s230_98, s230_101, s230_104, s230_105, s230_108, s230_109, s230_111, s230_114, s230_117, s230_118, s230_120, s230_123, s230_124, s230_125, s230_126, s230_129, s230_130, s230_131, s230_132, s230_135, s230_138, s230_139, s230_140, s230_141, s230_145, s230_148, s230_149, s230_152, s230_154, s230_155, s230_158, s230_159, s230_161, s230_164, s230_167, s230_168, s230_170, s230_172, s230_173, s230_176, s230_178, s230_181, s230_182, s230_183, s230_185, s230_186, s230_187, s230_188, s230_189, s230_191, s230_194, s230_195, q_0, q_1, q_2, q_3, q_4, q_5, q_6, q_7, q_8, q_9, q_10, q_11, q_12, q_13, q_14, q_16, q_20, q_23, q_24, q_32, q_42, q_43, q_45, q_47, q_48, q_50, q_57, q_59, q_60, q_61, q_62, q_63, q_64, q_66, q_91, q_93, q_97, q_99, q_122, q_144, q_255, q_256, q_300, q_380, q_400, q_620, q_999, q_1000, q_4095, q_4096, q_9999, q_65536, q_99999, q_31, nI_add, pk_mul, nE, nL, nT, nM31, nShl, ib_nI, nI_clamp, bI_n0, bI_n1, bI_nar, uI_r, uI_l, uL_r, uL_i, uL_p, uA_r, uA_l, bV_some, bU_some, nar_n0, nar_n1, and_self, and_true, true_and, and_false, false_and, if_true, if_false, eq_self, Bool.false_eq_true, Bool.true_eq_false, not_true_eq_false, not_false_eq_true, ↓reduceIte, nlT, nlF, ntT, ntF, neT, neF, ieT, ieF, decide_true, decide_false, Bool.not_true, Bool.not_false, Bool.and_true, Bool.true_and, Bool.and_false, Bool.false_and, Bool.or_true, Bool.true_or, Bool.or_false, Bool.false_or, r1, e1, nSub, nx_and, nA31, c2]
          · refine ⟨(((t - 1) &&& opn A p, m), vI (nI (wsN A t))), ⟨hsub, i2, fun X hX hlt hap => ?_, i4⟩, hand, ?_⟩
            · by_cases e : X = t
              · rw [e]; show wsN A t ≤ m; omega
              · by_cases e2 : X < t
                · have := sm_next hX i1 e2
                  simp only at hlt
                  omega
                · exact i3 X hX (by omega) hap
            · simp (disch := omega) only [s230_0, s230_1, s230_2, s230_3, s230_5, s230_6, s230_9, s230_10, s230_11, s230_14, s230_15, s230_18, s230_19, s230_20, s230_23, s230_24, s230_25, s230_28, s230_29, s230_30, s230_33, s230_36, s230_37, s230_40, s230_41, s230_43, s230_44, s230_48, s230_49, s230_52, s230_53, s230_54, s230_57, s230_59, s230_62, s230_63, s230_66, s230_67, s230_68, s230_70, s230_73, s230_76, s230_77, s230_78, s230_81, s230_83, s230_84, s230_87, s230_90, s230_91, s230_92, s230_95, s230_97, s230_98, s230_101, s230_104, s230_105, s230_108, s230_109, s230_111, s230_114, s230_117, s230_118, s230_120, s230_123, s230_124, s230_125, s230_126, s230_129, s230_130, s230_131, s230_132, s230_135, s230_138, s230_139, s230_140, s230_141, s230_145, s230_148, s230_149, s230_152, s230_154, s230_155, s230_158, s230_159, s230_161, s230_164, s230_167, s230_168, s230_170, s230_172, s230_173, s230_176, s230_178, s230_181, s230_182, s230_183, s230_185, s230_186, s230_187, s230_188, s230_189, s230_191, s230_194, s230_195, q_0, q_1, q_2, q_3, q_4, q_5, q_6, q_7, q_8, q_9, q_10, q_11, q_12, q_13, q_14, q_16, q_20, q_23, q_24, q_32, q_42, q_43, q_45, q_47, q_48, q_50, q_57, q_59, q_60, q_61, q_62, q_63, q_64, q_66, q_91, q_93, q_97, q_99, q_122, q_144, q_255, q_256, q_300, q_380, q_400, q_620, q_999, q_1000, q_4095, q_4096, q_9999, q_65536, q_99999, q_31, nI_add, pk_mul, nE, nL, nT, nM31, nShl, ib_nI, nI_clamp, bI_n0, bI_n1, bI_nar, uI_r, uI_l, uL_r, uL_i, uL_p, uA_r, uA_l, bV_some, bU_some, nar_n0, nar_n1, and_self, and_true, true_and, and_false, false_and, if_true, if_false, eq_self, Bool.false_eq_true, Bool.true_eq_false, not_true_eq_false, not_false_eq_true, ↓reduceIte, nlT, nlF, ntT, ntF, neT, neF, ieT, ieF, decide_true, decide_false, Bool.not_true, Bool.not_false, Bool.and_true, Bool.true_and, Bool.and_false, Bool.false_and, Bool.or_true, Bool.true_or, Bool.or_false, Bool.false_or, r1, e1, nSub, nx_and, nA31, c2]
    · have h1 : X ≤ opn A p := by
        apply Classical.byContradiction
        intro hn
        have h2 : Sub X (opn A p) := hX
        have h3 : X &&& opn A p = X := by
          apply Nat.eq_of_testBit_eq
          intro i
          rw [Nat.testBit_and]
          cases e : X.testBit i with
          | false => rfl
          | true => rw [h2 i e]; rfl
        have := Nat.and_le_right (n := X) (m := opn A p)
        omega
      simp only at hlt
      omega
  show run 230 0 0 [vR 50 0, vI (nI p), vU, vU, vU, vU] [] S = _
  simp only [s230_0, s230_1, s230_2, s230_3]
  refine upS (σ := av × av) (I := fun _ _ => True) (F := fun w s => run 230 0 4 [vR 50 0, vI (nI p), vI (nI (bN (opP A p) w)), vI (nI w), s.1, s.2] [] S) (Q := fun z => z = some (some (vI (nI (gwN A p))), S)) (N := A 0 2) ?_ ?_ 0 (vU, vU) (by omega) trivial
  · intro w s hlt _
    have hW := hw.W (w := w) (by omega)
    have hd := hw.dn (w := w) (by omega)
    have eop := op_my hw (p := p) hlt
    have inner : run 230 0 46 [vR 50 0, vI (nI p), vI (nI (bN (opP A p) w)), vI (nI w), vI (bI (A 14 w == 0 && p.testBit (A 10 w))), vI (nI 0)] [] S = run 230 0 4 [vR 50 0, vI (nI p), vI (nI (bN (opP A p) (w + 1))), vI (nI (w + 1)), vI (bI (opP A p w)), vI (nI (A 0 1))] [] S := by
      have key := up_ (F := fun t => run 230 0 46 [vR 50 0, vI (nI p), vI (nI (bN (opP A p) w)), vI (nI w), vI (bI ((A 14 w == 0 && p.testBit (A 10 w)) && !ex (myP A p w) t)), vI (nI t)] [] S) (N := A 0 1) (R := run 230 0 4 [vR 50 0, vI (nI p), vI (nI (bN (opP A p) (w + 1))), vI (nI (w + 1)), vI (bI (opP A p w)), vI (nI (A 0 1))] [] S) ?_ ?_ 0 (by omega)
      · have e0 : ((A 14 w == 0 && p.testBit (A 10 w)) && !ex (myP A p w) 0) = (A 14 w == 0 && p.testBit (A 10 w)) := by simp [ex]
        rw [e0] at key
        exact key
      · intro t ht
        have ho := hw.o (t := t) (by omega)
        show run 230 0 46 _ _ _ = run 230 0 46 _ _ _
        rw [s230_46, ex_s]
        cases c0 : ((A 14 w == 0 && p.testBit (A 10 w)) && !ex (myP A p w) t) with
        | false =>
          have e : ((A 14 w == 0 && p.testBit (A 10 w)) && !(ex (myP A p w) t || myP A p w t)) = false := by
            rw [Bool.not_or, ← Bool.and_assoc, c0, Bool.false_and]
          rw [e]
          simp (disch := omega) only [s230_0, s230_1, s230_2, s230_3, s230_5, s230_6, s230_9, s230_10, s230_11, s230_14, s230_15, s230_18, s230_19, s230_20, s230_23, s230_24, s230_25, s230_28, s230_29, s230_30, s230_33, s230_36, s230_37, s230_40, s230_41, s230_43, s230_44, s230_48, s230_49, s230_52, s230_53, s230_54, s230_57, s230_59, s230_62, s230_63, s230_66, s230_67, s230_68, s230_70, s230_73, s230_76, s230_77, s230_78, s230_81, s230_83, s230_84, s230_87, s230_90, s230_91, s230_92, s230_95, s230_97, s230_98, s230_101, s230_104, s230_105, s230_108, s230_109, s230_111, s230_114, s230_117, s230_118, s230_120, s230_123, s230_124, s230_125, s230_126, s230_129, s230_130, s230_131, s230_132, s230_135, s230_138, s230_139, s230_140, s230_141, s230_145, s230_148, s230_149, s230_152, s230_154, s230_155, s230_158, s230_159, s230_161, s230_164, s230_167, s230_168, s230_170, s230_172, s230_173, s230_176, s230_178, s230_181, s230_182, s230_183, s230_185, s230_186, s230_187, s230_188, s230_189, s230_191, s230_194, s230_195, q_0, q_1, q_2, q_3, q_4, q_5, q_6, q_7, q_8, q_9, q_10, q_11, q_12, q_13, q_14, q_16, q_20, q_23, q_24, q_32, q_42, q_43, q_45, q_47, q_48, q_50, q_57, q_59, q_60, q_61, q_62, q_63, q_64, q_66, q_91, q_93, q_97, q_99, q_122, q_144, q_255, q_256, q_300, q_380, q_400, q_620, q_999, q_1000, q_4095, q_4096, q_9999, q_65536, q_99999, q_31, nI_add, pk_mul, nE, nL, nT, nM31, nShl, ib_nI, nI_clamp, bI_n0, bI_n1, bI_nar, uI_r, uI_l, uL_r, uL_i, uL_p, uA_r, uA_l, bV_some, bU_some, nar_n0, nar_n1, and_self, and_true, true_and, and_false, false_and, if_true, if_false, eq_self, Bool.false_eq_true, Bool.true_eq_false, not_true_eq_false, not_false_eq_true, ↓reduceIte, nlT, nlF, ntT, ntF, neT, neF, ieT, ieF, decide_true, decide_false, Bool.not_true, Bool.not_false, Bool.and_true, Bool.true_and, Bool.and_false, Bool.false_and, Bool.or_true, Bool.true_or, Bool.or_false, Bool.false_or, h.sc]
          rfl
        | true =>
          have e : ((A 14 w == 0 && p.testBit (A 10 w)) && !(ex (myP A p w) t || myP A p w t)) = !myP A p w t := by
            rw [Bool.not_or, ← Bool.and_assoc, c0, Bool.true_and]
          rw [e]
          unfold myP
          cases c1 : (A 11 w).testBit t <;> cases c2 : p.testBit (A 7 t) <;> cases c3 : p.testBit (A 8 t) <;> (simp (disch := omega) only [s230_0, s230_1, s230_2, s230_3, s230_5, s230_6, s230_9, s230_10, s230_11, s230_14, s230_15, s230_18, s230_19, s230_20, s230_23, s230_24, s230_25, s230_28, s230_29, s230_30, s230_33, s230_36, s230_37, s230_40, s230_41, s230_43, s230_44, s230_48, s230_49, s230_52, s230_53, s230_54, s230_57, s230_59, s230_62, s230_63, s230_66, s230_67, s230_68, s230_70, s230_73, s230_76, s230_77, s230_78, s230_81, s230_83, s230_84, s230_87, s230_90, s230_91, s230_92, s230_95, s230_97, s230_98, s230_101, s230_104, s230_105, s230_108, s230_109, s230_111, s230_114, s230_117, s230_118, s230_120, s230_123, s230_124, s230_125, s230_126, s230_129, s230_130, s230_131, s230_132, s230_135, s230_138, s230_139, s230_140, s230_141, s230_145, s230_148, s230_149, s230_152, s230_154, s230_155, s230_158, s230_159, s230_161, s230_164, s230_167, s230_168, s230_170, s230_172, s230_173, s230_176, s230_178, s230_181, s230_182, s230_183, s230_185, s230_186, s230_187, s230_188, s230_189, s230_191, s230_194, s230_195, q_0, q_1, q_2, q_3, q_4, q_5, q_6, q_7, q_8, q_9, q_10, q_11, q_12, q_13, q_14, q_16, q_20, q_23, q_24, q_32, q_42, q_43, q_45, q_47, q_48, q_50, q_57, q_59, q_60, q_61, q_62, q_63, q_64, q_66, q_91, q_93, q_97, q_99, q_122, q_144, q_255, q_256, q_300, q_380, q_400, q_620, q_999, q_1000, q_4095, q_4096, q_9999, q_65536, q_99999, q_31, nI_add, pk_mul, nE, nL, nT, nM31, nShl, ib_nI, nI_clamp, bI_n0, bI_n1, bI_nar, uI_r, uI_l, uL_r, uL_i, uL_p, uA_r, uA_l, bV_some, bU_some, nar_n0, nar_n1, and_self, and_true, true_and, and_false, false_and, if_true, if_false, eq_self, Bool.false_eq_true, Bool.true_eq_false, not_true_eq_false, not_false_eq_true, ↓reduceIte, nlT, nlF, ntT, ntF, neT, neF, ieT, ieF, decide_true, decide_false, Bool.not_true, Bool.not_false, Bool.and_true, Bool.true_and, Bool.and_false, Bool.false_and, Bool.or_true, Bool.true_or, Bool.or_false, Bool.false_or, h.sc, h.se, h.o1, h.o2, m_has, c1, c2, c3]; try rfl)
      · show run 230 0 46 _ _ _ = _
        rw [s230_46, ← eop]
        cases c : opP A p w with
        | false =>
          have e := bN_f (P := opP A p) (i := w) c
          simp (disch := omega) only [s230_0, s230_1, s230_2, s230_3, s230_5, s230_6, s230_9, s230_10, s230_11, s230_14, s230_15, s230_18, s230_19, s230_20, s230_23, s230_24, s230_25, s230_28, s230_29, s230_30, s230_33, s230_36, s230_37, s230_40, s230_41, s230_43, s230_44, s230_48, s230_49, s230_52, s230_53, s230_54, s230_57, s230_59, s230_62, s230_63, s230_66, s230_67, s230_68, s230_70, s230_73, s230_76, s230_77, s230_78, s230_81, s230_83, s230_84, s230_87, s230_90, s230_91, s230_92, s230_95, s230_97, s230_98, s230_101, s230_104, s230_105, s230_108, s230_109, s230_111, s230_114, s230_117, s230_118, s230_120, s230_123, s230_124, s230_125, s230_126, s230_129, s230_130, s230_131, s230_132, s230_135, s230_138, s230_139, s230_140, s230_141, s230_145, s230_148, s230_149, s230_152, s230_154, s230_155, s230_158, s230_159, s230_161, s230_164, s230_167, s230_168, s230_170, s230_172, s230_173, s230_176, s230_178, s230_181, s230_182, s230_183, s230_185, s230_186, s230_187, s230_188, s230_189, s230_191, s230_194, s230_195, q_0, q_1, q_2, q_3, q_4, q_5, q_6, q_7, q_8, q_9, q_10, q_11, q_12, q_13, q_14, q_16, q_20, q_23, q_24, q_32, q_42, q_43, q_45, q_47, q_48, q_50, q_57, q_59, q_60, q_61, q_62, q_63, q_64, q_66, q_91, q_93, q_97, q_99, q_122, q_144, q_255, q_256, q_300, q_380, q_400, q_620, q_999, q_1000, q_4095, q_4096, q_9999, q_65536, q_99999, q_31, nI_add, pk_mul, nE, nL, nT, nM31, nShl, ib_nI, nI_clamp, bI_n0, bI_n1, bI_nar, uI_r, uI_l, uL_r, uL_i, uL_p, uA_r, uA_l, bV_some, bU_some, nar_n0, nar_n1, and_self, and_true, true_and, and_false, false_and, if_true, if_false, eq_self, Bool.false_eq_true, Bool.true_eq_false, not_true_eq_false, not_false_eq_true, ↓reduceIte, nlT, nlF, ntT, ntF, neT, neF, ieT, ieF, decide_true, decide_false, Bool.not_true, Bool.not_false, Bool.and_true, Bool.true_and, Bool.and_false, Bool.false_and, Bool.or_true, Bool.true_or, Bool.or_false, Bool.false_or, h.sc, e, nx_or, Nat.or_zero]
        | true =>
          have e := bN_t (P := opP A p) (i := w) c
          simp (disch := omega) only [s230_0, s230_1, s230_2, s230_3, s230_5, s230_6, s230_9, s230_10, s230_11, s230_14, s230_15, s230_18, s230_19, s230_20, s230_23, s230_24, s230_25, s230_28, s230_29, s230_30, s230_33, s230_36, s230_37, s230_40, s230_41, s230_43, s230_44, s230_48, s230_49, s230_52, s230_53, s230_54, s230_57, s230_59, s230_62, s230_63, s230_66, s230_67, s230_68, s230_70, s230_73, s230_76, s230_77, s230_78, s230_81, s230_83, s230_84, s230_87, s230_90, s230_91, s230_92, s230_95, s230_97, s230_98, s230_101, s230_104, s230_105, s230_108, s230_109, s230_111, s230_114, s230_117, s230_118, s230_120, s230_123, s230_124, s230_125, s230_126, s230_129, s230_130, s230_131, s230_132, s230_135, s230_138, s230_139, s230_140, s230_141, s230_145, s230_148, s230_149, s230_152, s230_154, s230_155, s230_158, s230_159, s230_161, s230_164, s230_167, s230_168, s230_170, s230_172, s230_173, s230_176, s230_178, s230_181, s230_182, s230_183, s230_185, s230_186, s230_187, s230_188, s230_189, s230_191, s230_194, s230_195, q_0, q_1, q_2, q_3, q_4, q_5, q_6, q_7, q_8, q_9, q_10, q_11, q_12, q_13, q_14, q_16, q_20, q_23, q_24, q_32, q_42, q_43, q_45, q_47, q_48, q_50, q_57, q_59, q_60, q_61, q_62, q_63, q_64, q_66, q_91, q_93, q_97, q_99, q_122, q_144, q_255, q_256, q_300, q_380, q_400, q_620, q_999, q_1000, q_4095, q_4096, q_9999, q_65536, q_99999, q_31, nI_add, pk_mul, nE, nL, nT, nM31, nShl, ib_nI, nI_clamp, bI_n0, bI_n1, bI_nar, uI_r, uI_l, uL_r, uL_i, uL_p, uA_r, uA_l, bV_some, bU_some, nar_n0, nar_n1, and_self, and_true, true_and, and_false, false_and, if_true, if_false, eq_self, Bool.false_eq_true, Bool.true_eq_false, not_true_eq_false, not_false_eq_true, ↓reduceIte, nlT, nlF, ntT, ntF, neT, neF, ieT, ieF, decide_true, decide_false, Bool.not_true, Bool.not_false, Bool.and_true, Bool.true_and, Bool.and_false, Bool.false_and, Bool.or_true, Bool.true_or, Bool.or_false, Bool.false_or, h.sc, e, nx_or]
    refine Or.inr ⟨(vI (bI (opP A p w)), vI (nI (A 0 1))), trivial, ?_⟩
    show run 230 0 4 _ _ _ = run 230 0 4 _ _ _
    rw [← inner, s230_4]
    by_cases c1 : A 14 w = 0
    · have c1' : (A 14 w == 0) = true := by simp [c1]
      cases c2 : p.testBit (A 10 w) with
      | false =>
        simp (disch := omega) only [s230_0, s230_1, s230_2, s230_3, s230_5, s230_6, s230_9, s230_10, s230_11, s230_14, s230_15, s230_18, s230_19, s230_20, s230_23, s230_24, s230_25, s230_28, s230_29, s230_30, s230_33, s230_36, s230_37, s230_40, s230_41, s230_43, s230_44, s230_48, s230_49, s230_52, s230_53, s230_54, s230_57, s230_59, s230_62, s230_63, s230_66, s230_67, s230_68, s230_70, s230_73, s230_76, s230_77, s230_78, s230_81, s230_83, s230_84, s230_87, s230_90, s230_91, s230_92, s230_95, s230_97, s230_98, s230_101, s230_104, s230_105, s230_108, s230_109, s230_111, s230_114, s230_117, s230_118, s230_120, s230_123, s230_124, s230_125, s230_126, s230_129, s230_130, s230_131, s230_132, s230_135, s230_138, s230_139, s230_140, s230_141, s230_145, s230_148, s230_149, s230_152, s230_154, s230_155, s230_158, s230_159, s230_161, s230_164, s230_167, s230_168, s230_170, s230_172, s230_173, s230_176, s230_178, s230_181, s230_182, s230_183, s230_185, s230_186, s230_187, s230_188, s230_189, s230_191, s230_194, s230_195, q_0, q_1, q_2, q_3, q_4, q_5, q_6, q_7, q_8, q_9, q_10, q_11, q_12, q_13, q_14, q_16, q_20, q_23, q_24, q_32, q_42, q_43, q_45, q_47, q_48, q_50, q_57, q_59, q_60, q_61, q_62, q_63, q_64, q_66, q_91, q_93, q_97, q_99, q_122, q_144, q_255, q_256, q_300, q_380, q_400, q_620, q_999, q_1000, q_4095, q_4096, q_9999, q_65536, q_99999, q_31, nI_add, pk_mul, nE, nL, nT, nM31, nShl, ib_nI, nI_clamp, bI_n0, bI_n1, bI_nar, uI_r, uI_l, uL_r, uL_i, uL_p, uA_r, uA_l, bV_some, bU_some, nar_n0, nar_n1, and_self, and_true, true_and, and_false, false_and, if_true, if_false, eq_self, Bool.false_eq_true, Bool.true_eq_false, not_true_eq_false, not_false_eq_true, ↓reduceIte, nlT, nlF, ntT, ntF, neT, neF, ieT, ieF, decide_true, decide_false, Bool.not_true, Bool.not_false, Bool.and_true, Bool.true_and, Bool.and_false, Bool.false_and, Bool.or_true, Bool.true_or, Bool.or_false, Bool.false_or, h.sc, h.dn, h.ak, m_has, c1, c1', c2]
        rfl
      | true =>
        simp (disch := omega) only [s230_0, s230_1, s230_2, s230_3, s230_5, s230_6, s230_9, s230_10, s230_11, s230_14, s230_15, s230_18, s230_19, s230_20, s230_23, s230_24, s230_25, s230_28, s230_29, s230_30, s230_33, s230_36, s230_37, s230_40, s230_41, s230_43, s230_44, s230_48, s230_49, s230_52, s230_53, s230_54, s230_57, s230_59, s230_62, s230_63, s230_66, s230_67, s230_68, s230_70, s230_73, s230_76, s230_77, s230_78, s230_81, s230_83, s230_84, s230_87, s230_90, s230_91, s230_92, s230_95, s230_97, s230_98, s230_101, s230_104, s230_105, s230_108, s230_109, s230_111, s230_114, s230_117, s230_118, s230_120, s230_123, s230_124, s230_125, s230_126, s230_129, s230_130, s230_131, s230_132, s230_135, s230_138, s230_139, s230_140, s230_141, s230_145, s230_148, s230_149, s230_152, s230_154, s230_155, s230_158, s230_159, s230_161, s230_164, s230_167, s230_168, s230_170, s230_172, s230_173, s230_176, s230_178, s230_181, s230_182, s230_183, s230_185, s230_186, s230_187, s230_188, s230_189, s230_191, s230_194, s230_195, q_0, q_1, q_2, q_3, q_4, q_5, q_6, q_7, q_8, q_9, q_10, q_11, q_12, q_13, q_14, q_16, q_20, q_23, q_24, q_32, q_42, q_43, q_45, q_47, q_48, q_50, q_57, q_59, q_60, q_61, q_62, q_63, q_64, q_66, q_91, q_93, q_97, q_99, q_122, q_144, q_255, q_256, q_300, q_380, q_400, q_620, q_999, q_1000, q_4095, q_4096, q_9999, q_65536, q_99999, q_31, nI_add, pk_mul, nE, nL, nT, nM31, nShl, ib_nI, nI_clamp, bI_n0, bI_n1, bI_nar, uI_r, uI_l, uL_r, uL_i, uL_p, uA_r, uA_l, bV_some, bU_some, nar_n0, nar_n1, and_self, and_true, true_and, and_false, false_and, if_true, if_false, eq_self, Bool.false_eq_true, Bool.true_eq_false, not_true_eq_false, not_false_eq_true, ↓reduceIte, nlT, nlF, ntT, ntF, neT, neF, ieT, ieF, decide_true, decide_false, Bool.not_true, Bool.not_false, Bool.and_true, Bool.true_and, Bool.and_false, Bool.false_and, Bool.or_true, Bool.true_or, Bool.or_false, Bool.false_or, h.sc, h.dn, h.ak, m_has, c1, c1', c2]
        rfl
    · have c1' : (A 14 w == 0) = false := by simp [c1]
      simp (disch := omega) only [s230_0, s230_1, s230_2, s230_3, s230_5, s230_6, s230_9, s230_10, s230_11, s230_14, s230_15, s230_18, s230_19, s230_20, s230_23, s230_24, s230_25, s230_28, s230_29, s230_30, s230_33, s230_36, s230_37, s230_40, s230_41, s230_43, s230_44, s230_48, s230_49, s230_52, s230_53, s230_54, s230_57, s230_59, s230_62, s230_63, s230_66, s230_67, s230_68, s230_70, s230_73, s230_76, s230_77, s230_78, s230_81, s230_83, s230_84, s230_87, s230_90, s230_91, s230_92, s230_95, s230_97, s230_98, s230_101, s230_104, s230_105, s230_108, s230_109, s230_111, s230_114, s230_117, s230_118, s230_120, s230_123, s230_124, s230_125, s230_126, s230_129, s230_130, s230_131, s230_132, s230_135, s230_138, s230_139, s230_140, s230_141, s230_145, s230_148, s230_149, s230_152, s230_154, s230_155, s230_158, s230_159, s230_161, s230_164, s230_167, s230_168, s230_170, s230_172, s230_173, s230_176, s230_178, s230_181, s230_182, s230_183, s230_185, s230_186, s230_187, s230_188, s230_189, s230_191, s230_194, s230_195, q_0, q_1, q_2, q_3, q_4, q_5, q_6, q_7, q_8, q_9, q_10, q_11, q_12, q_13, q_14, q_16, q_20, q_23, q_24, q_32, q_42, q_43, q_45, q_47, q_48, q_50, q_57, q_59, q_60, q_61, q_62, q_63, q_64, q_66, q_91, q_93, q_97, q_99, q_122, q_144, q_255, q_256, q_300, q_380, q_400, q_620, q_999, q_1000, q_4095, q_4096, q_9999, q_65536, q_99999, q_31, nI_add, pk_mul, nE, nL, nT, nM31, nShl, ib_nI, nI_clamp, bI_n0, bI_n1, bI_nar, uI_r, uI_l, uL_r, uL_i, uL_p, uA_r, uA_l, bV_some, bU_some, nar_n0, nar_n1, and_self, and_true, true_and, and_false, false_and, if_true, if_false, eq_self, Bool.false_eq_true, Bool.true_eq_false, not_true_eq_false, not_false_eq_true, ↓reduceIte, nlT, nlF, ntT, ntF, neT, neF, ieT, ieF, decide_true, decide_false, Bool.not_true, Bool.not_false, Bool.and_true, Bool.true_and, Bool.and_false, Bool.false_and, Bool.or_true, Bool.true_or, Bool.or_false, Bool.false_or, h.sc, h.dn, c1, c1']
      rfl
  · intro s _
    show run 230 0 4 _ _ _ = _
    rw [s230_4]
    simp (disch := omega) only [s230_0, s230_1, s230_2, s230_3, s230_5, s230_6, s230_9, s230_10, s230_11, s230_14, s230_15, s230_18, s230_19, s230_20, s230_23, s230_24, s230_25, s230_28, s230_29, s230_30, s230_33, s230_36, s230_37, s230_40, s230_41, s230_43, s230_44, s230_48, s230_49, s230_52, s230_53, s230_54, s230_57, s230_59, s230_62, s230_63, s230_66, s230_67, s230_68, s230_70, s230_73, s230_76, s230_77, s230_78, s230_81, s230_83, s230_84, s230_87, s230_90, s230_91, s230_92, s230_95, s230_97, s230_98, s230_101, s230_104, s230_105, s230_108, s230_109, s230_111, s230_114, s230_117, s230_118, s230_120, s230_123, s230_124, s230_125, s230_126, s230_129, s230_130, s230_131, s230_132, s230_135, s230_138, s230_139, s230_140, s230_141, s230_145, s230_148, s230_149, s230_152, s230_154, s230_155, s230_158, s230_159, s230_161, s230_164, s230_167, s230_168, s230_170, s230_172, s230_173, s230_176, s230_178, s230_181, s230_182, s230_183, s230_185, s230_186, s230_187, s230_188, s230_189, s230_191, s230_194, s230_195, q_0, q_1, q_2, q_3, q_4, q_5, q_6, q_7, q_8, q_9, q_10, q_11, q_12, q_13, q_14, q_16, q_20, q_23, q_24, q_32, q_42, q_43, q_45, q_47, q_48, q_50, q_57, q_59, q_60, q_61, q_62, q_63, q_64, q_66, q_91, q_93, q_97, q_99, q_122, q_144, q_255, q_256, q_300, q_380, q_400, q_620, q_999, q_1000, q_4095, q_4096, q_9999, q_65536, q_99999, q_31, nI_add, pk_mul, nE, nL, nT, nM31, nShl, ib_nI, nI_clamp, bI_n0, bI_n1, bI_nar, uI_r, uI_l, uL_r, uL_i, uL_p, uA_r, uA_l, bV_some, bU_some, nar_n0, nar_n1, and_self, and_true, true_and, and_false, false_and, if_true, if_false, eq_self, Bool.false_eq_true, Bool.true_eq_false, not_true_eq_false, not_false_eq_true, ↓reduceIte, nlT, nlF, ntT, ntF, neT, neF, ieT, ieF, decide_true, decide_false, Bool.not_true, Bool.not_false, Bool.and_true, Bool.true_and, Bool.and_false, Bool.false_and, Bool.or_true, Bool.true_or, Bool.or_false, Bool.false_or, h.sc]
    exact L2 _
theorem r_worth {S : Sto} {A : Tn} (h : RepM S A) (hw : WF A) (p : Int32) : ∃ S1, call 228 0 [vR 50 0, vI p] S = some (some (vI (o_worth A p)), S1) ∧ FM S S1 ∧ RepM S1 A := by
  have hP := hw.pe
  have e6 := m_isGroup h hw p (lo := 1) (hi := 6) (by decide) (by decide)
  show ∃ S1, run 228 0 0 [vR 50 0, vI p] [] S = _ ∧ _
  unfold o_worth
  cases e1 : stB p (A 0 0) 1 6 with
  | false =>
    rw [e1] at e6
    simp (disch := omega) only [s228_0, s228_1, s228_2, s228_3, s228_5, s228_8, s228_11, s228_12, s228_13, s228_14, s228_17, s228_18, s228_19, s228_22, q_0, q_1, q_2, q_3, q_4, q_5, q_6, q_7, q_8, q_9, q_10, q_11, q_12, q_13, q_14, q_16, q_20, q_23, q_24, q_32, q_42, q_43, q_45, q_47, q_48, q_50, q_57, q_59, q_60, q_61, q_62, q_63, q_64, q_66, q_91, q_93, q_97, q_99, q_122, q_144, q_255, q_256, q_300, q_380, q_400, q_620, q_999, q_1000, q_4095, q_4096, q_9999, q_65536, q_99999, q_31, nI_add, pk_mul, nE, nL, nT, nM31, nShl, ib_nI, nI_clamp, bI_n0, bI_n1, bI_nar, uI_r, uI_l, uL_r, uL_i, uL_p, uA_r, uA_l, bV_some, bU_some, nar_n0, nar_n1, and_self, and_true, true_and, and_false, false_and, if_true, if_false, eq_self, Bool.false_eq_true, Bool.true_eq_false, not_true_eq_false, not_false_eq_true, ↓reduceIte, nlT, nlF, ntT, ntF, neT, neF, ieT, ieF, decide_true, decide_false, Bool.not_true, Bool.not_false, Bool.and_true, Bool.true_and, Bool.and_false, Bool.false_and, Bool.or_true, Bool.true_or, Bool.or_false, Bool.false_or, e6]
    exact ⟨_, rfl, FM.rf, h⟩
  | true =>
    rw [e1] at e6
    obtain ⟨m, m1, rfl, m2, m3, m4⟩ := stB_t (by omega) e1
    rw [nI_clamp (by omega)]
    obtain ⟨S1, a1, a2, a3⟩ := m_apart h hw
    have e2 := m_greatest (p := m) (h.pl a2 (by decide)) hw a3 (by omega)
    simp (disch := omega) only [s228_0, s228_1, s228_2, s228_3, s228_5, s228_8, s228_11, s228_12, s228_13, s228_14, s228_17, s228_18, s228_19, s228_22, q_0, q_1, q_2, q_3, q_4, q_5, q_6, q_7, q_8, q_9, q_10, q_11, q_12, q_13, q_14, q_16, q_20, q_23, q_24, q_32, q_42, q_43, q_45, q_47, q_48, q_50, q_57, q_59, q_60, q_61, q_62, q_63, q_64, q_66, q_91, q_93, q_97, q_99, q_122, q_144, q_255, q_256, q_300, q_380, q_400, q_620, q_999, q_1000, q_4095, q_4096, q_9999, q_65536, q_99999, q_31, nI_add, pk_mul, nE, nL, nT, nM31, nShl, ib_nI, nI_clamp, bI_n0, bI_n1, bI_nar, uI_r, uI_l, uL_r, uL_i, uL_p, uA_r, uA_l, bV_some, bU_some, nar_n0, nar_n1, and_self, and_true, true_and, and_false, false_and, if_true, if_false, eq_self, Bool.false_eq_true, Bool.true_eq_false, not_true_eq_false, not_false_eq_true, ↓reduceIte, nlT, nlF, ntT, ntF, neT, neF, ieT, ieF, decide_true, decide_false, Bool.not_true, Bool.not_false, Bool.and_true, Bool.true_and, Bool.and_false, Bool.false_and, Bool.or_true, Bool.true_or, Bool.or_false, Bool.false_or, e6, a1, e2]
    exact ⟨_, rfl, FM.pl a2 (by decide), h.pl a2 (by decide)⟩
