/-! one dies: class and reference -/
def o_dies (A : Tn) (x : Int32) : Int32 × Tn := if alB A x = true ∧ 3 ≤ fsN (fun p => A 2 p) 12 then (nI (dF A x.toNatClampNeg).2, (dF A x.toNatClampNeg).1) else (-nI 1, A)
theorem w_dies {A : Tn} (hw : WF A) (x : Int32) : WF (o_dies A x).2 := by
  have hP := hw.pe
  unfold o_dies
  split
  · rename_i e
    obtain ⟨o, ho, rfl, hal⟩ := alB_t hw e.1
    rw [nI_clamp (by omega)]
    exact d_W hw ho hal e.2
  · exact hw
theorem c_dies {S : Sto} {A : Tn} (h : RepC S 0 A) (hw : WF A) (x : Int32) : ∃ S1, call 128 0 [vR 0 0, vI x] S = some (some (vI (o_dies A x).1), S1) ∧ FC S S1 ∧ RepC S1 0 (o_dies A x).2 := by
  have hP := hw.pe
  have hT := hw.th
  have f1 := livB_lt A
  have hbl := br_living hw
  have hfs : fsN (fun p => A 2 p) 12 ≤ 1 * 12 := fsN_le (fun i hi => hw.lv hi)
  show ∃ S1, run 128 0 0 [vR 0 0, vI x] [] S = _ ∧ _
  unfold o_dies
  cases e1 : alB A x with
  | false =>
    simp (disch := omega) only [s128_0, s128_1, s128_4, s128_5, s128_8, s128_11, s128_12, s128_15, s128_18, s128_21, s128_22, s128_25, s128_26, s128_27, s128_28, s128_31, s128_32, s128_35, s128_36, s128_39, q_0, q_1, q_2, q_3, q_4, q_5, q_6, q_7, q_8, q_9, q_10, q_11, q_12, q_13, q_14, q_16, q_20, q_23, q_24, q_32, q_42, q_43, q_45, q_47, q_48, q_50, q_57, q_59, q_60, q_61, q_62, q_63, q_64, q_66, q_91, q_93, q_97, q_99, q_122, q_144, q_255, q_256, q_300, q_380, q_400, q_620, q_999, q_1000, q_4095, q_4096, q_9999, q_65536, q_99999, q_31, nI_add, pk_mul, nE, nL, nT, nM31, nShl, ib_nI, nI_clamp, bI_n0, bI_n1, bI_nar, uI_r, uI_l, uL_r, uL_i, uL_p, uA_r, uA_l, bV_some, bU_some, nar_n0, nar_n1, and_self, and_true, true_and, and_false, false_and, if_true, if_false, eq_self, Bool.false_eq_true, Bool.true_eq_false, not_true_eq_false, not_false_eq_true, ↓reduceIte, nlT, nlF, ntT, ntF, neT, neF, ieT, ieF, decide_true, decide_false, Bool.not_true, Bool.not_false, Bool.and_true, Bool.true_and, Bool.and_false, Bool.false_and, Bool.or_true, Bool.true_or, Bool.or_false, Bool.false_or, x_isAl h hw, e1]
    exact ⟨_, rfl, FC.rf, h⟩
  | true =>
    have e1' := e1
    obtain ⟨o, ho, rfl, hal⟩ := alB_t hw e1
    rw [nI_clamp (by omega)]
    by_cases h3 : 3 ≤ fsN (fun p => A 2 p) 12
    · obtain ⟨l1, l2⟩ := dLn_W hw ho
      obtain ⟨t1, t2, t3, b, t4⟩ := d_to hw ho hal h3
      have hTK := d_TK hw ho hal h3
      have hHO := d_HO hw ho
      have xl : ∃ S1, call 5 0 [vR 41 0, vR 1 0, vI (nI o)] S = some (some (vI (nI (dF A o).2)), S1) ∧ FC S S1 ∧ RepC S1 0 (dF A o).1 := by
        have a1 := h.s_lv o 0 (x := nI (livB (uT A 2 o 0))) rfl
        have fa : Fr (pT 0) S (uI S 1 0 1 (nI (livB (uT A 2 o 0)))) := Fr.rfl'.uI (pT_t (by decide) (by decide))
        obtain ⟨S2, b1, b2, b3⟩ := x_findLine (o := o) a1 hw.pe (fun p hp => hw.heP hp) ho
        have b3' : LnC S2 (dLn A o) := b3
        have h2 : RepC S2 0 (dA1 A o) := a1.pl b2 (by decide)
        have e2 := x_firstIn h2 b3' l1 (-nI 1)
        rw [find_0 l1] at e2
        have e3 := x_least h2 hw.pe
        have e4 : flF (dA1 A o) (dA1 A o 0 0) = flF (dA1 A o) 12 := by
          have := flF_ex (B := dA1 A o) (k := A 0 0) (12 - A 0 0) (fun p q1 q2 q3 => by have := d_lv hw (o := o) (p := p) (by omega) q3; omega)
          rw [show A 0 0 + (12 - A 0 0) = 12 by omega] at this
          exact this.symm
        rw [e4] at e3
        have r1 : S2.1 2 0 (dTo A o) = nI (A 1 (dTo A o)) := h2.co (by omega)
        have r2 : S2.1 2 0 o = nI (A 1 o) := h2.co (by omega)
        have n1 := hw.co (p := dTo A o) (by omega)
        have n2 := hw.co (p := o) (by omega)
        have h3' := (h2.s_co (dTo A o) (rc (A 1 (dTo A o) + A 1 o)) (x := nI (rc (A 1 (dTo A o) + A 1 o))) rfl).s_co o 0 (x := nI 0) rfl
        have h3'' : RepC (uI (uI S2 2 0 (dTo A o) (nI (rc (A 1 (dTo A o) + A 1 o)))) 2 0 o (nI 0)) 0 (dA3 A o) := h3'
        have fr3 : FC S (uI (uI S2 2 0 (dTo A o) (nI (rc (A 1 (dTo A o) + A 1 o)))) 2 0 o (nI 0)) := by
          refine FC.uI (FC.uI ((FC.pt (by decide) fa).tr (FC.pl b2 (by decide))) rfl (by decide)) rfl (by decide)
        have ln3 : LnC (uI (uI S2 2 0 (dTo A o) (nI (rc (A 1 (dTo A o) + A 1 o)))) 2 0 o (nI 0)) (dLn A o) := b3'
        have d5 : dA3 A o 5 = A 5 := by funext i; unfold dA3 dA1; rw [uT_r, if_neg (by omega), uT_r, if_neg (by omega), uT_r, if_neg (by omega)]
        have d0 : dA3 A o 0 = A 0 := by funext i; unfold dA3 dA1; rw [uT_r, if_neg (by omega), uT_r, if_neg (by omega), uT_r, if_neg (by omega)]
        have ecl : clF (dA3 A o) o (A 0 0) = dA4 A o := by
          have := clF_ex (o := o) hw (by omega) (12 - A 0 0) (by omega) (dA3 A o) d5
          rw [show A 0 0 + (12 - A 0 0) = 12 by omega] at this
          exact this.symm
        have c0 : dA4 A o 0 = A 0 := dA4_f (by decide) (by decide) (by decide)
        have c4 : dA4 A o 4 = A 4 := dA4_f (by decide) (by decide) (by decide)
        have loop : ∃ S1, run 5 0 77 [vR 41 0, vR 1 0, vI (nI o), vI (nI (dTo A o)), vI (nI 0)] [] (uI (uI S2 2 0 (dTo A o) (nI (rc (A 1 (dTo A o) + A 1 o)))) 2 0 o (nI 0)) = some (some (vI (nI (dF A o).2)), S1) ∧ FC S S1 ∧ RepC S1 0 (dF A o).1 := by
          refine upS (σ := Sto) (I := fun k S3 => FC S S3 ∧ RepC S3 0 (clF (dA3 A o) o k) ∧ LnC S3 (dLn A o)) (F := fun k S3 => run 5 0 77 [vR 41 0, vR 1 0, vI (nI o), vI (nI (dTo A o)), vI (nI k)] [] S3) (Q := fun z => ∃ S1, z = some (some (vI (nI (dF A o).2)), S1) ∧ FC S S1 ∧ RepC S1 0 (dF A o).1) (N := A 0 0) ?_ ?_ 0 _ (by omega) ⟨fr3, h3'', ln3⟩
          · intro k S3 hk hI
            obtain ⟨i1, i2, i3⟩ := hI
            have r0 : S3.1 1 0 0 = nI (A 0 0) := by rw [i2.pe, clF_f (by decide), d0]
            obtain ⟨S4, k1, k2, k3⟩ := x_setOdds i2 false (a := o) (b := k) (by omega) (by omega) (fun q => by cases q)
            have k1' : call 72 0 [vR 1 0, vI (nI o), vI (nI k), vI (nI 0)] S3 = some (none, S4) := k1
            refine Or.inr ⟨S4, ⟨i1.tr (FC.pt (by decide) k2.t4), k3, ⟨?_, fun j hj => ?_⟩⟩, ?_⟩
            · rw [k2.i rfl]; exact i3.1
            · rw [k2.i rfl]; exact i3.2 j hj
            · show run 5 0 77 _ _ _ = run 5 0 77 _ _ _
              rw [s5_77]
              simp (disch := omega) only [s5_0, s5_1, s5_2, s5_5, s5_6, s5_7, s5_8, s5_9, s5_10, s5_11, s5_14, s5_15, s5_16, s5_17, s5_20, s5_21, s5_22, s5_23, s5_26, s5_27, s5_28, s5_29, s5_32, s5_33, s5_34, s5_37, s5_38, s5_39, s5_40, s5_43, s5_44, s5_47, s5_48, s5_50, s5_51, s5_54, s5_55, s5_56, s5_57, s5_60, s5_61, s5_62, s5_63, s5_66, s5_67, s5_68, s5_71, s5_72, s5_73, s5_74, s5_75, s5_79, s5_80, s5_83, s5_86, s5_87, s5_88, s5_90, s5_91, s5_94, s5_97, s5_100, s5_101, s5_102, s5_103, s5_106, q_0, q_1, q_2, q_3, q_4, q_5, q_6, q_7, q_8, q_9, q_10, q_11, q_12, q_13, q_14, q_16, q_20, q_23, q_24, q_32, q_42, q_43, q_45, q_47, q_48, q_50, q_57, q_59, q_60, q_61, q_62, q_63, q_64, q_66, q_91, q_93, q_97, q_99, q_122, q_144, q_255, q_256, q_300, q_380, q_400, q_620, q_999, q_1000, q_4095, q_4096, q_9999, q_65536, q_99999, q_31, nI_add, pk_mul, nE, nL, nT, nM31, nShl, ib_nI, nI_clamp, bI_n0, bI_n1, bI_nar, uI_r, uI_l, uL_r, uL_i, uL_p, uA_r, uA_l, bV_some, bU_some, nar_n0, nar_n1, and_self, and_true, true_and, and_false, false_and, if_true, if_false, eq_self, Bool.false_eq_true, Bool.true_eq_false, not_true_eq_false, not_false_eq_true, ↓reduceIte, nlT, nlF, ntT, ntF, neT, neF, ieT, ieF, decide_true, decide_false, Bool.not_true, Bool.not_false, Bool.and_true, Bool.true_and, Bool.and_false, Bool.false_and, Bool.or_true, Bool.true_or, Bool.or_false, Bool.false_or, r0, k1']
          · intro S3 hI
            obtain ⟨i1, i2, i3⟩ := hI
            have r0 : S3.1 1 0 0 = nI (A 0 0) := by rw [i2.pe, clF_f (by decide), d0]
            rw [ecl] at i2
            obtain ⟨S4, k1, k2, k3⟩ := x_handOn (o := o) i2 i3 l1 (by rw [c0]; exact hP) (by rw [c0]; exact hT) (by rw [c4]; exact fun i hi => hw.li hi) (fun p hp hq => by rw [dA4_2] at hq; rw [c0]; exact (d_lv hw hp hq).1) hTK hHO (by omega)
            rw [c0] at k1 k3
            show ∃ S1, run 5 0 77 _ _ _ = _ ∧ _
            rw [s5_77]
            have k1' : call 9 0 [vR 41 0, vR 1 0, vI (nI o)] S3 = some (some (vI (nI (dF A o).2)), S4) := k1
            simp (disch := omega) only [s5_0, s5_1, s5_2, s5_5, s5_6, s5_7, s5_8, s5_9, s5_10, s5_11, s5_14, s5_15, s5_16, s5_17, s5_20, s5_21, s5_22, s5_23, s5_26, s5_27, s5_28, s5_29, s5_32, s5_33, s5_34, s5_37, s5_38, s5_39, s5_40, s5_43, s5_44, s5_47, s5_48, s5_50, s5_51, s5_54, s5_55, s5_56, s5_57, s5_60, s5_61, s5_62, s5_63, s5_66, s5_67, s5_68, s5_71, s5_72, s5_73, s5_74, s5_75, s5_79, s5_80, s5_83, s5_86, s5_87, s5_88, s5_90, s5_91, s5_94, s5_97, s5_100, s5_101, s5_102, s5_103, s5_106, q_0, q_1, q_2, q_3, q_4, q_5, q_6, q_7, q_8, q_9, q_10, q_11, q_12, q_13, q_14, q_16, q_20, q_23, q_24, q_32, q_42, q_43, q_45, q_47, q_48, q_50, q_57, q_59, q_60, q_61, q_62, q_63, q_64, q_66, q_91, q_93, q_97, q_99, q_122, q_144, q_255, q_256, q_300, q_380, q_400, q_620, q_999, q_1000, q_4095, q_4096, q_9999, q_65536, q_99999, q_31, nI_add, pk_mul, nE, nL, nT, nM31, nShl, ib_nI, nI_clamp, bI_n0, bI_n1, bI_nar, uI_r, uI_l, uL_r, uL_i, uL_p, uA_r, uA_l, bV_some, bU_some, nar_n0, nar_n1, and_self, and_true, true_and, and_false, false_and, if_true, if_false, eq_self, Bool.false_eq_true, Bool.true_eq_false, not_true_eq_false, not_false_eq_true, ↓reduceIte, nlT, nlF, ntT, ntF, neT, neF, ieT, ieF, decide_true, decide_false, Bool.not_true, Bool.not_false, Bool.and_true, Bool.true_and, Bool.and_false, Bool.false_and, Bool.or_true, Bool.true_or, Bool.or_false, Bool.false_or, r0, k1']
            exact ⟨_, rfl, i1.tr (FC.pt (by decide) k2), k3⟩
        have e5 := livB_0n A o
        show ∃ S1, run 5 0 0 [vR 41 0, vR 1 0, vI (nI o), vU, vU] [] S = _ ∧ _
        unfold toF at t1
        cases hf : (dLn A o).find? (fun p => dA1 A o 2 p == 1) with
        | some p =>
          rw [hf] at t1 e2
          have : p = dTo A o := Option.some.inj t1
          rw [this] at e2
          simp only [oV] at e2
          simp (disch := omega) only [s5_0, s5_1, s5_2, s5_5, s5_6, s5_7, s5_8, s5_9, s5_10, s5_11, s5_14, s5_15, s5_16, s5_17, s5_20, s5_21, s5_22, s5_23, s5_26, s5_27, s5_28, s5_29, s5_32, s5_33, s5_34, s5_37, s5_38, s5_39, s5_40, s5_43, s5_44, s5_47, s5_48, s5_50, s5_51, s5_54, s5_55, s5_56, s5_57, s5_60, s5_61, s5_62, s5_63, s5_66, s5_67, s5_68, s5_71, s5_72, s5_73, s5_74, s5_75, s5_79, s5_80, s5_83, s5_86, s5_87, s5_88, s5_90, s5_91, s5_94, s5_97, s5_100, s5_101, s5_102, s5_103, s5_106, q_0, q_1, q_2, q_3, q_4, q_5, q_6, q_7, q_8, q_9, q_10, q_11, q_12, q_13, q_14, q_16, q_20, q_23, q_24, q_32, q_42, q_43, q_45, q_47, q_48, q_50, q_57, q_59, q_60, q_61, q_62, q_63, q_64, q_66, q_91, q_93, q_97, q_99, q_122, q_144, q_255, q_256, q_300, q_380, q_400, q_620, q_999, q_1000, q_4095, q_4096, q_9999, q_65536, q_99999, q_31, nI_add, pk_mul, nE, nL, nT, nM31, nShl, ib_nI, nI_clamp, bI_n0, bI_n1, bI_nar, uI_r, uI_l, uL_r, uL_i, uL_p, uA_r, uA_l, bV_some, bU_some, nar_n0, nar_n1, and_self, and_true, true_and, and_false, false_and, if_true, if_false, eq_self, Bool.false_eq_true, Bool.true_eq_false, not_true_eq_false, not_false_eq_true, ↓reduceIte, nlT, nlF, ntT, ntF, neT, neF, ieT, ieF, decide_true, decide_false, Bool.not_true, Bool.not_false, Bool.and_true, Bool.true_and, Bool.and_false, Bool.false_and, Bool.or_true, Bool.true_or, Bool.or_false, Bool.false_or, h.lvb, e5, b1, e2, nN1, r1, r2, ifN]
          exact loop
        | none =>
          rw [hf] at t1 e2
          dsimp only at t1
          rw [t1] at e3
          simp only [oV] at e2 e3
          simp (disch := omega) only [s5_0, s5_1, s5_2, s5_5, s5_6, s5_7, s5_8, s5_9, s5_10, s5_11, s5_14, s5_15, s5_16, s5_17, s5_20, s5_21, s5_22, s5_23, s5_26, s5_27, s5_28, s5_29, s5_32, s5_33, s5_34, s5_37, s5_38, s5_39, s5_40, s5_43, s5_44, s5_47, s5_48, s5_50, s5_51, s5_54, s5_55, s5_56, s5_57, s5_60, s5_61, s5_62, s5_63, s5_66, s5_67, s5_68, s5_71, s5_72, s5_73, s5_74, s5_75, s5_79, s5_80, s5_83, s5_86, s5_87, s5_88, s5_90, s5_91, s5_94, s5_97, s5_100, s5_101, s5_102, s5_103, s5_106, q_0, q_1, q_2, q_3, q_4, q_5, q_6, q_7, q_8, q_9, q_10, q_11, q_12, q_13, q_14, q_16, q_20, q_23, q_24, q_32, q_42, q_43, q_45, q_47, q_48, q_50, q_57, q_59, q_60, q_61, q_62, q_63, q_64, q_66, q_91, q_93, q_97, q_99, q_122, q_144, q_255, q_256, q_300, q_380, q_400, q_620, q_999, q_1000, q_4095, q_4096, q_9999, q_65536, q_99999, q_31, nI_add, pk_mul, nE, nL, nT, nM31, nShl, ib_nI, nI_clamp, bI_n0, bI_n1, bI_nar, uI_r, uI_l, uL_r, uL_i, uL_p, uA_r, uA_l, bV_some, bU_some, nar_n0, nar_n1, and_self, and_true, true_and, and_false, false_and, if_true, if_false, eq_self, Bool.false_eq_true, Bool.true_eq_false, not_true_eq_false, not_false_eq_true, ↓reduceIte, nlT, nlF, ntT, ntF, neT, neF, ieT, ieF, decide_true, decide_false, Bool.not_true, Bool.not_false, Bool.and_true, Bool.true_and, Bool.and_false, Bool.false_and, Bool.or_true, Bool.true_or, Bool.or_false, Bool.false_or, h.lvb, e5, b1, e2, e3, nN1, r1, r2, ifN]
          exact loop
      obtain ⟨S1, a1, a2, a3⟩ := xl
      simp (disch := omega) only [s128_0, s128_1, s128_4, s128_5, s128_8, s128_11, s128_12, s128_15, s128_18, s128_21, s128_22, s128_25, s128_26, s128_27, s128_28, s128_31, s128_32, s128_35, s128_36, s128_39, q_0, q_1, q_2, q_3, q_4, q_5, q_6, q_7, q_8, q_9, q_10, q_11, q_12, q_13, q_14, q_16, q_20, q_23, q_24, q_32, q_42, q_43, q_45, q_47, q_48, q_50, q_57, q_59, q_60, q_61, q_62, q_63, q_64, q_66, q_91, q_93, q_97, q_99, q_122, q_144, q_255, q_256, q_300, q_380, q_400, q_620, q_999, q_1000, q_4095, q_4096, q_9999, q_65536, q_99999, q_31, nI_add, pk_mul, nE, nL, nT, nM31, nShl, ib_nI, nI_clamp, bI_n0, bI_n1, bI_nar, uI_r, uI_l, uL_r, uL_i, uL_p, uA_r, uA_l, bV_some, bU_some, nar_n0, nar_n1, and_self, and_true, true_and, and_false, false_and, if_true, if_false, eq_self, Bool.false_eq_true, Bool.true_eq_false, not_true_eq_false, not_false_eq_true, ↓reduceIte, nlT, nlF, ntT, ntF, neT, neF, ieT, ieF, decide_true, decide_false, Bool.not_true, Bool.not_false, Bool.and_true, Bool.true_and, Bool.and_false, Bool.false_and, Bool.or_true, Bool.true_or, Bool.or_false, Bool.false_or, x_isAl h hw, e1', h.lvb, x_bitCount, hbl, a1]
      exact ⟨_, rfl, a2, a3⟩
    · simp (disch := omega) only [s128_0, s128_1, s128_4, s128_5, s128_8, s128_11, s128_12, s128_15, s128_18, s128_21, s128_22, s128_25, s128_26, s128_27, s128_28, s128_31, s128_32, s128_35, s128_36, s128_39, q_0, q_1, q_2, q_3, q_4, q_5, q_6, q_7, q_8, q_9, q_10, q_11, q_12, q_13, q_14, q_16, q_20, q_23, q_24, q_32, q_42, q_43, q_45, q_47, q_48, q_50, q_57, q_59, q_60, q_61, q_62, q_63, q_64, q_66, q_91, q_93, q_97, q_99, q_122, q_144, q_255, q_256, q_300, q_380, q_400, q_620, q_999, q_1000, q_4095, q_4096, q_9999, q_65536, q_99999, q_31, nI_add, pk_mul, nE, nL, nT, nM31, nShl, ib_nI, nI_clamp, bI_n0, bI_n1, bI_nar, uI_r, uI_l, uL_r, uL_i, uL_p, uA_r, uA_l, bV_some, bU_some, nar_n0, nar_n1, and_self, and_true, true_and, and_false, false_and, if_true, if_false, eq_self, Bool.false_eq_true, Bool.true_eq_false, not_true_eq_false, not_false_eq_true, ↓reduceIte, nlT, nlF, ntT, ntF, neT, neF, ieT, ieF, decide_true, decide_false, Bool.not_true, Bool.not_false, Bool.and_true, Bool.true_and, Bool.and_false, Bool.false_and, Bool.or_true, Bool.true_or, Bool.or_false, Bool.false_or, x_isAl h hw, e1', h.lvb, x_bitCount, hbl, h3]
      exact ⟨_, rfl, FC.rf, h⟩
