/-! chains (class) -/
theorem x_isAnsw {S : Sto} {A : Tn} {L : Lw} {w Q M : Nat} {sl : List Nat} (hs : AskS S w M sl) (hV : AskV A L w (A 0 1) M sl) (hl : sl.length ≤ 4) (hv : w < 12) (hQ : Q < 2 ^ 12) : call 31 0 [vR 30 0, vI (nI w), vI (nI Q)] S = some (some (vI (bI (!ex (hiP A L w Q) (A 0 1)))), S) := by
  obtain ⟨v1, v2, v3⟩ := hV
  have ld := dif_lt M Q
  rw [← v3 Q]
  show run 31 0 0 [vR 30 0, vI (nI w), vI (nI Q), vU] [] S = _
  by_cases c1 : dif M Q = 0
  · have c1' : (dif M Q == 0) = true := by simp [c1]
    rw [c1', Bool.true_and]
    simp (disch := omega) only [s31_0, s31_1, s31_4, s31_5, s31_6, s31_7, s31_8, s31_9, s31_10, s31_13, s31_14, s31_15, s31_16, s31_17, s31_18, s31_20, s31_21, s31_22, s31_23, s31_24, s31_25, s31_28, s31_29, s31_32, s31_33, s31_34, s31_37, s31_38, s31_41, s31_42, s31_43, s31_44, s31_45, s31_48, s31_49, s31_50, s31_53, s31_56, s31_57, q_0, q_1, q_2, q_3, q_4, q_5, q_6, q_7, q_8, q_9, q_10, q_11, q_12, q_13, q_14, q_16, q_20, q_23, q_24, q_32, q_42, q_43, q_45, q_47, q_48, q_50, q_57, q_59, q_60, q_61, q_62, q_63, q_64, q_66, q_91, q_93, q_97, q_99, q_122, q_144, q_255, q_256, q_300, q_380, q_400, q_620, q_999, q_1000, q_4095, q_4096, q_9999, q_65536, q_99999, q_31, nI_add, pk_mul, nE, nL, nT, nM31, nShl, ib_nI, nI_clamp, bI_n0, bI_n1, bI_nar, uI_r, uI_l, uL_r, uL_i, uL_p, uA_r, uA_l, bV_some, bU_some, nar_n0, nar_n1, and_self, and_true, true_and, and_false, false_and, if_true, if_false, eq_self, Bool.false_eq_true, Bool.true_eq_false, not_true_eq_false, not_false_eq_true, ↓reduceIte, nlT, nlF, ntT, ntF, neT, neF, ieT, ieF, decide_true, decide_false, Bool.not_true, Bool.not_false, Bool.and_true, Bool.true_and, Bool.and_false, Bool.false_and, Bool.or_true, Bool.true_or, Bool.or_false, Bool.false_or, hs.1, nI_dif, c1]
    have key := upS (σ := Unit) (I := fun k _ => ∀ i, i < k → i < sl.length → sl.getD i 0 &&& Q ≠ 0) (F := fun k _ => run 31 0 19 [vR 30 0, vI (nI w), vI (nI Q), vI (nI (4 * w + k))] [] S) (Q := fun z => z = some (some (vI (bI (sl.all (fun x => !(x &&& Q == 0))))), S)) (N := 4) ?_ ?_ 0 () (by omega) (fun i hi => by omega)
    · exact key
    · intro k _ hk hI
      have r1 := hs.2 k hk
      show run 31 0 19 _ _ _ = _ ∨ ∃ s', _ ∧ run 31 0 19 _ _ _ = run 31 0 19 _ _ _
      rw [s31_19]
      by_cases ck : k < sl.length
      · have hm := getD_mem ck
        obtain ⟨z1, z2⟩ := v2 _ hm
        have la : sl.getD k 0 &&& Q < 2 ^ 31 := Nat.lt_of_le_of_lt Nat.and_le_left (by omega)
        by_cases c3 : sl.getD k 0 &&& Q = 0
        · have e : sl.all (fun x => !(x &&& Q == 0)) = false := by
            rw [List.all_eq_false]
            exact ⟨_, hm, by simp only [c3]; decide⟩
          refine Or.inl ?_
          rw [e]
          simp (disch := omega) only [s31_0, s31_1, s31_4, s31_5, s31_6, s31_7, s31_8, s31_9, s31_10, s31_13, s31_14, s31_15, s31_16, s31_17, s31_18, s31_20, s31_21, s31_22, s31_23, s31_24, s31_25, s31_28, s31_29, s31_32, s31_33, s31_34, s31_37, s31_38, s31_41, s31_42, s31_43, s31_44, s31_45, s31_48, s31_49, s31_50, s31_53, s31_56, s31_57, q_0, q_1, q_2, q_3, q_4, q_5, q_6, q_7, q_8, q_9, q_10, q_11, q_12, q_13, q_14, q_16, q_20, q_23, q_24, q_32, q_42, q_43, q_45, q_47, q_48, q_50, q_57, q_59, q_60, q_61, q_62, q_63, q_64, q_66, q_91, q_93, q_97, q_99, q_122, q_144, q_255, q_256, q_300, q_380, q_400, q_620, q_999, q_1000, q_4095, q_4096, q_9999, q_65536, q_99999, q_31, nI_add, pk_mul, nE, nL, nT, nM31, nShl, ib_nI, nI_clamp, bI_n0, bI_n1, bI_nar, uI_r, uI_l, uL_r, uL_i, uL_p, uA_r, uA_l, bV_some, bU_some, nar_n0, nar_n1, and_self, and_true, true_and, and_false, false_and, if_true, if_false, eq_self, Bool.false_eq_true, Bool.true_eq_false, not_true_eq_false, not_false_eq_true, ↓reduceIte, nlT, nlF, ntT, ntF, neT, neF, ieT, ieF, decide_true, decide_false, Bool.not_true, Bool.not_false, Bool.and_true, Bool.true_and, Bool.and_false, Bool.false_and, Bool.or_true, Bool.true_or, Bool.or_false, Bool.false_or, r1, z1, nx_and, nA31, c3]
          rfl
        · refine Or.inr ⟨(), fun i hi h2 => ?_, ?_⟩
          · by_cases e : i = k
            · rw [e]; exact c3
            · exact hI i (by omega) h2
          · simp (disch := omega) only [s31_0, s31_1, s31_4, s31_5, s31_6, s31_7, s31_8, s31_9, s31_10, s31_13, s31_14, s31_15, s31_16, s31_17, s31_18, s31_20, s31_21, s31_22, s31_23, s31_24, s31_25, s31_28, s31_29, s31_32, s31_33, s31_34, s31_37, s31_38, s31_41, s31_42, s31_43, s31_44, s31_45, s31_48, s31_49, s31_50, s31_53, s31_56, s31_57, q_0, q_1, q_2, q_3, q_4, q_5, q_6, q_7, q_8, q_9, q_10, q_11, q_12, q_13, q_14, q_16, q_20, q_23, q_24, q_32, q_42, q_43, q_45, q_47, q_48, q_50, q_57, q_59, q_60, q_61, q_62, q_63, q_64, q_66, q_91, q_93, q_97, q_99, q_122, q_144, q_255, q_256, q_300, q_380, q_400, q_620, q_999, q_1000, q_4095, q_4096, q_9999, q_65536, q_99999, q_31, nI_add, pk_mul, nE, nL, nT, nM31, nShl, ib_nI, nI_clamp, bI_n0, bI_n1, bI_nar, uI_r, uI_l, uL_r, uL_i, uL_p, uA_r, uA_l, bV_some, bU_some, nar_n0, nar_n1, and_self, and_true, true_and, and_false, false_and, if_true, if_false, eq_self, Bool.false_eq_true, Bool.true_eq_false, not_true_eq_false, not_false_eq_true, ↓reduceIte, nlT, nlF, ntT, ntF, neT, neF, ieT, ieF, decide_true, decide_false, Bool.not_true, Bool.not_false, Bool.and_true, Bool.true_and, Bool.and_false, Bool.false_and, Bool.or_true, Bool.true_or, Bool.or_false, Bool.false_or, r1, z1, nx_and, nA31, c3, Nat.add_assoc]
      · have e0 : sl.getD k 0 = 0 := by
          rw [List.getD_eq_getElem?_getD, List.getElem?_eq_none (by omega)]
          rfl
        rw [e0] at r1
        refine Or.inr ⟨(), fun i hi h2 => hI i (by omega) h2, ?_⟩
        simp (disch := omega) only [s31_0, s31_1, s31_4, s31_5, s31_6, s31_7, s31_8, s31_9, s31_10, s31_13, s31_14, s31_15, s31_16, s31_17, s31_18, s31_20, s31_21, s31_22, s31_23, s31_24, s31_25, s31_28, s31_29, s31_32, s31_33, s31_34, s31_37, s31_38, s31_41, s31_42, s31_43, s31_44, s31_45, s31_48, s31_49, s31_50, s31_53, s31_56, s31_57, q_0, q_1, q_2, q_3, q_4, q_5, q_6, q_7, q_8, q_9, q_10, q_11, q_12, q_13, q_14, q_16, q_20, q_23, q_24, q_32, q_42, q_43, q_45, q_47, q_48, q_50, q_57, q_59, q_60, q_61, q_62, q_63, q_64, q_66, q_91, q_93, q_97, q_99, q_122, q_144, q_255, q_256, q_300, q_380, q_400, q_620, q_999, q_1000, q_4095, q_4096, q_9999, q_65536, q_99999, q_31, nI_add, pk_mul, nE, nL, nT, nM31, nShl, ib_nI, nI_clamp, bI_n0, bI_n1, bI_nar, uI_r, uI_l, uL_r, uL_i, uL_p, uA_r, uA_l, bV_some, bU_some, nar_n0, nar_n1, and_self, and_true, true_and, and_false, false_and, if_true, if_false, eq_self, Bool.false_eq_true, Bool.true_eq_false, not_true_eq_false, not_false_eq_true, ↓reduceIte, nlT, nlF, ntT, ntF, neT, neF, ieT, ieF, decide_true, decide_false, Bool.not_true, Bool.not_false, Bool.and_true, Bool.true_and, Bool.and_false, Bool.false_and, Bool.or_true, Bool.true_or, Bool.or_false, Bool.false_or, r1, Nat.add_assoc]
    · intro _ hI
      have e : sl.all (fun x => !(x &&& Q == 0)) = true := by
        rw [List.all_eq_true]
        intro x hx
        obtain ⟨j, hj, ej⟩ := List.getElem_of_mem hx
        have := hI j (by omega) hj
        rw [List.getD_eq_getElem?_getD, List.getElem?_eq_getElem hj] at this
        rw [Bool.not_eq_true', beq_eq_false_iff_ne, ← ej]
        exact this
      show run 31 0 19 _ _ _ = _
      rw [s31_19, e]
      simp (disch := omega) only [s31_0, s31_1, s31_4, s31_5, s31_6, s31_7, s31_8, s31_9, s31_10, s31_13, s31_14, s31_15, s31_16, s31_17, s31_18, s31_20, s31_21, s31_22, s31_23, s31_24, s31_25, s31_28, s31_29, s31_32, s31_33, s31_34, s31_37, s31_38, s31_41, s31_42, s31_43, s31_44, s31_45, s31_48, s31_49, s31_50, s31_53, s31_56, s31_57, q_0, q_1, q_2, q_3, q_4, q_5, q_6, q_7, q_8, q_9, q_10, q_11, q_12, q_13, q_14, q_16, q_20, q_23, q_24, q_32, q_42, q_43, q_45, q_47, q_48, q_50, q_57, q_59, q_60, q_61, q_62, q_63, q_64, q_66, q_91, q_93, q_97, q_99, q_122, q_144, q_255, q_256, q_300, q_380, q_400, q_620, q_999, q_1000, q_4095, q_4096, q_9999, q_65536, q_99999, q_31, nI_add, pk_mul, nE, nL, nT, nM31, nShl, ib_nI, nI_clamp, bI_n0, bI_n1, bI_nar, uI_r, uI_l, uL_r, uL_i, uL_p, uA_r, uA_l, bV_some, bU_some, nar_n0, nar_n1, and_self, and_true, true_and, and_false, false_and, if_true, if_false, eq_self, Bool.false_eq_true, Bool.true_eq_false, not_true_eq_false, not_false_eq_true, ↓reduceIte, nlT, nlF, ntT, ntF, neT, neF, ieT, ieF, decide_true, decide_false, Bool.not_true, Bool.not_false, Bool.and_true, Bool.true_and, Bool.and_false, Bool.false_and, Bool.or_true, Bool.true_or, Bool.or_false, Bool.false_or]
      rfl
  · have c1' : (dif M Q == 0) = false := by simp [c1]
    rw [c1', Bool.false_and]
    simp (disch := omega) only [s31_0, s31_1, s31_4, s31_5, s31_6, s31_7, s31_8, s31_9, s31_10, s31_13, s31_14, s31_15, s31_16, s31_17, s31_18, s31_20, s31_21, s31_22, s31_23, s31_24, s31_25, s31_28, s31_29, s31_32, s31_33, s31_34, s31_37, s31_38, s31_41, s31_42, s31_43, s31_44, s31_45, s31_48, s31_49, s31_50, s31_53, s31_56, s31_57, q_0, q_1, q_2, q_3, q_4, q_5, q_6, q_7, q_8, q_9, q_10, q_11, q_12, q_13, q_14, q_16, q_20, q_23, q_24, q_32, q_42, q_43, q_45, q_47, q_48, q_50, q_57, q_59, q_60, q_61, q_62, q_63, q_64, q_66, q_91, q_93, q_97, q_99, q_122, q_144, q_255, q_256, q_300, q_380, q_400, q_620, q_999, q_1000, q_4095, q_4096, q_9999, q_65536, q_99999, q_31, nI_add, pk_mul, nE, nL, nT, nM31, nShl, ib_nI, nI_clamp, bI_n0, bI_n1, bI_nar, uI_r, uI_l, uL_r, uL_i, uL_p, uA_r, uA_l, bV_some, bU_some, nar_n0, nar_n1, and_self, and_true, true_and, and_false, false_and, if_true, if_false, eq_self, Bool.false_eq_true, Bool.true_eq_false, not_true_eq_false, not_false_eq_true, ↓reduceIte, nlT, nlF, ntT, ntF, neT, neF, ieT, ieF, decide_true, decide_false, Bool.not_true, Bool.not_false, Bool.and_true, Bool.true_and, Bool.and_false, Bool.false_and, Bool.or_true, Bool.true_or, Bool.or_false, Bool.false_or, hs.1, nI_dif, c1]
    rfl
def ccP (A : Tn) (L : Lw) (s w : Nat) : Bool := s.testBit w && !((clS A w &&& s == 0) && !ex (hiP A L w (askS A s)) (A 0 1))
def ccB (A : Tn) (L : Lw) (s : Nat) : Bool := !ex (ccP A L s) (A 0 2)
def FitI (S : Sto) (A : Tn) (L : Lw) (P : Nat → Bool) (n : Nat) : Prop := ∀ w, w < n → P w = true → ∃ M sl, AskS S w M sl ∧ AskV A L w (A 0 1) M sl ∧ sl.length ≤ 4
theorem x_isCh {S : Sto} {q : Nat} {A : Tn} {L : Lw} {s : Nat} {P : Nat → Bool} (h : RepC S q A) (hw : WF A) (hc : ClI S A (A 0 2)) (hf : FitI S A L P (A 0 2)) (hs : s < 2 ^ A 0 2) (hsf : ∀ w, s.testBit w = true → P w = true) : call 30 0 [vR 30 0, vR 1 q, vI (nI s)] S = some (some (vI (bI (ccB A L s))), S) := by
  have hWk := hw.wk
  have hM12 : 2 ^ A 0 2 ≤ 2 ^ 12 := Nat.pow_le_pow_right (by decide) hWk
  have hq := askS_lt hw s
  have L2 : run 30 0 44 [vR 30 0, vR 1 q, vI (nI s), vI (nI (askS A s)), vI (nI 0)] [] S = some (some (vI (bI (ccB A L s))), S) := by
    refine upS (σ := Unit) (I := fun w _ => ex (ccP A L s) w = false) (F := fun w _ => run 30 0 44 [vR 30 0, vR 1 q, vI (nI s), vI (nI (askS A s)), vI (nI w)] [] S) (Q := fun z => z = some (some (vI (bI (ccB A L s))), S)) (N := A 0 2) ?_ ?_ 0 () (by omega) rfl
    · intro w _ hlt hI
      show run 30 0 44 _ _ _ = _ ∨ ∃ s', _ ∧ run 30 0 44 _ _ _ = run 30 0 44 _ _ _
      rw [s30_44]
      have r1 := hc w hlt
      have lc := clS_lt hw w
      have la : clS A w &&& s < 2 ^ 31 := Nat.lt_of_le_of_lt Nat.and_le_left (by omega)
      cases c1 : s.testBit w with
      | false =>
        refine Or.inr ⟨(), ?_, ?_⟩
        · rw [ex_s, hI]; simp [ccP, c1]
        · simp (disch := omega) only [s30_0, s30_1, s30_2, s30_3, s30_7, s30_8, s30_11, s30_14, s30_15, s30_17, s30_20, s30_23, s30_24, s30_25, s30_26, s30_29, s30_31, s30_32, s30_33, s30_34, s30_35, s30_38, s30_41, s30_42, s30_46, s30_47, s30_50, s30_53, s30_54, s30_56, s30_59, s30_62, s30_63, s30_66, s30_68, s30_69, s30_70, s30_71, s30_74, s30_75, s30_77, s30_78, s30_81, s30_84, s30_85, s30_86, s30_89, s30_92, s30_93, q_0, q_1, q_2, q_3, q_4, q_5, q_6, q_7, q_8, q_9, q_10, q_11, q_12, q_13, q_14, q_16, q_20, q_23, q_24, q_32, q_42, q_43, q_45, q_47, q_48, q_50, q_57, q_59, q_60, q_61, q_62, q_63, q_64, q_66, q_91, q_93, q_97, q_99, q_122, q_144, q_255, q_256, q_300, q_380, q_400, q_620, q_999, q_1000, q_4095, q_4096, q_9999, q_65536, q_99999, q_31, nI_add, pk_mul, nE, nL, nT, nM31, nShl, ib_nI, nI_clamp, bI_n0, bI_n1, bI_nar, uI_r, uI_l, uL_r, uL_i, uL_p, uA_r, uA_l, bV_some, bU_some, nar_n0, nar_n1, and_self, and_true, true_and, and_false, false_and, if_true, if_false, eq_self, Bool.false_eq_true, Bool.true_eq_false, not_true_eq_false, not_false_eq_true, ↓reduceIte, nlT, nlF, ntT, ntF, neT, neF, ieT, ieF, decide_true, decide_false, Bool.not_true, Bool.not_false, Bool.and_true, Bool.true_and, Bool.and_false, Bool.false_and, Bool.or_true, Bool.true_or, Bool.or_false, Bool.false_or, h.wk, x_has, c1]
      | true =>
        have bad : ccP A L s w = true → ccB A L s = false := fun e => by
          unfold ccB
          rw [ex_mono (P := ccP A L s) hlt e]
          rfl
        by_cases c2 : clS A w &&& s = 0
        · have c2' : (clS A w &&& s == 0) = true := by simp [c2]
          obtain ⟨M, sl, k1, k2, k3⟩ := hf w hlt (hsf w c1)
          have e1 := x_isAnsw k1 k2 k3 (by omega) hq
          cases c3 : ex (hiP A L w (askS A s)) (A 0 1) with
          | true =>
            rw [c3] at e1
            have eb := bad (by unfold ccP; rw [c1, c2', c3]; rfl)
            refine Or.inl ?_
            rw [eb]
            simp (disch := omega) only [s30_0, s30_1, s30_2, s30_3, s30_7, s30_8, s30_11, s30_14, s30_15, s30_17, s30_20, s30_23, s30_24, s30_25, s30_26, s30_29, s30_31, s30_32, s30_33, s30_34, s30_35, s30_38, s30_41, s30_42, s30_46, s30_47, s30_50, s30_53, s30_54, s30_56, s30_59, s30_62, s30_63, s30_66, s30_68, s30_69, s30_70, s30_71, s30_74, s30_75, s30_77, s30_78, s30_81, s30_84, s30_85, s30_86, s30_89, s30_92, s30_93, q_0, q_1, q_2, q_3, q_4, q_5, q_6, q_7, q_8, q_9, q_10, q_11, q_12, q_13, q_14, q_16, q_20, q_23, q_24, q_32, q_42, q_43, q_45, q_47, q_48, q_50, q_57, q_59, q_60, q_61, q_62, q_63, q_64, q_66, q_91, q_93, q_97, q_99, q_122, q_144, q_255, q_256, q_300, q_380, q_400, q_620, q_999, q_1000, q_4095, q_4096, q_9999, q_65536, q_99999, q_31, nI_add, pk_mul, nE, nL, nT, nM31, nShl, ib_nI, nI_clamp, bI_n0, bI_n1, bI_nar, uI_r, uI_l, uL_r, uL_i, uL_p, uA_r, uA_l, bV_some, bU_some, nar_n0, nar_n1, and_self, and_true, true_and, and_false, false_and, if_true, if_false, eq_self, Bool.false_eq_true, Bool.true_eq_false, not_true_eq_false, not_false_eq_true, ↓reduceIte, nlT, nlF, ntT, ntF, neT, neF, ieT, ieF, decide_true, decide_false, Bool.not_true, Bool.not_false, Bool.and_true, Bool.true_and, Bool.and_false, Bool.false_and, Bool.or_true, Bool.true_or, Bool.or_false, Bool.false_or, h.wk, x_has, c1, r1, nx_and, nA31, c2, e1]
            rfl
          | false =>
            rw [c3] at e1
            refine Or.inr ⟨(), ?_, ?_⟩
            · rw [ex_s, hI]
              unfold ccP
              rw [c1, c2', c3]
              rfl
            · simp (disch := omega) only [s30_0, s30_1, s30_2, s30_3, s30_7, s30_8, s30_11, s30_14, s30_15, s30_17, s30_20, s30_23, s30_24, s30_25, s30_26, s30_29, s30_31, s30_32, s30_33, s30_34, s30_35, s30_38, s30_41, s30_42, s30_46, s30_47, s30_50, s30_53, s30_54, s30_56, s30_59, s30_62, s30_63, s30_66, s30_68, s30_69, s30_70, s30_71, s30_74, s30_75, s30_77, s30_78, s30_81, s30_84, s30_85, s30_86, s30_89, s30_92, s30_93, q_0, q_1, q_2, q_3, q_4, q_5, q_6, q_7, q_8, q_9, q_10, q_11, q_12, q_13, q_14, q_16, q_20, q_23, q_24, q_32, q_42, q_43, q_45, q_47, q_48, q_50, q_57, q_59, q_60, q_61, q_62, q_63, q_64, q_66, q_91, q_93, q_97, q_99, q_122, q_144, q_255, q_256, q_300, q_380, q_400, q_620, q_999, q_1000, q_4095, q_4096, q_9999, q_65536, q_99999, q_31, nI_add, pk_mul, nE, nL, nT, nM31, nShl, ib_nI, nI_clamp, bI_n0, bI_n1, bI_nar, uI_r, uI_l, uL_r, uL_i, uL_p, uA_r, uA_l, bV_some, bU_some, nar_n0, nar_n1, and_self, and_true, true_and, and_false, false_and, if_true, if_false, eq_self, Bool.false_eq_true, Bool.true_eq_false, not_true_eq_false, not_false_eq_true, ↓reduceIte, nlT, nlF, ntT, ntF, neT, neF, ieT, ieF, decide_true, decide_false, Bool.not_true, Bool.not_false, Bool.and_true, Bool.true_and, Bool.and_false, Bool.false_and, Bool.or_true, Bool.true_or, Bool.or_false, Bool.false_or, h.wk, x_has, c1, r1, nx_and, nA31, c2, e1]
        · have c2' : (clS A w &&& s == 0) = false := by simp [c2]
          have eb := bad (by unfold ccP; rw [c1, c2']; rfl)
          refine Or.inl ?_
          rw [eb]
          simp (disch := omega) only [s30_0, s30_1, s30_2, s30_3, s30_7, s30_8, s30_11, s30_14, s30_15, s30_17, s30_20, s30_23, s30_24, s30_25, s30_26, s30_29, s30_31, s30_32, s30_33, s30_34, s30_35, s30_38, s30_41, s30_42, s30_46, s30_47, s30_50, s30_53, s30_54, s30_56, s30_59, s30_62, s30_63, s30_66, s30_68, s30_69, s30_70, s30_71, s30_74, s30_75, s30_77, s30_78, s30_81, s30_84, s30_85, s30_86, s30_89, s30_92, s30_93, q_0, q_1, q_2, q_3, q_4, q_5, q_6, q_7, q_8, q_9, q_10, q_11, q_12, q_13, q_14, q_16, q_20, q_23, q_24, q_32, q_42, q_43, q_45, q_47, q_48, q_50, q_57, q_59, q_60, q_61, q_62, q_63, q_64, q_66, q_91, q_93, q_97, q_99, q_122, q_144, q_255, q_256, q_300, q_380, q_400, q_620, q_999, q_1000, q_4095, q_4096, q_9999, q_65536, q_99999, q_31, nI_add, pk_mul, nE, nL, nT, nM31, nShl, ib_nI, nI_clamp, bI_n0, bI_n1, bI_nar, uI_r, uI_l, uL_r, uL_i, uL_p, uA_r, uA_l, bV_some, bU_some, nar_n0, nar_n1, and_self, and_true, true_and, and_false, false_and, if_true, if_false, eq_self, Bool.false_eq_true, Bool.true_eq_false, not_true_eq_false, not_false_eq_true, ↓reduceIte, nlT, nlF, ntT, ntF, neT, neF, ieT, ieF, decide_true, decide_false, Bool.not_true, Bool.not_false, Bool.and_true, Bool.true_and, Bool.and_false, Bool.false_and, Bool.or_true, Bool.true_or, Bool.or_false, Bool.false_or, h.wk, x_has, c1, r1, nx_and, nA31, c2]
          rfl
    · intro _ hI
      have hI' : ccB A L s = true := by unfold ccB; rw [hI]; rfl
      show run 30 0 44 _ _ _ = _
      rw [s30_44, hI']
      simp (disch := omega) only [s30_0, s30_1, s30_2, s30_3, s30_7, s30_8, s30_11, s30_14, s30_15, s30_17, s30_20, s30_23, s30_24, s30_25, s30_26, s30_29, s30_31, s30_32, s30_33, s30_34, s30_35, s30_38, s30_41, s30_42, s30_46, s30_47, s30_50, s30_53, s30_54, s30_56, s30_59, s30_62, s30_63, s30_66, s30_68, s30_69, s30_70, s30_71, s30_74, s30_75, s30_77, s30_78, s30_81, s30_84, s30_85, s30_86, s30_89, s30_92, s30_93, q_0, q_1, q_2, q_3, q_4, q_5, q_6, q_7, q_8, q_9, q_10, q_11, q_12, q_13, q_14, q_16, q_20, q_23, q_24, q_32, q_42, q_43, q_45, q_47, q_48, q_50, q_57, q_59, q_60, q_61, q_62, q_63, q_64, q_66, q_91, q_93, q_97, q_99, q_122, q_144, q_255, q_256, q_300, q_380, q_400, q_620, q_999, q_1000, q_4095, q_4096, q_9999, q_65536, q_99999, q_31, nI_add, pk_mul, nE, nL, nT, nM31, nShl, ib_nI, nI_clamp, bI_n0, bI_n1, bI_nar, uI_r, uI_l, uL_r, uL_i, uL_p, uA_r, uA_l, bV_some, bU_some, nar_n0, nar_n1, and_self, and_true, true_and, and_false, false_and, if_true, if_false, eq_self, Bool.false_eq_true, Bool.true_eq_false, not_true_eq_false, not_false_eq_true, ↓reduceIte, nlT, nlF, ntT, ntF, neT, neF, ieT, ieF, decide_true, decide_false, Bool.not_true, Bool.not_false, Bool.and_true, Bool.true_and, Bool.and_false, Bool.false_and, Bool.or_true, Bool.true_or, Bool.or_false, Bool.false_or, h.wk]
      rfl
  show run 30 0 0 [vR 30 0, vR 1 q, vI (nI s), vU, vU] [] S = _
  simp only [s30_0, s30_1, s30_2, s30_3]
  refine up_ (F := fun w => run 30 0 5 [vR 30 0, vR 1 q, vI (nI s), vI (nI (orN (fun w => if s.testBit w = true then 2 ^ A 10 w else 0) w)), vI (nI w)] [] S) (N := A 0 2) ?_ ?_ 0 (by omega)
  · intro w hlt
    have hW := hw.W (w := w) (by omega)
    show run 30 0 5 _ _ _ = run 30 0 5 _ _ _
    rw [s30_5, orN_s]
    cases c1 : s.testBit w with
    | false => simp (disch := omega) only [s30_0, s30_1, s30_2, s30_3, s30_7, s30_8, s30_11, s30_14, s30_15, s30_17, s30_20, s30_23, s30_24, s30_25, s30_26, s30_29, s30_31, s30_32, s30_33, s30_34, s30_35, s30_38, s30_41, s30_42, s30_46, s30_47, s30_50, s30_53, s30_54, s30_56, s30_59, s30_62, s30_63, s30_66, s30_68, s30_69, s30_70, s30_71, s30_74, s30_75, s30_77, s30_78, s30_81, s30_84, s30_85, s30_86, s30_89, s30_92, s30_93, q_0, q_1, q_2, q_3, q_4, q_5, q_6, q_7, q_8, q_9, q_10, q_11, q_12, q_13, q_14, q_16, q_20, q_23, q_24, q_32, q_42, q_43, q_45, q_47, q_48, q_50, q_57, q_59, q_60, q_61, q_62, q_63, q_64, q_66, q_91, q_93, q_97, q_99, q_122, q_144, q_255, q_256, q_300, q_380, q_400, q_620, q_999, q_1000, q_4095, q_4096, q_9999, q_65536, q_99999, q_31, nI_add, pk_mul, nE, nL, nT, nM31, nShl, ib_nI, nI_clamp, bI_n0, bI_n1, bI_nar, uI_r, uI_l, uL_r, uL_i, uL_p, uA_r, uA_l, bV_some, bU_some, nar_n0, nar_n1, and_self, and_true, true_and, and_false, false_and, if_true, if_false, eq_self, Bool.false_eq_true, Bool.true_eq_false, not_true_eq_false, not_false_eq_true, ↓reduceIte, nlT, nlF, ntT, ntF, neT, neF, ieT, ieF, decide_true, decide_false, Bool.not_true, Bool.not_false, Bool.and_true, Bool.true_and, Bool.and_false, Bool.false_and, Bool.or_true, Bool.true_or, Bool.or_false, Bool.false_or, h.wk, x_has, c1, Nat.or_zero]
    | true => simp (disch := omega) only [s30_0, s30_1, s30_2, s30_3, s30_7, s30_8, s30_11, s30_14, s30_15, s30_17, s30_20, s30_23, s30_24, s30_25, s30_26, s30_29, s30_31, s30_32, s30_33, s30_34, s30_35, s30_38, s30_41, s30_42, s30_46, s30_47, s30_50, s30_53, s30_54, s30_56, s30_59, s30_62, s30_63, s30_66, s30_68, s30_69, s30_70, s30_71, s30_74, s30_75, s30_77, s30_78, s30_81, s30_84, s30_85, s30_86, s30_89, s30_92, s30_93, q_0, q_1, q_2, q_3, q_4, q_5, q_6, q_7, q_8, q_9, q_10, q_11, q_12, q_13, q_14, q_16, q_20, q_23, q_24, q_32, q_42, q_43, q_45, q_47, q_48, q_50, q_57, q_59, q_60, q_61, q_62, q_63, q_64, q_66, q_91, q_93, q_97, q_99, q_122, q_144, q_255, q_256, q_300, q_380, q_400, q_620, q_999, q_1000, q_4095, q_4096, q_9999, q_65536, q_99999, q_31, nI_add, pk_mul, nE, nL, nT, nM31, nShl, ib_nI, nI_clamp, bI_n0, bI_n1, bI_nar, uI_r, uI_l, uL_r, uL_i, uL_p, uA_r, uA_l, bV_some, bU_some, nar_n0, nar_n1, and_self, and_true, true_and, and_false, false_and, if_true, if_false, eq_self, Bool.false_eq_true, Bool.true_eq_false, not_true_eq_false, not_false_eq_true, ↓reduceIte, nlT, nlF, ntT, ntF, neT, neF, ieT, ieF, decide_true, decide_false, Bool.not_true, Bool.not_false, Bool.and_true, Bool.true_and, Bool.and_false, Bool.false_and, Bool.or_true, Bool.true_or, Bool.or_false, Bool.false_or, h.wk, x_has, c1, h.ak, nx_or]
  · show run 30 0 5 _ _ _ = _
    rw [s30_5]
    simp (disch := omega) only [s30_0, s30_1, s30_2, s30_3, s30_7, s30_8, s30_11, s30_14, s30_15, s30_17, s30_20, s30_23, s30_24, s30_25, s30_26, s30_29, s30_31, s30_32, s30_33, s30_34, s30_35, s30_38, s30_41, s30_42, s30_46, s30_47, s30_50, s30_53, s30_54, s30_56, s30_59, s30_62, s30_63, s30_66, s30_68, s30_69, s30_70, s30_71, s30_74, s30_75, s30_77, s30_78, s30_81, s30_84, s30_85, s30_86, s30_89, s30_92, s30_93, q_0, q_1, q_2, q_3, q_4, q_5, q_6, q_7, q_8, q_9, q_10, q_11, q_12, q_13, q_14, q_16, q_20, q_23, q_24, q_32, q_42, q_43, q_45, q_47, q_48, q_50, q_57, q_59, q_60, q_61, q_62, q_63, q_64, q_66, q_91, q_93, q_97, q_99, q_122, q_144, q_255, q_256, q_300, q_380, q_400, q_620, q_999, q_1000, q_4095, q_4096, q_9999, q_65536, q_99999, q_31, nI_add, pk_mul, nE, nL, nT, nM31, nShl, ib_nI, nI_clamp, bI_n0, bI_n1, bI_nar, uI_r, uI_l, uL_r, uL_i, uL_p, uA_r, uA_l, bV_some, bU_some, nar_n0, nar_n1, and_self, and_true, true_and, and_false, false_and, if_true, if_false, eq_self, Bool.false_eq_true, Bool.true_eq_false, not_true_eq_false, not_false_eq_true, ↓reduceIte, nlT, nlF, ntT, ntF, neT, neF, ieT, ieF, decide_true, decide_false, Bool.not_true, Bool.not_false, Bool.and_true, Bool.true_and, Bool.and_false, Bool.false_and, Bool.or_true, Bool.true_or, Bool.or_false, Bool.false_or, h.wk]
    exact L2
def faB (A : Tn) (L : Lw) (w : Nat) : Bool := !ex (hiP A L w 4095) (A 0 1)
def ftB (A : Tn) (L : Lw) (w : Nat) : Bool := frB A w && faB A L w
theorem t4095 {o : Nat} (h : o < 12) : (4095 : Nat).testBit o = true := by
  have : ∀ o, o < 12 → (4095 : Nat).testBit o = true := by decide
  exact this o h
theorem hi_mono {A : Tn} {L : Lw} {w Q : Nat} (hw : WF A) (hv : w < 12) (h : ex (hiP A L w Q) (A 0 1) = false) : faB A L w = true := by
  have hT := hw.th
  unfold faB
  rw [Bool.not_eq_true']
  cases c : ex (hiP A L w 4095) (A 0 1) with
  | false => rfl
  | true =>
    obtain ⟨t, ht, e⟩ := ex_t.mp c
    have ho := hw.o (t := t) (by omega)
    have h2 : hiP A L w Q t = false := by
      cases c2 : hiP A L w Q t with
      | false => rfl
      | true =>
        have := ex_mono (P := hiP A L w Q) ht c2
        rw [h] at this
        cases this
    unfold hiP at e h2
    simp only [Bool.and_eq_true, Bool.not_eq_true'] at e
    rw [e.1, Bool.true_and] at h2
    have h3 : hiT A L w Q t = true := by
      cases c3 : hiT A L w Q t with
      | true => rfl
      | false => rw [c3] at h2; cases h2
    have nm : ∀ o, o < 12 → ndI A L w t Q o = true → ndI A L w t 4095 o = true := by
      intro o ho hh
      unfold ndI at hh ⊢
      simp only [Bool.and_eq_true] at hh ⊢
      exact ⟨hh.1, by rw [t4095 ho]; rfl⟩
    have e2 := e.2
    unfold hiT at e2 h3
    by_cases c4 : muN A L w t = 2
    · rw [if_pos c4] at e2 h3
      simp only [Bool.and_eq_true] at h3
      rw [nm _ ho.1 h3.1.1, nm _ ho.2 h3.1.2, h3.2] at e2
      cases e2
    · rw [if_neg c4] at e2 h3
      simp only [Bool.or_eq_true] at h3
      rcases h3 with h3 | h3
      · rw [nm _ ho.1 h3] at e2
        cases e2
      · rw [nm _ ho.2 h3, Bool.or_true] at e2
        cases e2
theorem br_chain {A : Tn} {L : Lw} {s : Nat} (hw : WF A) (hs : s < 2 ^ A 0 2) : mcB A L s = (decide (dif s (bN (ftB A L) (A 0 2)) = 0) && ccB A L s) := by
  have hWk := hw.wk
  have hM12 : 2 ^ A 0 2 ≤ 2 ^ 12 := Nat.pow_le_pow_right (by decide) hWk
  have hbW : ∀ w, s.testBit w = true → w < A 0 2 := by
    intro w hb
    apply Classical.byContradiction
    intro hn
    rw [tb_hi hs (i := w) (by omega)] at hb
    cases hb
  rw [Bool.eq_iff_iff, Bool.and_eq_true, decide_eq_true_eq, dif_0 (by omega)]
  unfold mcB ccB
  rw [Bool.and_eq_true, Bool.not_eq_true', Bool.not_eq_true']
  constructor
  · rintro ⟨h1, h2⟩
    have hin : ∀ w, s.testBit w = true → frB A w = true ∧ ex (hiP A L w (askS A s)) (A 0 1) = false := by
      intro w hb
      have : mcP A L s w = false := by
        cases c : mcP A L s w with
        | false => rfl
        | true =>
          have := ex_mono (P := mcP A L s) (hbW w hb) c
          rw [h2] at this
          cases this
      unfold mcP at this
      rw [hb, Bool.true_and, Bool.not_eq_false'] at this
      simp only [Bool.and_eq_true, Bool.not_eq_true'] at this
      exact this
    have hind := (ap_ind (by omega)).mp h1
    refine ⟨fun w hb => ?_, ?_⟩
    · rw [bN_bit]
      have := hin w hb
      have hfa := hi_mono hw (by have := hbW w hb; omega) this.2
      simp [hbW w hb, ftB, this.1, hfa]
    · cases c : ex (ccP A L s) (A 0 2) with
      | false => rfl
      | true =>
        obtain ⟨w, hlt, e⟩ := ex_t.mp c
        unfold ccP at e
        rw [Bool.and_eq_true] at e
        obtain ⟨e1, e2⟩ := e
        have := hin w e1
        rw [this.2] at e2
        have h0 : clS A w &&& s = 0 := by
          apply Classical.byContradiction
          intro hn
          obtain ⟨o, o1, o2⟩ := and_t.mp hn
          have how := hbW o o2
          rw [clS_bit how] at o1
          by_cases ew : w = o
          · subst ew
            unfold clC at o1
            simp at o1
          · rw [hind w o e1 o2 ew] at o1
            cases o1
        rw [h0] at e2
        cases e2
  · rintro ⟨h1, h2⟩
    have hin : ∀ w, s.testBit w = true → clS A w &&& s = 0 ∧ ex (hiP A L w (askS A s)) (A 0 1) = false := by
      intro w hb
      have : ccP A L s w = false := by
        cases c : ccP A L s w with
        | false => rfl
        | true =>
          have := ex_mono (P := ccP A L s) (hbW w hb) c
          rw [h2] at this
          cases this
      unfold ccP at this
      rw [hb, Bool.true_and, Bool.not_eq_false'] at this
      simp only [Bool.and_eq_true, Bool.not_eq_true', beq_iff_eq] at this
      exact this
    refine ⟨(ap_ind (by omega)).mpr (fun a b ha hb hab => ?_), ?_⟩
    · have h0 := (hin a ha).1
      cases c : clC A a b with
      | false => rfl
      | true =>
        refine absurd h0 (and_t.mpr ⟨b, ?_, hb⟩)
        rw [clS_bit (hbW b hb)]
        exact c
    · cases c : ex (mcP A L s) (A 0 2) with
      | false => rfl
      | true =>
        obtain ⟨w, hlt, e⟩ := ex_t.mp c
        unfold mcP at e
        rw [Bool.and_eq_true] at e
        obtain ⟨e1, e2⟩ := e
        have h3 := h1 w e1
        rw [bN_bit] at h3
        unfold ftB at h3
        simp only [Bool.and_eq_true] at h3
        rw [(hin w e1).2, h3.2.1] at e2
        cases e2
theorem x_leastCh {S : Sto} {q : Nat} {A : Tn} {r : Nat} {L : Lw} {k : Nat} (h : RepC S q A) (hw : WF A) (hL : RepLC S r L) (hl : WFL L) (hk : k < A 0 2) : ∃ S', call 27 0 [vR 30 0, vR 1 q, vR 17 r, vI (nI k), vR 26 0] S = some (some (vI (oC (chF A L k (2 ^ A 0 2)))), S') ∧ Fr (pL [23, 27, 31, 32, 33]) S S' := by
  have hWk := hw.wk
  have hM12 : 2 ^ A 0 2 ≤ 2 ^ 12 := Nat.pow_le_pow_right (by decide) hWk
  have hkk : 2 ^ k ≤ 2 ^ A 0 2 := Nat.pow_le_pow_right (by decide) (by omega)
  obtain ⟨S0, a1, a2, a3⟩ := x_findCl h hw
  have L2 : ∀ S1, Fr (pL [23, 27, 31, 32, 33]) S S1 → ClI S1 A (A 0 2) → FitI S1 A L (ftB A L) (A 0 2) → run 27 0 70 [vR 30 0, vR 1 q, vR 17 r, vI (nI k), vR 26 0, vI (nI (bN (ftB A L) (A 0 2))), vI (-nI 2), vI (nI 13), vI (nI (2 ^ k))] [] S1 = some (some (vI (oC (chF A L k (2 ^ A 0 2)))), S1) := by
    intro S1 f1 hc hf
    have h1 := h.pl f1 (by decide)
    have e0 : chF A L k (2 ^ k) = none := by
      have : ∀ n, n ≤ 2 ^ k → chF A L k n = none := by
        intro n
        induction n with
        | zero => intro _; rfl
        | succ n ih =>
          intro hn
          rw [chF_s, ih (by omega), tb_hi (show n < 2 ^ k by omega) (Nat.le_refl k)]
          rfl
      exact this _ (Nat.le_refl _)
    refine upS (σ := Option Nat) (I := fun s b => b = chF A L k s) (F := fun s b => run 27 0 70 [vR 30 0, vR 1 q, vR 17 r, vI (nI k), vR 26 0, vI (nI (bN (ftB A L) (A 0 2))), vI (oC b), vI (nI (match b with | none => 13 | some c => pop c)), vI (nI s)] [] S1) (Q := fun z => z = some (some (vI (oC (chF A L k (2 ^ A 0 2)))), S1)) (N := 2 ^ A 0 2) ?_ ?_ (2 ^ k) none hkk e0.symm
    · intro s b hs hI
      have ld := dif_lt s (bN (ftB A L) (A 0 2))
      have p1 : pop s ≤ 12 := by
        rw [pop_lt (show s < 2 ^ 12 by omega) (by decide)]
        exact ct_le _ _
      have hbr := br_chain (L := L) hw hs
      refine Or.inr ?_
      show ∃ s', _ ∧ run 27 0 70 _ _ _ = run 27 0 70 _ _ _
      rw [s27_70]
      by_cases c1 : dif s (bN (ftB A L) (A 0 2)) = 0
      · have c1' := (dif_0 (by omega)).mp c1
        have hsf : ∀ w, s.testBit w = true → ftB A L w = true := by
          intro w hb
          have := c1' w hb
          rw [bN_bit] at this
          simp only [Bool.and_eq_true] at this
          exact this.2
        have e1 := x_isCh h1 hw hc hf hs hsf
        have em : mcB A L s = ccB A L s := by rw [hbr, c1]; simp
        cases c2 : s.testBit k with
        | false =>
          refine ⟨b, ?_, ?_⟩
          · rw [chF_s, c2]
            simpa using hI
          · simp (disch := omega) only [s27_0, s27_1, s27_2, s27_5, s27_6, s27_8, s27_9, s27_13, s27_14, s27_17, s27_20, s27_21, s27_23, s27_26, s27_29, s27_30, s27_31, s27_32, s27_34, s27_36, s27_39, s27_42, s27_44, s27_45, s27_47, s27_48, s27_49, s27_51, s27_54, s27_57, s27_59, s27_61, s27_63, s27_65, s27_66, s27_67, s27_68, s27_72, s27_73, s27_74, s27_77, s27_78, s27_81, s27_83, s27_85, s27_86, s27_87, s27_88, s27_91, s27_93, s27_94, s27_97, s27_100, s27_102, s27_105, s27_107, s27_110, s27_111, s27_112, s27_114, s27_117, s27_120, s27_122, s27_124, s27_126, s27_129, s27_131, s27_134, s27_137, s27_139, q_0, q_1, q_2, q_3, q_4, q_5, q_6, q_7, q_8, q_9, q_10, q_11, q_12, q_13, q_14, q_16, q_20, q_23, q_24, q_32, q_42, q_43, q_45, q_47, q_48, q_50, q_57, q_59, q_60, q_61, q_62, q_63, q_64, q_66, q_91, q_93, q_97, q_99, q_122, q_144, q_255, q_256, q_300, q_380, q_400, q_620, q_999, q_1000, q_4095, q_4096, q_9999, q_65536, q_99999, q_31, nI_add, pk_mul, nE, nL, nT, nM31, nShl, ib_nI, nI_clamp, bI_n0, bI_n1, bI_nar, uI_r, uI_l, uL_r, uL_i, uL_p, uA_r, uA_l, bV_some, bU_some, nar_n0, nar_n1, and_self, and_true, true_and, and_false, false_and, if_true, if_false, eq_self, Bool.false_eq_true, Bool.true_eq_false, not_true_eq_false, not_false_eq_true, ↓reduceIte, nlT, nlF, ntT, ntF, neT, neF, ieT, ieF, decide_true, decide_false, Bool.not_true, Bool.not_false, Bool.and_true, Bool.true_and, Bool.and_false, Bool.false_and, Bool.or_true, Bool.true_or, Bool.or_false, Bool.false_or, h1.wk, nI_dif, c1, x_has, c2]
        | true =>
          cases b with
          | none =>
            cases c3 : ccB A L s with
            | false =>
              rw [c3] at e1 em
              refine ⟨none, ?_, ?_⟩
              · rw [chF_s, c2, em]
                simpa using hI
              · simp (disch := omega) only [s27_0, s27_1, s27_2, s27_5, s27_6, s27_8, s27_9, s27_13, s27_14, s27_17, s27_20, s27_21, s27_23, s27_26, s27_29, s27_30, s27_31, s27_32, s27_34, s27_36, s27_39, s27_42, s27_44, s27_45, s27_47, s27_48, s27_49, s27_51, s27_54, s27_57, s27_59, s27_61, s27_63, s27_65, s27_66, s27_67, s27_68, s27_72, s27_73, s27_74, s27_77, s27_78, s27_81, s27_83, s27_85, s27_86, s27_87, s27_88, s27_91, s27_93, s27_94, s27_97, s27_100, s27_102, s27_105, s27_107, s27_110, s27_111, s27_112, s27_114, s27_117, s27_120, s27_122, s27_124, s27_126, s27_129, s27_131, s27_134, s27_137, s27_139, q_0, q_1, q_2, q_3, q_4, q_5, q_6, q_7, q_8, q_9, q_10, q_11, q_12, q_13, q_14, q_16, q_20, q_23, q_24, q_32, q_42, q_43, q_45, q_47, q_48, q_50, q_57, q_59, q_60, q_61, q_62, q_63, q_64, q_66, q_91, q_93, q_97, q_99, q_122, q_144, q_255, q_256, q_300, q_380, q_400, q_620, q_999, q_1000, q_4095, q_4096, q_9999, q_65536, q_99999, q_31, nI_add, pk_mul, nE, nL, nT, nM31, nShl, ib_nI, nI_clamp, bI_n0, bI_n1, bI_nar, uI_r, uI_l, uL_r, uL_i, uL_p, uA_r, uA_l, bV_some, bU_some, nar_n0, nar_n1, and_self, and_true, true_and, and_false, false_and, if_true, if_false, eq_self, Bool.false_eq_true, Bool.true_eq_false, not_true_eq_false, not_false_eq_true, ↓reduceIte, nlT, nlF, ntT, ntF, neT, neF, ieT, ieF, decide_true, decide_false, Bool.not_true, Bool.not_false, Bool.and_true, Bool.true_and, Bool.and_false, Bool.false_and, Bool.or_true, Bool.true_or, Bool.or_false, Bool.false_or, h1.wk, nI_dif, c1, x_has, c2, x_bitCount, e1]
            | true =>
              rw [c3] at e1 em
              refine ⟨some s, ?_, ?_⟩
              · rw [chF_s, c2, em, ← hI]
                rfl
              · simp (disch := omega) only [s27_0, s27_1, s27_2, s27_5, s27_6, s27_8, s27_9, s27_13, s27_14, s27_17, s27_20, s27_21, s27_23, s27_26, s27_29, s27_30, s27_31, s27_32, s27_34, s27_36, s27_39, s27_42, s27_44, s27_45, s27_47, s27_48, s27_49, s27_51, s27_54, s27_57, s27_59, s27_61, s27_63, s27_65, s27_66, s27_67, s27_68, s27_72, s27_73, s27_74, s27_77, s27_78, s27_81, s27_83, s27_85, s27_86, s27_87, s27_88, s27_91, s27_93, s27_94, s27_97, s27_100, s27_102, s27_105, s27_107, s27_110, s27_111, s27_112, s27_114, s27_117, s27_120, s27_122, s27_124, s27_126, s27_129, s27_131, s27_134, s27_137, s27_139, q_0, q_1, q_2, q_3, q_4, q_5, q_6, q_7, q_8, q_9, q_10, q_11, q_12, q_13, q_14, q_16, q_20, q_23, q_24, q_32, q_42, q_43, q_45, q_47, q_48, q_50, q_57, q_59, q_60, q_61, q_62, q_63, q_64, q_66, q_91, q_93, q_97, q_99, q_122, q_144, q_255, q_256, q_300, q_380, q_400, q_620, q_999, q_1000, q_4095, q_4096, q_9999, q_65536, q_99999, q_31, nI_add, pk_mul, nE, nL, nT, nM31, nShl, ib_nI, nI_clamp, bI_n0, bI_n1, bI_nar, uI_r, uI_l, uL_r, uL_i, uL_p, uA_r, uA_l, bV_some, bU_some, nar_n0, nar_n1, and_self, and_true, true_and, and_false, false_and, if_true, if_false, eq_self, Bool.false_eq_true, Bool.true_eq_false, not_true_eq_false, not_false_eq_true, ↓reduceIte, nlT, nlF, ntT, ntF, neT, neF, ieT, ieF, decide_true, decide_false, Bool.not_true, Bool.not_false, Bool.and_true, Bool.true_and, Bool.and_false, Bool.false_and, Bool.or_true, Bool.true_or, Bool.or_false, Bool.false_or, h1.wk, nI_dif, c1, x_has, c2, x_bitCount, e1, oC]
          | some c =>
            have hcl := chF_lt hI.symm
            have p2 := pop_le c
            by_cases c4 : pop s < pop c
            · cases c3 : ccB A L s with
              | false =>
                rw [c3] at e1 em
                refine ⟨some c, ?_, ?_⟩
                · rw [chF_s, c2, em]
                  simpa using hI
                · simp (disch := omega) only [s27_0, s27_1, s27_2, s27_5, s27_6, s27_8, s27_9, s27_13, s27_14, s27_17, s27_20, s27_21, s27_23, s27_26, s27_29, s27_30, s27_31, s27_32, s27_34, s27_36, s27_39, s27_42, s27_44, s27_45, s27_47, s27_48, s27_49, s27_51, s27_54, s27_57, s27_59, s27_61, s27_63, s27_65, s27_66, s27_67, s27_68, s27_72, s27_73, s27_74, s27_77, s27_78, s27_81, s27_83, s27_85, s27_86, s27_87, s27_88, s27_91, s27_93, s27_94, s27_97, s27_100, s27_102, s27_105, s27_107, s27_110, s27_111, s27_112, s27_114, s27_117, s27_120, s27_122, s27_124, s27_126, s27_129, s27_131, s27_134, s27_137, s27_139, q_0, q_1, q_2, q_3, q_4, q_5, q_6, q_7, q_8, q_9, q_10, q_11, q_12, q_13, q_14, q_16, q_20, q_23, q_24, q_32, q_42, q_43, q_45, q_47, q_48, q_50, q_57, q_59, q_60, q_61, q_62, q_63, q_64, q_66, q_91, q_93, q_97, q_99, q_122, q_144, q_255, q_256, q_300, q_380, q_400, q_620, q_999, q_1000, q_4095, q_4096, q_9999, q_65536, q_99999, q_31, nI_add, pk_mul, nE, nL, nT, nM31, nShl, ib_nI, nI_clamp, bI_n0, bI_n1, bI_nar, uI_r, uI_l, uL_r, uL_i, uL_p, uA_r, uA_l, bV_some, bU_some, nar_n0, nar_n1, and_self, and_true, true_and, and_false, false_and, if_true, if_false, eq_self, Bool.false_eq_true, Bool.true_eq_false, not_true_eq_false, not_false_eq_true, ↓reduceIte, nlT, nlF, ntT, ntF, neT, neF, ieT, ieF, decide_true, decide_false, Bool.not_true, Bool.not_false, Bool.and_true, Bool.true_and, Bool.and_false, Bool.false_and, Bool.or_true, Bool.true_or, Bool.or_false, Bool.false_or, h1.wk, nI_dif, c1, x_has, c2, x_bitCount, e1, c4]
              | true =>
                rw [c3] at e1 em
                refine ⟨some s, ?_, ?_⟩
                · rw [chF_s, c2, em, ← hI]
                  simp [c4]
                · simp (disch := omega) only [s27_0, s27_1, s27_2, s27_5, s27_6, s27_8, s27_9, s27_13, s27_14, s27_17, s27_20, s27_21, s27_23, s27_26, s27_29, s27_30, s27_31, s27_32, s27_34, s27_36, s27_39, s27_42, s27_44, s27_45, s27_47, s27_48, s27_49, s27_51, s27_54, s27_57, s27_59, s27_61, s27_63, s27_65, s27_66, s27_67, s27_68, s27_72, s27_73, s27_74, s27_77, s27_78, s27_81, s27_83, s27_85, s27_86, s27_87, s27_88, s27_91, s27_93, s27_94, s27_97, s27_100, s27_102, s27_105, s27_107, s27_110, s27_111, s27_112, s27_114, s27_117, s27_120, s27_122, s27_124, s27_126, s27_129, s27_131, s27_134, s27_137, s27_139, q_0, q_1, q_2, q_3, q_4, q_5, q_6, q_7, q_8, q_9, q_10, q_11, q_12, q_13, q_14, q_16, q_20, q_23, q_24, q_32, q_42, q_43, q_45, q_47, q_48, q_50, q_57, q_59, q_60, q_61, q_62, q_63, q_64, q_66, q_91, q_93, q_97, q_99, q_122, q_144, q_255, q_256, q_300, q_380, q_400, q_620, q_999, q_1000, q_4095, q_4096, q_9999, q_65536, q_99999, q_31, nI_add, pk_mul, nE, nL, nT, nM31, nShl, ib_nI, nI_clamp, bI_n0, bI_n1, bI_nar, uI_r, uI_l, uL_r, uL_i, uL_p, uA_r, uA_l, bV_some, bU_some, nar_n0, nar_n1, and_self, and_true, true_and, and_false, false_and, if_true, if_false, eq_self, Bool.false_eq_true, Bool.true_eq_false, not_true_eq_false, not_false_eq_true, ↓reduceIte, nlT, nlF, ntT, ntF, neT, neF, ieT, ieF, decide_true, decide_false, Bool.not_true, Bool.not_false, Bool.and_true, Bool.true_and, Bool.and_false, Bool.false_and, Bool.or_true, Bool.true_or, Bool.or_false, Bool.false_or, h1.wk, nI_dif, c1, x_has, c2, x_bitCount, e1, c4, oC]
            · refine ⟨some c, ?_, ?_⟩
              · rw [chF_s, c2, ← hI]
                simp [c4]
              · simp (disch := omega) only [s27_0, s27_1, s27_2, s27_5, s27_6, s27_8, s27_9, s27_13, s27_14, s27_17, s27_20, s27_21, s27_23, s27_26, s27_29, s27_30, s27_31, s27_32, s27_34, s27_36, s27_39, s27_42, s27_44, s27_45, s27_47, s27_48, s27_49, s27_51, s27_54, s27_57, s27_59, s27_61, s27_63, s27_65, s27_66, s27_67, s27_68, s27_72, s27_73, s27_74, s27_77, s27_78, s27_81, s27_83, s27_85, s27_86, s27_87, s27_88, s27_91, s27_93, s27_94, s27_97, s27_100, s27_102, s27_105, s27_107, s27_110, s27_111, s27_112, s27_114, s27_117, s27_120, s27_122, s27_124, s27_126, s27_129, s27_131, s27_134, s27_137, s27_139, q_0, q_1, q_2, q_3, q_4, q_5, q_6, q_7, q_8, q_9, q_10, q_11, q_12, q_13, q_14, q_16, q_20, q_23, q_24, q_32, q_42, q_43, q_45, q_47, q_48, q_50, q_57, q_59, q_60, q_61, q_62, q_63, q_64, q_66, q_91, q_93, q_97, q_99, q_122, q_144, q_255, q_256, q_300, q_380, q_400, q_620, q_999, q_1000, q_4095, q_4096, q_9999, q_65536, q_99999, q_31, nI_add, pk_mul, nE, nL, nT, nM31, nShl, ib_nI, nI_clamp, bI_n0, bI_n1, bI_nar, uI_r, uI_l, uL_r, uL_i, uL_p, uA_r, uA_l, bV_some, bU_some, nar_n0, nar_n1, and_self, and_true, true_and, and_false, false_and, if_true, if_false, eq_self, Bool.false_eq_true, Bool.true_eq_false, not_true_eq_false, not_false_eq_true, ↓reduceIte, nlT, nlF, ntT, ntF, neT, neF, ieT, ieF, decide_true, decide_false, Bool.not_true, Bool.not_false, Bool.and_true, Bool.true_and, Bool.and_false, Bool.false_and, Bool.or_true, Bool.true_or, Bool.or_false, Bool.false_or, h1.wk, nI_dif, c1, x_has, c2, x_bitCount, c4]
      · have em : mcB A L s = false := by rw [hbr]; simp [c1]
        refine ⟨b, ?_, ?_⟩
        · rw [chF_s, em]
          simpa using hI
        · simp (disch := omega) only [s27_0, s27_1, s27_2, s27_5, s27_6, s27_8, s27_9, s27_13, s27_14, s27_17, s27_20, s27_21, s27_23, s27_26, s27_29, s27_30, s27_31, s27_32, s27_34, s27_36, s27_39, s27_42, s27_44, s27_45, s27_47, s27_48, s27_49, s27_51, s27_54, s27_57, s27_59, s27_61, s27_63, s27_65, s27_66, s27_67, s27_68, s27_72, s27_73, s27_74, s27_77, s27_78, s27_81, s27_83, s27_85, s27_86, s27_87, s27_88, s27_91, s27_93, s27_94, s27_97, s27_100, s27_102, s27_105, s27_107, s27_110, s27_111, s27_112, s27_114, s27_117, s27_120, s27_122, s27_124, s27_126, s27_129, s27_131, s27_134, s27_137, s27_139, q_0, q_1, q_2, q_3, q_4, q_5, q_6, q_7, q_8, q_9, q_10, q_11, q_12, q_13, q_14, q_16, q_20, q_23, q_24, q_32, q_42, q_43, q_45, q_47, q_48, q_50, q_57, q_59, q_60, q_61, q_62, q_63, q_64, q_66, q_91, q_93, q_97, q_99, q_122, q_144, q_255, q_256, q_300, q_380, q_400, q_620, q_999, q_1000, q_4095, q_4096, q_9999, q_65536, q_99999, q_31, nI_add, pk_mul, nE, nL, nT, nM31, nShl, ib_nI, nI_clamp, bI_n0, bI_n1, bI_nar, uI_r, uI_l, uL_r, uL_i, uL_p, uA_r, uA_l, bV_some, bU_some, nar_n0, nar_n1, and_self, and_true, true_and, and_false, false_and, if_true, if_false, eq_self, Bool.false_eq_true, Bool.true_eq_false, not_true_eq_false, not_false_eq_true, ↓reduceIte, nlT, nlF, ntT, ntF, neT, neF, ieT, ieF, decide_true, decide_false, Bool.not_true, Bool.not_false, Bool.and_true, Bool.true_and, Bool.and_false, Bool.false_and, Bool.or_true, Bool.true_or, Bool.or_false, Bool.false_or, h1.wk, nI_dif, c1]
    · intro b hI
      show run 27 0 70 _ _ _ = _
      rw [s27_70, hI]
      simp (disch := omega) only [s27_0, s27_1, s27_2, s27_5, s27_6, s27_8, s27_9, s27_13, s27_14, s27_17, s27_20, s27_21, s27_23, s27_26, s27_29, s27_30, s27_31, s27_32, s27_34, s27_36, s27_39, s27_42, s27_44, s27_45, s27_47, s27_48, s27_49, s27_51, s27_54, s27_57, s27_59, s27_61, s27_63, s27_65, s27_66, s27_67, s27_68, s27_72, s27_73, s27_74, s27_77, s27_78, s27_81, s27_83, s27_85, s27_86, s27_87, s27_88, s27_91, s27_93, s27_94, s27_97, s27_100, s27_102, s27_105, s27_107, s27_110, s27_111, s27_112, s27_114, s27_117, s27_120, s27_122, s27_124, s27_126, s27_129, s27_131, s27_134, s27_137, s27_139, q_0, q_1, q_2, q_3, q_4, q_5, q_6, q_7, q_8, q_9, q_10, q_11, q_12, q_13, q_14, q_16, q_20, q_23, q_24, q_32, q_42, q_43, q_45, q_47, q_48, q_50, q_57, q_59, q_60, q_61, q_62, q_63, q_64, q_66, q_91, q_93, q_97, q_99, q_122, q_144, q_255, q_256, q_300, q_380, q_400, q_620, q_999, q_1000, q_4095, q_4096, q_9999, q_65536, q_99999, q_31, nI_add, pk_mul, nE, nL, nT, nM31, nShl, ib_nI, nI_clamp, bI_n0, bI_n1, bI_nar, uI_r, uI_l, uL_r, uL_i, uL_p, uA_r, uA_l, bV_some, bU_some, nar_n0, nar_n1, and_self, and_true, true_and, and_false, false_and, if_true, if_false, eq_self, Bool.false_eq_true, Bool.true_eq_false, not_true_eq_false, not_false_eq_true, ↓reduceIte, nlT, nlF, ntT, ntF, neT, neF, ieT, ieF, decide_true, decide_false, Bool.not_true, Bool.not_false, Bool.and_true, Bool.true_and, Bool.and_false, Bool.false_and, Bool.or_true, Bool.true_or, Bool.or_false, Bool.false_or, h1.wk]
  show ∃ S', run 27 0 0 [vR 30 0, vR 1 q, vR 17 r, vI (nI k), vR 26 0, vU, vU, vU, vU] [] S = _ ∧ _
  simp (disch := omega) only [s27_0, s27_1, s27_2, s27_5, s27_6, s27_8, s27_9, s27_13, s27_14, s27_17, s27_20, s27_21, s27_23, s27_26, s27_29, s27_30, s27_31, s27_32, s27_34, s27_36, s27_39, s27_42, s27_44, s27_45, s27_47, s27_48, s27_49, s27_51, s27_54, s27_57, s27_59, s27_61, s27_63, s27_65, s27_66, s27_67, s27_68, s27_72, s27_73, s27_74, s27_77, s27_78, s27_81, s27_83, s27_85, s27_86, s27_87, s27_88, s27_91, s27_93, s27_94, s27_97, s27_100, s27_102, s27_105, s27_107, s27_110, s27_111, s27_112, s27_114, s27_117, s27_120, s27_122, s27_124, s27_126, s27_129, s27_131, s27_134, s27_137, s27_139, q_0, q_1, q_2, q_3, q_4, q_5, q_6, q_7, q_8, q_9, q_10, q_11, q_12, q_13, q_14, q_16, q_20, q_23, q_24, q_32, q_42, q_43, q_45, q_47, q_48, q_50, q_57, q_59, q_60, q_61, q_62, q_63, q_64, q_66, q_91, q_93, q_97, q_99, q_122, q_144, q_255, q_256, q_300, q_380, q_400, q_620, q_999, q_1000, q_4095, q_4096, q_9999, q_65536, q_99999, q_31, nI_add, pk_mul, nE, nL, nT, nM31, nShl, ib_nI, nI_clamp, bI_n0, bI_n1, bI_nar, uI_r, uI_l, uL_r, uL_i, uL_p, uA_r, uA_l, bV_some, bU_some, nar_n0, nar_n1, and_self, and_true, true_and, and_false, false_and, if_true, if_false, eq_self, Bool.false_eq_true, Bool.true_eq_false, not_true_eq_false, not_false_eq_true, ↓reduceIte, nlT, nlF, ntT, ntF, neT, neF, ieT, ieF, decide_true, decide_false, Bool.not_true, Bool.not_false, Bool.and_true, Bool.true_and, Bool.and_false, Bool.false_and, Bool.or_true, Bool.true_or, Bool.or_false, Bool.false_or, a1]
  refine upS (σ := Sto) (I := fun w S1 => Fr (pL [23, 27, 31, 32, 33]) S S1 ∧ ClI S1 A (A 0 2) ∧ FitI S1 A L (ftB A L) w) (F := fun w S1 => run 27 0 11 [vR 30 0, vR 1 q, vR 17 r, vI (nI k), vR 26 0, vI (nI (bN (ftB A L) w)), vI (nI w), vU, vU] [] S1) (Q := fun z => ∃ S', z = some (some (vI (oC (chF A L k (2 ^ A 0 2)))), S') ∧ Fr (pL [23, 27, 31, 32, 33]) S S') (N := A 0 2) ?_ ?_ 0 S0 (by omega) ⟨a2.pl (by simp), a3, fun w hw => by omega⟩
  · intro w S1 hlt hI
    obtain ⟨i1, i2, i3⟩ := hI
    have h1 := h.pl i1 (by decide)
    have hL1 := hL.pl i1 (by decide)
    have e1 := x_isFree h1 hw hlt
    refine Or.inr ?_
    show ∃ s', _ ∧ run 27 0 11 _ _ _ = run 27 0 11 _ _ _
    rw [s27_11]
    cases c1 : frB A w with
    | false =>
      have e := bN_f (P := ftB A L) (i := w) (by simp [ftB, c1])
      rw [c1] at e1
      refine ⟨S1, ⟨i1, i2, fun v hv hP => ?_⟩, ?_⟩
      · by_cases ev : v = w
        · rw [ev] at hP
          simp [ftB, c1] at hP
        · exact i3 v (by omega) hP
      · rw [e]
        simp (disch := omega) only [s27_0, s27_1, s27_2, s27_5, s27_6, s27_8, s27_9, s27_13, s27_14, s27_17, s27_20, s27_21, s27_23, s27_26, s27_29, s27_30, s27_31, s27_32, s27_34, s27_36, s27_39, s27_42, s27_44, s27_45, s27_47, s27_48, s27_49, s27_51, s27_54, s27_57, s27_59, s27_61, s27_63, s27_65, s27_66, s27_67, s27_68, s27_72, s27_73, s27_74, s27_77, s27_78, s27_81, s27_83, s27_85, s27_86, s27_87, s27_88, s27_91, s27_93, s27_94, s27_97, s27_100, s27_102, s27_105, s27_107, s27_110, s27_111, s27_112, s27_114, s27_117, s27_120, s27_122, s27_124, s27_126, s27_129, s27_131, s27_134, s27_137, s27_139, q_0, q_1, q_2, q_3, q_4, q_5, q_6, q_7, q_8, q_9, q_10, q_11, q_12, q_13, q_14, q_16, q_20, q_23, q_24, q_32, q_42, q_43, q_45, q_47, q_48, q_50, q_57, q_59, q_60, q_61, q_62, q_63, q_64, q_66, q_91, q_93, q_97, q_99, q_122, q_144, q_255, q_256, q_300, q_380, q_400, q_620, q_999, q_1000, q_4095, q_4096, q_9999, q_65536, q_99999, q_31, nI_add, pk_mul, nE, nL, nT, nM31, nShl, ib_nI, nI_clamp, bI_n0, bI_n1, bI_nar, uI_r, uI_l, uL_r, uL_i, uL_p, uA_r, uA_l, bV_some, bU_some, nar_n0, nar_n1, and_self, and_true, true_and, and_false, false_and, if_true, if_false, eq_self, Bool.false_eq_true, Bool.true_eq_false, not_true_eq_false, not_false_eq_true, ↓reduceIte, nlT, nlF, ntT, ntF, neT, neF, ieT, ieF, decide_true, decide_false, Bool.not_true, Bool.not_false, Bool.and_true, Bool.true_and, Bool.and_false, Bool.false_and, Bool.or_true, Bool.true_or, Bool.or_false, Bool.false_or, h1.wk, e1]
    | true =>
      rw [c1] at e1
      obtain ⟨S2, b, b1, b2, b3, b4, b5, b6⟩ := x_findAsk h1 hw hL1 hl hlt
      have eb : b = faB A L w := by
        cases b with
        | false =>
          unfold faB
          rw [b6 rfl 4095]
          rfl
        | true =>
          obtain ⟨M, sl, k1, ⟨k2, k3, k4⟩, k5⟩ := b5 rfl
          unfold faB
          rw [← k4 4095]
          have e1 : (dif M 4095 == 0) = true := by
            rw [beq_iff_eq, dif_0 (by omega)]
            intro i hi
            have : i < 12 := by
              apply Classical.byContradiction
              intro hn
              rw [tb_hi k2 (i := i) (by omega)] at hi
              cases hi
            exact t4095 this
          have e2 : sl.all (fun x => !(x &&& 4095 == 0)) = true := by
            rw [List.all_eq_true]
            intro x hx
            obtain ⟨x0, x12⟩ := k3 x hx
            have : x &&& 4095 = x := by
              have := Nat.and_two_pow_sub_one_eq_mod x 12
              rw [show (2 : Nat) ^ 12 - 1 = 4095 by decide] at this
              rw [this, Nat.mod_eq_of_lt x12]
            rw [this]
            simp [x0]
          rw [e1, e2]
          rfl
      refine ⟨S2, ⟨i1.tr (b2.pl (by simp)), fun v hv => by rw [b2.i rfl]; exact i2 v hv, fun v hv hP => ?_⟩, ?_⟩
      · by_cases ev : v = w
        · rw [ev] at hP ⊢
          unfold ftB at hP
          rw [c1, Bool.true_and, ← eb] at hP
          exact b5 hP
        · obtain ⟨M, sl, ⟨k1, k1'⟩, k2, k3⟩ := i3 v (by omega) hP
          refine ⟨M, sl, ⟨by rw [b3 v ev]; exact k1, fun i hi => by rw [b4 _ (by omega)]; exact k1' i hi⟩, k2, k3⟩
      · cases b with
        | false =>
          have e := bN_f (P := ftB A L) (i := w) (by unfold ftB; rw [← eb, Bool.and_false])
          rw [e]
          simp (disch := omega) only [s27_0, s27_1, s27_2, s27_5, s27_6, s27_8, s27_9, s27_13, s27_14, s27_17, s27_20, s27_21, s27_23, s27_26, s27_29, s27_30, s27_31, s27_32, s27_34, s27_36, s27_39, s27_42, s27_44, s27_45, s27_47, s27_48, s27_49, s27_51, s27_54, s27_57, s27_59, s27_61, s27_63, s27_65, s27_66, s27_67, s27_68, s27_72, s27_73, s27_74, s27_77, s27_78, s27_81, s27_83, s27_85, s27_86, s27_87, s27_88, s27_91, s27_93, s27_94, s27_97, s27_100, s27_102, s27_105, s27_107, s27_110, s27_111, s27_112, s27_114, s27_117, s27_120, s27_122, s27_124, s27_126, s27_129, s27_131, s27_134, s27_137, s27_139, q_0, q_1, q_2, q_3, q_4, q_5, q_6, q_7, q_8, q_9, q_10, q_11, q_12, q_13, q_14, q_16, q_20, q_23, q_24, q_32, q_42, q_43, q_45, q_47, q_48, q_50, q_57, q_59, q_60, q_61, q_62, q_63, q_64, q_66, q_91, q_93, q_97, q_99, q_122, q_144, q_255, q_256, q_300, q_380, q_400, q_620, q_999, q_1000, q_4095, q_4096, q_9999, q_65536, q_99999, q_31, nI_add, pk_mul, nE, nL, nT, nM31, nShl, ib_nI, nI_clamp, bI_n0, bI_n1, bI_nar, uI_r, uI_l, uL_r, uL_i, uL_p, uA_r, uA_l, bV_some, bU_some, nar_n0, nar_n1, and_self, and_true, true_and, and_false, false_and, if_true, if_false, eq_self, Bool.false_eq_true, Bool.true_eq_false, not_true_eq_false, not_false_eq_true, ↓reduceIte, nlT, nlF, ntT, ntF, neT, neF, ieT, ieF, decide_true, decide_false, Bool.not_true, Bool.not_false, Bool.and_true, Bool.true_and, Bool.and_false, Bool.false_and, Bool.or_true, Bool.true_or, Bool.or_false, Bool.false_or, h1.wk, e1, b1]
        | true =>
          have e := bN_t (P := ftB A L) (i := w) (by unfold ftB; rw [← eb, c1]; rfl)
          rw [e]
          simp (disch := omega) only [s27_0, s27_1, s27_2, s27_5, s27_6, s27_8, s27_9, s27_13, s27_14, s27_17, s27_20, s27_21, s27_23, s27_26, s27_29, s27_30, s27_31, s27_32, s27_34, s27_36, s27_39, s27_42, s27_44, s27_45, s27_47, s27_48, s27_49, s27_51, s27_54, s27_57, s27_59, s27_61, s27_63, s27_65, s27_66, s27_67, s27_68, s27_72, s27_73, s27_74, s27_77, s27_78, s27_81, s27_83, s27_85, s27_86, s27_87, s27_88, s27_91, s27_93, s27_94, s27_97, s27_100, s27_102, s27_105, s27_107, s27_110, s27_111, s27_112, s27_114, s27_117, s27_120, s27_122, s27_124, s27_126, s27_129, s27_131, s27_134, s27_137, s27_139, q_0, q_1, q_2, q_3, q_4, q_5, q_6, q_7, q_8, q_9, q_10, q_11, q_12, q_13, q_14, q_16, q_20, q_23, q_24, q_32, q_42, q_43, q_45, q_47, q_48, q_50, q_57, q_59, q_60, q_61, q_62, q_63, q_64, q_66, q_91, q_93, q_97, q_99, q_122, q_144, q_255, q_256, q_300, q_380, q_400, q_620, q_999, q_1000, q_4095, q_4096, q_9999, q_65536, q_99999, q_31, nI_add, pk_mul, nE, nL, nT, nM31, nShl, ib_nI, nI_clamp, bI_n0, bI_n1, bI_nar, uI_r, uI_l, uL_r, uL_i, uL_p, uA_r, uA_l, bV_some, bU_some, nar_n0, nar_n1, and_self, and_true, true_and, and_false, false_and, if_true, if_false, eq_self, Bool.false_eq_true, Bool.true_eq_false, not_true_eq_false, not_false_eq_true, ↓reduceIte, nlT, nlF, ntT, ntF, neT, neF, ieT, ieF, decide_true, decide_false, Bool.not_true, Bool.not_false, Bool.and_true, Bool.true_and, Bool.and_false, Bool.false_and, Bool.or_true, Bool.true_or, Bool.or_false, Bool.false_or, h1.wk, e1, b1, nx_or]
  · intro S1 hI
    obtain ⟨i1, i2, i3⟩ := hI
    have h1 := h.pl i1 (by decide)
    have key := L2 S1 i1 i2 i3
    show ∃ S', run 27 0 11 _ _ _ = _ ∧ _
    rw [s27_11]
    simp (disch := omega) only [s27_0, s27_1, s27_2, s27_5, s27_6, s27_8, s27_9, s27_13, s27_14, s27_17, s27_20, s27_21, s27_23, s27_26, s27_29, s27_30, s27_31, s27_32, s27_34, s27_36, s27_39, s27_42, s27_44, s27_45, s27_47, s27_48, s27_49, s27_51, s27_54, s27_57, s27_59, s27_61, s27_63, s27_65, s27_66, s27_67, s27_68, s27_72, s27_73, s27_74, s27_77, s27_78, s27_81, s27_83, s27_85, s27_86, s27_87, s27_88, s27_91, s27_93, s27_94, s27_97, s27_100, s27_102, s27_105, s27_107, s27_110, s27_111, s27_112, s27_114, s27_117, s27_120, s27_122, s27_124, s27_126, s27_129, s27_131, s27_134, s27_137, s27_139, q_0, q_1, q_2, q_3, q_4, q_5, q_6, q_7, q_8, q_9, q_10, q_11, q_12, q_13, q_14, q_16, q_20, q_23, q_24, q_32, q_42, q_43, q_45, q_47, q_48, q_50, q_57, q_59, q_60, q_61, q_62, q_63, q_64, q_66, q_91, q_93, q_97, q_99, q_122, q_144, q_255, q_256, q_300, q_380, q_400, q_620, q_999, q_1000, q_4095, q_4096, q_9999, q_65536, q_99999, q_31, nI_add, pk_mul, nE, nL, nT, nM31, nShl, ib_nI, nI_clamp, bI_n0, bI_n1, bI_nar, uI_r, uI_l, uL_r, uL_i, uL_p, uA_r, uA_l, bV_some, bU_some, nar_n0, nar_n1, and_self, and_true, true_and, and_false, false_and, if_true, if_false, eq_self, Bool.false_eq_true, Bool.true_eq_false, not_true_eq_false, not_false_eq_true, ↓reduceIte, nlT, nlF, ntT, ntF, neT, neF, ieT, ieF, decide_true, decide_false, Bool.not_true, Bool.not_false, Bool.and_true, Bool.true_and, Bool.and_false, Bool.false_and, Bool.or_true, Bool.true_or, Bool.or_false, Bool.false_or, h1.wk, key]
    exact ⟨_, rfl, i1⟩
theorem c_chain {S : Sto} {A : Tn} {R : Rs} (h : RepC S 0 A) (hr : ResC S R) (hw : WF A) (hR : WFR R) (l w : Int32) : ∃ S1, call 119 0 [vR 0 0, vI l, vI w] S = some (some (vI (o_chain A R l w)), S1) ∧ FC S S1 ∧ RepC S1 0 A := by
  have hWk := hw.wk
  have hR6 := hR.2.1.1
  show ∃ S1, run 119 0 0 [vR 0 0, vI l, vI w] [] S = _ ∧ _
  unfold o_chain
  cases e1 : lsB l R.2.1.1 with
  | false =>
    simp (disch := omega) only [s119_0, s119_1, s119_2, s119_5, s119_8, s119_9, s119_12, s119_13, s119_16, s119_19, s119_20, s119_21, s119_22, s119_25, s119_26, s119_29, s119_30, s119_33, s119_34, s119_35, s119_36, s119_37, s119_40, s119_43, q_0, q_1, q_2, q_3, q_4, q_5, q_6, q_7, q_8, q_9, q_10, q_11, q_12, q_13, q_14, q_16, q_20, q_23, q_24, q_32, q_42, q_43, q_45, q_47, q_48, q_50, q_57, q_59, q_60, q_61, q_62, q_63, q_64, q_66, q_91, q_93, q_97, q_99, q_122, q_144, q_255, q_256, q_300, q_380, q_400, q_620, q_999, q_1000, q_4095, q_4096, q_9999, q_65536, q_99999, q_31, nI_add, pk_mul, nE, nL, nT, nM31, nShl, ib_nI, nI_clamp, bI_n0, bI_n1, bI_nar, uI_r, uI_l, uL_r, uL_i, uL_p, uA_r, uA_l, bV_some, bU_some, nar_n0, nar_n1, and_self, and_true, true_and, and_false, false_and, if_true, if_false, eq_self, Bool.false_eq_true, Bool.true_eq_false, not_true_eq_false, not_false_eq_true, ↓reduceIte, nlT, nlF, ntT, ntF, neT, neF, ieT, ieF, decide_true, decide_false, Bool.not_true, Bool.not_false, Bool.and_true, Bool.true_and, Bool.and_false, Bool.false_and, Bool.or_true, Bool.true_or, Bool.or_false, Bool.false_or, x_isLw hr, e1]
    exact ⟨_, rfl, FC.rf, h⟩
  | true =>
    have e1' := e1
    obtain ⟨r, hr', rfl⟩ := lsB_t e1 (by omega)
    cases e2 : lsB w (A 0 2) with
    | false =>
      simp (disch := omega) only [s119_0, s119_1, s119_2, s119_5, s119_8, s119_9, s119_12, s119_13, s119_16, s119_19, s119_20, s119_21, s119_22, s119_25, s119_26, s119_29, s119_30, s119_33, s119_34, s119_35, s119_36, s119_37, s119_40, s119_43, q_0, q_1, q_2, q_3, q_4, q_5, q_6, q_7, q_8, q_9, q_10, q_11, q_12, q_13, q_14, q_16, q_20, q_23, q_24, q_32, q_42, q_43, q_45, q_47, q_48, q_50, q_57, q_59, q_60, q_61, q_62, q_63, q_64, q_66, q_91, q_93, q_97, q_99, q_122, q_144, q_255, q_256, q_300, q_380, q_400, q_620, q_999, q_1000, q_4095, q_4096, q_9999, q_65536, q_99999, q_31, nI_add, pk_mul, nE, nL, nT, nM31, nShl, ib_nI, nI_clamp, bI_n0, bI_n1, bI_nar, uI_r, uI_l, uL_r, uL_i, uL_p, uA_r, uA_l, bV_some, bU_some, nar_n0, nar_n1, and_self, and_true, true_and, and_false, false_and, if_true, if_false, eq_self, Bool.false_eq_true, Bool.true_eq_false, not_true_eq_false, not_false_eq_true, ↓reduceIte, nlT, nlF, ntT, ntF, neT, neF, ieT, ieF, decide_true, decide_false, Bool.not_true, Bool.not_false, Bool.and_true, Bool.true_and, Bool.and_false, Bool.false_and, Bool.or_true, Bool.true_or, Bool.or_false, Bool.false_or, x_isLw hr, e1', x_isW h, e2]
      exact ⟨_, rfl, FC.rf, h⟩
    | true =>
      have e2' := e2
      obtain ⟨j, hj, rfl⟩ := lsB_t e2 (by omega)
      rw [nI_clamp (by omega), nI_clamp (by omega)]
      obtain ⟨S1, a1, a2⟩ := x_leastCh h hw (hr.2.1.2 r hr') (hR.2.1.2 r hr') hj
      simp (disch := omega) only [s119_0, s119_1, s119_2, s119_5, s119_8, s119_9, s119_12, s119_13, s119_16, s119_19, s119_20, s119_21, s119_22, s119_25, s119_26, s119_29, s119_30, s119_33, s119_34, s119_35, s119_36, s119_37, s119_40, s119_43, q_0, q_1, q_2, q_3, q_4, q_5, q_6, q_7, q_8, q_9, q_10, q_11, q_12, q_13, q_14, q_16, q_20, q_23, q_24, q_32, q_42, q_43, q_45, q_47, q_48, q_50, q_57, q_59, q_60, q_61, q_62, q_63, q_64, q_66, q_91, q_93, q_97, q_99, q_122, q_144, q_255, q_256, q_300, q_380, q_400, q_620, q_999, q_1000, q_4095, q_4096, q_9999, q_65536, q_99999, q_31, nI_add, pk_mul, nE, nL, nT, nM31, nShl, ib_nI, nI_clamp, bI_n0, bI_n1, bI_nar, uI_r, uI_l, uL_r, uL_i, uL_p, uA_r, uA_l, bV_some, bU_some, nar_n0, nar_n1, and_self, and_true, true_and, and_false, false_and, if_true, if_false, eq_self, Bool.false_eq_true, Bool.true_eq_false, not_true_eq_false, not_false_eq_true, ↓reduceIte, nlT, nlF, ntT, ntF, neT, neF, ieT, ieF, decide_true, decide_false, Bool.not_true, Bool.not_false, Bool.and_true, Bool.true_and, Bool.and_false, Bool.false_and, Bool.or_true, Bool.true_or, Bool.or_false, Bool.false_or, x_isLw hr, e1', x_isW h, e2', a1, Nat.zero_add]
      exact ⟨_, rfl, FC.pl a2 (by decide), h.pl a2 (by decide)⟩
