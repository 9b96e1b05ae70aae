/-! halves changed about -/
def uO (A : Tn) (i v : Nat) : Tn := if i % 2 = 0 then uT A 7 (i / 2) v else uT A 8 (i / 2) v
theorem ow_uO (A : Tn) (i v k : Nat) : ow (uO A i v) k = if k = i then v else ow A k := by
  unfold ow uO
  by_cases h1 : i % 2 = 0
  · rw [if_pos h1]
    by_cases h2 : k % 2 = 0
    · rw [if_pos h2, uT_r, if_pos h2]
      by_cases h3 : k = i
      · rw [if_pos ⟨rfl, by omega⟩, if_pos h3]
      · rw [if_neg (by omega), if_neg h3]
    · rw [if_neg h2, uT_r, if_neg (by omega), if_neg (by omega), if_neg h2]
  · rw [if_neg h1]
    by_cases h2 : k % 2 = 0
    · rw [if_pos h2, uT_r, if_neg (by omega), if_neg (by omega), if_pos h2]
    · rw [if_neg h2, uT_r, if_neg h2]
      by_cases h3 : k = i
      · rw [if_pos ⟨rfl, by omega⟩, if_pos h3]
      · rw [if_neg (by omega), if_neg h3]
theorem uO_f {A : Tn} {i v f k : Nat} (h7 : f ≠ 7) (h8 : f ≠ 8) : uO A i v f k = A f k := by
  unfold uO
  split <;> rw [uT_r, if_neg (by omega)]
theorem RepC.s_ow {S : Sto} {q : Nat} {A : Tn} (h : RepC S q A) (i v : Nat) {x : Int32} (hx : x = nI v) : RepC (uI S 7 q i x) q (uO A i v) := by
  unfold uO
  by_cases e : i % 2 = 0
  · rw [if_pos e]
    have := h.s_o1 (i / 2) v hx
    rw [show 2 * (i / 2) = i by omega] at this
    exact this
  · rw [if_neg e]
    have := h.s_o2 (i / 2) v hx
    rw [show 2 * (i / 2) + 1 = i by omega] at this
    exact this
theorem WF.own {A A' : Tn} (h : WF A) (hf : ∀ f i, f ≠ 7 → f ≠ 8 → A' f i = A f i) (ho : ∀ t, t < A 0 1 → A' 7 t < A 0 0 ∧ A' 8 t < A 0 0 ∧ A' 7 t ≠ A' 8 t ∧ A 2 (A' 7 t) = 1 ∧ A 2 (A' 8 t) = 1) (ho2 : ∀ t, t < 24 → A' 7 t < 12 ∧ A' 8 t < 12) : WF A' := by
  have e0 : ∀ i, A' 0 i = A 0 i := fun i => hf 0 i (by decide) (by decide)
  have e1 : ∀ i, A' 1 i = A 1 i := fun i => hf 1 i (by decide) (by decide)
  have e2 : ∀ i, A' 2 i = A 2 i := fun i => hf 2 i (by decide) (by decide)
  have e3 : ∀ i, A' 3 i = A 3 i := fun i => hf 3 i (by decide) (by decide)
  have e4 : ∀ i, A' 4 i = A 4 i := fun i => hf 4 i (by decide) (by decide)
  have e5 : ∀ i, A' 5 i = A 5 i := fun i => hf 5 i (by decide) (by decide)
  have e9 : ∀ i, A' 9 i = A 9 i := fun i => hf 9 i (by decide) (by decide)
  have e10 : ∀ i, A' 10 i = A 10 i := fun i => hf 10 i (by decide) (by decide)
  have e11 : ∀ i, A' 11 i = A 11 i := fun i => hf 11 i (by decide) (by decide)
  have e12 : ∀ i, A' 12 i = A 12 i := fun i => hf 12 i (by decide) (by decide)
  have e13 : ∀ i, A' 13 i = A 13 i := fun i => hf 13 i (by decide) (by decide)
  have e14 : ∀ i, A' 14 i = A 14 i := fun i => hf 14 i (by decide) (by decide)
  have e15 : ∀ i, A' 15 i = A 15 i := fun i => hf 15 i (by decide) (by decide)
  unfold WF at h ⊢
  simp only [e0, e1, e2, e3, e4, e5, e9, e10, e11, e12, e13, e14, e15]
  refine ⟨h.1, h.2.1, h.2.2.1, h.2.2.2.1, fun t ht => ?_, h.2.2.2.2.2.1, h.2.2.2.2.2.2.1, h.2.2.2.2.2.2.2.1, ho2, h.2.2.2.2.2.2.2.2.2⟩
  have h1 := ho t ht
  exact ⟨h1.1, h1.2.1, h1.2.2.1, (h.2.2.2.2.1 t ht).2.2.2.1, h1.2.2.2.1, h1.2.2.2.2⟩
/-- may two halves change hands -/
def swB (A : Tn) (i j : Nat) : Bool := !(i / 2 == j / 2) && !(ow A i == ow A j) && !(ow A (i ^^^ 1) == ow A j) && !(ow A (j ^^^ 1) == ow A i)
def swT (A : Tn) (i j : Nat) : Tn := uO (uO A i (ow A j)) j (ow A i)
theorem ow_sw {A : Tn} {i j k : Nat} : ow (swT A i j) k = if k = j then ow A i else if k = i then ow A j else ow A k := by
  unfold swT
  rw [ow_uO, ow_uO]
theorem swT_f {A : Tn} {i j f k : Nat} (h7 : f ≠ 7) (h8 : f ≠ 8) : swT A i j f k = A f k := by
  unfold swT
  rw [uO_f h7 h8, uO_f h7 h8]
theorem WF.ow {A : Tn} (h : WF A) {i : Nat} (hi : i < 2 * A 0 1) : ow A i < A 0 0 ∧ A 2 (ow A i) = 1 ∧ ow A i ≠ ow A (i ^^^ 1) := by
  have h1 := h.t (t := i / 2) (by omega)
  by_cases e : i % 2 = 0
  · have ek : i = 2 * (i / 2) := by omega
    rw [ek, x1_0, ow_0, ow_1]
    exact ⟨h1.1, h1.2.2.2.2.1, h1.2.2.1⟩
  · have ek : i = 2 * (i / 2) + 1 := by omega
    rw [ek, x1_1, ow_0, ow_1]
    exact ⟨h1.2.1, h1.2.2.2.2.2, Ne.symm h1.2.2.1⟩
theorem x1_2 (i : Nat) : (i ^^^ 1) / 2 = i / 2 ∧ (i ^^^ 1) ≠ i := by
  by_cases e : i % 2 = 0
  · have ek : i = 2 * (i / 2) := by omega
    rw [ek, x1_0]
    omega
  · have ek : i = 2 * (i / 2) + 1 := by omega
    rw [ek, x1_1]
    omega
theorem swT_W {A : Tn} (h : WF A) {i j : Nat} (hi : i < 2 * A 0 1) (hj : j < 2 * A 0 1) (hs : swB A i j = true) : WF (swT A i j) := by
  have hP := h.pe
  have hT := h.th
  unfold swB at hs
  simp only [Bool.and_eq_true, Bool.not_eq_true', beq_eq_false_iff_ne] at hs
  obtain ⟨⟨⟨s1, s2⟩, s3⟩, s4⟩ := hs
  have oi := h.ow hi
  have oj := h.ow hj
  refine h.own (fun f k h7 h8 => swT_f h7 h8) (fun t ht => ?_) (fun t ht => ?_)
  · have o0 := h.ow (i := 2 * t) (by omega)
    have o1 := h.ow (i := 2 * t + 1) (by omega)
    rw [x1_0] at o0
    rw [← ow_0 (swT A i j) t, ← ow_1 (swT A i j) t, ow_sw, ow_sw]
    refine ⟨?_, ?_, ?_, ?_, ?_⟩
    · split
      · exact oi.1
      · split
        · exact oj.1
        · exact o0.1
    · split
      · exact oi.1
      · split
        · exact oj.1
        · exact o1.1
    · by_cases e1 : 2 * t = j
      · rw [if_pos e1, if_neg (by omega), if_neg (by omega)]
        rw [← e1, x1_0] at s4
        exact Ne.symm s4
      · rw [if_neg e1]
        by_cases e2 : 2 * t = i
        · rw [if_pos e2, if_neg (by omega), if_neg (by omega)]
          rw [← e2, x1_0] at s3
          exact Ne.symm s3
        · rw [if_neg e2]
          by_cases e3 : 2 * t + 1 = j
          · rw [if_pos e3]
            rw [← e3, x1_1] at s4
            exact s4
          · rw [if_neg e3]
            by_cases e4 : 2 * t + 1 = i
            · rw [if_pos e4]
              rw [← e4, x1_1] at s3
              exact s3
            · rw [if_neg e4]
              exact o0.2.2
    · split
      · exact oi.2.1
      · split
        · exact oj.2.1
        · exact o0.2.1
    · split
      · exact oi.2.1
      · split
        · exact oj.2.1
        · exact o1.2.1
  · have p0 := h.ow12 (i := 2 * t) (by omega)
    have p1 := h.ow12 (i := 2 * t + 1) (by omega)
    have pi := h.ow12 (i := i) (by omega)
    have pj := h.ow12 (i := j) (by omega)
    rw [← ow_0 (swT A i j) t, ← ow_1 (swT A i j) t, ow_sw, ow_sw]
    refine ⟨?_, ?_⟩
    · split
      · exact pi
      · split <;> assumption
    · split
      · exact pi
      · split <;> assumption
theorem nx1 (i : Nat) : nI i ^^^ nI 1 = nI (i ^^^ 1) := nI_x1 i
theorem x_canChange {S : Sto} {q : Nat} {A : Tn} {i j : Nat} (h : RepC S q A) (hw : WF A) (hi : i < 48) (hj : j < 48) : call 0 0 [vR 41 0, vR 1 q, vI (nI i), vI (nI j)] S = some (some (vI (bI (swB A i j))), S) := by
  have hx := x1_lt (i := i) (n := 24) hi
  have hy := x1_lt (i := j) (n := 24) hj
  have o1 := hw.ow12 hi
  have o2 := hw.ow12 hj
  have o3 := hw.ow12 (i := i ^^^ 1) hx
  have o4 := hw.ow12 (i := j ^^^ 1) hy
  show run 0 0 0 [vR 41 0, vR 1 q, vI (nI i), vI (nI j), vU, vU] [] S = _
  unfold swB
  simp (disch := omega) only [s0_0, s0_1, s0_4, s0_5, s0_6, s0_8, s0_9, s0_12, s0_13, s0_14, s0_16, s0_17, s0_18, s0_19, s0_20, s0_21, s0_22, s0_25, s0_27, s0_29, s0_32, s0_33, s0_36, s0_37, s0_38, s0_39, s0_40, s0_42, s0_45, s0_46, s0_49, s0_50, s0_51, s0_52, s0_53, s0_55, s0_58, s0_59, s0_62, s0_63, q_0, q_1, q_2, q_3, q_4, q_5, q_6, q_7, q_8, q_9, q_10, q_11, q_12, q_13, q_14, q_16, q_20, q_23, q_24, q_32, q_42, q_43, q_45, q_47, q_48, q_50, q_57, q_59, q_60, q_61, q_62, q_63, q_64, q_66, q_91, q_93, q_97, q_99, q_122, q_144, q_255, q_256, q_300, q_380, q_400, q_620, q_999, q_1000, q_4095, q_4096, q_9999, q_65536, q_99999, q_31, nI_add, pk_mul, nE, nL, nT, nM31, nShl, ib_nI, nI_clamp, bI_n0, bI_n1, bI_nar, uI_r, uI_l, uL_r, uL_i, uL_p, uA_r, uA_l, bV_some, bU_some, nar_n0, nar_n1, and_self, and_true, true_and, and_false, false_and, if_true, if_false, eq_self, Bool.false_eq_true, Bool.true_eq_false, not_true_eq_false, not_false_eq_true, ↓reduceIte, nlT, nlF, ntT, ntF, neT, neF, ieT, ieF, decide_true, decide_false, Bool.not_true, Bool.not_false, Bool.and_true, Bool.true_and, Bool.and_false, Bool.false_and, Bool.or_true, Bool.true_or, Bool.or_false, Bool.false_or, h.own, nDiv, nx1]
  by_cases c1 : i / 2 = j / 2
  · simp [c1, bI]; rfl
  · by_cases c2 : ow A i = ow A j
    · simp [c1, c2, bI]; rfl
    · by_cases c3 : ow A (i ^^^ 1) = ow A j
      · simp [c1, c2, c3, bI]; rfl
      · by_cases c4 : ow A (j ^^^ 1) = ow A i
        · simp [c1, c2, c3, c4, bI]; rfl
        · simp [c1, c2, c3, c4, bI]; rfl
theorem x_change {S : Sto} {q : Nat} {A : Tn} {i j : Nat} (h : RepC S q A) (hw : WF A) (hi : i < 48) (hj : j < 48) : ∃ S', call 1 0 [vR 41 0, vR 1 q, vI (nI i), vI (nI j)] S = some (none, S') ∧ Fr (pT q) S S' ∧ RepC S' q (swT A i j) := by
  have e1 : (uI S 7 q i (nI (ow A j))).1 7 q j = if j = i then nI (ow A j) else S.1 7 q j := by rw [uI_r]; simp
  show ∃ S', run 1 0 0 [vR 41 0, vR 1 q, vI (nI i), vI (nI j), vU] [] S = _ ∧ _
  simp (disch := omega) only [s1_0, s1_1, s1_4, s1_5, s1_6, s1_8, s1_9, s1_12, s1_13, s1_14, s1_17, s1_18, s1_19, s1_20, s1_21, s1_24, s1_25, s1_27, s1_28, q_0, q_1, q_2, q_3, q_4, q_5, q_6, q_7, q_8, q_9, q_10, q_11, q_12, q_13, q_14, q_16, q_20, q_23, q_24, q_32, q_42, q_43, q_45, q_47, q_48, q_50, q_57, q_59, q_60, q_61, q_62, q_63, q_64, q_66, q_91, q_93, q_97, q_99, q_122, q_144, q_255, q_256, q_300, q_380, q_400, q_620, q_999, q_1000, q_4095, q_4096, q_9999, q_65536, q_99999, q_31, nI_add, pk_mul, nE, nL, nT, nM31, nShl, ib_nI, nI_clamp, bI_n0, bI_n1, bI_nar, uI_r, uI_l, uL_r, uL_i, uL_p, uA_r, uA_l, bV_some, bU_some, nar_n0, nar_n1, and_self, and_true, true_and, and_false, false_and, if_true, if_false, eq_self, Bool.false_eq_true, Bool.true_eq_false, not_true_eq_false, not_false_eq_true, ↓reduceIte, nlT, nlF, ntT, ntF, neT, neF, ieT, ieF, decide_true, decide_false, Bool.not_true, Bool.not_false, Bool.and_true, Bool.true_and, Bool.and_false, Bool.false_and, Bool.or_true, Bool.true_or, Bool.or_false, Bool.false_or, h.own]
  exact ⟨_, rfl, (Fr.rfl'.uI (pT_t (by decide) (by decide))).uI (pT_t (by decide) (by decide)), (h.s_ow i _ rfl).s_ow j _ rfl⟩
def o_swap (A : Tn) (t f u g : Int32) : Int32 × Tn := if (lsB t (A 0 1) && lsB u (A 0 1) && lsB f 2 && lsB g 2) = true ∧ swB A (2 * t.toNatClampNeg + f.toNatClampNeg) (2 * u.toNatClampNeg + g.toNatClampNeg) = true then (nI 1, swT A (2 * t.toNatClampNeg + f.toNatClampNeg) (2 * u.toNatClampNeg + g.toNatClampNeg)) else (nI 0, A)
theorem w_swap {A : Tn} (h : WF A) (t f u g : Int32) : WF (o_swap A t f u g).2 := by
  have hT := h.th
  unfold o_swap
  split
  · rename_i e
    obtain ⟨e1, e2⟩ := e
    simp only [Bool.and_eq_true] at e1
    obtain ⟨t, ht, rfl⟩ := lsB_t e1.1.1.1 (by omega)
    obtain ⟨u, hu, rfl⟩ := lsB_t e1.1.1.2 (by omega)
    obtain ⟨f, hf, rfl⟩ := lsB_t e1.1.2 (by omega)
    obtain ⟨g, hg, rfl⟩ := lsB_t e1.2 (by omega)
    rw [nI_clamp (by omega), nI_clamp (by omega), nI_clamp (by omega), nI_clamp (by omega)] at e2
    show WF (swT A _ _)
    rw [nI_clamp (by omega), nI_clamp (by omega), nI_clamp (by omega), nI_clamp (by omega)]
    exact swT_W h (by omega) (by omega) e2
  · exact h
theorem c_swap {S : Sto} {A : Tn} (h : RepC S 0 A) (hw : WF A) (t f u g : Int32) : ∃ S1, call 126 0 [vR 0 0, vI t, vI f, vI u, vI g] S = some (some (vI (o_swap A t f u g).1), S1) ∧ FC S S1 ∧ RepC S1 0 (o_swap A t f u g).2 := by
  have hT := hw.th
  show ∃ S1, run 126 0 0 [vR 0 0, vI t, vI f, vI u, vI g, vU, vU] [] S = _ ∧ _
  unfold o_swap
  cases e1 : lsB t (A 0 1) with
  | false =>
    simp (disch := omega) only [s126_0, s126_1, s126_4, s126_5, s126_8, s126_11, s126_12, s126_15, s126_16, s126_19, s126_22, s126_23, s126_24, s126_27, s126_30, s126_32, s126_33, s126_36, s126_39, s126_40, s126_41, s126_42, s126_43, s126_44, s126_45, s126_46, s126_48, s126_49, s126_50, s126_51, s126_53, s126_54, s126_56, s126_57, s126_60, s126_61, s126_64, s126_66, s126_68, s126_71, s126_74, s126_75, s126_76, s126_77, s126_80, s126_81, s126_84, s126_86, s126_88, s126_91, s126_92, q_0, q_1, q_2, q_3, q_4, q_5, q_6, q_7, q_8, q_9, q_10, q_11, q_12, q_13, q_14, q_16, q_20, q_23, q_24, q_32, q_42, q_43, q_45, q_47, q_48, q_50, q_57, q_59, q_60, q_61, q_62, q_63, q_64, q_66, q_91, q_93, q_97, q_99, q_122, q_144, q_255, q_256, q_300, q_380, q_400, q_620, q_999, q_1000, q_4095, q_4096, q_9999, q_65536, q_99999, q_31, nI_add, pk_mul, nE, nL, nT, nM31, nShl, ib_nI, nI_clamp, bI_n0, bI_n1, bI_nar, uI_r, uI_l, uL_r, uL_i, uL_p, uA_r, uA_l, bV_some, bU_some, nar_n0, nar_n1, and_self, and_true, true_and, and_false, false_and, if_true, if_false, eq_self, Bool.false_eq_true, Bool.true_eq_false, not_true_eq_false, not_false_eq_true, ↓reduceIte, nlT, nlF, ntT, ntF, neT, neF, ieT, ieF, decide_true, decide_false, Bool.not_true, Bool.not_false, Bool.and_true, Bool.true_and, Bool.and_false, Bool.false_and, Bool.or_true, Bool.true_or, Bool.or_false, Bool.false_or, x_isT h, e1]
    exact ⟨_, rfl, FC.rf, h⟩
  | true =>
    cases e2 : lsB u (A 0 1) with
    | false =>
      simp (disch := omega) only [s126_0, s126_1, s126_4, s126_5, s126_8, s126_11, s126_12, s126_15, s126_16, s126_19, s126_22, s126_23, s126_24, s126_27, s126_30, s126_32, s126_33, s126_36, s126_39, s126_40, s126_41, s126_42, s126_43, s126_44, s126_45, s126_46, s126_48, s126_49, s126_50, s126_51, s126_53, s126_54, s126_56, s126_57, s126_60, s126_61, s126_64, s126_66, s126_68, s126_71, s126_74, s126_75, s126_76, s126_77, s126_80, s126_81, s126_84, s126_86, s126_88, s126_91, s126_92, q_0, q_1, q_2, q_3, q_4, q_5, q_6, q_7, q_8, q_9, q_10, q_11, q_12, q_13, q_14, q_16, q_20, q_23, q_24, q_32, q_42, q_43, q_45, q_47, q_48, q_50, q_57, q_59, q_60, q_61, q_62, q_63, q_64, q_66, q_91, q_93, q_97, q_99, q_122, q_144, q_255, q_256, q_300, q_380, q_400, q_620, q_999, q_1000, q_4095, q_4096, q_9999, q_65536, q_99999, q_31, nI_add, pk_mul, nE, nL, nT, nM31, nShl, ib_nI, nI_clamp, bI_n0, bI_n1, bI_nar, uI_r, uI_l, uL_r, uL_i, uL_p, uA_r, uA_l, bV_some, bU_some, nar_n0, nar_n1, and_self, and_true, true_and, and_false, false_and, if_true, if_false, eq_self, Bool.false_eq_true, Bool.true_eq_false, not_true_eq_false, not_false_eq_true, ↓reduceIte, nlT, nlF, ntT, ntF, neT, neF, ieT, ieF, decide_true, decide_false, Bool.not_true, Bool.not_false, Bool.and_true, Bool.true_and, Bool.and_false, Bool.false_and, Bool.or_true, Bool.true_or, Bool.or_false, Bool.false_or, x_isT h, e1, e2]
      exact ⟨_, rfl, FC.rf, h⟩
    | true =>
      cases e3 : lsB f 2 with
      | false =>
        simp (disch := omega) only [s126_0, s126_1, s126_4, s126_5, s126_8, s126_11, s126_12, s126_15, s126_16, s126_19, s126_22, s126_23, s126_24, s126_27, s126_30, s126_32, s126_33, s126_36, s126_39, s126_40, s126_41, s126_42, s126_43, s126_44, s126_45, s126_46, s126_48, s126_49, s126_50, s126_51, s126_53, s126_54, s126_56, s126_57, s126_60, s126_61, s126_64, s126_66, s126_68, s126_71, s126_74, s126_75, s126_76, s126_77, s126_80, s126_81, s126_84, s126_86, s126_88, s126_91, s126_92, q_0, q_1, q_2, q_3, q_4, q_5, q_6, q_7, q_8, q_9, q_10, q_11, q_12, q_13, q_14, q_16, q_20, q_23, q_24, q_32, q_42, q_43, q_45, q_47, q_48, q_50, q_57, q_59, q_60, q_61, q_62, q_63, q_64, q_66, q_91, q_93, q_97, q_99, q_122, q_144, q_255, q_256, q_300, q_380, q_400, q_620, q_999, q_1000, q_4095, q_4096, q_9999, q_65536, q_99999, q_31, nI_add, pk_mul, nE, nL, nT, nM31, nShl, ib_nI, nI_clamp, bI_n0, bI_n1, bI_nar, uI_r, uI_l, uL_r, uL_i, uL_p, uA_r, uA_l, bV_some, bU_some, nar_n0, nar_n1, and_self, and_true, true_and, and_false, false_and, if_true, if_false, eq_self, Bool.false_eq_true, Bool.true_eq_false, not_true_eq_false, not_false_eq_true, ↓reduceIte, nlT, nlF, ntT, ntF, neT, neF, ieT, ieF, decide_true, decide_false, Bool.not_true, Bool.not_false, Bool.and_true, Bool.true_and, Bool.and_false, Bool.false_and, Bool.or_true, Bool.true_or, Bool.or_false, Bool.false_or, x_isT h, x_in, e1, e2, e3]
        exact ⟨_, rfl, FC.rf, h⟩
      | true =>
        cases e4 : lsB g 2 with
        | false =>
          simp (disch := omega) only [s126_0, s126_1, s126_4, s126_5, s126_8, s126_11, s126_12, s126_15, s126_16, s126_19, s126_22, s126_23, s126_24, s126_27, s126_30, s126_32, s126_33, s126_36, s126_39, s126_40, s126_41, s126_42, s126_43, s126_44, s126_45, s126_46, s126_48, s126_49, s126_50, s126_51, s126_53, s126_54, s126_56, s126_57, s126_60, s126_61, s126_64, s126_66, s126_68, s126_71, s126_74, s126_75, s126_76, s126_77, s126_80, s126_81, s126_84, s126_86, s126_88, s126_91, s126_92, q_0, q_1, q_2, q_3, q_4, q_5, q_6, q_7, q_8, q_9, q_10, q_11, q_12, q_13, q_14, q_16, q_20, q_23, q_24, q_32, q_42, q_43, q_45, q_47, q_48, q_50, q_57, q_59, q_60, q_61, q_62, q_63, q_64, q_66, q_91, q_93, q_97, q_99, q_122, q_144, q_255, q_256, q_300, q_380, q_400, q_620, q_999, q_1000, q_4095, q_4096, q_9999, q_65536, q_99999, q_31, nI_add, pk_mul, nE, nL, nT, nM31, nShl, ib_nI, nI_clamp, bI_n0, bI_n1, bI_nar, uI_r, uI_l, uL_r, uL_i, uL_p, uA_r, uA_l, bV_some, bU_some, nar_n0, nar_n1, and_self, and_true, true_and, and_false, false_and, if_true, if_false, eq_self, Bool.false_eq_true, Bool.true_eq_false, not_true_eq_false, not_false_eq_true, ↓reduceIte, nlT, nlF, ntT, ntF, neT, neF, ieT, ieF, decide_true, decide_false, Bool.not_true, Bool.not_false, Bool.and_true, Bool.true_and, Bool.and_false, Bool.false_and, Bool.or_true, Bool.true_or, Bool.or_false, Bool.false_or, x_isT h, x_in, e1, e2, e3, e4]
          exact ⟨_, rfl, FC.rf, h⟩
        | true =>
          have e1' := e1
          have e2' := e2
          have e3' := e3
          have e4' := e4
          obtain ⟨t, ht, rfl⟩ := lsB_t e1 (by omega)
          obtain ⟨u, hu, rfl⟩ := lsB_t e2 (by omega)
          obtain ⟨f, hf, rfl⟩ := lsB_t e3 (by omega)
          obtain ⟨g, hg, rfl⟩ := lsB_t e4 (by omega)
          rw [nI_clamp (by omega), nI_clamp (by omega), nI_clamp (by omega), nI_clamp (by omega)]
          have c1 := x_canChange h hw (i := 2 * t + f) (j := 2 * u + g) (by omega) (by omega)
          obtain ⟨S1, a1, a2, a3⟩ := x_change h hw (i := 2 * t + f) (j := 2 * u + g) (by omega) (by omega)
          cases e5 : swB A (2 * t + f) (2 * u + g) with
          | false =>
            rw [e5] at c1
            simp (disch := omega) only [s126_0, s126_1, s126_4, s126_5, s126_8, s126_11, s126_12, s126_15, s126_16, s126_19, s126_22, s126_23, s126_24, s126_27, s126_30, s126_32, s126_33, s126_36, s126_39, s126_40, s126_41, s126_42, s126_43, s126_44, s126_45, s126_46, s126_48, s126_49, s126_50, s126_51, s126_53, s126_54, s126_56, s126_57, s126_60, s126_61, s126_64, s126_66, s126_68, s126_71, s126_74, s126_75, s126_76, s126_77, s126_80, s126_81, s126_84, s126_86, s126_88, s126_91, s126_92, q_0, q_1, q_2, q_3, q_4, q_5, q_6, q_7, q_8, q_9, q_10, q_11, q_12, q_13, q_14, q_16, q_20, q_23, q_24, q_32, q_42, q_43, q_45, q_47, q_48, q_50, q_57, q_59, q_60, q_61, q_62, q_63, q_64, q_66, q_91, q_93, q_97, q_99, q_122, q_144, q_255, q_256, q_300, q_380, q_400, q_620, q_999, q_1000, q_4095, q_4096, q_9999, q_65536, q_99999, q_31, nI_add, pk_mul, nE, nL, nT, nM31, nShl, ib_nI, nI_clamp, bI_n0, bI_n1, bI_nar, uI_r, uI_l, uL_r, uL_i, uL_p, uA_r, uA_l, bV_some, bU_some, nar_n0, nar_n1, and_self, and_true, true_and, and_false, false_and, if_true, if_false, eq_self, Bool.false_eq_true, Bool.true_eq_false, not_true_eq_false, not_false_eq_true, ↓reduceIte, nlT, nlF, ntT, ntF, neT, neF, ieT, ieF, decide_true, decide_false, Bool.not_true, Bool.not_false, Bool.and_true, Bool.true_and, Bool.and_false, Bool.false_and, Bool.or_true, Bool.true_or, Bool.or_false, Bool.false_or, x_isT h, x_in, e1', e2', e3', e4', c1]
            exact ⟨_, rfl, FC.rf, h⟩
          | true =>
            rw [e5] at c1
            simp (disch := omega) only [s126_0, s126_1, s126_4, s126_5, s126_8, s126_11, s126_12, s126_15, s126_16, s126_19, s126_22, s126_23, s126_24, s126_27, s126_30, s126_32, s126_33, s126_36, s126_39, s126_40, s126_41, s126_42, s126_43, s126_44, s126_45, s126_46, s126_48, s126_49, s126_50, s126_51, s126_53, s126_54, s126_56, s126_57, s126_60, s126_61, s126_64, s126_66, s126_68, s126_71, s126_74, s126_75, s126_76, s126_77, s126_80, s126_81, s126_84, s126_86, s126_88, s126_91, s126_92, q_0, q_1, q_2, q_3, q_4, q_5, q_6, q_7, q_8, q_9, q_10, q_11, q_12, q_13, q_14, q_16, q_20, q_23, q_24, q_32, q_42, q_43, q_45, q_47, q_48, q_50, q_57, q_59, q_60, q_61, q_62, q_63, q_64, q_66, q_91, q_93, q_97, q_99, q_122, q_144, q_255, q_256, q_300, q_380, q_400, q_620, q_999, q_1000, q_4095, q_4096, q_9999, q_65536, q_99999, q_31, nI_add, pk_mul, nE, nL, nT, nM31, nShl, ib_nI, nI_clamp, bI_n0, bI_n1, bI_nar, uI_r, uI_l, uL_r, uL_i, uL_p, uA_r, uA_l, bV_some, bU_some, nar_n0, nar_n1, and_self, and_true, true_and, and_false, false_and, if_true, if_false, eq_self, Bool.false_eq_true, Bool.true_eq_false, not_true_eq_false, not_false_eq_true, ↓reduceIte, nlT, nlF, ntT, ntF, neT, neF, ieT, ieF, decide_true, decide_false, Bool.not_true, Bool.not_false, Bool.and_true, Bool.true_and, Bool.and_false, Bool.false_and, Bool.or_true, Bool.true_or, Bool.or_false, Bool.false_or, x_isT h, x_in, e1', e2', e3', e4', c1, a1]
            exact ⟨_, rfl, FC.pt (by decide) a2, a3⟩
theorem m_ownerOf {S : Sto} {A : Tn} {t f : Nat} (h : RepM S A) (ht : t < 24) (hf : f < 2) : call 243 0 [vR 50 0, vI (nI t), vI (nI f)] S = some (some (vI (nI (ow A (2 * t + f)))), S) := by
  show run 243 0 0 [vR 50 0, vI (nI t), vI (nI f)] [] S = _
  by_cases e : f = 0
  · subst e
    simp (disch := omega) only [s243_0, s243_1, s243_4, s243_5, s243_8, s243_9, s243_10, s243_13, s243_14, s243_17, s243_18, s243_19, q_0, q_1, q_2, q_3, q_4, q_5, q_6, q_7, q_8, q_9, q_10, q_11, q_12, q_13, q_14, q_16, q_20, q_23, q_24, q_32, q_42, q_43, q_45, q_47, q_48, q_50, q_57, q_59, q_60, q_61, q_62, q_63, q_64, q_66, q_91, q_93, q_97, q_99, q_122, q_144, q_255, q_256, q_300, q_380, q_400, q_620, q_999, q_1000, q_4095, q_4096, q_9999, q_65536, q_99999, q_31, nI_add, pk_mul, nE, nL, nT, nM31, nShl, ib_nI, nI_clamp, bI_n0, bI_n1, bI_nar, uI_r, uI_l, uL_r, uL_i, uL_p, uA_r, uA_l, bV_some, bU_some, nar_n0, nar_n1, and_self, and_true, true_and, and_false, false_and, if_true, if_false, eq_self, Bool.false_eq_true, Bool.true_eq_false, not_true_eq_false, not_false_eq_true, ↓reduceIte, nlT, nlF, ntT, ntF, neT, neF, ieT, ieF, decide_true, decide_false, Bool.not_true, Bool.not_false, Bool.and_true, Bool.true_and, Bool.and_false, Bool.false_and, Bool.or_true, Bool.true_or, Bool.or_false, Bool.false_or, h.o1, Nat.add_zero, ow_0]
  · have e1 : f = 1 := by omega
    subst e1
    simp (disch := omega) only [s243_0, s243_1, s243_4, s243_5, s243_8, s243_9, s243_10, s243_13, s243_14, s243_17, s243_18, s243_19, q_0, q_1, q_2, q_3, q_4, q_5, q_6, q_7, q_8, q_9, q_10, q_11, q_12, q_13, q_14, q_16, q_20, q_23, q_24, q_32, q_42, q_43, q_45, q_47, q_48, q_50, q_57, q_59, q_60, q_61, q_62, q_63, q_64, q_66, q_91, q_93, q_97, q_99, q_122, q_144, q_255, q_256, q_300, q_380, q_400, q_620, q_999, q_1000, q_4095, q_4096, q_9999, q_65536, q_99999, q_31, nI_add, pk_mul, nE, nL, nT, nM31, nShl, ib_nI, nI_clamp, bI_n0, bI_n1, bI_nar, uI_r, uI_l, uL_r, uL_i, uL_p, uA_r, uA_l, bV_some, bU_some, nar_n0, nar_n1, and_self, and_true, true_and, and_false, false_and, if_true, if_false, eq_self, Bool.false_eq_true, Bool.true_eq_false, not_true_eq_false, not_false_eq_true, ↓reduceIte, nlT, nlF, ntT, ntF, neT, neF, ieT, ieF, decide_true, decide_false, Bool.not_true, Bool.not_false, Bool.and_true, Bool.true_and, Bool.and_false, Bool.false_and, Bool.or_true, Bool.true_or, Bool.or_false, Bool.false_or, h.o2, ow_1]
theorem m_owned {S : Sto} {A : Tn} {t f v : Nat} (h : RepM S A) (ht : t < 24) (hf : f < 2) : ∃ S', call 245 0 [vR 50 0, vI (nI t), vI (nI f), vI (nI v)] S = some (none, S') ∧ Fr (pL [58, 59]) S S' ∧ RepM S' (uO A (2 * t + f) v) := by
  show ∃ S', run 245 0 0 [vR 50 0, vI (nI t), vI (nI f), vI (nI v)] [] S = _ ∧ _
  unfold uO
  by_cases e : f = 0
  · subst e
    rw [if_pos (by omega), show (2 * t + 0) / 2 = t by omega]
    simp (disch := omega) only [s245_0, s245_1, s245_4, s245_5, s245_8, s245_9, s245_10, s245_11, s245_14, s245_15, s245_18, s245_19, s245_20, s245_21, q_0, q_1, q_2, q_3, q_4, q_5, q_6, q_7, q_8, q_9, q_10, q_11, q_12, q_13, q_14, q_16, q_20, q_23, q_24, q_32, q_42, q_43, q_45, q_47, q_48, q_50, q_57, q_59, q_60, q_61, q_62, q_63, q_64, q_66, q_91, q_93, q_97, q_99, q_122, q_144, q_255, q_256, q_300, q_380, q_400, q_620, q_999, q_1000, q_4095, q_4096, q_9999, q_65536, q_99999, q_31, nI_add, pk_mul, nE, nL, nT, nM31, nShl, ib_nI, nI_clamp, bI_n0, bI_n1, bI_nar, uI_r, uI_l, uL_r, uL_i, uL_p, uA_r, uA_l, bV_some, bU_some, nar_n0, nar_n1, and_self, and_true, true_and, and_false, false_and, if_true, if_false, eq_self, Bool.false_eq_true, Bool.true_eq_false, not_true_eq_false, not_false_eq_true, ↓reduceIte, nlT, nlF, ntT, ntF, neT, neF, ieT, ieF, decide_true, decide_false, Bool.not_true, Bool.not_false, Bool.and_true, Bool.true_and, Bool.and_false, Bool.false_and, Bool.or_true, Bool.true_or, Bool.or_false, Bool.false_or]
    exact ⟨_, rfl, Fr.rfl'.uI rfl, h.set (f := 7) _ rfl rfl⟩
  · have e1 : f = 1 := by omega
    subst e1
    rw [if_neg (by omega), show (2 * t + 1) / 2 = t by omega]
    simp (disch := omega) only [s245_0, s245_1, s245_4, s245_5, s245_8, s245_9, s245_10, s245_11, s245_14, s245_15, s245_18, s245_19, s245_20, s245_21, q_0, q_1, q_2, q_3, q_4, q_5, q_6, q_7, q_8, q_9, q_10, q_11, q_12, q_13, q_14, q_16, q_20, q_23, q_24, q_32, q_42, q_43, q_45, q_47, q_48, q_50, q_57, q_59, q_60, q_61, q_62, q_63, q_64, q_66, q_91, q_93, q_97, q_99, q_122, q_144, q_255, q_256, q_300, q_380, q_400, q_620, q_999, q_1000, q_4095, q_4096, q_9999, q_65536, q_99999, q_31, nI_add, pk_mul, nE, nL, nT, nM31, nShl, ib_nI, nI_clamp, bI_n0, bI_n1, bI_nar, uI_r, uI_l, uL_r, uL_i, uL_p, uA_r, uA_l, bV_some, bU_some, nar_n0, nar_n1, and_self, and_true, true_and, and_false, false_and, if_true, if_false, eq_self, Bool.false_eq_true, Bool.true_eq_false, not_true_eq_false, not_false_eq_true, ↓reduceIte, nlT, nlF, ntT, ntF, neT, neF, ieT, ieF, decide_true, decide_false, Bool.not_true, Bool.not_false, Bool.and_true, Bool.true_and, Bool.and_false, Bool.false_and, Bool.or_true, Bool.true_or, Bool.or_false, Bool.false_or]
    exact ⟨_, rfl, Fr.rfl'.uI rfl, h.set (f := 8) _ rfl rfl⟩
theorem ow_x {A : Tn} {t f : Nat} (hf : f < 2) : ow A (2 * t + (1 - f)) = ow A ((2 * t + f) ^^^ 1) := by
  by_cases e : f = 0
  · subst e
    simp only [Nat.add_zero, Nat.sub_zero, x1_0]
  · have e1 : f = 1 := by omega
    subst e1
    simp only [Nat.sub_self, Nat.add_zero, x1_1]
def msB (A : Tn) (i j : Nat) : Bool := !(ow A i == ow A j) && !(ow A (i ^^^ 1) == ow A j) && !(ow A (j ^^^ 1) == ow A i)
theorem m_maySwap {S : Sto} {A : Tn} {t f u g : Nat} (h : RepM S A) (hw : WF A) (ht : t < 24) (hf : f < 2) (hu : u < 24) (hg : g < 2) : call 242 0 [vR 50 0, vI (nI t), vI (nI f), vI (nI u), vI (nI g)] S = some (some (vI (bI (msB A (2 * t + f) (2 * u + g)))), S) := by
  have o1 := hw.ow12 (i := 2 * t + f) (by omega)
  have o2 := hw.ow12 (i := 2 * u + g) (by omega)
  have o3 := hw.ow12 (i := (2 * t + f) ^^^ 1) (by have := x1_lt (i := 2 * t + f) (n := 24) (by omega); omega)
  have o4 := hw.ow12 (i := (2 * u + g) ^^^ 1) (by have := x1_lt (i := 2 * u + g) (n := 24) (by omega); omega)
  have e1 := m_ownerOf h ht hf
  have e2 := m_ownerOf h hu hg
  have e3 := m_ownerOf h ht (f := 1 - f) (by omega)
  have e4 := m_ownerOf h hu (f := 1 - g) (by omega)
  rw [ow_x hf] at e3
  rw [ow_x hg] at e4
  show run 242 0 0 [vR 50 0, vI (nI t), vI (nI f), vI (nI u), vI (nI g), vU, vU] [] S = _
  unfold msB
  simp (disch := omega) only [s242_0, s242_1, s242_2, s242_3, s242_6, s242_8, s242_9, s242_10, s242_12, s242_15, s242_17, s242_19, s242_21, s242_24, s242_25, s242_26, s242_27, s242_28, s242_29, s242_32, s242_34, s242_37, s242_38, s242_39, s242_40, s242_42, s242_43, s242_46, s242_48, s242_51, s242_52, s242_55, s242_56, q_0, q_1, q_2, q_3, q_4, q_5, q_6, q_7, q_8, q_9, q_10, q_11, q_12, q_13, q_14, q_16, q_20, q_23, q_24, q_32, q_42, q_43, q_45, q_47, q_48, q_50, q_57, q_59, q_60, q_61, q_62, q_63, q_64, q_66, q_91, q_93, q_97, q_99, q_122, q_144, q_255, q_256, q_300, q_380, q_400, q_620, q_999, q_1000, q_4095, q_4096, q_9999, q_65536, q_99999, q_31, nI_add, pk_mul, nE, nL, nT, nM31, nShl, ib_nI, nI_clamp, bI_n0, bI_n1, bI_nar, uI_r, uI_l, uL_r, uL_i, uL_p, uA_r, uA_l, bV_some, bU_some, nar_n0, nar_n1, and_self, and_true, true_and, and_false, false_and, if_true, if_false, eq_self, Bool.false_eq_true, Bool.true_eq_false, not_true_eq_false, not_false_eq_true, ↓reduceIte, nlT, nlF, ntT, ntF, neT, neF, ieT, ieF, decide_true, decide_false, Bool.not_true, Bool.not_false, Bool.and_true, Bool.true_and, Bool.and_false, Bool.false_and, Bool.or_true, Bool.true_or, Bool.or_false, Bool.false_or, e1, e2, e3, e4, nSub]
  by_cases c2 : ow A (2 * t + f) = ow A (2 * u + g)
  · simp [c2, bI]; rfl
  · by_cases c3 : ow A ((2 * t + f) ^^^ 1) = ow A (2 * u + g)
    · simp [c2, c3, bI]; rfl
    · by_cases c4 : ow A ((2 * u + g) ^^^ 1) = ow A (2 * t + f)
      · simp [c2, c3, c4, bI]; rfl
      · simp [c2, c3, c4, bI]; rfl
theorem m_swaps {S : Sto} {A : Tn} {t f u g : Nat} (h : RepM S A) (ht : t < 24) (hf : f < 2) (hu : u < 24) (hg : g < 2) : ∃ S', call 244 0 [vR 50 0, vI (nI t), vI (nI f), vI (nI u), vI (nI g)] S = some (none, S') ∧ Fr (pL [58, 59]) S S' ∧ RepM S' (swT A (2 * t + f) (2 * u + g)) := by
  have e1 := m_ownerOf h ht hf
  have e2 := m_ownerOf h hu hg
  obtain ⟨S1, a1, a2, a3⟩ := m_owned (v := ow A (2 * u + g)) h ht hf
  obtain ⟨S2, b1, b2, b3⟩ := m_owned (v := ow A (2 * t + f)) a3 hu hg
  show ∃ S', run 244 0 0 [vR 50 0, vI (nI t), vI (nI f), vI (nI u), vI (nI g), vU] [] S = _ ∧ _
  simp (disch := omega) only [s244_0, s244_1, s244_2, s244_3, s244_6, s244_8, s244_9, s244_10, s244_11, s244_12, s244_13, s244_15, s244_18, s244_21, s244_22, s244_23, s244_25, s244_27, s244_30, q_0, q_1, q_2, q_3, q_4, q_5, q_6, q_7, q_8, q_9, q_10, q_11, q_12, q_13, q_14, q_16, q_20, q_23, q_24, q_32, q_42, q_43, q_45, q_47, q_48, q_50, q_57, q_59, q_60, q_61, q_62, q_63, q_64, q_66, q_91, q_93, q_97, q_99, q_122, q_144, q_255, q_256, q_300, q_380, q_400, q_620, q_999, q_1000, q_4095, q_4096, q_9999, q_65536, q_99999, q_31, nI_add, pk_mul, nE, nL, nT, nM31, nShl, ib_nI, nI_clamp, bI_n0, bI_n1, bI_nar, uI_r, uI_l, uL_r, uL_i, uL_p, uA_r, uA_l, bV_some, bU_some, nar_n0, nar_n1, and_self, and_true, true_and, and_false, false_and, if_true, if_false, eq_self, Bool.false_eq_true, Bool.true_eq_false, not_true_eq_false, not_false_eq_true, ↓reduceIte, nlT, nlF, ntT, ntF, neT, neF, ieT, ieF, decide_true, decide_false, Bool.not_true, Bool.not_false, Bool.and_true, Bool.true_and, Bool.and_false, Bool.false_and, Bool.or_true, Bool.true_or, Bool.or_false, Bool.false_or, e1, e2, a1, b1]
  exact ⟨_, rfl, a2.tr b2, b3⟩
theorem r_swap {S : Sto} {A : Tn} (h : RepM S A) (hw : WF A) (t f u g : Int32) : ∃ S1, call 241 0 [vR 50 0, vI t, vI f, vI u, vI g] S = some (some (vI (o_swap A t f u g).1), S1) ∧ FM S S1 ∧ RepM S1 (o_swap A t f u g).2 := by
  have hT := hw.th
  show ∃ S1, run 241 0 0 [vR 50 0, vI t, vI f, vI u, vI g] [] S = _ ∧ _
  unfold o_swap
  cases e1 : lsB t (A 0 1) with
  | false =>
    simp (disch := omega) only [s241_0, s241_1, s241_2, s241_5, s241_8, s241_9, s241_10, s241_13, s241_16, s241_17, s241_18, s241_21, s241_22, s241_23, s241_24, s241_25, s241_28, s241_31, s241_33, s241_34, s241_35, s241_36, s241_39, s241_42, s241_43, s241_44, s241_45, s241_46, s241_48, s241_51, s241_54, s241_55, s241_56, s241_57, s241_58, s241_59, s241_60, s241_62, s241_65, s241_66, q_0, q_1, q_2, q_3, q_4, q_5, q_6, q_7, q_8, q_9, q_10, q_11, q_12, q_13, q_14, q_16, q_20, q_23, q_24, q_32, q_42, q_43, q_45, q_47, q_48, q_50, q_57, q_59, q_60, q_61, q_62, q_63, q_64, q_66, q_91, q_93, q_97, q_99, q_122, q_144, q_255, q_256, q_300, q_380, q_400, q_620, q_999, q_1000, q_4095, q_4096, q_9999, q_65536, q_99999, q_31, nI_add, pk_mul, nE, nL, nT, nM31, nShl, ib_nI, nI_clamp, bI_n0, bI_n1, bI_nar, uI_r, uI_l, uL_r, uL_i, uL_p, uA_r, uA_l, bV_some, bU_some, nar_n0, nar_n1, and_self, and_true, true_and, and_false, false_and, if_true, if_false, eq_self, Bool.false_eq_true, Bool.true_eq_false, not_true_eq_false, not_false_eq_true, ↓reduceIte, nlT, nlF, ntT, ntF, neT, neF, ieT, ieF, decide_true, decide_false, Bool.not_true, Bool.not_false, Bool.and_true, Bool.true_and, Bool.and_false, Bool.false_and, Bool.or_true, Bool.true_or, Bool.or_false, Bool.false_or, m_isT h hw, e1]
    exact ⟨_, rfl, FM.rf, h⟩
  | true =>
    cases e2 : lsB u (A 0 1) with
    | false =>
      simp (disch := omega) only [s241_0, s241_1, s241_2, s241_5, s241_8, s241_9, s241_10, s241_13, s241_16, s241_17, s241_18, s241_21, s241_22, s241_23, s241_24, s241_25, s241_28, s241_31, s241_33, s241_34, s241_35, s241_36, s241_39, s241_42, s241_43, s241_44, s241_45, s241_46, s241_48, s241_51, s241_54, s241_55, s241_56, s241_57, s241_58, s241_59, s241_60, s241_62, s241_65, s241_66, q_0, q_1, q_2, q_3, q_4, q_5, q_6, q_7, q_8, q_9, q_10, q_11, q_12, q_13, q_14, q_16, q_20, q_23, q_24, q_32, q_42, q_43, q_45, q_47, q_48, q_50, q_57, q_59, q_60, q_61, q_62, q_63, q_64, q_66, q_91, q_93, q_97, q_99, q_122, q_144, q_255, q_256, q_300, q_380, q_400, q_620, q_999, q_1000, q_4095, q_4096, q_9999, q_65536, q_99999, q_31, nI_add, pk_mul, nE, nL, nT, nM31, nShl, ib_nI, nI_clamp, bI_n0, bI_n1, bI_nar, uI_r, uI_l, uL_r, uL_i, uL_p, uA_r, uA_l, bV_some, bU_some, nar_n0, nar_n1, and_self, and_true, true_and, and_false, false_and, if_true, if_false, eq_self, Bool.false_eq_true, Bool.true_eq_false, not_true_eq_false, not_false_eq_true, ↓reduceIte, nlT, nlF, ntT, ntF, neT, neF, ieT, ieF, decide_true, decide_false, Bool.not_true, Bool.not_false, Bool.and_true, Bool.true_and, Bool.and_false, Bool.false_and, Bool.or_true, Bool.true_or, Bool.or_false, Bool.false_or, m_isT h hw, e1, e2]
      exact ⟨_, rfl, FM.rf, h⟩
    | true =>
      have e1' := e1
      have e2' := e2
      obtain ⟨t, ht, rfl⟩ := lsB_t e1 (by omega)
      obtain ⟨u, hu, rfl⟩ := lsB_t e2 (by omega)
      by_cases e0 : t = u
      · subst e0
        have z : ¬ ((true && true && lsB f 2 && lsB g 2) = true ∧ swB A (2 * (nI t).toNatClampNeg + f.toNatClampNeg) (2 * (nI t).toNatClampNeg + g.toNatClampNeg) = true) := by
          rintro ⟨q1, q2⟩
          simp only [Bool.true_and, Bool.and_eq_true] at q1
          obtain ⟨f, hf, rfl⟩ := lsB_t q1.1 (by omega)
          obtain ⟨g, hg, rfl⟩ := lsB_t q1.2 (by omega)
          rw [nI_clamp (by omega), nI_clamp (by omega), nI_clamp (by omega)] at q2
          unfold swB at q2
          simp only [Bool.and_eq_true, Bool.not_eq_true', beq_eq_false_iff_ne] at q2
          omega
        rw [if_neg z]
        simp (disch := omega) only [s241_0, s241_1, s241_2, s241_5, s241_8, s241_9, s241_10, s241_13, s241_16, s241_17, s241_18, s241_21, s241_22, s241_23, s241_24, s241_25, s241_28, s241_31, s241_33, s241_34, s241_35, s241_36, s241_39, s241_42, s241_43, s241_44, s241_45, s241_46, s241_48, s241_51, s241_54, s241_55, s241_56, s241_57, s241_58, s241_59, s241_60, s241_62, s241_65, s241_66, q_0, q_1, q_2, q_3, q_4, q_5, q_6, q_7, q_8, q_9, q_10, q_11, q_12, q_13, q_14, q_16, q_20, q_23, q_24, q_32, q_42, q_43, q_45, q_47, q_48, q_50, q_57, q_59, q_60, q_61, q_62, q_63, q_64, q_66, q_91, q_93, q_97, q_99, q_122, q_144, q_255, q_256, q_300, q_380, q_400, q_620, q_999, q_1000, q_4095, q_4096, q_9999, q_65536, q_99999, q_31, nI_add, pk_mul, nE, nL, nT, nM31, nShl, ib_nI, nI_clamp, bI_n0, bI_n1, bI_nar, uI_r, uI_l, uL_r, uL_i, uL_p, uA_r, uA_l, bV_some, bU_some, nar_n0, nar_n1, and_self, and_true, true_and, and_false, false_and, if_true, if_false, eq_self, Bool.false_eq_true, Bool.true_eq_false, not_true_eq_false, not_false_eq_true, ↓reduceIte, nlT, nlF, ntT, ntF, neT, neF, ieT, ieF, decide_true, decide_false, Bool.not_true, Bool.not_false, Bool.and_true, Bool.true_and, Bool.and_false, Bool.false_and, Bool.or_true, Bool.true_or, Bool.or_false, Bool.false_or, m_isT h hw, e1', e2']
        exact ⟨_, rfl, FM.rf, h⟩
      · cases e3 : lsB f 2 with
        | false =>
          simp (disch := omega) only [s241_0, s241_1, s241_2, s241_5, s241_8, s241_9, s241_10, s241_13, s241_16, s241_17, s241_18, s241_21, s241_22, s241_23, s241_24, s241_25, s241_28, s241_31, s241_33, s241_34, s241_35, s241_36, s241_39, s241_42, s241_43, s241_44, s241_45, s241_46, s241_48, s241_51, s241_54, s241_55, s241_56, s241_57, s241_58, s241_59, s241_60, s241_62, s241_65, s241_66, q_0, q_1, q_2, q_3, q_4, q_5, q_6, q_7, q_8, q_9, q_10, q_11, q_12, q_13, q_14, q_16, q_20, q_23, q_24, q_32, q_42, q_43, q_45, q_47, q_48, q_50, q_57, q_59, q_60, q_61, q_62, q_63, q_64, q_66, q_91, q_93, q_97, q_99, q_122, q_144, q_255, q_256, q_300, q_380, q_400, q_620, q_999, q_1000, q_4095, q_4096, q_9999, q_65536, q_99999, q_31, nI_add, pk_mul, nE, nL, nT, nM31, nShl, ib_nI, nI_clamp, bI_n0, bI_n1, bI_nar, uI_r, uI_l, uL_r, uL_i, uL_p, uA_r, uA_l, bV_some, bU_some, nar_n0, nar_n1, and_self, and_true, true_and, and_false, false_and, if_true, if_false, eq_self, Bool.false_eq_true, Bool.true_eq_false, not_true_eq_false, not_false_eq_true, ↓reduceIte, nlT, nlF, ntT, ntF, neT, neF, ieT, ieF, decide_true, decide_false, Bool.not_true, Bool.not_false, Bool.and_true, Bool.true_and, Bool.and_false, Bool.false_and, Bool.or_true, Bool.true_or, Bool.or_false, Bool.false_or, m_isT h hw, min_1, min_2, min_3, min_20, min_60, min_99, min_999, min_9999, min_99999, e1', e2', e3, e0]
          exact ⟨_, rfl, FM.rf, h⟩
        | true =>
          cases e4 : lsB g 2 with
          | false =>
            simp (disch := omega) only [s241_0, s241_1, s241_2, s241_5, s241_8, s241_9, s241_10, s241_13, s241_16, s241_17, s241_18, s241_21, s241_22, s241_23, s241_24, s241_25, s241_28, s241_31, s241_33, s241_34, s241_35, s241_36, s241_39, s241_42, s241_43, s241_44, s241_45, s241_46, s241_48, s241_51, s241_54, s241_55, s241_56, s241_57, s241_58, s241_59, s241_60, s241_62, s241_65, s241_66, q_0, q_1, q_2, q_3, q_4, q_5, q_6, q_7, q_8, q_9, q_10, q_11, q_12, q_13, q_14, q_16, q_20, q_23, q_24, q_32, q_42, q_43, q_45, q_47, q_48, q_50, q_57, q_59, q_60, q_61, q_62, q_63, q_64, q_66, q_91, q_93, q_97, q_99, q_122, q_144, q_255, q_256, q_300, q_380, q_400, q_620, q_999, q_1000, q_4095, q_4096, q_9999, q_65536, q_99999, q_31, nI_add, pk_mul, nE, nL, nT, nM31, nShl, ib_nI, nI_clamp, bI_n0, bI_n1, bI_nar, uI_r, uI_l, uL_r, uL_i, uL_p, uA_r, uA_l, bV_some, bU_some, nar_n0, nar_n1, and_self, and_true, true_and, and_false, false_and, if_true, if_false, eq_self, Bool.false_eq_true, Bool.true_eq_false, not_true_eq_false, not_false_eq_true, ↓reduceIte, nlT, nlF, ntT, ntF, neT, neF, ieT, ieF, decide_true, decide_false, Bool.not_true, Bool.not_false, Bool.and_true, Bool.true_and, Bool.and_false, Bool.false_and, Bool.or_true, Bool.true_or, Bool.or_false, Bool.false_or, m_isT h hw, min_1, min_2, min_3, min_20, min_60, min_99, min_999, min_9999, min_99999, e1', e2', e3, e4, e0]
            exact ⟨_, rfl, FM.rf, h⟩
          | true =>
            have e3' := e3
            have e4' := e4
            obtain ⟨f, hf, rfl⟩ := lsB_t e3 (by omega)
            obtain ⟨g, hg, rfl⟩ := lsB_t e4 (by omega)
            rw [nI_clamp (by omega), nI_clamp (by omega), nI_clamp (by omega), nI_clamp (by omega)]
            have c1 := m_maySwap h hw (t := t) (f := f) (u := u) (g := g) (by omega) hf (by omega) hg
            have c2 : msB A (2 * t + f) (2 * u + g) = swB A (2 * t + f) (2 * u + g) := by
              unfold msB swB
              have : ((2 * t + f) / 2 == (2 * u + g) / 2) = false := by simp; omega
              rw [this]
              simp
            rw [c2] at c1
            obtain ⟨S1, a1, a2, a3⟩ := m_swaps h (t := t) (f := f) (u := u) (g := g) (by omega) hf (by omega) hg
            cases e5 : swB A (2 * t + f) (2 * u + g) with
            | false =>
              rw [e5] at c1
              simp (disch := omega) only [s241_0, s241_1, s241_2, s241_5, s241_8, s241_9, s241_10, s241_13, s241_16, s241_17, s241_18, s241_21, s241_22, s241_23, s241_24, s241_25, s241_28, s241_31, s241_33, s241_34, s241_35, s241_36, s241_39, s241_42, s241_43, s241_44, s241_45, s241_46, s241_48, s241_51, s241_54, s241_55, s241_56, s241_57, s241_58, s241_59, s241_60, s241_62, s241_65, s241_66, q_0, q_1, q_2, q_3, q_4, q_5, q_6, q_7, q_8, q_9, q_10, q_11, q_12, q_13, q_14, q_16, q_20, q_23, q_24, q_32, q_42, q_43, q_45, q_47, q_48, q_50, q_57, q_59, q_60, q_61, q_62, q_63, q_64, q_66, q_91, q_93, q_97, q_99, q_122, q_144, q_255, q_256, q_300, q_380, q_400, q_620, q_999, q_1000, q_4095, q_4096, q_9999, q_65536, q_99999, q_31, nI_add, pk_mul, nE, nL, nT, nM31, nShl, ib_nI, nI_clamp, bI_n0, bI_n1, bI_nar, uI_r, uI_l, uL_r, uL_i, uL_p, uA_r, uA_l, bV_some, bU_some, nar_n0, nar_n1, and_self, and_true, true_and, and_false, false_and, if_true, if_false, eq_self, Bool.false_eq_true, Bool.true_eq_false, not_true_eq_false, not_false_eq_true, ↓reduceIte, nlT, nlF, ntT, ntF, neT, neF, ieT, ieF, decide_true, decide_false, Bool.not_true, Bool.not_false, Bool.and_true, Bool.true_and, Bool.and_false, Bool.false_and, Bool.or_true, Bool.true_or, Bool.or_false, Bool.false_or, m_isT h hw, min_1, min_2, min_3, min_20, min_60, min_99, min_999, min_9999, min_99999, e1', e2', e3', e4', c1]
              exact ⟨_, rfl, FM.rf, h⟩
            | true =>
              rw [e5] at c1
              simp (disch := omega) only [s241_0, s241_1, s241_2, s241_5, s241_8, s241_9, s241_10, s241_13, s241_16, s241_17, s241_18, s241_21, s241_22, s241_23, s241_24, s241_25, s241_28, s241_31, s241_33, s241_34, s241_35, s241_36, s241_39, s241_42, s241_43, s241_44, s241_45, s241_46, s241_48, s241_51, s241_54, s241_55, s241_56, s241_57, s241_58, s241_59, s241_60, s241_62, s241_65, s241_66, q_0, q_1, q_2, q_3, q_4, q_5, q_6, q_7, q_8, q_9, q_10, q_11, q_12, q_13, q_14, q_16, q_20, q_23, q_24, q_32, q_42, q_43, q_45, q_47, q_48, q_50, q_57, q_59, q_60, q_61, q_62, q_63, q_64, q_66, q_91, q_93, q_97, q_99, q_122, q_144, q_255, q_256, q_300, q_380, q_400, q_620, q_999, q_1000, q_4095, q_4096, q_9999, q_65536, q_99999, q_31, nI_add, pk_mul, nE, nL, nT, nM31, nShl, ib_nI, nI_clamp, bI_n0, bI_n1, bI_nar, uI_r, uI_l, uL_r, uL_i, uL_p, uA_r, uA_l, bV_some, bU_some, nar_n0, nar_n1, and_self, and_true, true_and, and_false, false_and, if_true, if_false, eq_self, Bool.false_eq_true, Bool.true_eq_false, not_true_eq_false, not_false_eq_true, ↓reduceIte, nlT, nlF, ntT, ntF, neT, neF, ieT, ieF, decide_true, decide_false, Bool.not_true, Bool.not_false, Bool.and_true, Bool.true_and, Bool.and_false, Bool.false_and, Bool.or_true, Bool.true_or, Bool.or_false, Bool.false_or, m_isT h hw, min_1, min_2, min_3, min_20, min_60, min_99, min_999, min_9999, min_99999, e1', e2', e3', e4', c1, a1]
              exact ⟨_, rfl, FM.pl a2 (by decide), a3⟩
