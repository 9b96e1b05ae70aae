/-! the reference's row of what stands open -/
def MG (sl : Nat) (S S' : Sto) : Prop := S'.2 = S.2 ∧ ∀ t i k, ¬ ((t = 50 ∧ 18 ≤ k ∧ k ≤ 25 ∧ k ≠ 20 ∧ k ≠ 21) ∨ t = 75 ∨ ((t = 68 ∨ t = 69) ∧ 300 * sl ≤ k)) → S'.1 t i k = S.1 t i k
theorem MG.rf {r : Nat} {S : Sto} : MG r S S := ⟨rfl, fun _ _ _ _ => rfl⟩
theorem MG.tr {r : Nat} {S S' S'' : Sto} (h : MG r S S') (h' : MG r S' S'') : MG r S S'' := ⟨h'.1.trans h.1, fun t i k hq => (h'.2 t i k hq).trans (h.2 t i k hq)⟩
theorem MG.u {r : Nat} {S S' : Sto} (h : MG r S S') {t i k : Nat} {v : Int32} (hq : (t = 50 ∧ 18 ≤ k ∧ k ≤ 25 ∧ k ≠ 20 ∧ k ≠ 21) ∨ t = 75 ∨ ((t = 68 ∨ t = 69) ∧ 300 * r ≤ k)) : MG r S (uI S' t i k v) := by
  refine ⟨h.1, fun a b c hn => ?_⟩
  rw [uI_r, if_neg (by rintro ⟨rfl, rfl, rfl⟩; exact hn hq)]
  exact h.2 a b c hn
theorem MF.g {r : Nat} {S S' : Sto} (h : MF r S S') : MG r S S' := ⟨h.1, fun t i k hn => h.2 t i k (by omega)⟩
def dpO : List Nat → Nat
  | [] => 0
  | a :: s => (if a = 9 ∨ a = 12 then 1 else 0) + dpO s
def MK' (S : Sto) : List Nat → Prop
  | [] => True
  | a :: s => S.1 75 0 s.length = nI a ∧ MK' S s
def MK (S : Sto) (stk : List Nat) : Prop := S.1 50 0 25 = nI stk.length ∧ S.1 50 0 23 = nI (dpO stk) ∧ MK' S stk
theorem MK'.cg {S S' : Sto} : ∀ {stk : List Nat}, MK' S stk → (∀ k, k < stk.length → S'.1 75 0 k = S.1 75 0 k) → MK' S' stk
  | [], _, _ => trivial
  | a :: s, h, e => ⟨by rw [e s.length (by show s.length < s.length + 1; omega)]; exact h.1, MK'.cg h.2 (fun k hk => e k (by show k < s.length + 1; omega))⟩
theorem MK.mf {sl : Nat} {S S' : Sto} {stk : List Nat} (h : MK S stk) (hf : MF sl S S') : MK S' stk :=
  ⟨by rw [hf.2 50 0 25 (by omega)]; exact h.1, by rw [hf.2 50 0 23 (by omega)]; exact h.2.1, h.2.2.cg (fun k _ => hf.2 75 0 k (by omega))⟩
theorem MP.ot {T : Tp} {sl f : Nat} {S : Sto} {st : Ps} (h : MP T sl S f st) {t i k : Nat} {v : Int32} (hq : (t = 50 ∧ (k = 23 ∨ k = 25)) ∨ t = 75) : MP T sl (uI S t i k v) f st := by
  obtain ⟨h1, h2, h3, h4, h5, h6, h7, h8⟩ := h
  refine ⟨h1.u (by omega) (by omega), ?_, ?_, ?_, ?_, ?_, ?_, fun e he => ?_⟩
  · rw [uI_r, if_neg (by omega)]; exact h2
  · rw [uI_r, if_neg (by omega)]; exact h3
  · rw [uI_r, if_neg (by omega)]; exact h4
  · rw [uI_r, if_neg (by omega)]; exact h5
  · rw [uI_r, if_neg (by omega)]; exact h6
  · rw [uI_r, if_neg (by omega)]; exact h7
  · rw [uI_r, if_neg (by omega), uI_r, if_neg (by omega)]; exact h8 e he
def tpI (stk : List Nat) : Int32 := match stk with
  | [] => -nI 1
  | a :: _ => nI a
theorem m_top {S : Sto} {stk : List Nat} (h : MK S stk) (hl : stk.length < 402) : call 189 0 [vR 50 0] S = some (some (vI (tpI stk)), S) := by
  show run 189 0 0 [vR 50 0] [] S = _
  have h1 := h.1
  cases stk with
  | nil =>
    have h1' : S.1 50 0 25 = nI 0 := h1
    have e9 : (-1 : Int32) = -nI 1 := rfl
    simp (disch := omega) only [s189_0, s189_1, s189_4, s189_7, s189_8, s189_11, s189_12, s189_15, s189_16, s189_19, s189_20, s189_21, s189_22, q_0, q_1, q_2, q_3, q_4, q_5, q_6, q_7, q_8, q_9, q_10, q_11, q_12, q_13, q_14, q_16, q_20, q_23, q_24, q_32, q_42, q_43, q_45, q_47, q_48, q_50, q_57, q_59, q_60, q_61, q_62, q_63, q_64, q_66, q_91, q_93, q_97, q_99, q_122, q_144, q_255, q_256, q_300, q_380, q_400, q_620, q_999, q_1000, q_4095, q_4096, q_9999, q_65536, q_99999, q_31, nI_add, pk_mul, nE, nL, nT, nM31, nShl, ib_nI, nI_clamp, bI_n0, bI_n1, bI_nar, uI_r, uI_l, uL_r, uL_i, uL_p, uA_r, uA_l, bV_some, bU_some, nar_n0, nar_n1, and_self, and_true, true_and, and_false, false_and, if_true, if_false, eq_self, Bool.false_eq_true, Bool.true_eq_false, not_true_eq_false, not_false_eq_true, ↓reduceIte, nlT, nlF, ntT, ntF, neT, neF, ieT, ieF, decide_true, decide_false, Bool.not_true, Bool.not_false, Bool.and_true, Bool.true_and, Bool.and_false, Bool.false_and, Bool.or_true, Bool.true_or, Bool.or_false, Bool.false_or, h1', e9]
    rfl
  | cons a s =>
    have h1' : S.1 50 0 25 = nI (s.length + 1) := h1
    have hl' : s.length + 1 < 402 := hl
    have h2 : S.1 75 0 s.length = nI a := h.2.2.1
    simp (disch := omega) only [s189_0, s189_1, s189_4, s189_7, s189_8, s189_11, s189_12, s189_15, s189_16, s189_19, s189_20, s189_21, s189_22, q_0, q_1, q_2, q_3, q_4, q_5, q_6, q_7, q_8, q_9, q_10, q_11, q_12, q_13, q_14, q_16, q_20, q_23, q_24, q_32, q_42, q_43, q_45, q_47, q_48, q_50, q_57, q_59, q_60, q_61, q_62, q_63, q_64, q_66, q_91, q_93, q_97, q_99, q_122, q_144, q_255, q_256, q_300, q_380, q_400, q_620, q_999, q_1000, q_4095, q_4096, q_9999, q_65536, q_99999, q_31, nI_add, pk_mul, nE, nL, nT, nM31, nShl, ib_nI, nI_clamp, bI_n0, bI_n1, bI_nar, uI_r, uI_l, uL_r, uL_i, uL_p, uA_r, uA_l, bV_some, bU_some, nar_n0, nar_n1, and_self, and_true, true_and, and_false, false_and, if_true, if_false, eq_self, Bool.false_eq_true, Bool.true_eq_false, not_true_eq_false, not_false_eq_true, ↓reduceIte, nlT, nlF, ntT, ntF, neT, neF, ieT, ieF, decide_true, decide_false, Bool.not_true, Bool.not_false, Bool.and_true, Bool.true_and, Bool.and_false, Bool.false_and, Bool.or_true, Bool.true_or, Bool.or_false, Bool.false_or, h1', nSub, Nat.add_sub_cancel, h2]
    rfl
theorem m_openA {T : Tp} {sl f a : Nat} {S : Sto} {st : Ps} {stk : List Nat} (h : MP T sl S f st) (hk : MK S stk) (hl : stk.length < 402) (ha : a = 10 ∨ a = 11) : ∃ S', call 186 0 [vR 50 0, vI (nI a)] S = some (none, S') ∧ MG sl S S' ∧ MP T sl S' f st ∧ MK S' (a :: stk) := by
  have h25 := hk.1
  refine ⟨uI (uI S 75 0 stk.length (nI a)) 50 0 25 (nI (stk.length + 1)), ?_, (MG.rf.u (Or.inr (Or.inl rfl))).u (Or.inl (by omega)), (h.ot (Or.inr rfl)).ot (Or.inl (by omega)), ?_, ?_, ?_, ?_⟩
  · show run 186 0 0 [vR 50 0, vI (nI a)] [] S = _
    simp (disch := omega) only [s186_0, s186_1, s186_3, s186_6, s186_7, s186_9, s186_12, s186_13, s186_16, s186_18, s186_21, s186_22, s186_23, s186_24, s186_27, s186_30, s186_31, s186_32, s186_35, s186_36, s186_37, s186_40, s186_41, s186_44, s186_45, s186_48, s186_49, s186_50, s186_51, s186_52, s186_55, s186_56, s186_57, s186_60, q_0, q_1, q_2, q_3, q_4, q_5, q_6, q_7, q_8, q_9, q_10, q_11, q_12, q_13, q_14, q_16, q_20, q_23, q_24, q_32, q_42, q_43, q_45, q_47, q_48, q_50, q_57, q_59, q_60, q_61, q_62, q_63, q_64, q_66, q_91, q_93, q_97, q_99, q_122, q_144, q_255, q_256, q_300, q_380, q_400, q_620, q_999, q_1000, q_4095, q_4096, q_9999, q_65536, q_99999, q_31, nI_add, pk_mul, nE, nL, nT, nM31, nShl, ib_nI, nI_clamp, bI_n0, bI_n1, bI_nar, uI_r, uI_l, uL_r, uL_i, uL_p, uA_r, uA_l, bV_some, bU_some, nar_n0, nar_n1, and_self, and_true, true_and, and_false, false_and, if_true, if_false, eq_self, Bool.false_eq_true, Bool.true_eq_false, not_true_eq_false, not_false_eq_true, ↓reduceIte, nlT, nlF, ntT, ntF, neT, neF, ieT, ieF, decide_true, decide_false, Bool.not_true, Bool.not_false, Bool.and_true, Bool.true_and, Bool.and_false, Bool.false_and, Bool.or_true, Bool.true_or, Bool.or_false, Bool.false_or, h25]
  · rw [uI_r, if_pos ⟨rfl, rfl, rfl⟩]
    rfl
  · rw [uI_r, if_neg (by omega), uI_r, if_neg (by omega), hk.2.1]
    show _ = nI ((if a = 9 ∨ a = 12 then 1 else 0) + dpO stk)
    rw [if_neg (by omega), Nat.zero_add]
  · rw [uI_r, if_neg (by omega), uI_r, if_pos ⟨rfl, rfl, rfl⟩]
  · refine hk.2.2.cg (fun k hk' => ?_)
    rw [uI_r, if_neg (by omega), uI_r, if_neg (by omega)]
theorem m_openD {T : Tp} {sl f a : Nat} {S : Sto} {st : Ps} {stk : List Nat} (h : MP T sl S f st) (hk : MK S stk) (hl : stk.length < 402) (ha : a = 9 ∨ a = 12) (hd : dpO stk < 10) : ∃ S', call 186 0 [vR 50 0, vI (nI a)] S = some (none, S') ∧ MG sl S S' ∧ MP T sl S' f st ∧ MK S' (a :: stk) := by
  have h25 := hk.1
  have h23 := hk.2.1
  refine ⟨uI (uI (uI S 50 0 23 (nI (dpO stk + 1))) 75 0 stk.length (nI a)) 50 0 25 (nI (stk.length + 1)), ?_, ((MG.rf.u (Or.inl (by omega))).u (Or.inr (Or.inl rfl))).u (Or.inl (by omega)), ((h.ot (Or.inl (by omega))).ot (Or.inr rfl)).ot (Or.inl (by omega)), ?_, ?_, ?_, ?_⟩
  · show run 186 0 0 [vR 50 0, vI (nI a)] [] S = _
    rcases ha with rfl | rfl <;> simp (disch := omega) only [s186_0, s186_1, s186_3, s186_6, s186_7, s186_9, s186_12, s186_13, s186_16, s186_18, s186_21, s186_22, s186_23, s186_24, s186_27, s186_30, s186_31, s186_32, s186_35, s186_36, s186_37, s186_40, s186_41, s186_44, s186_45, s186_48, s186_49, s186_50, s186_51, s186_52, s186_55, s186_56, s186_57, s186_60, q_0, q_1, q_2, q_3, q_4, q_5, q_6, q_7, q_8, q_9, q_10, q_11, q_12, q_13, q_14, q_16, q_20, q_23, q_24, q_32, q_42, q_43, q_45, q_47, q_48, q_50, q_57, q_59, q_60, q_61, q_62, q_63, q_64, q_66, q_91, q_93, q_97, q_99, q_122, q_144, q_255, q_256, q_300, q_380, q_400, q_620, q_999, q_1000, q_4095, q_4096, q_9999, q_65536, q_99999, q_31, nI_add, pk_mul, nE, nL, nT, nM31, nShl, ib_nI, nI_clamp, bI_n0, bI_n1, bI_nar, uI_r, uI_l, uL_r, uL_i, uL_p, uA_r, uA_l, bV_some, bU_some, nar_n0, nar_n1, and_self, and_true, true_and, and_false, false_and, if_true, if_false, eq_self, Bool.false_eq_true, Bool.true_eq_false, not_true_eq_false, not_false_eq_true, ↓reduceIte, nlT, nlF, ntT, ntF, neT, neF, ieT, ieF, decide_true, decide_false, Bool.not_true, Bool.not_false, Bool.and_true, Bool.true_and, Bool.and_false, Bool.false_and, Bool.or_true, Bool.true_or, Bool.or_false, Bool.false_or, h25, h23]
  · rw [uI_r, if_pos ⟨rfl, rfl, rfl⟩]
    rfl
  · rw [uI_r, if_neg (by omega), uI_r, if_neg (by omega), uI_r, if_pos ⟨rfl, rfl, rfl⟩]
    show _ = nI ((if a = 9 ∨ a = 12 then 1 else 0) + dpO stk)
    rw [if_pos ha, Nat.add_comm]
  · rw [uI_r, if_neg (by omega), uI_r, if_pos ⟨rfl, rfl, rfl⟩]
  · refine hk.2.2.cg (fun k hk' => ?_)
    rw [uI_r, if_neg (by omega), uI_r, if_neg (by omega), uI_r, if_neg (by omega)]
theorem m_openF {T : Tp} {sl a : Nat} {S : Sto} {st : Ps} {stk : List Nat} (h : MP T sl S 0 st) (hk : MK S stk) (hl : stk.length < 402) (ha : a = 9 ∨ a = 12) (hd : dpO stk = 10) : ∃ S', call 186 0 [vR 50 0, vI (nI a)] S = some (none, S') ∧ MG sl S S' ∧ MP T sl S' (flt 2 st.1) st := by
  have h25 := hk.1
  have h23 := hk.2.1
  rw [hd] at h23
  have hp : S.1 50 0 18 = nI st.1 := h.2.1
  have e1 := m_fails (s := 2) (q := st.1) h.2.2.2.1 (by decide)
  rw [if_pos rfl] at e1
  refine ⟨uI (uI (uI (uI S 50 0 19 (nI (flt 2 st.1))) 50 0 23 (nI 11)) 75 0 stk.length (nI a)) 50 0 25 (nI (stk.length + 1)), ?_, (((MG.rf.u (Or.inl (by omega))).u (Or.inl (by omega))).u (Or.inr (Or.inl rfl))).u (Or.inl (by omega)), (((h.mf (flt 2 st.1)).ot (Or.inl (by omega))).ot (Or.inr rfl)).ot (Or.inl (by omega))⟩
  show run 186 0 0 [vR 50 0, vI (nI a)] [] S = _
  rcases ha with rfl | rfl <;> simp (disch := omega) only [s186_0, s186_1, s186_3, s186_6, s186_7, s186_9, s186_12, s186_13, s186_16, s186_18, s186_21, s186_22, s186_23, s186_24, s186_27, s186_30, s186_31, s186_32, s186_35, s186_36, s186_37, s186_40, s186_41, s186_44, s186_45, s186_48, s186_49, s186_50, s186_51, s186_52, s186_55, s186_56, s186_57, s186_60, q_0, q_1, q_2, q_3, q_4, q_5, q_6, q_7, q_8, q_9, q_10, q_11, q_12, q_13, q_14, q_16, q_20, q_23, q_24, q_32, q_42, q_43, q_45, q_47, q_48, q_50, q_57, q_59, q_60, q_61, q_62, q_63, q_64, q_66, q_91, q_93, q_97, q_99, q_122, q_144, q_255, q_256, q_300, q_380, q_400, q_620, q_999, q_1000, q_4095, q_4096, q_9999, q_65536, q_99999, q_31, nI_add, pk_mul, nE, nL, nT, nM31, nShl, ib_nI, nI_clamp, bI_n0, bI_n1, bI_nar, uI_r, uI_l, uL_r, uL_i, uL_p, uA_r, uA_l, bV_some, bU_some, nar_n0, nar_n1, and_self, and_true, true_and, and_false, false_and, if_true, if_false, eq_self, Bool.false_eq_true, Bool.true_eq_false, not_true_eq_false, not_false_eq_true, ↓reduceIte, nlT, nlF, ntT, ntF, neT, neF, ieT, ieF, decide_true, decide_false, Bool.not_true, Bool.not_false, Bool.and_true, Bool.true_and, Bool.and_false, Bool.false_and, Bool.or_true, Bool.true_or, Bool.or_false, Bool.false_or, h25, h23, hp, e1]
theorem m_ansN {S : Sto} {a : Nat} {stk : List Nat} (hk : MK S stk) (hl : stk.length < 402) (hn : (tpI stk = nI a) = False) : call 188 0 [vR 50 0, vI (nI a)] S = some (none, S) := by
  have e1 := m_top hk hl
  show run 188 0 0 [vR 50 0, vI (nI a)] [] S = _
  rw [s188_0]
  simp (disch := omega) only [s188_1, s188_4, s188_5, s188_8, s188_9, s188_12, s188_15, s188_16, s188_17, s188_18, s188_21, s188_22, s188_23, s188_26, s188_27, s188_28, s188_31, s188_32, s188_33, s188_36, s188_37, s188_39, s188_42, s188_43, s188_46, s188_47, s188_48, s188_51, s188_54, q_0, q_1, q_2, q_3, q_4, q_5, q_6, q_7, q_8, q_9, q_10, q_11, q_12, q_13, q_14, q_16, q_20, q_23, q_24, q_32, q_42, q_43, q_45, q_47, q_48, q_50, q_57, q_59, q_60, q_61, q_62, q_63, q_64, q_66, q_91, q_93, q_97, q_99, q_122, q_144, q_255, q_256, q_300, q_380, q_400, q_620, q_999, q_1000, q_4095, q_4096, q_9999, q_65536, q_99999, q_31, nI_add, pk_mul, nE, nL, nT, nM31, nShl, ib_nI, nI_clamp, bI_n0, bI_n1, bI_nar, uI_r, uI_l, uL_r, uL_i, uL_p, uA_r, uA_l, bV_some, bU_some, nar_n0, nar_n1, and_self, and_true, true_and, and_false, false_and, if_true, if_false, eq_self, Bool.false_eq_true, Bool.true_eq_false, not_true_eq_false, not_false_eq_true, ↓reduceIte, nlT, nlF, ntT, ntF, neT, neF, ieT, ieF, decide_true, decide_false, Bool.not_true, Bool.not_false, Bool.and_true, Bool.true_and, Bool.and_false, Bool.false_and, Bool.or_true, Bool.true_or, Bool.or_false, Bool.false_or, e1, hn]
theorem m_ansY {T : Tp} {sl a : Nat} {S : Sto} {st : Ps} {stk : List Nat} (h : MP T sl S 0 st) (hk : MK S (a :: stk)) (hs : sl < 6) (hl : stk.length + 1 < 402) (hn : st.2.2.length < 300) (ha : a = 9 ∨ a = 10 ∨ a = 11) : ∃ S', call 188 0 [vR 50 0, vI (nI a)] S = call 188 0 [vR 50 0, vI (nI a)] S' ∧ MG sl S S' ∧ MP T sl S' 0 (put st a) ∧ MK S' stk := by
  have e1 := m_top hk hl
  have e1' : call 189 0 [vR 50 0] S = some (some (vI (nI a)), S) := e1
  have hf : S.1 50 0 19 = nI 0 := h.2.2.2.1
  obtain ⟨S1, a1, a2, a3⟩ := h.en (by decide) hs hn a 0
  have a3' : MP T sl S1 0 (put st a) := a3
  have hk1 := hk.mf a2
  have h25 : S1.1 50 0 25 = nI (stk.length + 1) := hk1.1
  have h23 : S1.1 50 0 23 = nI ((if a = 9 ∨ a = 12 then 1 else 0) + dpO stk) := hk1.2.1
  refine ⟨uI (uI S1 50 0 25 (nI stk.length)) 50 0 23 (nI (dpO stk)), ?_, (a2.g.u (Or.inl (by omega))).u (Or.inl (by omega)), (a3'.ot (Or.inl (by omega))).ot (Or.inl (by omega)), ?_, ?_, ?_⟩
  · show run 188 0 0 [vR 50 0, vI (nI a)] [] S = run 188 0 0 [vR 50 0, vI (nI a)] [] _
    rw [s188_0]
    rcases ha with rfl | rfl | rfl
    · rw [if_pos (by omega)] at h23
      simp (disch := omega) only [s188_1, s188_4, s188_5, s188_8, s188_9, s188_12, s188_15, s188_16, s188_17, s188_18, s188_21, s188_22, s188_23, s188_26, s188_27, s188_28, s188_31, s188_32, s188_33, s188_36, s188_37, s188_39, s188_42, s188_43, s188_46, s188_47, s188_48, s188_51, s188_54, q_0, q_1, q_2, q_3, q_4, q_5, q_6, q_7, q_8, q_9, q_10, q_11, q_12, q_13, q_14, q_16, q_20, q_23, q_24, q_32, q_42, q_43, q_45, q_47, q_48, q_50, q_57, q_59, q_60, q_61, q_62, q_63, q_64, q_66, q_91, q_93, q_97, q_99, q_122, q_144, q_255, q_256, q_300, q_380, q_400, q_620, q_999, q_1000, q_4095, q_4096, q_9999, q_65536, q_99999, q_31, nI_add, pk_mul, nE, nL, nT, nM31, nShl, ib_nI, nI_clamp, bI_n0, bI_n1, bI_nar, uI_r, uI_l, uL_r, uL_i, uL_p, uA_r, uA_l, bV_some, bU_some, nar_n0, nar_n1, and_self, and_true, true_and, and_false, false_and, if_true, if_false, eq_self, Bool.false_eq_true, Bool.true_eq_false, not_true_eq_false, not_false_eq_true, ↓reduceIte, nlT, nlF, ntT, ntF, neT, neF, ieT, ieF, decide_true, decide_false, Bool.not_true, Bool.not_false, Bool.and_true, Bool.true_and, Bool.and_false, Bool.false_and, Bool.or_true, Bool.true_or, Bool.or_false, Bool.false_or, e1', hf, a1, h25, h23, nSub, Nat.add_sub_cancel, Nat.add_sub_cancel_left]
    · rw [if_neg (by omega)] at h23
      simp (disch := omega) only [s188_1, s188_4, s188_5, s188_8, s188_9, s188_12, s188_15, s188_16, s188_17, s188_18, s188_21, s188_22, s188_23, s188_26, s188_27, s188_28, s188_31, s188_32, s188_33, s188_36, s188_37, s188_39, s188_42, s188_43, s188_46, s188_47, s188_48, s188_51, s188_54, q_0, q_1, q_2, q_3, q_4, q_5, q_6, q_7, q_8, q_9, q_10, q_11, q_12, q_13, q_14, q_16, q_20, q_23, q_24, q_32, q_42, q_43, q_45, q_47, q_48, q_50, q_57, q_59, q_60, q_61, q_62, q_63, q_64, q_66, q_91, q_93, q_97, q_99, q_122, q_144, q_255, q_256, q_300, q_380, q_400, q_620, q_999, q_1000, q_4095, q_4096, q_9999, q_65536, q_99999, q_31, nI_add, pk_mul, nE, nL, nT, nM31, nShl, ib_nI, nI_clamp, bI_n0, bI_n1, bI_nar, uI_r, uI_l, uL_r, uL_i, uL_p, uA_r, uA_l, bV_some, bU_some, nar_n0, nar_n1, and_self, and_true, true_and, and_false, false_and, if_true, if_false, eq_self, Bool.false_eq_true, Bool.true_eq_false, not_true_eq_false, not_false_eq_true, ↓reduceIte, nlT, nlF, ntT, ntF, neT, neF, ieT, ieF, decide_true, decide_false, Bool.not_true, Bool.not_false, Bool.and_true, Bool.true_and, Bool.and_false, Bool.false_and, Bool.or_true, Bool.true_or, Bool.or_false, Bool.false_or, e1', hf, a1, h25, h23, nSub, Nat.add_sub_cancel, Nat.zero_add, Nat.sub_zero]
    · rw [if_neg (by omega)] at h23
      simp (disch := omega) only [s188_1, s188_4, s188_5, s188_8, s188_9, s188_12, s188_15, s188_16, s188_17, s188_18, s188_21, s188_22, s188_23, s188_26, s188_27, s188_28, s188_31, s188_32, s188_33, s188_36, s188_37, s188_39, s188_42, s188_43, s188_46, s188_47, s188_48, s188_51, s188_54, q_0, q_1, q_2, q_3, q_4, q_5, q_6, q_7, q_8, q_9, q_10, q_11, q_12, q_13, q_14, q_16, q_20, q_23, q_24, q_32, q_42, q_43, q_45, q_47, q_48, q_50, q_57, q_59, q_60, q_61, q_62, q_63, q_64, q_66, q_91, q_93, q_97, q_99, q_122, q_144, q_255, q_256, q_300, q_380, q_400, q_620, q_999, q_1000, q_4095, q_4096, q_9999, q_65536, q_99999, q_31, nI_add, pk_mul, nE, nL, nT, nM31, nShl, ib_nI, nI_clamp, bI_n0, bI_n1, bI_nar, uI_r, uI_l, uL_r, uL_i, uL_p, uA_r, uA_l, bV_some, bU_some, nar_n0, nar_n1, and_self, and_true, true_and, and_false, false_and, if_true, if_false, eq_self, Bool.false_eq_true, Bool.true_eq_false, not_true_eq_false, not_false_eq_true, ↓reduceIte, nlT, nlF, ntT, ntF, neT, neF, ieT, ieF, decide_true, decide_false, Bool.not_true, Bool.not_false, Bool.and_true, Bool.true_and, Bool.and_false, Bool.false_and, Bool.or_true, Bool.true_or, Bool.or_false, Bool.false_or, e1', hf, a1, h25, h23, nSub, Nat.add_sub_cancel, Nat.zero_add, Nat.sub_zero]
  · rw [uI_r, if_neg (by omega), uI_r, if_pos ⟨rfl, rfl, rfl⟩]
  · rw [uI_r, if_pos ⟨rfl, rfl, rfl⟩]
  · refine hk1.2.2.2.cg (fun k _ => ?_)
    rw [uI_r, if_neg (by omega), uI_r, if_neg (by omega)]
