/-! the reference reads a CLAUSE -/
def MH (sl : Nat) (S S' : Sto) : Prop := S'.2 = S.2 ∧ ∀ t i k, ¬ ((t = 50 ∧ 18 ≤ k ∧ k ≤ 25 ∧ k ≠ 20 ∧ k ≠ 21) ∨ t = 75 ∨ ((t = 68 ∨ t = 69) ∧ 300 * sl ≤ k) ∨ (71 ≤ t ∧ t ≤ 74 ∧ 12 * sl ≤ k)) → S'.1 t i k = S.1 t i k
theorem MH.rf {r : Nat} {S : Sto} : MH r S S := ⟨rfl, fun _ _ _ _ => rfl⟩
theorem MH.tr {r : Nat} {S S' S'' : Sto} (h : MH r S S') (h' : MH r S' S'') : MH r S S'' := ⟨h'.1.trans h.1, fun t i k hq => (h'.2 t i k hq).trans (h.2 t i k hq)⟩
theorem MH.u {r : Nat} {S S' : Sto} (h : MH r S S') {t i k : Nat} {v : Int32} (hq : (t = 50 ∧ 18 ≤ k ∧ k ≤ 25 ∧ k ≠ 20 ∧ k ≠ 21) ∨ t = 75 ∨ ((t = 68 ∨ t = 69) ∧ 300 * r ≤ k) ∨ (71 ≤ t ∧ t ≤ 74 ∧ 12 * r ≤ k)) : MH r S (uI S' t i k v) := by
  refine ⟨h.1, fun a b c hn => ?_⟩
  rw [uI_r, if_neg (by rintro ⟨rfl, rfl, rfl⟩; exact hn hq)]
  exact h.2 a b c hn
theorem MG.h {r : Nat} {S S' : Sto} (h : MG r S S') : MH r S S' := ⟨h.1, fun t i k hn => h.2 t i k (by omega)⟩
theorem MP.cl {T : Tp} {sl f : Nat} {S : Sto} {st : Ps} (h : MP T sl S f st) {t i k : Nat} {v : Int32} (hq : 71 ≤ t ∧ t ≤ 74) : MP T sl (uI S t i k v) f st := by
  obtain ⟨h1, h2, h3, h4, h5, h6, h7, h8⟩ := h
  refine ⟨h1.u (by omega) (by omega), ?_, ?_, ?_, ?_, ?_, ?_, fun e he => ?_⟩
  · rw [uI_r, if_neg (by omega)]; exact h2
  · rw [uI_r, if_neg (by omega)]; exact h3
  · rw [uI_r, if_neg (by omega)]; exact h4
  · rw [uI_r, if_neg (by omega)]; exact h5
  · rw [uI_r, if_neg (by omega)]; exact h6
  · rw [uI_r, if_neg (by omega)]; exact h7
  · rw [uI_r, if_neg (by omega), uI_r, if_neg (by omega)]; exact h8 e he
theorem MY.cl {T : Tp} {sl f : Nat} {S : Sto} (h : MY T sl S f) {t i k : Nat} {v : Int32} (hq : 71 ≤ t ∧ t ≤ 74) : MY T sl (uI S t i k v) f := by
  obtain ⟨st, h1, h2⟩ := h
  exact ⟨st, h1.cl hq, h2⟩
def MQl (sl : Nat) (S : Sto) (cs : List Cl) : Prop := ∀ c, c < cs.length → S.1 71 0 (12 * sl + c) = nI (cs.getD c (0, 0, 0, 0)).1 ∧ S.1 72 0 (12 * sl + c) = nI (cs.getD c (0, 0, 0, 0)).2.1 ∧ S.1 73 0 (12 * sl + c) = nI (cs.getD c (0, 0, 0, 0)).2.2.1 ∧ S.1 74 0 (12 * sl + c) = nI (cs.getD c (0, 0, 0, 0)).2.2.2
theorem MQl.mg {sl r : Nat} {S S' : Sto} {cs : List Cl} (h : MQl sl S cs) (hf : MG r S S') : MQl sl S' cs := by
  intro c hc
  rw [hf.2 71 0 _ (by omega), hf.2 72 0 _ (by omega), hf.2 73 0 _ (by omega), hf.2 74 0 _ (by omega)]
  exact h c hc
theorem MQl.u {sl : Nat} {S : Sto} {cs : List Cl} (h : MQl sl S cs) {t k : Nat} {v : Int32} (hk : 12 * sl + cs.length ≤ k) : MQl sl (uI S t 0 k v) cs := by
  intro c hc
  rw [uI_r, if_neg (by omega), uI_r, if_neg (by omega), uI_r, if_neg (by omega), uI_r, if_neg (by omega)]
  exact h c hc
theorem m_clauseOf (S : Sto) {k : Nat} (hk : k < 5) : call 172 0 [vI (nI k)] S = some (some (vR 100 (5 + k)), S) := by
  show run 172 0 0 [vI (nI k)] [] S = _
  have d : k = 0 ∨ k = 1 ∨ k = 2 ∨ k = 3 ∨ k = 4 := by omega
  rcases d with rfl | rfl | rfl | rfl | rfl <;> (simp (disch := omega) only [s172_0, s172_1, s172_4, s172_7, s172_10, s172_11, s172_12, s172_15, s172_18, s172_21, s172_22, s172_23, s172_26, s172_29, s172_32, s172_33, s172_34, s172_37, s172_40, s172_43, s172_46, q_0, q_1, q_2, q_3, q_4, q_5, q_6, q_7, q_8, q_9, q_10, q_11, q_12, q_13, q_14, q_16, q_20, q_23, q_24, q_32, q_42, q_43, q_45, q_47, q_48, q_50, q_57, q_59, q_60, q_61, q_62, q_63, q_64, q_66, q_91, q_93, q_97, q_99, q_122, q_144, q_255, q_256, q_300, q_380, q_400, q_620, q_999, q_1000, q_4095, q_4096, q_9999, q_65536, q_99999, q_31, nI_add, pk_mul, nE, nL, nT, nM31, nShl, ib_nI, nI_clamp, bI_n0, bI_n1, bI_nar, uI_r, uI_l, uL_r, uL_i, uL_p, uA_r, uA_l, bV_some, bU_some, nar_n0, nar_n1, and_self, and_true, true_and, and_false, false_and, if_true, if_false, eq_self, Bool.false_eq_true, Bool.true_eq_false, not_true_eq_false, not_false_eq_true, ↓reduceIte, nlT, nlF, ntT, ntF, neT, neF, ieT, ieF, decide_true, decide_false, Bool.not_true, Bool.not_false, Bool.and_true, Bool.true_and, Bool.and_false, Bool.false_and, Bool.or_true, Bool.true_or, Bool.or_false, Bool.false_or])
theorem wS_s : ∀ k, k < 5 → strB (5 + k) = (wS.getD k []).map nI ∧ wS.getD k [] ≠ [] ∧ (∀ c, c ∈ wS.getD k [] → 97 ≤ c ∧ c ≤ 122) ∧ (wS.getD k []).length < 100 ∧ wS.drop k = wS.getD k [] :: wS.drop (k + 1) := by decide
def wk5 (x : Option Nat) : Nat := match x with
  | none => 5
  | some k => k
theorem m_clW {T : Tp} {sl f b c : Nat} {l : Cd} {S : Sto} (hK : TpK T) (h : MP T sl S f (b, c, l)) (hb : b ≤ T.1) (a1 a2 a4 : av) : ∀ m i, i + m = 5 → run 169 0 11 [vR 50 0, a1, a2, vI (nI i), a4] [] S = run 169 0 33 [vR 50 0, a1, a2, vI (nI (wk5 (wInF T b (wS.drop i) i))), a4] [] S := by
  have hK1 := hK.1
  intro m
  induction m with
  | zero =>
    intro i hi
    have e : i = 5 := by omega
    subst e
    rw [s169_11]
    simp (disch := omega) only [s169_12, s169_13, q_0, q_1, q_2, q_3, q_4, q_5, q_6, q_7, q_8, q_9, q_10, q_11, q_12, q_13, q_14, q_16, q_20, q_23, q_24, q_32, q_42, q_43, q_45, q_47, q_48, q_50, q_57, q_59, q_60, q_61, q_62, q_63, q_64, q_66, q_91, q_93, q_97, q_99, q_122, q_144, q_255, q_256, q_300, q_380, q_400, q_620, q_999, q_1000, q_4095, q_4096, q_9999, q_65536, q_99999, q_31, nI_add, pk_mul, nE, nL, nT, nM31, nShl, ib_nI, nI_clamp, bI_n0, bI_n1, bI_nar, uI_r, uI_l, uL_r, uL_i, uL_p, uA_r, uA_l, bV_some, bU_some, nar_n0, nar_n1, and_self, and_true, true_and, and_false, false_and, if_true, if_false, eq_self, Bool.false_eq_true, Bool.true_eq_false, not_true_eq_false, not_false_eq_true, ↓reduceIte, nlT, nlF, ntT, ntF, neT, neF, ieT, ieF, decide_true, decide_false, Bool.not_true, Bool.not_false, Bool.and_true, Bool.true_and, Bool.and_false, Bool.false_and, Bool.or_true, Bool.true_or, Bool.or_false, Bool.false_or]
    rfl
  | succ m ih =>
    intro i hi
    obtain ⟨w1, w2, w3, w4, w5⟩ := wS_s i (by omega)
    have es := m_stands hK h.1 h.2.1 (show b < 10000 by omega) w1 ⟨w2, w3⟩ w4
    have ew := m_clauseOf S (k := i) (by omega)
    have es' : call 173 0 [vR 50 0, vR 100 (5 + i)] S = some (some (vI (bI (wEq T b (wS.getD i [])))), S) := es
    rw [w5, wInF_s, s169_11]
    cases q : wEq T b (wS.getD i []) with
    | true =>
      rw [q] at es'
      rw [if_pos rfl]
      simp (disch := omega) only [s169_12, s169_13, s169_16, s169_17, s169_18, s169_21, s169_24, q_0, q_1, q_2, q_3, q_4, q_5, q_6, q_7, q_8, q_9, q_10, q_11, q_12, q_13, q_14, q_16, q_20, q_23, q_24, q_32, q_42, q_43, q_45, q_47, q_48, q_50, q_57, q_59, q_60, q_61, q_62, q_63, q_64, q_66, q_91, q_93, q_97, q_99, q_122, q_144, q_255, q_256, q_300, q_380, q_400, q_620, q_999, q_1000, q_4095, q_4096, q_9999, q_65536, q_99999, q_31, nI_add, pk_mul, nE, nL, nT, nM31, nShl, ib_nI, nI_clamp, bI_n0, bI_n1, bI_nar, uI_r, uI_l, uL_r, uL_i, uL_p, uA_r, uA_l, bV_some, bU_some, nar_n0, nar_n1, and_self, and_true, true_and, and_false, false_and, if_true, if_false, eq_self, Bool.false_eq_true, Bool.true_eq_false, not_true_eq_false, not_false_eq_true, ↓reduceIte, nlT, nlF, ntT, ntF, neT, neF, ieT, ieF, decide_true, decide_false, Bool.not_true, Bool.not_false, Bool.and_true, Bool.true_and, Bool.and_false, Bool.false_and, Bool.or_true, Bool.true_or, Bool.or_false, Bool.false_or, ew, es']
      rfl
    | false =>
      rw [q] at es'
      rw [if_neg (by decide), ← ih (i + 1) (by omega)]
      simp (disch := omega) only [s169_12, s169_13, s169_16, s169_17, s169_18, s169_21, s169_24, s169_27, s169_30, q_0, q_1, q_2, q_3, q_4, q_5, q_6, q_7, q_8, q_9, q_10, q_11, q_12, q_13, q_14, q_16, q_20, q_23, q_24, q_32, q_42, q_43, q_45, q_47, q_48, q_50, q_57, q_59, q_60, q_61, q_62, q_63, q_64, q_66, q_91, q_93, q_97, q_99, q_122, q_144, q_255, q_256, q_300, q_380, q_400, q_620, q_999, q_1000, q_4095, q_4096, q_9999, q_65536, q_99999, q_31, nI_add, pk_mul, nE, nL, nT, nM31, nShl, ib_nI, nI_clamp, bI_n0, bI_n1, bI_nar, uI_r, uI_l, uL_r, uL_i, uL_p, uA_r, uA_l, bV_some, bU_some, nar_n0, nar_n1, and_self, and_true, true_and, and_false, false_and, if_true, if_false, eq_self, Bool.false_eq_true, Bool.true_eq_false, not_true_eq_false, not_false_eq_true, ↓reduceIte, nlT, nlF, ntT, ntF, neT, neF, ieT, ieF, decide_true, decide_false, Bool.not_true, Bool.not_false, Bool.and_true, Bool.true_and, Bool.and_false, Bool.false_and, Bool.or_true, Bool.true_or, Bool.or_false, Bool.false_or, ew, es']
theorem m_takes {T : Tp} {sl : Nat} {S : Sto} {s : Ps} (hK : TpK T) (h : MP T sl S 0 s) (hp : s.1 ≤ T.1) (hb : sc T blP s.1 = s.1) : ∃ S', call 183 0 [vR 50 0, vR 100 2] S = some (some (vI (bI (wEq T s.1 wIf))), S') ∧ MF sl S S' ∧ MP T sl S' 0 (if wEq T s.1 wIf = true then s.1 + 2 else s.1, s.2) := by
  have hK1 := hK.1
  obtain ⟨S1, b1, b2, b3⟩ := h.bl hK (by omega)
  rw [hb] at b3
  have b3' : MP T sl S1 0 s := b3
  have es := m_stands (q := 2) (w := wIf) hK b3'.1 b3'.2.1 (by omega) (by decide) (by decide) (by decide)
  have hpp : S1.1 50 0 18 = nI s.1 := b3'.2.1
  have el : call 276 0 [vR 100 2] S1 = some (some (vI (nI 2)), S1) := x_len S1 (q := 2) (by decide)
  show ∃ S', run 183 0 0 [vR 50 0, vR 100 2, vU] [] S = _ ∧ _
  cases c : wEq T s.1 wIf with
  | true =>
    rw [c] at es
    refine ⟨uI S1 50 0 18 (nI (s.1 + 2)), ?_, b2.u (Or.inl ⟨rfl, by omega⟩), b3'.mp (s.1 + 2)⟩
    simp (disch := omega) only [s183_0, s183_1, s183_4, s183_5, s183_6, s183_9, s183_10, s183_11, s183_12, s183_15, s183_16, s183_19, s183_20, s183_23, s183_26, s183_27, s183_28, s183_31, s183_32, q_0, q_1, q_2, q_3, q_4, q_5, q_6, q_7, q_8, q_9, q_10, q_11, q_12, q_13, q_14, q_16, q_20, q_23, q_24, q_32, q_42, q_43, q_45, q_47, q_48, q_50, q_57, q_59, q_60, q_61, q_62, q_63, q_64, q_66, q_91, q_93, q_97, q_99, q_122, q_144, q_255, q_256, q_300, q_380, q_400, q_620, q_999, q_1000, q_4095, q_4096, q_9999, q_65536, q_99999, q_31, nI_add, pk_mul, nE, nL, nT, nM31, nShl, ib_nI, nI_clamp, bI_n0, bI_n1, bI_nar, uI_r, uI_l, uL_r, uL_i, uL_p, uA_r, uA_l, bV_some, bU_some, nar_n0, nar_n1, and_self, and_true, true_and, and_false, false_and, if_true, if_false, eq_self, Bool.false_eq_true, Bool.true_eq_false, not_true_eq_false, not_false_eq_true, ↓reduceIte, nlT, nlF, ntT, ntF, neT, neF, ieT, ieF, decide_true, decide_false, Bool.not_true, Bool.not_false, Bool.and_true, Bool.true_and, Bool.and_false, Bool.false_and, Bool.or_true, Bool.true_or, Bool.or_false, Bool.false_or, b1, es, hpp, el]
  | false =>
    rw [c] at es
    refine ⟨uI S1 50 0 18 (nI s.1), ?_, b2.u (Or.inl ⟨rfl, by omega⟩), b3'.mp s.1⟩
    simp (disch := omega) only [s183_0, s183_1, s183_4, s183_5, s183_6, s183_9, s183_10, s183_11, s183_12, s183_15, s183_16, s183_19, s183_20, s183_23, s183_26, s183_27, s183_28, s183_31, s183_32, q_0, q_1, q_2, q_3, q_4, q_5, q_6, q_7, q_8, q_9, q_10, q_11, q_12, q_13, q_14, q_16, q_20, q_23, q_24, q_32, q_42, q_43, q_45, q_47, q_48, q_50, q_57, q_59, q_60, q_61, q_62, q_63, q_64, q_66, q_91, q_93, q_97, q_99, q_122, q_144, q_255, q_256, q_300, q_380, q_400, q_620, q_999, q_1000, q_4095, q_4096, q_9999, q_65536, q_99999, q_31, nI_add, pk_mul, nE, nL, nT, nM31, nShl, ib_nI, nI_clamp, bI_n0, bI_n1, bI_nar, uI_r, uI_l, uL_r, uL_i, uL_p, uA_r, uA_l, bV_some, bU_some, nar_n0, nar_n1, and_self, and_true, true_and, and_false, false_and, if_true, if_false, eq_self, Bool.false_eq_true, Bool.true_eq_false, not_true_eq_false, not_false_eq_true, ↓reduceIte, nlT, nlF, ntT, ntF, neT, neF, ieT, ieF, decide_true, decide_false, Bool.not_true, Bool.not_false, Bool.and_true, Bool.true_and, Bool.and_false, Bool.false_and, Bool.or_true, Bool.true_or, Bool.or_false, Bool.false_or, b1, es, hpp, Nat.add_zero]
theorem m_clE {S : Sto} {i n : Nat} {a1 a2 a3 : av} (h : S.1 50 0 22 = nI n) (hi : i < 72) : run 169 0 140 [vR 50 0, a1, a2, a3, vI (nI i)] [] S = some (none, uI S 74 0 i (nI n)) := by
  simp (disch := omega) only [s169_140, s169_141, s169_144, s169_146, s169_147, s169_150, s169_151, q_0, q_1, q_2, q_3, q_4, q_5, q_6, q_7, q_8, q_9, q_10, q_11, q_12, q_13, q_14, q_16, q_20, q_23, q_24, q_32, q_42, q_43, q_45, q_47, q_48, q_50, q_57, q_59, q_60, q_61, q_62, q_63, q_64, q_66, q_91, q_93, q_97, q_99, q_122, q_144, q_255, q_256, q_300, q_380, q_400, q_620, q_999, q_1000, q_4095, q_4096, q_9999, q_65536, q_99999, q_31, nI_add, pk_mul, nE, nL, nT, nM31, nShl, ib_nI, nI_clamp, bI_n0, bI_n1, bI_nar, uI_r, uI_l, uL_r, uL_i, uL_p, uA_r, uA_l, bV_some, bU_some, nar_n0, nar_n1, and_self, and_true, true_and, and_false, false_and, if_true, if_false, eq_self, Bool.false_eq_true, Bool.true_eq_false, not_true_eq_false, not_false_eq_true, ↓reduceIte, nlT, nlF, ntT, ntF, neT, neF, ieT, ieF, decide_true, decide_false, Bool.not_true, Bool.not_false, Bool.and_true, Bool.true_and, Bool.and_false, Bool.false_and, Bool.or_true, Bool.true_or, Bool.or_false, Bool.false_or, h]
def CR (T : Tp) (sl i : Nat) (S : Sto) (x : Option (Option av × Sto)) (k a : Nat) (b : Nat) (res : Sum Nat (Ps × Cl)) : Prop := match res with
  | Sum.inl f => ∃ S', x = some (none, S') ∧ MH sl S S' ∧ MY T sl S' f
  | Sum.inr y => ∃ S', x = some (none, uI S' 74 0 i (nI y.1.2.2.length)) ∧ MG sl S S' ∧ MP T sl S' 0 y.1 ∧ S'.1 50 0 23 = nI 0 ∧ y.2 = (k, a, b, y.1.2.2.length)
theorem m_clT {T : Tp} {sl i k a : Nat} {S : Sto} {s : Ps} (hK : TpK T) (hs : sl < 6) (h : MP T sl S 0 s) (hg : Gd T s) (hb : sc T blP s.1 = s.1) (h23 : S.1 50 0 23 = nI 0) (hi : i < 72) (hi2 : 12 * sl ≤ i) (a1 a2 a3 : av) : CR T sl i S (run 169 0 119 [vR 50 0, a1, a2, a3, vI (nI i)] [] S) k a s.2.2.length (pClT T k a s) := by
  have hf : S.1 50 0 19 = nI 0 := h.2.2.2.1
  obtain ⟨S1, b1, b2, b3⟩ := m_takes hK h hg.1 hb
  have h23' : S1.1 50 0 23 = nI 0 := by rw [b2.2 50 0 23 (by omega)]; exact h23
  unfold pClT
  cases c : wEq T s.1 wIf with
  | true =>
    rw [c] at b1 b3
    rw [if_pos rfl]
    rw [if_pos rfl] at b3
    have hb2 : s.1 + 2 ≤ T.1 := wEq_l c
    have hg2 : Gd T (s.1 + 2, s.2) := hg.up (by show s.1 ≤ s.1 + 2; omega) hb2 rfl
    have v := m_testT hK hs b3 hg2 h23'
    cases ev : pTst T (pFact T 10) (s.1 + 2, s.2) with
    | inl f =>
      rw [ev] at v
      obtain ⟨S2, v1, v2, v3⟩ := v
      obtain ⟨st, w1, w2⟩ := v3
      have e1 := m_clE (i := i) (a1 := a1) (a2 := a2) (a3 := a3) w1.2.2.2.2.2.1 hi
      refine ⟨uI S2 74 0 i (nI st.2.2.length), ?_, (b2.g.tr v2).h.u (Or.inr (Or.inr (Or.inr (by omega)))), (show MY T sl S2 f from ⟨st, w1, w2⟩).cl (by omega)⟩
      simp (disch := omega) only [s169_119, s169_120, s169_123, s169_126, s169_127, s169_130, s169_133, s169_136, s169_137, q_0, q_1, q_2, q_3, q_4, q_5, q_6, q_7, q_8, q_9, q_10, q_11, q_12, q_13, q_14, q_16, q_20, q_23, q_24, q_32, q_42, q_43, q_45, q_47, q_48, q_50, q_57, q_59, q_60, q_61, q_62, q_63, q_64, q_66, q_91, q_93, q_97, q_99, q_122, q_144, q_255, q_256, q_300, q_380, q_400, q_620, q_999, q_1000, q_4095, q_4096, q_9999, q_65536, q_99999, q_31, nI_add, pk_mul, nE, nL, nT, nM31, nShl, ib_nI, nI_clamp, bI_n0, bI_n1, bI_nar, uI_r, uI_l, uL_r, uL_i, uL_p, uA_r, uA_l, bV_some, bU_some, nar_n0, nar_n1, and_self, and_true, true_and, and_false, false_and, if_true, if_false, eq_self, Bool.false_eq_true, Bool.true_eq_false, not_true_eq_false, not_false_eq_true, ↓reduceIte, nlT, nlF, ntT, ntF, neT, neF, ieT, ieF, decide_true, decide_false, Bool.not_true, Bool.not_false, Bool.and_true, Bool.true_and, Bool.and_false, Bool.false_and, Bool.or_true, Bool.true_or, Bool.or_false, Bool.false_or, hf, b1, v1, e1]
    | inr s' =>
      rw [ev] at v
      obtain ⟨S2, v1, v2, v3, v4⟩ := v
      have e1 := m_clE (i := i) (a1 := a1) (a2 := a2) (a3 := a3) v3.2.2.2.2.2.1 hi
      refine ⟨S2, ?_, b2.g.tr v2, v3, v4, rfl⟩
      simp (disch := omega) only [s169_119, s169_120, s169_123, s169_126, s169_127, s169_130, s169_133, s169_136, s169_137, q_0, q_1, q_2, q_3, q_4, q_5, q_6, q_7, q_8, q_9, q_10, q_11, q_12, q_13, q_14, q_16, q_20, q_23, q_24, q_32, q_42, q_43, q_45, q_47, q_48, q_50, q_57, q_59, q_60, q_61, q_62, q_63, q_64, q_66, q_91, q_93, q_97, q_99, q_122, q_144, q_255, q_256, q_300, q_380, q_400, q_620, q_999, q_1000, q_4095, q_4096, q_9999, q_65536, q_99999, q_31, nI_add, pk_mul, nE, nL, nT, nM31, nShl, ib_nI, nI_clamp, bI_n0, bI_n1, bI_nar, uI_r, uI_l, uL_r, uL_i, uL_p, uA_r, uA_l, bV_some, bU_some, nar_n0, nar_n1, and_self, and_true, true_and, and_false, false_and, if_true, if_false, eq_self, Bool.false_eq_true, Bool.true_eq_false, not_true_eq_false, not_false_eq_true, ↓reduceIte, nlT, nlF, ntT, ntF, neT, neF, ieT, ieF, decide_true, decide_false, Bool.not_true, Bool.not_false, Bool.and_true, Bool.true_and, Bool.and_false, Bool.false_and, Bool.or_true, Bool.true_or, Bool.or_false, Bool.false_or, hf, b1, v1, e1]
  | false =>
    rw [c] at b1 b3
    rw [if_neg (by decide)]
    rw [if_neg (by decide)] at b3
    have b3' : MP T sl S1 0 s := b3
    have e1 := m_clE (i := i) (a1 := a1) (a2 := a2) (a3 := a3) b3'.2.2.2.2.2.1 hi
    refine ⟨S1, ?_, b2.g, b3', h23', rfl⟩
    simp (disch := omega) only [s169_119, s169_120, s169_123, s169_126, s169_127, s169_130, s169_133, q_0, q_1, q_2, q_3, q_4, q_5, q_6, q_7, q_8, q_9, q_10, q_11, q_12, q_13, q_14, q_16, q_20, q_23, q_24, q_32, q_42, q_43, q_45, q_47, q_48, q_50, q_57, q_59, q_60, q_61, q_62, q_63, q_64, q_66, q_91, q_93, q_97, q_99, q_122, q_144, q_255, q_256, q_300, q_380, q_400, q_620, q_999, q_1000, q_4095, q_4096, q_9999, q_65536, q_99999, q_31, nI_add, pk_mul, nE, nL, nT, nM31, nShl, ib_nI, nI_clamp, bI_n0, bI_n1, bI_nar, uI_r, uI_l, uL_r, uL_i, uL_p, uA_r, uA_l, bV_some, bU_some, nar_n0, nar_n1, and_self, and_true, true_and, and_false, false_and, if_true, if_false, eq_self, Bool.false_eq_true, Bool.true_eq_false, not_true_eq_false, not_false_eq_true, ↓reduceIte, nlT, nlF, ntT, ntF, neT, neF, ieT, ieF, decide_true, decide_false, Bool.not_true, Bool.not_false, Bool.and_true, Bool.true_and, Bool.and_false, Bool.false_and, Bool.or_true, Bool.true_or, Bool.or_false, Bool.false_or, hf, b1, e1]
def CS (T : Tp) (sl : Nat) (S : Sto) (x : Option (Option av × Sto)) (cs : List Cl) (res : Sum Nat (Ps × Cl)) : Prop := match res with
  | Sum.inl f => ∃ S', x = some (none, S') ∧ MH sl S S' ∧ MY T sl S' f
  | Sum.inr y => ∃ S', x = some (none, S') ∧ MH sl S S' ∧ MP T sl S' 0 y.1 ∧ S'.1 50 0 23 = nI 0 ∧ MQl sl S' (cs ++ [y.2])
theorem CS.pre {T : Tp} {sl : Nat} {S S1 : Sto} {x : Option (Option av × Sto)} {cs : List Cl} {res : Sum Nat (Ps × Cl)} (h : CS T sl S1 x cs res) (hf : MH sl S S1) : CS T sl S x cs res := by
  cases res with
  | inl f =>
    obtain ⟨S', h1, h2, h3⟩ := h
    exact ⟨S', h1, hf.tr h2, h3⟩
  | inr y =>
    obtain ⟨S', h1, h2, h3⟩ := h
    exact ⟨S', h1, hf.tr h2, h3⟩
theorem m_clause {T : Tp} {sl : Nat} {S : Sto} {st : Ps} {cs : List Cl} (hK : TpK T) (hs : sl < 6) (h : MP T sl S 0 st) (hg : Gd T st) (h23 : S.1 50 0 23 = nI 0) (hq : MQl sl S cs) (hn : cs.length ≤ 12) : CS T sl S (call 169 0 [vR 50 0, vI (nI cs.length)] S) cs (pCl T cs.length st) := by
  have hK1 := hK.1
  have g1 := hg.1
  have g2 := hg.2.1
  have g3 := hg.2.2
  have h6 := sc_le T blP st.1 g1
  have h5 := sc_ge T blP st.1
  obtain ⟨S1, b1, b2, b3⟩ := h.bl hK (by omega)
  have h23' : S1.1 50 0 23 = nI 0 := by rw [b2.2 50 0 23 (by omega)]; exact h23
  have hq1 := hq.mg b2.g
  unfold pCl
  generalize sc T blP st.1 = b at b3 h6 h5
  have b3' : MP T sl S1 0 (b, st.2.1, st.2.2) := b3
  have hpp : S1.1 50 0 18 = nI b := b3'.2.1
  have ew := m_clW hK b3' h6 (vI (nI cs.length)) (vI (nI b)) vU 5 0 rfl
  have ew' : run 169 0 11 [vR 50 0, vI (nI cs.length), vI (nI b), vI (nI 0), vU] [] S1 = run 169 0 33 [vR 50 0, vI (nI cs.length), vI (nI b), vI (nI (wk5 (wInF T b wS 0))), vU] [] S1 := ew
  have s1 : call 169 0 [vR 50 0, vI (nI cs.length)] S = run 169 0 33 [vR 50 0, vI (nI cs.length), vI (nI b), vI (nI (wk5 (wInF T b wS 0))), vU] [] S1 := by
    rw [← ew']
    show run 169 0 0 [vR 50 0, vI (nI cs.length), vU, vU, vU] [] S = _
    simp (disch := omega) only [s169_0, s169_1, s169_4, s169_5, s169_8, s169_9, s169_10, q_0, q_1, q_2, q_3, q_4, q_5, q_6, q_7, q_8, q_9, q_10, q_11, q_12, q_13, q_14, q_16, q_20, q_23, q_24, q_32, q_42, q_43, q_45, q_47, q_48, q_50, q_57, q_59, q_60, q_61, q_62, q_63, q_64, q_66, q_91, q_93, q_97, q_99, q_122, q_144, q_255, q_256, q_300, q_380, q_400, q_620, q_999, q_1000, q_4095, q_4096, q_9999, q_65536, q_99999, q_31, nI_add, pk_mul, nE, nL, nT, nM31, nShl, ib_nI, nI_clamp, bI_n0, bI_n1, bI_nar, uI_r, uI_l, uL_r, uL_i, uL_p, uA_r, uA_l, bV_some, bU_some, nar_n0, nar_n1, and_self, and_true, true_and, and_false, false_and, if_true, if_false, eq_self, Bool.false_eq_true, Bool.true_eq_false, not_true_eq_false, not_false_eq_true, ↓reduceIte, nlT, nlF, ntT, ntF, neT, neF, ieT, ieF, decide_true, decide_false, Bool.not_true, Bool.not_false, Bool.and_true, Bool.true_and, Bool.and_false, Bool.false_and, Bool.or_true, Bool.true_or, Bool.or_false, Bool.false_or, b1, hpp]
  rw [s1]
  refine CS.pre ?_ b2.g.h
  cases e3 : wInF T b wS 0 with
  | none =>
    obtain ⟨S2, f1, f2, f3⟩ := b3'.fl (by decide) 0 b
    rw [ff_0] at f3
    refine ⟨S2, ?_, f2.g.h, _, f3, by unfold flt; omega, by unfold flt; omega, by show b ≤ 410; omega, by show st.2.1 ≤ 100; omega, by show st.2.2.length < 300; omega⟩
    show run 169 0 33 [vR 50 0, vI (nI cs.length), vI (nI b), vI (nI 5), vU] [] S1 = _
    simp (disch := omega) only [s169_33, s169_34, s169_35, s169_38, s169_39, s169_40, s169_41, s169_44, q_0, q_1, q_2, q_3, q_4, q_5, q_6, q_7, q_8, q_9, q_10, q_11, q_12, q_13, q_14, q_16, q_20, q_23, q_24, q_32, q_42, q_43, q_45, q_47, q_48, q_50, q_57, q_59, q_60, q_61, q_62, q_63, q_64, q_66, q_91, q_93, q_97, q_99, q_122, q_144, q_255, q_256, q_300, q_380, q_400, q_620, q_999, q_1000, q_4095, q_4096, q_9999, q_65536, q_99999, q_31, nI_add, pk_mul, nE, nL, nT, nM31, nShl, ib_nI, nI_clamp, bI_n0, bI_n1, bI_nar, uI_r, uI_l, uL_r, uL_i, uL_p, uA_r, uA_l, bV_some, bU_some, nar_n0, nar_n1, and_self, and_true, true_and, and_false, false_and, if_true, if_false, eq_self, Bool.false_eq_true, Bool.true_eq_false, not_true_eq_false, not_false_eq_true, ↓reduceIte, nlT, nlF, ntT, ntF, neT, neF, ieT, ieF, decide_true, decide_false, Bool.not_true, Bool.not_false, Bool.and_true, Bool.true_and, Bool.and_false, Bool.false_and, Bool.or_true, Bool.true_or, Bool.or_false, Bool.false_or, f1]
  | some k =>
    obtain ⟨_, k1, k2⟩ := wInF_e e3
    have k3 : k < 5 := by
      have : wS.length = 5 := rfl
      omega
    obtain ⟨w1, w2, w3, w4, w5⟩ := wS_s k k3
    have k2' : wEq T b (wS.getD k []) = true := k2
    have hlen := (wEq_e k2').1
    show CS T sl S1 (run 169 0 33 [vR 50 0, vI (nI cs.length), vI (nI b), vI (nI k), vU] [] S1) cs (if 12 ≤ cs.length then Sum.inl (flt 4 b) else bnd (pSum T (sc T ltP b, st.2)) (pClT T k st.2.2.length))
    by_cases c : 12 ≤ cs.length
    · rw [if_pos c]
      obtain ⟨S2, f1, f2, f3⟩ := b3'.fl (by decide) 4 b
      rw [ff_0] at f3
      refine ⟨S2, ?_, f2.g.h, _, f3, by unfold flt; omega, by unfold flt; omega, by show b ≤ 410; omega, by show st.2.1 ≤ 100; omega, by show st.2.2.length < 300; omega⟩
      simp (disch := omega) only [s169_33, s169_34, s169_35, s169_45, s169_46, s169_48, s169_51, s169_52, s169_53, s169_54, s169_57, q_0, q_1, q_2, q_3, q_4, q_5, q_6, q_7, q_8, q_9, q_10, q_11, q_12, q_13, q_14, q_16, q_20, q_23, q_24, q_32, q_42, q_43, q_45, q_47, q_48, q_50, q_57, q_59, q_60, q_61, q_62, q_63, q_64, q_66, q_91, q_93, q_97, q_99, q_122, q_144, q_255, q_256, q_300, q_380, q_400, q_620, q_999, q_1000, q_4095, q_4096, q_9999, q_65536, q_99999, q_31, nI_add, pk_mul, nE, nL, nT, nM31, nShl, ib_nI, nI_clamp, bI_n0, bI_n1, bI_nar, uI_r, uI_l, uL_r, uL_i, uL_p, uA_r, uA_l, bV_some, bU_some, nar_n0, nar_n1, and_self, and_true, true_and, and_false, false_and, if_true, if_false, eq_self, Bool.false_eq_true, Bool.true_eq_false, not_true_eq_false, not_false_eq_true, ↓reduceIte, nlT, nlF, ntT, ntF, neT, neF, ieT, ieF, decide_true, decide_false, Bool.not_true, Bool.not_false, Bool.and_true, Bool.true_and, Bool.and_false, Bool.false_and, Bool.or_true, Bool.true_or, Bool.or_false, Bool.false_or, f1]
    · rw [if_neg c]
      have h7 := sc_ge T ltP b
      have h8 := sc_le T ltP b h6
      have ew2 := m_clauseOf S1 k3
      have el : call 276 0 [vR 100 (5 + k)] S1 = some (some (vI (nI (wS.getD k []).length)), S1) := by
        have := x_len S1 (q := 5 + k) (by rw [w1, List.length_map]; omega)
        rw [w1, List.length_map] at this
        exact this
      have hsl : S1.1 50 0 20 = nI sl := b3'.2.2.2.2.1
      have hen : S1.1 50 0 22 = nI st.2.2.length := b3'.2.2.2.2.2.1
      have d1 : MP T sl (uI (uI (uI S1 50 0 18 (nI (sc T ltP b))) 71 0 (12 * sl + cs.length) (nI k)) 72 0 (12 * sl + cs.length) (nI st.2.2.length)) 0 (sc T ltP b, st.2) := ((b3'.mp (sc T ltP b)).cl (by omega)).cl (by omega)
      have d2 : MH sl S1 (uI (uI (uI S1 50 0 18 (nI (sc T ltP b))) 71 0 (12 * sl + cs.length) (nI k)) 72 0 (12 * sl + cs.length) (nI st.2.2.length)) := ((MH.rf.u (Or.inl (by omega))).u (Or.inr (Or.inr (Or.inr (by omega))))).u (Or.inr (Or.inr (Or.inr (by omega))))
      have d3 : MQl sl (uI (uI (uI S1 50 0 18 (nI (sc T ltP b))) 71 0 (12 * sl + cs.length) (nI k)) 72 0 (12 * sl + cs.length) (nI st.2.2.length)) cs := ((hq1.mg (r := sl) (MG.rf.u (Or.inl (by omega)))).u (Nat.le_refl _)).u (Nat.le_refl _)
      have d4 : (uI (uI (uI S1 50 0 18 (nI (sc T ltP b))) 71 0 (12 * sl + cs.length) (nI k)) 72 0 (12 * sl + cs.length) (nI st.2.2.length)).1 50 0 23 = nI 0 := by
        rw [uI_r, if_neg (by omega), uI_r, if_neg (by omega), uI_r, if_neg (by omega)]
        exact h23'
      have d5 : (uI (uI (uI S1 50 0 18 (nI (sc T ltP b))) 71 0 (12 * sl + cs.length) (nI k)) 72 0 (12 * sl + cs.length) (nI st.2.2.length)).1 71 0 (12 * sl + cs.length) = nI k := by
        rw [uI_r, if_neg (by omega), uI_r, if_pos ⟨rfl, rfl, rfl⟩]
      have d6 : (uI (uI (uI S1 50 0 18 (nI (sc T ltP b))) 71 0 (12 * sl + cs.length) (nI k)) 72 0 (12 * sl + cs.length) (nI st.2.2.length)).1 72 0 (12 * sl + cs.length) = nI st.2.2.length := by
        rw [uI_r, if_pos ⟨rfl, rfl, rfl⟩]
      have s2 : run 169 0 33 [vR 50 0, vI (nI cs.length), vI (nI b), vI (nI k), vU] [] S1 = run 169 0 104 [vR 50 0, vI (nI cs.length), vI (nI b), vI (nI k), vI (nI (12 * sl + cs.length))] [] (uI (uI (uI S1 50 0 18 (nI (sc T ltP b))) 71 0 (12 * sl + cs.length) (nI k)) 72 0 (12 * sl + cs.length) (nI st.2.2.length)) := by
        rw [hlen]
        simp (disch := omega) only [s169_33, s169_34, s169_35, s169_45, s169_46, s169_48, s169_58, s169_59, s169_60, s169_63, s169_64, s169_67, s169_70, s169_71, s169_74, s169_76, s169_77, s169_80, s169_81, s169_82, s169_83, s169_85, s169_86, s169_89, s169_91, s169_92, s169_93, s169_94, s169_97, s169_99, s169_100, s169_103, q_0, q_1, q_2, q_3, q_4, q_5, q_6, q_7, q_8, q_9, q_10, q_11, q_12, q_13, q_14, q_16, q_20, q_23, q_24, q_32, q_42, q_43, q_45, q_47, q_48, q_50, q_57, q_59, q_60, q_61, q_62, q_63, q_64, q_66, q_91, q_93, q_97, q_99, q_122, q_144, q_255, q_256, q_300, q_380, q_400, q_620, q_999, q_1000, q_4095, q_4096, q_9999, q_65536, q_99999, q_31, nI_add, pk_mul, nE, nL, nT, nM31, nShl, ib_nI, nI_clamp, bI_n0, bI_n1, bI_nar, uI_r, uI_l, uL_r, uL_i, uL_p, uA_r, uA_l, bV_some, bU_some, nar_n0, nar_n1, and_self, and_true, true_and, and_false, false_and, if_true, if_false, eq_self, Bool.false_eq_true, Bool.true_eq_false, not_true_eq_false, not_false_eq_true, ↓reduceIte, nlT, nlF, ntT, ntF, neT, neF, ieT, ieF, decide_true, decide_false, Bool.not_true, Bool.not_false, Bool.and_true, Bool.true_and, Bool.and_false, Bool.false_and, Bool.or_true, Bool.true_or, Bool.or_false, Bool.false_or, hpp, ew2, el, hsl, hen]
      rw [s2]
      refine CS.pre ?_ d2
      generalize uI (uI (uI S1 50 0 18 (nI (sc T ltP b))) 71 0 (12 * sl + cs.length) (nI k)) 72 0 (12 * sl + cs.length) (nI st.2.2.length) = S3 at d1 d3 d4 d5 d6
      have hg3 : Gd T (sc T ltP b, st.2) := hg.up (by show st.1 ≤ sc T ltP b; omega) h8 rfl
      have v := m_sum hK hs d1 hg3
      have vo := pSum_oc (T := T) hK (st := (sc T ltP b, st.2)) h8
      cases ev : pSum T (sc T ltP b, st.2) with
      | inl f =>
        rw [ev] at v
        obtain ⟨S4, v1, v2, v3⟩ := v.l
        obtain ⟨st4, u1, u2, u3, u4⟩ := v3.y hK (by decide)
        have e22 : S4.1 50 0 22 = nI st4.2.2.length := u1.2.2.2.2.2.1
        have e19 : S4.1 50 0 19 = nI f := u1.2.2.2.1
        have u5 : MY T sl (uI S4 73 0 (12 * sl + cs.length) (nI st4.2.2.length)) f := (show MY T sl S4 f from ⟨st4, u1, u2, u3, u4⟩).cl (by omega)
        have e1 := m_clE (S := uI S4 73 0 (12 * sl + cs.length) (nI st4.2.2.length)) (i := 12 * sl + cs.length) (n := st4.2.2.length) (a1 := vI (nI cs.length)) (a2 := vI (nI b)) (a3 := vI (nI k)) (by rw [uI_r, if_neg (by omega)]; exact e22) (by omega)
        refine ⟨uI (uI S4 73 0 (12 * sl + cs.length) (nI st4.2.2.length)) 74 0 (12 * sl + cs.length) (nI st4.2.2.length), ?_, (v2.g.h.u (Or.inr (Or.inr (Or.inr (by omega))))).u (Or.inr (Or.inr (Or.inr (by omega)))), u5.cl (by omega)⟩
        simp (disch := omega) only [s169_104, s169_105, s169_108, s169_109, s169_112, s169_114, s169_115, s169_118, s169_119, s169_120, s169_123, q_0, q_1, q_2, q_3, q_4, q_5, q_6, q_7, q_8, q_9, q_10, q_11, q_12, q_13, q_14, q_16, q_20, q_23, q_24, q_32, q_42, q_43, q_45, q_47, q_48, q_50, q_57, q_59, q_60, q_61, q_62, q_63, q_64, q_66, q_91, q_93, q_97, q_99, q_122, q_144, q_255, q_256, q_300, q_380, q_400, q_620, q_999, q_1000, q_4095, q_4096, q_9999, q_65536, q_99999, q_31, nI_add, pk_mul, nE, nL, nT, nM31, nShl, ib_nI, nI_clamp, bI_n0, bI_n1, bI_nar, uI_r, uI_l, uL_r, uL_i, uL_p, uA_r, uA_l, bV_some, bU_some, nar_n0, nar_n1, and_self, and_true, true_and, and_false, false_and, if_true, if_false, eq_self, Bool.false_eq_true, Bool.true_eq_false, not_true_eq_false, not_false_eq_true, ↓reduceIte, nlT, nlF, ntT, ntF, neT, neF, ieT, ieF, decide_true, decide_false, Bool.not_true, Bool.not_false, Bool.and_true, Bool.true_and, Bool.and_false, Bool.false_and, Bool.or_true, Bool.true_or, Bool.or_false, Bool.false_or, v1, e22, e19, e1]
      | inr s =>
        rw [ev] at v vo
        obtain ⟨S4, v1, v2, v3⟩ := v.r
        have vo' : Oc T false (sc T ltP b, st.2) s := vo.1
        have hg4 := vo'.gd hg3
        have e22 : S4.1 50 0 22 = nI s.2.2.length := v3.2.2.2.2.2.1
        have u1 : MP T sl (uI S4 73 0 (12 * sl + cs.length) (nI s.2.2.length)) 0 s := v3.cl (by omega)
        have u2 : MH sl S3 (uI S4 73 0 (12 * sl + cs.length) (nI s.2.2.length)) := v2.g.h.u (Or.inr (Or.inr (Or.inr (by omega))))
        have u3 : (uI S4 73 0 (12 * sl + cs.length) (nI s.2.2.length)).1 50 0 23 = nI 0 := by rw [uI_r, if_neg (by omega), v2.2 50 0 23 (by omega)]; exact d4
        have u4 : MQl sl (uI S4 73 0 (12 * sl + cs.length) (nI s.2.2.length)) cs := (d3.mg v2.g).u (Nat.le_refl _)
        have u5 : (uI S4 73 0 (12 * sl + cs.length) (nI s.2.2.length)).1 71 0 (12 * sl + cs.length) = nI k := by rw [uI_r, if_neg (by omega), v2.2 71 0 _ (by omega)]; exact d5
        have u6 : (uI S4 73 0 (12 * sl + cs.length) (nI s.2.2.length)).1 72 0 (12 * sl + cs.length) = nI st.2.2.length := by rw [uI_r, if_neg (by omega), v2.2 72 0 _ (by omega)]; exact d6
        have u7 : (uI S4 73 0 (12 * sl + cs.length) (nI s.2.2.length)).1 73 0 (12 * sl + cs.length) = nI s.2.2.length := by rw [uI_r, if_pos ⟨rfl, rfl, rfl⟩]
        have s3 : run 169 0 104 [vR 50 0, vI (nI cs.length), vI (nI b), vI (nI k), vI (nI (12 * sl + cs.length))] [] S3 = run 169 0 119 [vR 50 0, vI (nI cs.length), vI (nI b), vI (nI k), vI (nI (12 * sl + cs.length))] [] (uI S4 73 0 (12 * sl + cs.length) (nI s.2.2.length)) := by
          simp (disch := omega) only [s169_104, s169_105, s169_108, s169_109, s169_112, s169_114, s169_115, s169_118, q_0, q_1, q_2, q_3, q_4, q_5, q_6, q_7, q_8, q_9, q_10, q_11, q_12, q_13, q_14, q_16, q_20, q_23, q_24, q_32, q_42, q_43, q_45, q_47, q_48, q_50, q_57, q_59, q_60, q_61, q_62, q_63, q_64, q_66, q_91, q_93, q_97, q_99, q_122, q_144, q_255, q_256, q_300, q_380, q_400, q_620, q_999, q_1000, q_4095, q_4096, q_9999, q_65536, q_99999, q_31, nI_add, pk_mul, nE, nL, nT, nM31, nShl, ib_nI, nI_clamp, bI_n0, bI_n1, bI_nar, uI_r, uI_l, uL_r, uL_i, uL_p, uA_r, uA_l, bV_some, bU_some, nar_n0, nar_n1, and_self, and_true, true_and, and_false, false_and, if_true, if_false, eq_self, Bool.false_eq_true, Bool.true_eq_false, not_true_eq_false, not_false_eq_true, ↓reduceIte, nlT, nlF, ntT, ntF, neT, neF, ieT, ieF, decide_true, decide_false, Bool.not_true, Bool.not_false, Bool.and_true, Bool.true_and, Bool.and_false, Bool.false_and, Bool.or_true, Bool.true_or, Bool.or_false, Bool.false_or, v1, e22]
        rw [s3, bnd_r]
        refine CS.pre ?_ u2
        generalize uI S4 73 0 (12 * sl + cs.length) (nI s.2.2.length) = S5 at u1 u3 u4 u5 u6 u7
        have z := m_clT (k := k) (a := st.2.2.length) hK hs u1 hg4 (vo.2 s rfl) u3 (show 12 * sl + cs.length < 72 by omega) (by omega) (vI (nI cs.length)) (vI (nI b)) (vI (nI k))
        cases ez : pClT T k st.2.2.length s with
        | inl f =>
          rw [ez] at z
          exact z
        | inr y =>
          rw [ez] at z
          obtain ⟨S6, z1, z2, z3, z4, z5⟩ := z
          refine ⟨_, z1, z2.h.u (Or.inr (Or.inr (Or.inr (by omega)))), z3.cl (by omega), by rw [uI_r, if_neg (by omega)]; exact z4, fun i hi => ?_⟩
          rw [List.length_append] at hi
          have hi' : i < cs.length + 1 := hi
          by_cases ei : i = cs.length
          · rw [ei, cl_getD, z5]
            refine ⟨?_, ?_, ?_, ?_⟩
            · rw [uI_r, if_neg (by omega), z2.2 71 0 _ (by omega)]; exact u5
            · rw [uI_r, if_neg (by omega), z2.2 72 0 _ (by omega)]; exact u6
            · rw [uI_r, if_neg (by omega), z2.2 73 0 _ (by omega)]; exact u7
            · rw [uI_r, if_pos ⟨rfl, rfl, rfl⟩]
          · rw [cl_app (by omega)]
            exact ((u4.mg z2).u (Nat.le_refl _)) i (by omega)
