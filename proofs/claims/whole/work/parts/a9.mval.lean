/-! the reference reads a VALUE -/
def MF (sl : Nat) (S S' : Sto) : Prop := S'.2 = S.2 ∧ ∀ t i k, ¬ ((t = 50 ∧ (k = 18 ∨ k = 19 ∨ k = 22 ∨ k = 24)) ∨ ((t = 68 ∨ t = 69) ∧ 300 * sl ≤ k)) → S'.1 t i k = S.1 t i k
theorem MF.rf {r : Nat} {S : Sto} : MF r S S := ⟨rfl, fun _ _ _ _ => rfl⟩
theorem MF.tr {r : Nat} {S S' S'' : Sto} (h : MF r S S') (h' : MF r S' S'') : MF r S S'' := ⟨h'.1.trans h.1, fun t i k hq => (h'.2 t i k hq).trans (h.2 t i k hq)⟩
theorem MF.u {r : Nat} {S S' : Sto} (h : MF r S S') {t i k : Nat} {v : Int32} (hq : (t = 50 ∧ (k = 18 ∨ k = 19 ∨ k = 22 ∨ k = 24)) ∨ ((t = 68 ∨ t = 69) ∧ 300 * r ≤ k)) : MF r S (uI S' t i k v) := by
  refine ⟨h.1, fun a b c hn => ?_⟩
  rw [uI_r, if_neg (by rintro ⟨rfl, rfl, rfl⟩; exact hn hq)]
  exact h.2 a b c hn
/-- where the reference stands in a law's text; f: its fault -/
def MP (T : Tp) (sl : Nat) (S : Sto) (f : Nat) (st : Ps) : Prop := TpM S T ∧ S.1 50 0 18 = nI st.1 ∧ S.1 50 0 24 = nI st.2.1 ∧ S.1 50 0 19 = nI f ∧ S.1 50 0 20 = nI sl ∧ S.1 50 0 22 = nI st.2.2.length ∧ S.1 50 0 26 = nI 11 ∧ ∀ e, e < st.2.2.length → S.1 68 0 (300 * sl + e) = nI (st.2.2.getD e (0, 0)).1 ∧ S.1 69 0 (300 * sl + e) = nI (st.2.2.getD e (0, 0)).2
theorem MP.mp {T : Tp} {sl f : Nat} {S : Sto} {st : Ps} (h : MP T sl S f st) (p : Nat) : MP T sl (uI S 50 0 18 (nI p)) f (p, st.2) := by
  obtain ⟨h1, h2, h3, h4, h5, h6, h7, h8⟩ := h
  refine ⟨h1.u (by decide) (by decide), ?_, ?_, ?_, ?_, ?_, ?_, fun e he => ?_⟩
  · rw [uI_r, if_pos ⟨rfl, rfl, rfl⟩]
  · rw [uI_r, if_neg (by omega)]; exact h3
  · rw [uI_r, if_neg (by omega)]; exact h4
  · rw [uI_r, if_neg (by omega)]; exact h5
  · rw [uI_r, if_neg (by omega)]; exact h6
  · rw [uI_r, if_neg (by omega)]; exact h7
  · rw [uI_r, if_neg (by omega), uI_r, if_neg (by omega)]; exact h8 e he
theorem MP.mf {T : Tp} {sl f : Nat} {S : Sto} {st : Ps} (h : MP T sl S f st) (g : Nat) : MP T sl (uI S 50 0 19 (nI g)) g st := by
  obtain ⟨h1, h2, h3, h4, h5, h6, h7, h8⟩ := h
  refine ⟨h1.u (by decide) (by decide), ?_, ?_, ?_, ?_, ?_, ?_, fun e he => ?_⟩
  · rw [uI_r, if_neg (by omega)]; exact h2
  · rw [uI_r, if_neg (by omega)]; exact h3
  · rw [uI_r, if_pos ⟨rfl, rfl, rfl⟩]
  · rw [uI_r, if_neg (by omega)]; exact h5
  · rw [uI_r, if_neg (by omega)]; exact h6
  · rw [uI_r, if_neg (by omega)]; exact h7
  · rw [uI_r, if_neg (by omega), uI_r, if_neg (by omega)]; exact h8 e he
theorem MP.mc {T : Tp} {sl f : Nat} {S : Sto} {st : Ps} (h : MP T sl S f st) (c : Nat) : MP T sl (uI S 50 0 24 (nI c)) f (st.1, c, st.2.2) := by
  obtain ⟨h1, h2, h3, h4, h5, h6, h7, h8⟩ := h
  refine ⟨h1.u (by decide) (by decide), ?_, ?_, ?_, ?_, ?_, ?_, fun e he => ?_⟩
  · rw [uI_r, if_neg (by omega)]; exact h2
  · rw [uI_r, if_pos ⟨rfl, rfl, rfl⟩]
  · rw [uI_r, if_neg (by omega)]; exact h4
  · rw [uI_r, if_neg (by omega)]; exact h5
  · rw [uI_r, if_neg (by omega)]; exact h6
  · rw [uI_r, if_neg (by omega)]; exact h7
  · rw [uI_r, if_neg (by omega), uI_r, if_neg (by omega)]; exact h8 e he
def ff (f g : Nat) : Nat := if f = 0 then g else f
theorem ff_0 (g : Nat) : ff 0 g = g := rfl
theorem ff_n {f : Nat} (h : f ≠ 0) (g : Nat) : ff f g = f := by
  unfold ff
  rw [if_neg h]
theorem MP.fl {T : Tp} {sl f : Nat} {S : Sto} {st : Ps} (h : MP T sl S f st) (hf : f < 100000) (s q : Nat) : ∃ S', call 174 0 [vR 50 0, vI (nI s), vI (nI q)] S = some (none, S') ∧ MF sl S S' ∧ MP T sl S' (ff f (flt s q)) st :=
  ⟨_, m_fails h.2.2.2.1 hf, MF.rf.u (Or.inl ⟨rfl, by omega⟩), h.mf _⟩
theorem MP.ct {T : Tp} {sl f : Nat} {S : Sto} {st : Ps} (h : MP T sl S f st) (hf : f < 100000) (hc : st.2.1 < 100000) (q : Nat) : ∃ S', call 180 0 [vR 50 0, vI (nI q)] S = some (none, S') ∧ MF sl S S' ∧ MP T sl S' (if st.2.1 = 60 then ff f (flt 3 q) else f) (st.1, st.2.1 + 1, st.2.2) := by
  refine ⟨_, m_isCnt h.2.2.1 h.2.2.2.1 hf hc, ?_, ?_⟩
  · refine MF.u ?_ (Or.inl ⟨rfl, by omega⟩)
    split
    · exact MF.rf.u (Or.inl ⟨rfl, by omega⟩)
    · exact MF.rf
  · by_cases c : st.2.1 = 60
    · rw [if_pos c, if_pos c]
      exact (h.mf _).mc _
    · rw [if_neg c, if_neg c]
      exact h.mc _
def mEnt (f : Nat) (st : Ps) (k n : Nat) : Ps := if f = 0 then (st.1, st.2.1, st.2.2 ++ [(k, n)]) else st
theorem MP.en {T : Tp} {sl f : Nat} {S : Sto} {st : Ps} (h : MP T sl S f st) (hf : f < 100000) (hs : sl < 6) (hl : st.2.2.length < 300) (k n : Nat) : ∃ S', call 181 0 [vR 50 0, vI (nI k), vI (nI n)] S = some (none, S') ∧ MF sl S S' ∧ MP T sl S' f (mEnt f st k n) := by
  unfold mEnt
  by_cases c : f = 0
  · rw [if_pos c]
    obtain ⟨h1, h2, h3, h4, h5, h6, h7, h8⟩ := h
    rw [c] at h4 ⊢
    refine ⟨_, m_entry0 h4 h5 h6 hs hl, ?_, ((h1.u (by decide) (by omega)).u (by decide) (by omega)).u (by decide) (by omega), ?_, ?_, ?_, ?_, ?_, ?_, fun e he => ?_⟩
    · exact ((MF.rf.u (Or.inr ⟨Or.inl rfl, by omega⟩)).u (Or.inr ⟨Or.inr rfl, by omega⟩)).u (Or.inl ⟨rfl, by omega⟩)
    · rw [uI_r, if_neg (by omega), uI_r, if_neg (by omega), uI_r, if_neg (by omega)]; exact h2
    · rw [uI_r, if_neg (by omega), uI_r, if_neg (by omega), uI_r, if_neg (by omega)]; exact h3
    · rw [uI_r, if_neg (by omega), uI_r, if_neg (by omega), uI_r, if_neg (by omega)]; exact h4
    · rw [uI_r, if_neg (by omega), uI_r, if_neg (by omega), uI_r, if_neg (by omega)]; exact h5
    · rw [uI_r, if_pos ⟨rfl, rfl, rfl⟩]
      show _ = nI (st.2.2 ++ [(k, n)]).length
      rw [List.length_append]
      rfl
    · rw [uI_r, if_neg (by omega), uI_r, if_neg (by omega), uI_r, if_neg (by omega)]; exact h7
    · have he' : e < (st.2.2 ++ [(k, n)]).length := he
      rw [List.length_append] at he'
      have he2 : e < st.2.2.length + 1 := he'
      show _ = nI ((st.2.2 ++ [(k, n)]).getD e (0, 0)).1 ∧ _ = nI ((st.2.2 ++ [(k, n)]).getD e (0, 0)).2
      by_cases c2 : e = st.2.2.length
      · rw [c2, cd_getD]
        refine ⟨?_, ?_⟩
        · rw [uI_r, if_neg (by omega), uI_r, if_neg (by omega), uI_r, if_pos ⟨rfl, rfl, rfl⟩]
        · rw [uI_r, if_neg (by omega), uI_r, if_pos ⟨rfl, rfl, rfl⟩]
      · rw [cd_app (by omega)]
        refine ⟨?_, ?_⟩
        · rw [uI_r, if_neg (by omega), uI_r, if_neg (by omega), uI_r, if_neg (by omega)]
          exact (h8 e (by omega)).1
        · rw [uI_r, if_neg (by omega), uI_r, if_neg (by omega), uI_r, if_neg (by omega)]
          exact (h8 e (by omega)).2
  · rw [if_neg c]
    exact ⟨S, m_entryF h.2.2.2.1 c hf, MF.rf, h⟩
theorem MP.bl {T : Tp} {sl f : Nat} {S : Sto} {st : Ps} (hK : TpK T) (h : MP T sl S f st) (hp : st.1 < 10000) : ∃ S', call 170 0 [vR 50 0] S = some (none, S') ∧ MF sl S S' ∧ MP T sl S' f (sc T blP st.1, st.2) :=
  ⟨_, m_blanks hK st.1 h.1 h.2.1 hp, MF.rf.u (Or.inl ⟨rfl, by omega⟩), h.mp _⟩
theorem MP.sg {T : Tp} {sl f : Nat} {S : Sto} {st : Ps} (hK : TpK T) (h : MP T sl S f st) (hp : st.1 < 10000) : call 171 0 [vR 50 0] S = some (some (vI (chI T st.1)), S) := m_sign hK h.1 h.2.1 (by omega)
theorem m_digL {T : Tp} {sl f b c : Nat} {l : Cd} (hK : TpK T) (hf : f < 100000) : ∀ p {S : Sto}, MP T sl S f (p, c, l) → b ≤ p → p ≤ T.1 → sc T dgP p = sc T dgP b → ∃ S', MF sl S S' ∧ MP T sl S' (if 5 < sc T dgP b - b then ff f (flt 1 b) else f) (sc T dgP b, c, l) ∧ run 179 0 25 [vR 50 0, vI (nI 99999), vI (nI b), vI (nI (nmF T b (m5 (p - b))))] [] S = some (some (vI (nI (nmF T b (m5 (sc T dgP b - b))))), S') := by
  have hK1 := hK.1
  refine sc_ind (T := T) (P := dgP) (Q := fun p => ∀ {S : Sto}, MP T sl S f (p, c, l) → b ≤ p → p ≤ T.1 → sc T dgP p = sc T dgP b → ∃ S', MF sl S S' ∧ MP T sl S' (if 5 < sc T dgP b - b then ff f (flt 1 b) else f) (sc T dgP b, c, l) ∧ run 179 0 25 [vR 50 0, vI (nI 99999), vI (nI b), vI (nI (nmF T b (m5 (p - b))))] [] S = some (some (vI (nI (nmF T b (m5 (sc T dgP b - b))))), S')) ?_ ?_
  · intro p h1 h2 ih S h hbp hp4 hsc
    have h3 : 48 ≤ T.2 p ∧ T.2 p ≤ 57 := by simpa [dgP] using h2
    have hle := sc_ge T dgP p
    have hn := nm5 (T := T) (b := b) (p := p) (by omega)
    have hd := m_isDig hK h.1 h.2.1 (show p < 100000 by omega)
    have hd' : (decide (p < T.1) && dgP (T.2 p)) = true := by simp [h1, h2]
    rw [hd'] at hd
    have hs := h.sg hK (show p < 10000 by omega)
    have ec : chI T p = nI (T.2 p) := by unfold chI; rw [if_pos h1]
    have hs' : call 171 0 [vR 50 0] S = some (some (vI (nI (T.2 p))), S) := by rw [← ec]; exact hs
    have hpp : S.1 50 0 18 = nI p := h.2.1
    obtain ⟨S', i1, i2, i3⟩ := ih (S := uI S 50 0 18 (nI (p + 1))) (h.mp (p + 1)) (by omega) (by omega) (by rw [← hsc, sc_t h1 h2])
    refine ⟨S', (MF.rf.u (Or.inl ⟨rfl, by omega⟩)).tr i1, i2, ?_⟩
    rw [← i3, s179_25]
    by_cases c5 : p - b < 5
    · have e5 : nmF T b (m5 (p + 1 - b)) = 10 * nmF T b (m5 (p - b)) + T.2 p - 48 := by
        unfold m5
        rw [if_pos c5]
        have : (if p + 1 - b < 5 then p + 1 - b else 5) = (p - b) + 1 := by split <;> omega
        rw [this, nmF_s, show b + (p - b) = p by omega]
        omega
      rw [e5]
      simp (disch := omega) only [s179_0, s179_1, s179_4, s179_7, s179_8, s179_9, s179_10, s179_13, s179_16, s179_17, s179_18, s179_19, s179_22, s179_23, s179_24, s179_26, s179_29, s179_32, s179_33, s179_36, s179_37, s179_38, s179_39, s179_42, s179_44, s179_45, s179_46, s179_47, s179_50, s179_51, s179_53, s179_54, s179_57, s179_58, s179_59, s179_60, s179_61, s179_64, s179_65, s179_66, s179_69, s179_72, s179_73, s179_76, s179_77, s179_78, s179_79, s179_82, s179_83, s179_84, s179_87, s179_88, s179_89, s179_90, s179_93, s179_94, q_0, q_1, q_2, q_3, q_4, q_5, q_6, q_7, q_8, q_9, q_10, q_11, q_12, q_13, q_14, q_16, q_20, q_23, q_24, q_32, q_42, q_43, q_45, q_47, q_48, q_50, q_57, q_59, q_60, q_61, q_62, q_63, q_64, q_66, q_91, q_93, q_97, q_99, q_122, q_144, q_255, q_256, q_300, q_380, q_400, q_620, q_999, q_1000, q_4095, q_4096, q_9999, q_65536, q_99999, q_31, nI_add, pk_mul, nE, nL, nT, nM31, nShl, ib_nI, nI_clamp, bI_n0, bI_n1, bI_nar, uI_r, uI_l, uL_r, uL_i, uL_p, uA_r, uA_l, bV_some, bU_some, nar_n0, nar_n1, and_self, and_true, true_and, and_false, false_and, if_true, if_false, eq_self, Bool.false_eq_true, Bool.true_eq_false, not_true_eq_false, not_false_eq_true, ↓reduceIte, nlT, nlF, ntT, ntF, neT, neF, ieT, ieF, decide_true, decide_false, Bool.not_true, Bool.not_false, Bool.and_true, Bool.true_and, Bool.and_false, Bool.false_and, Bool.or_true, Bool.true_or, Bool.or_false, Bool.false_or, hpp, hd, hs', nSub]
    · have e5 : m5 (p + 1 - b) = m5 (p - b) := by
        unfold m5
        rw [if_neg (by omega), if_neg c5]
      rw [e5]
      simp (disch := omega) only [s179_0, s179_1, s179_4, s179_7, s179_8, s179_9, s179_10, s179_13, s179_16, s179_17, s179_18, s179_19, s179_22, s179_23, s179_24, s179_26, s179_29, s179_32, s179_33, s179_36, s179_37, s179_38, s179_39, s179_42, s179_44, s179_45, s179_46, s179_47, s179_50, s179_51, s179_53, s179_54, s179_57, s179_58, s179_59, s179_60, s179_61, s179_64, s179_65, s179_66, s179_69, s179_72, s179_73, s179_76, s179_77, s179_78, s179_79, s179_82, s179_83, s179_84, s179_87, s179_88, s179_89, s179_90, s179_93, s179_94, q_0, q_1, q_2, q_3, q_4, q_5, q_6, q_7, q_8, q_9, q_10, q_11, q_12, q_13, q_14, q_16, q_20, q_23, q_24, q_32, q_42, q_43, q_45, q_47, q_48, q_50, q_57, q_59, q_60, q_61, q_62, q_63, q_64, q_66, q_91, q_93, q_97, q_99, q_122, q_144, q_255, q_256, q_300, q_380, q_400, q_620, q_999, q_1000, q_4095, q_4096, q_9999, q_65536, q_99999, q_31, nI_add, pk_mul, nE, nL, nT, nM31, nShl, ib_nI, nI_clamp, bI_n0, bI_n1, bI_nar, uI_r, uI_l, uL_r, uL_i, uL_p, uA_r, uA_l, bV_some, bU_some, nar_n0, nar_n1, and_self, and_true, true_and, and_false, false_and, if_true, if_false, eq_self, Bool.false_eq_true, Bool.true_eq_false, not_true_eq_false, not_false_eq_true, ↓reduceIte, nlT, nlF, ntT, ntF, neT, neF, ieT, ieF, decide_true, decide_false, Bool.not_true, Bool.not_false, Bool.and_true, Bool.true_and, Bool.and_false, Bool.false_and, Bool.or_true, Bool.true_or, Bool.or_false, Bool.false_or, hpp, hd, hs', nSub]
  · intro p hno S h hbp hp4 hsc
    have e0 : sc T dgP p = p := sc_f hno
    rw [e0] at hsc
    have hd := m_isDig hK h.1 h.2.1 (show p < 100000 by omega)
    have hd' : (decide (p < T.1) && dgP (T.2 p)) = false := by
      cases q : (decide (p < T.1) && dgP (T.2 p)) with
      | false => rfl
      | true => exact absurd (by simpa using q) hno
    rw [hd'] at hd
    have hpp : S.1 50 0 18 = nI p := h.2.1
    rw [← hsc, s179_25]
    by_cases c5 : 5 < p - b
    · rw [if_pos c5]
      obtain ⟨S', f1, f2, f3⟩ := h.fl hf 1 b
      refine ⟨S', f2, f3, ?_⟩
      simp (disch := omega) only [s179_0, s179_1, s179_4, s179_7, s179_8, s179_9, s179_10, s179_13, s179_16, s179_17, s179_18, s179_19, s179_22, s179_23, s179_24, s179_26, s179_29, s179_32, s179_33, s179_36, s179_37, s179_38, s179_39, s179_42, s179_44, s179_45, s179_46, s179_47, s179_50, s179_51, s179_53, s179_54, s179_57, s179_58, s179_59, s179_60, s179_61, s179_64, s179_65, s179_66, s179_69, s179_72, s179_73, s179_76, s179_77, s179_78, s179_79, s179_82, s179_83, s179_84, s179_87, s179_88, s179_89, s179_90, s179_93, s179_94, q_0, q_1, q_2, q_3, q_4, q_5, q_6, q_7, q_8, q_9, q_10, q_11, q_12, q_13, q_14, q_16, q_20, q_23, q_24, q_32, q_42, q_43, q_45, q_47, q_48, q_50, q_57, q_59, q_60, q_61, q_62, q_63, q_64, q_66, q_91, q_93, q_97, q_99, q_122, q_144, q_255, q_256, q_300, q_380, q_400, q_620, q_999, q_1000, q_4095, q_4096, q_9999, q_65536, q_99999, q_31, nI_add, pk_mul, nE, nL, nT, nM31, nShl, ib_nI, nI_clamp, bI_n0, bI_n1, bI_nar, uI_r, uI_l, uL_r, uL_i, uL_p, uA_r, uA_l, bV_some, bU_some, nar_n0, nar_n1, and_self, and_true, true_and, and_false, false_and, if_true, if_false, eq_self, Bool.false_eq_true, Bool.true_eq_false, not_true_eq_false, not_false_eq_true, ↓reduceIte, nlT, nlF, ntT, ntF, neT, neF, ieT, ieF, decide_true, decide_false, Bool.not_true, Bool.not_false, Bool.and_true, Bool.true_and, Bool.and_false, Bool.false_and, Bool.or_true, Bool.true_or, Bool.or_false, Bool.false_or, hpp, hd, nSub, f1]
    · rw [if_neg c5]
      have hn := nm5 (T := T) (b := b) (p := p) (by omega)
      refine ⟨S, MF.rf, h, ?_⟩
      simp (disch := omega) only [s179_0, s179_1, s179_4, s179_7, s179_8, s179_9, s179_10, s179_13, s179_16, s179_17, s179_18, s179_19, s179_22, s179_23, s179_24, s179_26, s179_29, s179_32, s179_33, s179_36, s179_37, s179_38, s179_39, s179_42, s179_44, s179_45, s179_46, s179_47, s179_50, s179_51, s179_53, s179_54, s179_57, s179_58, s179_59, s179_60, s179_61, s179_64, s179_65, s179_66, s179_69, s179_72, s179_73, s179_76, s179_77, s179_78, s179_79, s179_82, s179_83, s179_84, s179_87, s179_88, s179_89, s179_90, s179_93, s179_94, q_0, q_1, q_2, q_3, q_4, q_5, q_6, q_7, q_8, q_9, q_10, q_11, q_12, q_13, q_14, q_16, q_20, q_23, q_24, q_32, q_42, q_43, q_45, q_47, q_48, q_50, q_57, q_59, q_60, q_61, q_62, q_63, q_64, q_66, q_91, q_93, q_97, q_99, q_122, q_144, q_255, q_256, q_300, q_380, q_400, q_620, q_999, q_1000, q_4095, q_4096, q_9999, q_65536, q_99999, q_31, nI_add, pk_mul, nE, nL, nT, nM31, nShl, ib_nI, nI_clamp, bI_n0, bI_n1, bI_nar, uI_r, uI_l, uL_r, uL_i, uL_p, uA_r, uA_l, bV_some, bU_some, nar_n0, nar_n1, and_self, and_true, true_and, and_false, false_and, if_true, if_false, eq_self, Bool.false_eq_true, Bool.true_eq_false, not_true_eq_false, not_false_eq_true, ↓reduceIte, nlT, nlF, ntT, ntF, neT, neF, ieT, ieF, decide_true, decide_false, Bool.not_true, Bool.not_false, Bool.and_true, Bool.true_and, Bool.and_false, Bool.false_and, Bool.or_true, Bool.true_or, Bool.or_false, Bool.false_or, hpp, hd, nSub]
theorem m_digits {T : Tp} {sl f b c : Nat} {l : Cd} {S : Sto} (hK : TpK T) (hf : f < 100000) (h : MP T sl S f (b, c, l)) (hb : b < T.1) (hd : dgP (T.2 b) = true) : ∃ S', call 179 0 [vR 50 0, vI (nI 99999)] S = some (some (vI (nI (nmF T b (m5 (sc T dgP b - b))))), S') ∧ MF sl S S' ∧ MP T sl S' (if 5 < sc T dgP b - b then ff f (flt 1 b) else f) (sc T dgP b, c, l) := by
  have hK1 := hK.1
  obtain ⟨S', a1, a2, a3⟩ := m_digL (b := b) hK hf b h (Nat.le_refl _) (by omega) rfl
  rw [Nat.sub_self] at a3
  have hd1 := m_isDig hK h.1 h.2.1 (show b < 100000 by omega)
  have hd' : (decide (b < T.1) && dgP (T.2 b)) = true := by simp [hb, hd]
  rw [hd'] at hd1
  have hpp : S.1 50 0 18 = nI b := h.2.1
  refine ⟨S', ?_, a1, a2⟩
  rw [← a3]
  show run 179 0 0 [vR 50 0, vI (nI 99999), vU, vU] [] S = _
  simp (disch := omega) only [s179_0, s179_1, s179_4, s179_18, s179_19, s179_22, s179_23, s179_24, q_0, q_1, q_2, q_3, q_4, q_5, q_6, q_7, q_8, q_9, q_10, q_11, q_12, q_13, q_14, q_16, q_20, q_23, q_24, q_32, q_42, q_43, q_45, q_47, q_48, q_50, q_57, q_59, q_60, q_61, q_62, q_63, q_64, q_66, q_91, q_93, q_97, q_99, q_122, q_144, q_255, q_256, q_300, q_380, q_400, q_620, q_999, q_1000, q_4095, q_4096, q_9999, q_65536, q_99999, q_31, nI_add, pk_mul, nE, nL, nT, nM31, nShl, ib_nI, nI_clamp, bI_n0, bI_n1, bI_nar, uI_r, uI_l, uL_r, uL_i, uL_p, uA_r, uA_l, bV_some, bU_some, nar_n0, nar_n1, and_self, and_true, true_and, and_false, false_and, if_true, if_false, eq_self, Bool.false_eq_true, Bool.true_eq_false, not_true_eq_false, not_false_eq_true, ↓reduceIte, nlT, nlF, ntT, ntF, neT, neF, ieT, ieF, decide_true, decide_false, Bool.not_true, Bool.not_false, Bool.and_true, Bool.true_and, Bool.and_false, Bool.false_and, Bool.or_true, Bool.true_or, Bool.or_false, Bool.false_or, hd1, hpp]
  rfl
theorem m_wordOf (S : Sto) {k : Nat} (hk : k < 11) : call 182 0 [vI (nI k)] S = some (some (vR 100 (10 + k)), S) := by
  have z : ∀ k, k < 11 → (nI k).toInt = (k : Int) := by decide +kernel
  have hz := z k hk
  show run 182 0 0 [vI (nI k)] [] S = _
  have d : k = 0 ∨ k = 1 ∨ k = 2 ∨ k = 3 ∨ k = 4 ∨ k = 5 ∨ k = 6 ∨ k = 7 ∨ k = 8 ∨ k = 9 ∨ k = 10 := by omega
  rcases d with rfl | rfl | rfl | rfl | rfl | rfl | rfl | rfl | rfl | rfl | rfl <;> (simp (disch := omega) only [s182_0, s182_1, s182_56, s182_58, s182_59, s182_61, s182_62, s182_64, s182_65, s182_67, s182_68, s182_70, s182_71, s182_73, s182_74, s182_76, s182_77, s182_79, s182_80, s182_82, s182_83, s182_85, s182_86, s182_88, hz, ieT, ieF, if_true, if_false])
theorem wV_s : ∀ k, k < 11 → strB (10 + k) = (wV.getD k []).map nI ∧ wV.getD k [] ≠ [] ∧ (∀ c, c ∈ wV.getD k [] → 97 ≤ c ∧ c ≤ 122) ∧ (wV.getD k []).length < 100 ∧ wV.drop k = wV.getD k [] :: wV.drop (k + 1) := by decide
def wk (x : Option Nat) : Nat := match x with
  | none => 11
  | some k => k
theorem m_valW {T : Tp} {sl f b c : Nat} {l : Cd} {S : Sto} (hK : TpK T) (h : MP T sl S f (b, c, l)) (hb : b ≤ T.1) (a1 : av) : ∀ m i, i + m = 11 → run 177 0 38 [vR 50 0, a1, vI (nI i)] [] S = run 177 0 63 [vR 50 0, a1, vI (nI (wk (wInF T b (wV.drop i) i)))] [] S := by
  have hK1 := hK.1
  have h26 : S.1 50 0 26 = nI 11 := h.2.2.2.2.2.2.1
  intro m
  induction m with
  | zero =>
    intro i hi
    have e : i = 11 := by omega
    subst e
    rw [s177_38]
    simp (disch := omega) only [s177_39, s177_40, s177_43, q_0, q_1, q_2, q_3, q_4, q_5, q_6, q_7, q_8, q_9, q_10, q_11, q_12, q_13, q_14, q_16, q_20, q_23, q_24, q_32, q_42, q_43, q_45, q_47, q_48, q_50, q_57, q_59, q_60, q_61, q_62, q_63, q_64, q_66, q_91, q_93, q_97, q_99, q_122, q_144, q_255, q_256, q_300, q_380, q_400, q_620, q_999, q_1000, q_4095, q_4096, q_9999, q_65536, q_99999, q_31, nI_add, pk_mul, nE, nL, nT, nM31, nShl, ib_nI, nI_clamp, bI_n0, bI_n1, bI_nar, uI_r, uI_l, uL_r, uL_i, uL_p, uA_r, uA_l, bV_some, bU_some, nar_n0, nar_n1, and_self, and_true, true_and, and_false, false_and, if_true, if_false, eq_self, Bool.false_eq_true, Bool.true_eq_false, not_true_eq_false, not_false_eq_true, ↓reduceIte, nlT, nlF, ntT, ntF, neT, neF, ieT, ieF, decide_true, decide_false, Bool.not_true, Bool.not_false, Bool.and_true, Bool.true_and, Bool.and_false, Bool.false_and, Bool.or_true, Bool.true_or, Bool.or_false, Bool.false_or, h26]
    rfl
  | succ m ih =>
    intro i hi
    obtain ⟨w1, w2, w3, w4, w5⟩ := wV_s i (by omega)
    have es := m_stands hK h.1 h.2.1 (show b < 10000 by omega) w1 ⟨w2, w3⟩ w4
    have ew := m_wordOf S (k := i) (by omega)
    have es' : call 173 0 [vR 50 0, vR 100 (10 + i)] S = some (some (vI (bI (wEq T b (wV.getD i [])))), S) := es
    rw [w5, wInF_s, s177_38]
    cases q : wEq T b (wV.getD i []) with
    | true =>
      rw [q] at es'
      rw [if_pos rfl]
      simp (disch := omega) only [s177_39, s177_40, s177_43, s177_46, s177_47, s177_48, s177_51, s177_54, q_0, q_1, q_2, q_3, q_4, q_5, q_6, q_7, q_8, q_9, q_10, q_11, q_12, q_13, q_14, q_16, q_20, q_23, q_24, q_32, q_42, q_43, q_45, q_47, q_48, q_50, q_57, q_59, q_60, q_61, q_62, q_63, q_64, q_66, q_91, q_93, q_97, q_99, q_122, q_144, q_255, q_256, q_300, q_380, q_400, q_620, q_999, q_1000, q_4095, q_4096, q_9999, q_65536, q_99999, q_31, nI_add, pk_mul, nE, nL, nT, nM31, nShl, ib_nI, nI_clamp, bI_n0, bI_n1, bI_nar, uI_r, uI_l, uL_r, uL_i, uL_p, uA_r, uA_l, bV_some, bU_some, nar_n0, nar_n1, and_self, and_true, true_and, and_false, false_and, if_true, if_false, eq_self, Bool.false_eq_true, Bool.true_eq_false, not_true_eq_false, not_false_eq_true, ↓reduceIte, nlT, nlF, ntT, ntF, neT, neF, ieT, ieF, decide_true, decide_false, Bool.not_true, Bool.not_false, Bool.and_true, Bool.true_and, Bool.and_false, Bool.false_and, Bool.or_true, Bool.true_or, Bool.or_false, Bool.false_or, h26, ew, es']
      rfl
    | false =>
      rw [q] at es'
      rw [if_neg (by decide), ← ih (i + 1) (by omega)]
      simp (disch := omega) only [s177_39, s177_40, s177_43, s177_46, s177_47, s177_48, s177_51, s177_54, s177_57, s177_60, q_0, q_1, q_2, q_3, q_4, q_5, q_6, q_7, q_8, q_9, q_10, q_11, q_12, q_13, q_14, q_16, q_20, q_23, q_24, q_32, q_42, q_43, q_45, q_47, q_48, q_50, q_57, q_59, q_60, q_61, q_62, q_63, q_64, q_66, q_91, q_93, q_97, q_99, q_122, q_144, q_255, q_256, q_300, q_380, q_400, q_620, q_999, q_1000, q_4095, q_4096, q_9999, q_65536, q_99999, q_31, nI_add, pk_mul, nE, nL, nT, nM31, nShl, ib_nI, nI_clamp, bI_n0, bI_n1, bI_nar, uI_r, uI_l, uL_r, uL_i, uL_p, uA_r, uA_l, bV_some, bU_some, nar_n0, nar_n1, and_self, and_true, true_and, and_false, false_and, if_true, if_false, eq_self, Bool.false_eq_true, Bool.true_eq_false, not_true_eq_false, not_false_eq_true, ↓reduceIte, nlT, nlF, ntT, ntF, neT, neF, ieT, ieF, decide_true, decide_false, Bool.not_true, Bool.not_false, Bool.and_true, Bool.true_and, Bool.and_false, Bool.false_and, Bool.or_true, Bool.true_or, Bool.or_false, Bool.false_or, h26, ew, es']
def mVal (T : Tp) (f : Nat) (b c : Nat) (l : Cd) : Nat × Ps :=
  if b < T.1 ∧ dgP (T.2 b) = true then
    ((if c = 60 then ff (if 5 < sc T dgP b - b then ff f (flt 1 b) else f) (flt 3 b) else (if 5 < sc T dgP b - b then ff f (flt 1 b) else f)), mEnt (if c = 60 then ff (if 5 < sc T dgP b - b then ff f (flt 1 b) else f) (flt 3 b) else (if 5 < sc T dgP b - b then ff f (flt 1 b) else f)) (sc T dgP b, c + 1, l) 0 (nmF T b (m5 (sc T dgP b - b))))
  else match wInF T b wV 0 with
    | none => (ff f (flt 0 b), (b, c, l))
    | some k => ((if c = 60 then ff f (flt 3 b) else f), mEnt (if c = 60 then ff f (flt 3 b) else f) (sc T ltP b, c + 1, l) 1 k)
theorem ff_lt {f s q : Nat} (hf : f < 100000) (hs : s ≤ 4) (hq : q ≤ 400) : ff f (flt s q) < 100000 := by
  unfold ff flt
  split <;> omega
theorem m_value {T : Tp} {sl f : Nat} {S : Sto} {st : Ps} (hK : TpK T) (h : MP T sl S f st) (hp : st.1 ≤ T.1) (hf : f < 100000) (hc : st.2.1 ≤ 1000) (hl : st.2.2.length < 300) (hs : sl < 6) : ∃ S', call 177 0 [vR 50 0] S = some (none, S') ∧ MF sl S S' ∧ MP T sl S' (mVal T f (sc T blP st.1) st.2.1 st.2.2).1 (mVal T f (sc T blP st.1) st.2.1 st.2.2).2 := by
  have hK1 := hK.1
  have h6 := sc_le T blP st.1 hp
  obtain ⟨S1, a1, a2, a3⟩ := h.bl hK (show st.1 < 10000 by omega)
  show ∃ S', run 177 0 0 [vR 50 0, vU, vU] [] S = _ ∧ _
  generalize sc T blP st.1 = b at a3 h6
  obtain ⟨p, c, l⟩ := st
  have a3' : MP T sl S1 f (b, c, l) := a3
  have hc' : c ≤ 1000 := hc
  have hl' : l.length < 300 := hl
  have hpp : S1.1 50 0 18 = nI b := a3'.2.1
  have h26 : S1.1 50 0 26 = nI 11 := a3'.2.2.2.2.2.2.1
  have hd := m_isDig hK a3'.1 a3'.2.1 (show b < 100000 by omega)
  show ∃ S', run 177 0 0 [vR 50 0, vU, vU] [] S = some (none, S') ∧ MF sl S S' ∧ MP T sl S' (mVal T f b c l).1 (mVal T f b c l).2
  unfold mVal
  by_cases d : b < T.1 ∧ dgP (T.2 b) = true
  · rw [if_pos d]
    have hd' : (decide (b < T.1) && dgP (T.2 b)) = true := by simp [d.1, d.2]
    rw [hd'] at hd
    obtain ⟨S2, b1, b2, b3⟩ := m_digits hK hf a3' d.1 d.2
    have hf1 : (if 5 < sc T dgP b - b then ff f (flt 1 b) else f) < 100000 := by
      split
      · exact ff_lt hf (by decide) (by omega)
      · exact hf
    generalize (if 5 < sc T dgP b - b then ff f (flt 1 b) else f) = f1 at b3 hf1
    obtain ⟨S3, c1, c2, c3⟩ := b3.ct hf1 (show c < 100000 by omega) b
    have c3' : MP T sl S3 (if c = 60 then ff f1 (flt 3 b) else f1) (sc T dgP b, c + 1, l) := c3
    have hf2 : (if c = 60 then ff f1 (flt 3 b) else f1) < 100000 := by
      split
      · exact ff_lt hf1 (by decide) (by omega)
      · exact hf1
    generalize (if c = 60 then ff f1 (flt 3 b) else f1) = f2 at c3' hf2
    obtain ⟨S4, d1, d2, d3⟩ := c3'.en hf2 hs hl' 0 (nmF T b (m5 (sc T dgP b - b)))
    refine ⟨S4, ?_, ((a2.tr b2).tr c2).tr d2, d3⟩
    simp (disch := omega) only [s177_0, s177_1, s177_4, s177_5, s177_8, s177_9, s177_10, s177_13, s177_16, s177_17, s177_20, s177_23, s177_24, s177_25, s177_26, s177_29, s177_30, s177_31, s177_32, s177_35, s177_36, s177_37, s177_39, s177_40, s177_43, s177_46, s177_47, s177_48, s177_51, s177_54, s177_57, s177_60, s177_63, s177_64, s177_65, s177_68, s177_71, s177_72, s177_73, s177_74, s177_77, s177_78, s177_79, s177_80, s177_83, s177_84, s177_85, s177_88, s177_89, s177_92, s177_95, s177_96, s177_99, s177_100, s177_101, s177_102, s177_105, q_0, q_1, q_2, q_3, q_4, q_5, q_6, q_7, q_8, q_9, q_10, q_11, q_12, q_13, q_14, q_16, q_20, q_23, q_24, q_32, q_42, q_43, q_45, q_47, q_48, q_50, q_57, q_59, q_60, q_61, q_62, q_63, q_64, q_66, q_91, q_93, q_97, q_99, q_122, q_144, q_255, q_256, q_300, q_380, q_400, q_620, q_999, q_1000, q_4095, q_4096, q_9999, q_65536, q_99999, q_31, nI_add, pk_mul, nE, nL, nT, nM31, nShl, ib_nI, nI_clamp, bI_n0, bI_n1, bI_nar, uI_r, uI_l, uL_r, uL_i, uL_p, uA_r, uA_l, bV_some, bU_some, nar_n0, nar_n1, and_self, and_true, true_and, and_false, false_and, if_true, if_false, eq_self, Bool.false_eq_true, Bool.true_eq_false, not_true_eq_false, not_false_eq_true, ↓reduceIte, nlT, nlF, ntT, ntF, neT, neF, ieT, ieF, decide_true, decide_false, Bool.not_true, Bool.not_false, Bool.and_true, Bool.true_and, Bool.and_false, Bool.false_and, Bool.or_true, Bool.true_or, Bool.or_false, Bool.false_or, a1, hpp, hd, b1, c1, d1]
  · rw [if_neg d]
    have hd' : (decide (b < T.1) && dgP (T.2 b)) = false := by
      cases q : (decide (b < T.1) && dgP (T.2 b)) with
      | false => rfl
      | true => exact absurd (by simpa using q) d
    rw [hd'] at hd
    have ew := m_valW hK a3' h6 (vI (nI b)) 11 0 rfl
    have ew' : run 177 0 38 [vR 50 0, vI (nI b), vI (nI 0)] [] S1 = run 177 0 63 [vR 50 0, vI (nI b), vI (nI (wk (wInF T b wV 0)))] [] S1 := ew
    have s1 : run 177 0 0 [vR 50 0, vU, vU] [] S = run 177 0 63 [vR 50 0, vI (nI b), vI (nI (wk (wInF T b wV 0)))] [] S1 := by
      rw [← ew']
      simp (disch := omega) only [s177_0, s177_1, s177_4, s177_5, s177_8, s177_9, s177_10, s177_13, s177_36, s177_37, q_0, q_1, q_2, q_3, q_4, q_5, q_6, q_7, q_8, q_9, q_10, q_11, q_12, q_13, q_14, q_16, q_20, q_23, q_24, q_32, q_42, q_43, q_45, q_47, q_48, q_50, q_57, q_59, q_60, q_61, q_62, q_63, q_64, q_66, q_91, q_93, q_97, q_99, q_122, q_144, q_255, q_256, q_300, q_380, q_400, q_620, q_999, q_1000, q_4095, q_4096, q_9999, q_65536, q_99999, q_31, nI_add, pk_mul, nE, nL, nT, nM31, nShl, ib_nI, nI_clamp, bI_n0, bI_n1, bI_nar, uI_r, uI_l, uL_r, uL_i, uL_p, uA_r, uA_l, bV_some, bU_some, nar_n0, nar_n1, and_self, and_true, true_and, and_false, false_and, if_true, if_false, eq_self, Bool.false_eq_true, Bool.true_eq_false, not_true_eq_false, not_false_eq_true, ↓reduceIte, nlT, nlF, ntT, ntF, neT, neF, ieT, ieF, decide_true, decide_false, Bool.not_true, Bool.not_false, Bool.and_true, Bool.true_and, Bool.and_false, Bool.false_and, Bool.or_true, Bool.true_or, Bool.or_false, Bool.false_or, a1, hpp, hd]
    rw [s1]
    cases e3 : wInF T b wV 0 with
    | none =>
      obtain ⟨S2, b1, b2, b3⟩ := a3'.fl hf 0 b
      refine ⟨S2, ?_, a2.tr b2, b3⟩
      show run 177 0 63 [vR 50 0, vI (nI b), vI (nI 11)] [] S1 = _
      simp (disch := omega) only [s177_0, s177_1, s177_4, s177_5, s177_8, s177_9, s177_10, s177_13, s177_16, s177_17, s177_20, s177_23, s177_24, s177_25, s177_26, s177_29, s177_30, s177_31, s177_32, s177_35, s177_36, s177_37, s177_39, s177_40, s177_43, s177_46, s177_47, s177_48, s177_51, s177_54, s177_57, s177_60, s177_63, s177_64, s177_65, s177_68, s177_71, s177_72, s177_73, s177_74, s177_77, s177_78, s177_79, s177_80, s177_83, s177_84, s177_85, s177_88, s177_89, s177_92, s177_95, s177_96, s177_99, s177_100, s177_101, s177_102, s177_105, q_0, q_1, q_2, q_3, q_4, q_5, q_6, q_7, q_8, q_9, q_10, q_11, q_12, q_13, q_14, q_16, q_20, q_23, q_24, q_32, q_42, q_43, q_45, q_47, q_48, q_50, q_57, q_59, q_60, q_61, q_62, q_63, q_64, q_66, q_91, q_93, q_97, q_99, q_122, q_144, q_255, q_256, q_300, q_380, q_400, q_620, q_999, q_1000, q_4095, q_4096, q_9999, q_65536, q_99999, q_31, nI_add, pk_mul, nE, nL, nT, nM31, nShl, ib_nI, nI_clamp, bI_n0, bI_n1, bI_nar, uI_r, uI_l, uL_r, uL_i, uL_p, uA_r, uA_l, bV_some, bU_some, nar_n0, nar_n1, and_self, and_true, true_and, and_false, false_and, if_true, if_false, eq_self, Bool.false_eq_true, Bool.true_eq_false, not_true_eq_false, not_false_eq_true, ↓reduceIte, nlT, nlF, ntT, ntF, neT, neF, ieT, ieF, decide_true, decide_false, Bool.not_true, Bool.not_false, Bool.and_true, Bool.true_and, Bool.and_false, Bool.false_and, Bool.or_true, Bool.true_or, Bool.or_false, Bool.false_or, h26, b1]
    | some k =>
      obtain ⟨_, k1, k2⟩ := wInF_e e3
      have k3 : k < 11 := by
        have : wV.length = 11 := rfl
        omega
      obtain ⟨w1, w2, w3, w4, w5⟩ := wV_s k k3
      have k2' : wEq T b (wV.getD k []) = true := k2
      have hlen := (wEq_e k2').1
      obtain ⟨S2, b1, b2, b3⟩ := a3'.ct hf (show c < 100000 by omega) b
      have b3' : MP T sl S2 (if c = 60 then ff f (flt 3 b) else f) (b, c + 1, l) := b3
      have hf1 : (if c = 60 then ff f (flt 3 b) else f) < 100000 := by
        split
        · exact ff_lt hf (by decide) (by omega)
        · exact hf
      show ∃ S', run 177 0 63 [vR 50 0, vI (nI b), vI (nI k)] [] S1 = some (none, S') ∧ MF sl S S' ∧ MP T sl S' (if c = 60 then ff f (flt 3 b) else f) (mEnt (if c = 60 then ff f (flt 3 b) else f) (sc T ltP b, c + 1, l) 1 k)
      generalize (if c = 60 then ff f (flt 3 b) else f) = f1 at b3' hf1
      have hp2 : S2.1 50 0 18 = nI b := b3'.2.1
      have ew2 := m_wordOf S2 k3
      have el : call 276 0 [vR 100 (10 + k)] S2 = some (some (vI (nI (wV.getD k []).length)), S2) := by
        have := x_len S2 (q := 10 + k) (by rw [w1, List.length_map]; omega)
        rw [w1, List.length_map] at this
        exact this
      have b4 : MP T sl (uI S2 50 0 18 (nI (sc T ltP b))) f1 (sc T ltP b, c + 1, l) := b3'.mp _
      obtain ⟨S4, d1, d2, d3⟩ := b4.en hf1 hs hl' 1 k
      refine ⟨S4, ?_, ((a2.tr b2).tr (MF.rf.u (Or.inl ⟨rfl, by omega⟩))).tr d2, d3⟩
      rw [hlen] at d1
      simp (disch := omega) only [s177_0, s177_1, s177_4, s177_5, s177_8, s177_9, s177_10, s177_13, s177_16, s177_17, s177_20, s177_23, s177_24, s177_25, s177_26, s177_29, s177_30, s177_31, s177_32, s177_35, s177_36, s177_37, s177_39, s177_40, s177_43, s177_46, s177_47, s177_48, s177_51, s177_54, s177_57, s177_60, s177_63, s177_64, s177_65, s177_68, s177_71, s177_72, s177_73, s177_74, s177_77, s177_78, s177_79, s177_80, s177_83, s177_84, s177_85, s177_88, s177_89, s177_92, s177_95, s177_96, s177_99, s177_100, s177_101, s177_102, s177_105, q_0, q_1, q_2, q_3, q_4, q_5, q_6, q_7, q_8, q_9, q_10, q_11, q_12, q_13, q_14, q_16, q_20, q_23, q_24, q_32, q_42, q_43, q_45, q_47, q_48, q_50, q_57, q_59, q_60, q_61, q_62, q_63, q_64, q_66, q_91, q_93, q_97, q_99, q_122, q_144, q_255, q_256, q_300, q_380, q_400, q_620, q_999, q_1000, q_4095, q_4096, q_9999, q_65536, q_99999, q_31, nI_add, pk_mul, nE, nL, nT, nM31, nShl, ib_nI, nI_clamp, bI_n0, bI_n1, bI_nar, uI_r, uI_l, uL_r, uL_i, uL_p, uA_r, uA_l, bV_some, bU_some, nar_n0, nar_n1, and_self, and_true, true_and, and_false, false_and, if_true, if_false, eq_self, Bool.false_eq_true, Bool.true_eq_false, not_true_eq_false, not_false_eq_true, ↓reduceIte, nlT, nlF, ntT, ntF, neT, neF, ieT, ieF, decide_true, decide_false, Bool.not_true, Bool.not_false, Bool.and_true, Bool.true_and, Bool.and_false, Bool.false_and, Bool.or_true, Bool.true_or, Bool.or_false, Bool.false_or, h26, b1, hp2, ew2, el, d1]
