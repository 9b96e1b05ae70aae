/-! the reference reads a TERM, a SUM -/
def MX (T : Tp) (sl m : Nat) (S : Sto) (f : Nat) : Prop := ∃ st, MP T sl S f st ∧ f ≠ 0 ∧ f < 100000 ∧ st.1 ≤ T.1 ∧ st.2.1 ≤ m ∧ st.2.2.length < 300
def MO (T : Tp) (sl m : Nat) (S : Sto) (x : Option (Option av × Sto)) (res : Sum Nat Ps) : Prop := ∃ S', x = some (none, S') ∧ MF sl S S' ∧ (match res with
  | Sum.inl f => MX T sl m S' f
  | Sum.inr st' => MP T sl S' 0 st')
theorem MO.pre {T : Tp} {sl m : Nat} {S S1 : Sto} {x : Option (Option av × Sto)} {res : Sum Nat Ps} (h : MO T sl m S1 x res) (hf : MF sl S S1) : MO T sl m S x res := by
  obtain ⟨S', h1, h2, h3⟩ := h
  exact ⟨S', h1, hf.tr h2, h3⟩
theorem MX.mn {T : Tp} {sl m m' : Nat} {S : Sto} {f : Nat} (h : MX T sl m S f) (hm : m ≤ m') : MX T sl m' S f := by
  obtain ⟨st, h1, h2, h3, h4, h5, h6⟩ := h
  exact ⟨st, h1, h2, h3, h4, by omega, h6⟩
theorem MO.l {T : Tp} {sl m : Nat} {S : Sto} {x : Option (Option av × Sto)} {f : Nat} (h : MO T sl m S x (Sum.inl f)) : ∃ S', x = some (none, S') ∧ MF sl S S' ∧ MX T sl m S' f := h
theorem MO.r {T : Tp} {sl m : Nat} {S : Sto} {x : Option (Option av × Sto)} {st : Ps} (h : MO T sl m S x (Sum.inr st)) : ∃ S', x = some (none, S') ∧ MF sl S S' ∧ MP T sl S' 0 st := h
theorem MX.bl {T : Tp} {sl m : Nat} {S : Sto} {f : Nat} (hK : TpK T) (h : MX T sl m S f) : ∃ S', call 170 0 [vR 50 0] S = some (none, S') ∧ MF sl S S' ∧ MX T sl m S' f := by
  have hK1 := hK.1
  obtain ⟨st, h1, h2, h3, h4, h5, h6⟩ := h
  obtain ⟨S', a1, a2, a3⟩ := h1.bl hK (by omega)
  exact ⟨S', a1, a2, _, a3, h2, h3, sc_le T blP st.1 h4, h5, h6⟩
theorem MX.en {T : Tp} {sl m : Nat} {S : Sto} {f : Nat} (h : MX T sl m S f) (k n : Int32) : call 181 0 [vR 50 0, vI k, vI n] S = some (none, S) := by
  obtain ⟨st, h1, h2, h3, _⟩ := h
  exact m_entryF h1.2.2.2.1 h2 h3
theorem MX.f {T : Tp} {sl m : Nat} {S : Sto} {f : Nat} (h : MX T sl m S f) : S.1 50 0 19 = nI f ∧ f ≠ 0 ∧ f < 100000 := by
  obtain ⟨st, h1, h2, h3, _⟩ := h
  exact ⟨h1.2.2.2.1, h2, h3⟩
theorem mEnt_1 (f : Nat) (st : Ps) (k n : Nat) : (mEnt f st k n).1 = st.1 := by
  unfold mEnt
  split <;> rfl
theorem mEnt_2 (f : Nat) (st : Ps) (k n : Nat) : (mEnt f st k n).2.1 = st.2.1 := by
  unfold mEnt
  split <;> rfl
theorem mEnt_n {f : Nat} (h : f ≠ 0) (st : Ps) (k n : Nat) : mEnt f st k n = st := by
  unfold mEnt
  rw [if_neg h]
theorem mVal_b {T : Tp} {f b c : Nat} {l : Cd} (hb : b ≤ T.1) : (mVal T f b c l).2.1 ≤ T.1 ∧ (mVal T f b c l).2.2.1 ≤ c + 1 ∧ ((mVal T f b c l).1 ≠ 0 → (mVal T f b c l).2.2.2 = l) := by
  unfold mVal
  by_cases d : b < T.1 ∧ dgP (T.2 b) = true
  · rw [if_pos d]
    generalize (if c = 60 then ff (if 5 < sc T dgP b - b then ff f (flt 1 b) else f) (flt 3 b) else (if 5 < sc T dgP b - b then ff f (flt 1 b) else f)) = f2
    refine ⟨?_, ?_, fun q => ?_⟩
    · show (mEnt f2 (sc T dgP b, c + 1, l) 0 (nmF T b (m5 (sc T dgP b - b)))).1 ≤ T.1
      rw [mEnt_1]
      exact sc_le T dgP b hb
    · show (mEnt f2 (sc T dgP b, c + 1, l) 0 (nmF T b (m5 (sc T dgP b - b)))).2.1 ≤ c + 1
      rw [mEnt_2]
      exact Nat.le_refl _
    · show (mEnt f2 (sc T dgP b, c + 1, l) 0 (nmF T b (m5 (sc T dgP b - b)))).2.2 = l
      rw [mEnt_n q]
  · rw [if_neg d]
    cases e3 : wInF T b wV 0 with
    | none => exact ⟨hb, Nat.le_succ _, fun _ => rfl⟩
    | some k =>
      generalize (if c = 60 then ff f (flt 3 b) else f) = f2
      refine ⟨?_, ?_, fun q => ?_⟩
      · show (mEnt f2 (sc T ltP b, c + 1, l) 1 k).1 ≤ T.1
        rw [mEnt_1]
        exact sc_le T ltP b hb
      · show (mEnt f2 (sc T ltP b, c + 1, l) 1 k).2.1 ≤ c + 1
        rw [mEnt_2]
        exact Nat.le_refl _
      · show (mEnt f2 (sc T ltP b, c + 1, l) 1 k).2.2 = l
        rw [mEnt_n q]
theorem mVal_X {T : Tp} {f b c : Nat} {l : Cd} (hf : f ≠ 0) : (mVal T f b c l).1 = f := by
  unfold mVal
  by_cases d : b < T.1 ∧ dgP (T.2 b) = true
  · rw [if_pos d, ff_n hf]
    show (if c = 60 then ff (if 5 < sc T dgP b - b then f else f) (flt 3 b) else (if 5 < sc T dgP b - b then f else f)) = f
    have e : (if 5 < sc T dgP b - b then f else f) = f := by split <;> rfl
    rw [e, ff_n hf]
    split <;> rfl
  · rw [if_neg d]
    cases e3 : wInF T b wV 0 with
    | none => exact ff_n hf _
    | some k =>
      show (if c = 60 then ff f (flt 3 b) else f) = f
      rw [ff_n hf]
      split <;> rfl
theorem mVal_0 {T : Tp} {b c : Nat} {l : Cd} (hc : c ≤ 60) : (match pValB T b c l with
    | Sum.inl g => (mVal T 0 b c l).1 = g
    | Sum.inr st => mVal T 0 b c l = (0, st)) := by
  unfold mVal pValB
  by_cases d : b < T.1 ∧ dgP (T.2 b) = true
  · rw [if_pos d, if_pos d]
    by_cases c5 : 5 < sc T dgP b - b
    · rw [if_pos c5, if_pos c5]
      show (if c = 60 then ff (flt 1 b) (flt 3 b) else flt 1 b) = flt 1 b
      have e : ff (flt 1 b) (flt 3 b) = flt 1 b := ff_n (by unfold flt; omega) _
      rw [e]
      split <;> rfl
    · rw [if_neg c5, if_neg c5]
      by_cases c6 : 60 ≤ c
      · rw [if_pos c6, if_pos (show c = 60 by omega)]
        rfl
      · rw [if_neg c6, if_neg (show ¬ c = 60 by omega)]
        have e5 : m5 (sc T dgP b - b) = sc T dgP b - b := by
          unfold m5
          split <;> omega
        rw [e5]
        rfl
  · rw [if_neg d, if_neg d]
    cases e3 : wInF T b wV 0 with
    | none => rfl
    | some k =>
      show (match (if 60 ≤ c then Sum.inl (flt 3 b) else Sum.inr (sc T ltP b, c + 1, l ++ [(1, k)])) with
        | Sum.inl g => (if c = 60 then ff 0 (flt 3 b) else 0) = g
        | Sum.inr st => ((if c = 60 then ff 0 (flt 3 b) else 0), mEnt (if c = 60 then ff 0 (flt 3 b) else 0) (sc T ltP b, c + 1, l) 1 k) = (0, st))
      by_cases c6 : 60 ≤ c
      · rw [if_pos c6, if_pos (show c = 60 by omega)]
        rfl
      · rw [if_neg c6, if_neg (show ¬ c = 60 by omega)]
        rfl
theorem m_val0 {T : Tp} {sl : Nat} {S : Sto} {st : Ps} (hK : TpK T) (hs : sl < 6) (h : MP T sl S 0 st) (hg : Gd T st) : MO T sl 61 S (call 177 0 [vR 50 0] S) (pVal T st) := by
  have hK1 := hK.1
  have g1 := hg.1
  have g2 := hg.2.1
  have g3 := hg.2.2
  obtain ⟨S', a1, a2, a3⟩ := m_value hK h g1 (by decide) (by omega) (by omega) hs
  have hb := mVal_b (T := T) (f := 0) (b := sc T blP st.1) (c := st.2.1) (l := st.2.2) (sc_le T blP st.1 g1)
  have h0 := mVal_0 (T := T) (b := sc T blP st.1) (c := st.2.1) (l := st.2.2) g2
  have ho := pVal_oc (T := T) g1
  refine ⟨S', a1, a2, ?_⟩
  unfold pVal at ho ⊢
  cases e : pValB T (sc T blP st.1) st.2.1 st.2.2 with
  | inl g =>
    rw [e] at h0 ho
    have h0' : (mVal T 0 (sc T blP st.1) st.2.1 st.2.2).1 = g := h0
    have hB : Bf T g := ho
    have hB1 := hB.1
    have hB2 := hB.2
    rw [h0'] at a3 hb
    exact ⟨_, a3, by omega, by omega, hb.1, by omega, by rw [hb.2.2 (by omega)]; omega⟩
  | inr s =>
    rw [e] at h0
    have h0' : mVal T 0 (sc T blP st.1) st.2.1 st.2.2 = (0, s) := h0
    rw [h0'] at a3
    exact a3
theorem m_valX {T : Tp} {sl m f : Nat} {S : Sto} (hK : TpK T) (hs : sl < 6) (hm : m ≤ 900) (h : MX T sl m S f) : MO T sl (m + 1) S (call 177 0 [vR 50 0] S) (Sum.inl f) := by
  obtain ⟨st, h1, h2, h3, h4, h5, h6⟩ := h
  obtain ⟨S', a1, a2, a3⟩ := m_value hK h1 h4 h3 (by omega) h6 hs
  have hb := mVal_b (T := T) (f := f) (b := sc T blP st.1) (c := st.2.1) (l := st.2.2) (sc_le T blP st.1 h4)
  have hx := mVal_X (T := T) (b := sc T blP st.1) (c := st.2.1) (l := st.2.2) h2
  rw [hx] at a3 hb
  exact ⟨S', a1, a2, _, a3, h2, h3, hb.1, by omega, by rw [hb.2.2 h2]; exact h6⟩
theorem Gd.md {T : Tp} {st s : Ps} {b k : Nat} (hg : Gd T st) (hb : st.1 ≤ b) (h : Oc T false (b + 1, st.2) s) : Gd T (put s k) := by
  obtain ⟨a1, a2, a3, a4, x, ax, az, at'⟩ := h
  refine ⟨a2, a4, ?_⟩
  have g3 := hg.2.2
  have ax' : s.2.2 = st.2.2 ++ x := ax
  have az' : 3 * x.length + 2 + (6 * st.2.1 + (b + 1)) ≤ 6 * s.2.1 + s.1 := az
  show 3 * (s.2.2 ++ [(k, 0)]).length ≤ 6 * s.2.1 + s.1
  rw [List.length_append, ax', List.length_append]
  show 3 * (st.2.2.length + x.length + 1) ≤ _
  omega
theorem m_termE {T : Tp} {sl m f : Nat} {S : Sto} (h : MX T sl m S f) (a1 : av) : run 176 0 8 [vR 50 0, a1] [] S = some (none, S) := by
  obtain ⟨e1, e2, e3⟩ := h.f
  rw [s176_8]
  simp (disch := omega) only [s176_9, s176_12, s176_77, q_0, q_1, q_2, q_3, q_4, q_5, q_6, q_7, q_8, q_9, q_10, q_11, q_12, q_13, q_14, q_16, q_20, q_23, q_24, q_32, q_42, q_43, q_45, q_47, q_48, q_50, q_57, q_59, q_60, q_61, q_62, q_63, q_64, q_66, q_91, q_93, q_97, q_99, q_122, q_144, q_255, q_256, q_300, q_380, q_400, q_620, q_999, q_1000, q_4095, q_4096, q_9999, q_65536, q_99999, q_31, nI_add, pk_mul, nE, nL, nT, nM31, nShl, ib_nI, nI_clamp, bI_n0, bI_n1, bI_nar, uI_r, uI_l, uL_r, uL_i, uL_p, uA_r, uA_l, bV_some, bU_some, nar_n0, nar_n1, and_self, and_true, true_and, and_false, false_and, if_true, if_false, eq_self, Bool.false_eq_true, Bool.true_eq_false, not_true_eq_false, not_false_eq_true, ↓reduceIte, nlT, nlF, ntT, ntF, neT, neF, ieT, ieF, decide_true, decide_false, Bool.not_true, Bool.not_false, Bool.and_true, Bool.true_and, Bool.and_false, Bool.false_and, Bool.or_true, Bool.true_or, Bool.or_false, Bool.false_or, e1]
theorem m_termL {T : Tp} {sl : Nat} (hK : TpK T) (hs : sl < 6) : ∀ n {S : Sto} {st : Ps} (a1 : av), 400 - st.1 < n → MP T sl S 0 (sc T blP st.1, st.2) → Gd T st → MO T sl 61 S (run 176 0 8 [vR 50 0, a1] [] S) (tL T st) := by
  have hK1 := hK.1
  intro n
  induction n with
  | zero => intro S st a1 hn; omega
  | succ n ih =>
    intro S st a1 hn h hg
    have g1 := hg.1
    have h6 := sc_le T blP st.1 g1
    have h5 := sc_ge T blP st.1
    have hf : S.1 50 0 19 = nI 0 := h.2.2.2.1
    have hsg := h.sg hK (show sc T blP st.1 < 10000 by omega)
    have hsg' : call 171 0 [vR 50 0] S = some (some (vI (chI T (sc T blP st.1))), S) := hsg
    have hp : S.1 50 0 18 = nI (sc T blP st.1) := h.2.1
    have k42 := chI_eq (T := T) (p := sc T blP st.1) (k := 42) hK (by decide)
    have k47 := chI_eq (T := T) (p := sc T blP st.1) (k := 47) hK (by decide)
    by_cases cm : mdP T (sc T blP st.1)
    · rw [tL_s hK cm]
      generalize sc T blP st.1 = b at h h6 h5 hsg' hp k42 k47 cm
      have cb := cm.1
      have hC : MP T sl (uI S 50 0 18 (nI (b + 1))) 0 (b + 1, st.2) := h.mp (b + 1)
      have hF : MF sl S (uI S 50 0 18 (nI (b + 1))) := MF.rf.u (Or.inl ⟨rfl, by omega⟩)
      have s1 : run 176 0 8 [vR 50 0, a1] [] S = run 176 0 60 [vR 50 0, vI (nI (mdK T b))] [] (uI S 50 0 18 (nI (b + 1))) := by
        rw [s176_8]
        unfold mdK
        rcases cm.2 with q | q
        · have e1 : (chI T b = nI 42) = True := by rw [k42]; exact eq_true ⟨cb, q⟩
          rw [if_pos q]
          simp (disch := omega) only [s176_9, s176_12, s176_15, s176_16, s176_19, s176_21, s176_33, s176_34, s176_37, s176_39, s176_42, s176_44, s176_49, s176_50, s176_51, s176_52, s176_55, s176_56, s176_57, q_0, q_1, q_2, q_3, q_4, q_5, q_6, q_7, q_8, q_9, q_10, q_11, q_12, q_13, q_14, q_16, q_20, q_23, q_24, q_32, q_42, q_43, q_45, q_47, q_48, q_50, q_57, q_59, q_60, q_61, q_62, q_63, q_64, q_66, q_91, q_93, q_97, q_99, q_122, q_144, q_255, q_256, q_300, q_380, q_400, q_620, q_999, q_1000, q_4095, q_4096, q_9999, q_65536, q_99999, q_31, nI_add, pk_mul, nE, nL, nT, nM31, nShl, ib_nI, nI_clamp, bI_n0, bI_n1, bI_nar, uI_r, uI_l, uL_r, uL_i, uL_p, uA_r, uA_l, bV_some, bU_some, nar_n0, nar_n1, and_self, and_true, true_and, and_false, false_and, if_true, if_false, eq_self, Bool.false_eq_true, Bool.true_eq_false, not_true_eq_false, not_false_eq_true, ↓reduceIte, nlT, nlF, ntT, ntF, neT, neF, ieT, ieF, decide_true, decide_false, Bool.not_true, Bool.not_false, Bool.and_true, Bool.true_and, Bool.and_false, Bool.false_and, Bool.or_true, Bool.true_or, Bool.or_false, Bool.false_or, hf, hsg', hp, e1]
        · have e1 : (chI T b = nI 42) = False := by rw [k42]; exact eq_false (fun z => by omega)
          have e2 : (chI T b = nI 47) = True := by rw [k47]; exact eq_true ⟨cb, q⟩
          rw [if_neg (show ¬ T.2 b = 42 by omega)]
          simp (disch := omega) only [s176_9, s176_12, s176_15, s176_16, s176_19, s176_21, s176_24, s176_25, s176_28, s176_30, s176_33, s176_34, s176_37, s176_39, s176_47, s176_49, s176_50, s176_51, s176_52, s176_55, s176_56, s176_57, q_0, q_1, q_2, q_3, q_4, q_5, q_6, q_7, q_8, q_9, q_10, q_11, q_12, q_13, q_14, q_16, q_20, q_23, q_24, q_32, q_42, q_43, q_45, q_47, q_48, q_50, q_57, q_59, q_60, q_61, q_62, q_63, q_64, q_66, q_91, q_93, q_97, q_99, q_122, q_144, q_255, q_256, q_300, q_380, q_400, q_620, q_999, q_1000, q_4095, q_4096, q_9999, q_65536, q_99999, q_31, nI_add, pk_mul, nE, nL, nT, nM31, nShl, ib_nI, nI_clamp, bI_n0, bI_n1, bI_nar, uI_r, uI_l, uL_r, uL_i, uL_p, uA_r, uA_l, bV_some, bU_some, nar_n0, nar_n1, and_self, and_true, true_and, and_false, false_and, if_true, if_false, eq_self, Bool.false_eq_true, Bool.true_eq_false, not_true_eq_false, not_false_eq_true, ↓reduceIte, nlT, nlF, ntT, ntF, neT, neF, ieT, ieF, decide_true, decide_false, Bool.not_true, Bool.not_false, Bool.and_true, Bool.true_and, Bool.and_false, Bool.false_and, Bool.or_true, Bool.true_or, Bool.or_false, Bool.false_or, hf, hsg', hp, e1, e2]
      rw [s1]
      refine MO.pre ?_ hF
      generalize uI S 50 0 18 (nI (b + 1)) = S1 at hC
      have hg2 : Gd T (b + 1, st.2) := hg.up (by show st.1 ≤ b + 1; omega) cb rfl
      have v := m_val0 hK hs hC hg2
      have vo := pVal_oc (T := T) (st := (b + 1, st.2)) cb
      cases ev : pVal T (b + 1, st.2) with
      | inl f =>
        rw [ev] at v
        obtain ⟨S2, v1, v2, v3⟩ := v.l
        obtain ⟨S3, w1, w2, w3⟩ := v3.bl hK
        have en := v3.en (nI (mdK T b)) (nI 0)
        have e9 := m_termE w3 (vI (nI (mdK T b)))
        refine ⟨S3, ?_, v2.tr w2, w3⟩
        simp (disch := omega) only [s176_60, s176_61, s176_64, s176_65, s176_66, s176_67, s176_70, s176_71, s176_74, q_0, q_1, q_2, q_3, q_4, q_5, q_6, q_7, q_8, q_9, q_10, q_11, q_12, q_13, q_14, q_16, q_20, q_23, q_24, q_32, q_42, q_43, q_45, q_47, q_48, q_50, q_57, q_59, q_60, q_61, q_62, q_63, q_64, q_66, q_91, q_93, q_97, q_99, q_122, q_144, q_255, q_256, q_300, q_380, q_400, q_620, q_999, q_1000, q_4095, q_4096, q_9999, q_65536, q_99999, q_31, nI_add, pk_mul, nE, nL, nT, nM31, nShl, ib_nI, nI_clamp, bI_n0, bI_n1, bI_nar, uI_r, uI_l, uL_r, uL_i, uL_p, uA_r, uA_l, bV_some, bU_some, nar_n0, nar_n1, and_self, and_true, true_and, and_false, false_and, if_true, if_false, eq_self, Bool.false_eq_true, Bool.true_eq_false, not_true_eq_false, not_false_eq_true, ↓reduceIte, nlT, nlF, ntT, ntF, neT, neF, ieT, ieF, decide_true, decide_false, Bool.not_true, Bool.not_false, Bool.and_true, Bool.true_and, Bool.and_false, Bool.false_and, Bool.or_true, Bool.true_or, Bool.or_false, Bool.false_or, v1, en, w1, e9]
      | inr s =>
        rw [ev] at v vo
        obtain ⟨S2, v1, v2, v3⟩ := v.r
        have vo' : Oc T false (b + 1, st.2) s := vo
        have p1 : b + 1 < s.1 := vo'.1
        have hg4 := vo'.gd hg2
        have z1 := hg4.1
        have z2 := hg4.2.1
        have z3 := hg4.2.2
        obtain ⟨S3, u1, u2, u3⟩ := v3.en (by decide) hs (by omega) (mdK T b) 0
        have u3' : MP T sl S3 0 (put s (mdK T b)) := u3
        obtain ⟨S4, w1, w2, w3⟩ := u3'.bl hK (by show s.1 < 10000; omega)
        simp (disch := omega) only [s176_60, s176_61, s176_64, s176_65, s176_66, s176_67, s176_70, s176_71, s176_74, q_0, q_1, q_2, q_3, q_4, q_5, q_6, q_7, q_8, q_9, q_10, q_11, q_12, q_13, q_14, q_16, q_20, q_23, q_24, q_32, q_42, q_43, q_45, q_47, q_48, q_50, q_57, q_59, q_60, q_61, q_62, q_63, q_64, q_66, q_91, q_93, q_97, q_99, q_122, q_144, q_255, q_256, q_300, q_380, q_400, q_620, q_999, q_1000, q_4095, q_4096, q_9999, q_65536, q_99999, q_31, nI_add, pk_mul, nE, nL, nT, nM31, nShl, ib_nI, nI_clamp, bI_n0, bI_n1, bI_nar, uI_r, uI_l, uL_r, uL_i, uL_p, uA_r, uA_l, bV_some, bU_some, nar_n0, nar_n1, and_self, and_true, true_and, and_false, false_and, if_true, if_false, eq_self, Bool.false_eq_true, Bool.true_eq_false, not_true_eq_false, not_false_eq_true, ↓reduceIte, nlT, nlF, ntT, ntF, neT, neF, ieT, ieF, decide_true, decide_false, Bool.not_true, Bool.not_false, Bool.and_true, Bool.true_and, Bool.and_false, Bool.false_and, Bool.or_true, Bool.true_or, Bool.or_false, Bool.false_or, v1, u1, w1]
        refine MO.pre ?_ ((v2.tr u2).tr w2)
        exact ih (st := put s (mdK T b)) _ (by show 400 - s.1 < n; omega) w3 (hg.md h5 vo')
    · rw [tL_e cm]
      have e1 : (chI T (sc T blP st.1) = nI 42) = False := by rw [k42]; exact eq_false (fun z => cm ⟨z.1, Or.inl z.2⟩)
      have e2 : (chI T (sc T blP st.1) = nI 47) = False := by rw [k47]; exact eq_false (fun z => cm ⟨z.1, Or.inr z.2⟩)
      refine ⟨S, ?_, MF.rf, h⟩
      rw [s176_8]
      simp (disch := omega) only [s176_9, s176_12, s176_15, s176_16, s176_19, s176_21, s176_24, s176_25, s176_28, s176_30, s176_77, q_0, q_1, q_2, q_3, q_4, q_5, q_6, q_7, q_8, q_9, q_10, q_11, q_12, q_13, q_14, q_16, q_20, q_23, q_24, q_32, q_42, q_43, q_45, q_47, q_48, q_50, q_57, q_59, q_60, q_61, q_62, q_63, q_64, q_66, q_91, q_93, q_97, q_99, q_122, q_144, q_255, q_256, q_300, q_380, q_400, q_620, q_999, q_1000, q_4095, q_4096, q_9999, q_65536, q_99999, q_31, nI_add, pk_mul, nE, nL, nT, nM31, nShl, ib_nI, nI_clamp, bI_n0, bI_n1, bI_nar, uI_r, uI_l, uL_r, uL_i, uL_p, uA_r, uA_l, bV_some, bU_some, nar_n0, nar_n1, and_self, and_true, true_and, and_false, false_and, if_true, if_false, eq_self, Bool.false_eq_true, Bool.true_eq_false, not_true_eq_false, not_false_eq_true, ↓reduceIte, nlT, nlF, ntT, ntF, neT, neF, ieT, ieF, decide_true, decide_false, Bool.not_true, Bool.not_false, Bool.and_true, Bool.true_and, Bool.and_false, Bool.false_and, Bool.or_true, Bool.true_or, Bool.or_false, Bool.false_or, hf, hsg', e1, e2]
theorem m_term {T : Tp} {sl : Nat} {S : Sto} {st : Ps} (hK : TpK T) (hs : sl < 6) (h : MP T sl S 0 st) (hg : Gd T st) : MO T sl 61 S (call 176 0 [vR 50 0] S) (pTerm T st) := by
  have hK1 := hK.1
  have v := m_val0 hK hs h hg
  have vo := pVal_oc (T := T) hg.1
  show MO T sl 61 S (run 176 0 0 [vR 50 0, vU] [] S) _
  unfold pTerm
  cases ev : pVal T st with
  | inl f =>
    rw [ev] at v
    obtain ⟨S2, v1, v2, v3⟩ := v.l
    obtain ⟨S3, w1, w2, w3⟩ := v3.bl hK
    have e9 := m_termE w3 vU
    refine ⟨S3, ?_, v2.tr w2, w3⟩
    simp (disch := omega) only [s176_0, s176_1, s176_4, s176_5, q_0, q_1, q_2, q_3, q_4, q_5, q_6, q_7, q_8, q_9, q_10, q_11, q_12, q_13, q_14, q_16, q_20, q_23, q_24, q_32, q_42, q_43, q_45, q_47, q_48, q_50, q_57, q_59, q_60, q_61, q_62, q_63, q_64, q_66, q_91, q_93, q_97, q_99, q_122, q_144, q_255, q_256, q_300, q_380, q_400, q_620, q_999, q_1000, q_4095, q_4096, q_9999, q_65536, q_99999, q_31, nI_add, pk_mul, nE, nL, nT, nM31, nShl, ib_nI, nI_clamp, bI_n0, bI_n1, bI_nar, uI_r, uI_l, uL_r, uL_i, uL_p, uA_r, uA_l, bV_some, bU_some, nar_n0, nar_n1, and_self, and_true, true_and, and_false, false_and, if_true, if_false, eq_self, Bool.false_eq_true, Bool.true_eq_false, not_true_eq_false, not_false_eq_true, ↓reduceIte, nlT, nlF, ntT, ntF, neT, neF, ieT, ieF, decide_true, decide_false, Bool.not_true, Bool.not_false, Bool.and_true, Bool.true_and, Bool.and_false, Bool.false_and, Bool.or_true, Bool.true_or, Bool.or_false, Bool.false_or, v1, w1, e9]
  | inr s =>
    rw [ev] at v vo
    obtain ⟨S2, v1, v2, v3⟩ := v.r
    have hg4 := (show Oc T false st s from vo).gd hg
    have z1 := hg4.1
    obtain ⟨S4, w1, w2, w3⟩ := v3.bl hK (by omega)
    simp (disch := omega) only [s176_0, s176_1, s176_4, s176_5, q_0, q_1, q_2, q_3, q_4, q_5, q_6, q_7, q_8, q_9, q_10, q_11, q_12, q_13, q_14, q_16, q_20, q_23, q_24, q_32, q_42, q_43, q_45, q_47, q_48, q_50, q_57, q_59, q_60, q_61, q_62, q_63, q_64, q_66, q_91, q_93, q_97, q_99, q_122, q_144, q_255, q_256, q_300, q_380, q_400, q_620, q_999, q_1000, q_4095, q_4096, q_9999, q_65536, q_99999, q_31, nI_add, pk_mul, nE, nL, nT, nM31, nShl, ib_nI, nI_clamp, bI_n0, bI_n1, bI_nar, uI_r, uI_l, uL_r, uL_i, uL_p, uA_r, uA_l, bV_some, bU_some, nar_n0, nar_n1, and_self, and_true, true_and, and_false, false_and, if_true, if_false, eq_self, Bool.false_eq_true, Bool.true_eq_false, not_true_eq_false, not_false_eq_true, ↓reduceIte, nlT, nlF, ntT, ntF, neT, neF, ieT, ieF, decide_true, decide_false, Bool.not_true, Bool.not_false, Bool.and_true, Bool.true_and, Bool.and_false, Bool.false_and, Bool.or_true, Bool.true_or, Bool.or_false, Bool.false_or, v1, w1]
    exact MO.pre (m_termL hK hs 401 vU (by omega) w3 hg4) (v2.tr w2)
theorem m_termX {T : Tp} {sl m f : Nat} {S : Sto} (hK : TpK T) (hs : sl < 6) (hm : m ≤ 900) (h : MX T sl m S f) : MO T sl (m + 1) S (call 176 0 [vR 50 0] S) (Sum.inl f) := by
  obtain ⟨S2, v1, v2, v3⟩ := (m_valX hK hs hm h).l
  obtain ⟨S3, w1, w2, w3⟩ := v3.bl hK
  have e9 := m_termE w3 vU
  refine ⟨S3, ?_, v2.tr w2, w3⟩
  show run 176 0 0 [vR 50 0, vU] [] S = _
  simp (disch := omega) only [s176_0, s176_1, s176_4, s176_5, q_0, q_1, q_2, q_3, q_4, q_5, q_6, q_7, q_8, q_9, q_10, q_11, q_12, q_13, q_14, q_16, q_20, q_23, q_24, q_32, q_42, q_43, q_45, q_47, q_48, q_50, q_57, q_59, q_60, q_61, q_62, q_63, q_64, q_66, q_91, q_93, q_97, q_99, q_122, q_144, q_255, q_256, q_300, q_380, q_400, q_620, q_999, q_1000, q_4095, q_4096, q_9999, q_65536, q_99999, q_31, nI_add, pk_mul, nE, nL, nT, nM31, nShl, ib_nI, nI_clamp, bI_n0, bI_n1, bI_nar, uI_r, uI_l, uL_r, uL_i, uL_p, uA_r, uA_l, bV_some, bU_some, nar_n0, nar_n1, and_self, and_true, true_and, and_false, false_and, if_true, if_false, eq_self, Bool.false_eq_true, Bool.true_eq_false, not_true_eq_false, not_false_eq_true, ↓reduceIte, nlT, nlF, ntT, ntF, neT, neF, ieT, ieF, decide_true, decide_false, Bool.not_true, Bool.not_false, Bool.and_true, Bool.true_and, Bool.and_false, Bool.false_and, Bool.or_true, Bool.true_or, Bool.or_false, Bool.false_or, v1, w1, e9]
theorem m_sumE {T : Tp} {sl m f : Nat} {S : Sto} (h : MX T sl m S f) (a1 : av) : run 175 0 4 [vR 50 0, a1] [] S = some (none, S) := by
  obtain ⟨e1, e2, e3⟩ := h.f
  rw [s175_4]
  simp (disch := omega) only [s175_5, s175_8, s175_67, q_0, q_1, q_2, q_3, q_4, q_5, q_6, q_7, q_8, q_9, q_10, q_11, q_12, q_13, q_14, q_16, q_20, q_23, q_24, q_32, q_42, q_43, q_45, q_47, q_48, q_50, q_57, q_59, q_60, q_61, q_62, q_63, q_64, q_66, q_91, q_93, q_97, q_99, q_122, q_144, q_255, q_256, q_300, q_380, q_400, q_620, q_999, q_1000, q_4095, q_4096, q_9999, q_65536, q_99999, q_31, nI_add, pk_mul, nE, nL, nT, nM31, nShl, ib_nI, nI_clamp, bI_n0, bI_n1, bI_nar, uI_r, uI_l, uL_r, uL_i, uL_p, uA_r, uA_l, bV_some, bU_some, nar_n0, nar_n1, and_self, and_true, true_and, and_false, false_and, if_true, if_false, eq_self, Bool.false_eq_true, Bool.true_eq_false, not_true_eq_false, not_false_eq_true, ↓reduceIte, nlT, nlF, ntT, ntF, neT, neF, ieT, ieF, decide_true, decide_false, Bool.not_true, Bool.not_false, Bool.and_true, Bool.true_and, Bool.and_false, Bool.false_and, Bool.or_true, Bool.true_or, Bool.or_false, Bool.false_or, e1]
theorem m_sumL {T : Tp} {sl : Nat} (hK : TpK T) (hs : sl < 6) : ∀ n {S : Sto} {st : Ps} (a1 : av), 400 - st.1 < n → MP T sl S 0 st → Gd T st → MO T sl 61 S (run 175 0 4 [vR 50 0, a1] [] S) (uL' T st) := by
  have hK1 := hK.1
  intro n
  induction n with
  | zero => intro S st a1 hn; omega
  | succ n ih =>
    intro S st a1 hn h hg
    have g1 := hg.1
    have hf : S.1 50 0 19 = nI 0 := h.2.2.2.1
    have hsg' := h.sg hK (show st.1 < 10000 by omega)
    have hp : S.1 50 0 18 = nI st.1 := h.2.1
    have k42 := chI_eq (T := T) (p := st.1) (k := 43) hK (by decide)
    have k47 := chI_eq (T := T) (p := st.1) (k := 45) hK (by decide)
    by_cases cm : adP T st.1
    · rw [uL_s hK cm]
      have cb := cm.1
      have hC : MP T sl (uI S 50 0 18 (nI (st.1 + 1))) 0 (st.1 + 1, st.2) := h.mp (st.1 + 1)
      have hF : MF sl S (uI S 50 0 18 (nI (st.1 + 1))) := MF.rf.u (Or.inl ⟨rfl, by omega⟩)
      have s1 : run 175 0 4 [vR 50 0, a1] [] S = run 175 0 54 [vR 50 0, vI (nI (adK T st.1))] [] (uI S 50 0 18 (nI (st.1 + 1))) := by
        rw [s175_4]
        unfold adK
        rcases cm.2 with q | q
        · have e1 : (chI T st.1 = nI 43) = True := by rw [k42]; exact eq_true ⟨cb, q⟩
          rw [if_pos q]
          simp (disch := omega) only [s175_5, s175_8, s175_11, s175_12, s175_15, s175_17, s175_29, s175_30, s175_33, s175_35, s175_38, s175_39, s175_43, s175_44, s175_45, s175_46, s175_49, s175_50, s175_51, q_0, q_1, q_2, q_3, q_4, q_5, q_6, q_7, q_8, q_9, q_10, q_11, q_12, q_13, q_14, q_16, q_20, q_23, q_24, q_32, q_42, q_43, q_45, q_47, q_48, q_50, q_57, q_59, q_60, q_61, q_62, q_63, q_64, q_66, q_91, q_93, q_97, q_99, q_122, q_144, q_255, q_256, q_300, q_380, q_400, q_620, q_999, q_1000, q_4095, q_4096, q_9999, q_65536, q_99999, q_31, nI_add, pk_mul, nE, nL, nT, nM31, nShl, ib_nI, nI_clamp, bI_n0, bI_n1, bI_nar, uI_r, uI_l, uL_r, uL_i, uL_p, uA_r, uA_l, bV_some, bU_some, nar_n0, nar_n1, and_self, and_true, true_and, and_false, false_and, if_true, if_false, eq_self, Bool.false_eq_true, Bool.true_eq_false, not_true_eq_false, not_false_eq_true, ↓reduceIte, nlT, nlF, ntT, ntF, neT, neF, ieT, ieF, decide_true, decide_false, Bool.not_true, Bool.not_false, Bool.and_true, Bool.true_and, Bool.and_false, Bool.false_and, Bool.or_true, Bool.true_or, Bool.or_false, Bool.false_or, hf, hsg', hp, e1]
        · have e1 : (chI T st.1 = nI 43) = False := by rw [k42]; exact eq_false (fun z => by omega)
          have e2 : (chI T st.1 = nI 45) = True := by rw [k47]; exact eq_true ⟨cb, q⟩
          rw [if_neg (show ¬ T.2 st.1 = 43 by omega)]
          simp (disch := omega) only [s175_5, s175_8, s175_11, s175_12, s175_15, s175_17, s175_20, s175_21, s175_24, s175_26, s175_29, s175_30, s175_33, s175_35, s175_42, s175_43, s175_44, s175_45, s175_46, s175_49, s175_50, s175_51, q_0, q_1, q_2, q_3, q_4, q_5, q_6, q_7, q_8, q_9, q_10, q_11, q_12, q_13, q_14, q_16, q_20, q_23, q_24, q_32, q_42, q_43, q_45, q_47, q_48, q_50, q_57, q_59, q_60, q_61, q_62, q_63, q_64, q_66, q_91, q_93, q_97, q_99, q_122, q_144, q_255, q_256, q_300, q_380, q_400, q_620, q_999, q_1000, q_4095, q_4096, q_9999, q_65536, q_99999, q_31, nI_add, pk_mul, nE, nL, nT, nM31, nShl, ib_nI, nI_clamp, bI_n0, bI_n1, bI_nar, uI_r, uI_l, uL_r, uL_i, uL_p, uA_r, uA_l, bV_some, bU_some, nar_n0, nar_n1, and_self, and_true, true_and, and_false, false_and, if_true, if_false, eq_self, Bool.false_eq_true, Bool.true_eq_false, not_true_eq_false, not_false_eq_true, ↓reduceIte, nlT, nlF, ntT, ntF, neT, neF, ieT, ieF, decide_true, decide_false, Bool.not_true, Bool.not_false, Bool.and_true, Bool.true_and, Bool.and_false, Bool.false_and, Bool.or_true, Bool.true_or, Bool.or_false, Bool.false_or, hf, hsg', hp, e1, e2]
      rw [s1]
      refine MO.pre ?_ hF
      generalize uI S 50 0 18 (nI (st.1 + 1)) = S1 at hC
      have hg2 : Gd T (st.1 + 1, st.2) := hg.up (by show st.1 ≤ st.1 + 1; omega) cb rfl
      have v := m_term hK hs hC hg2
      have vo := (pTerm_oc (T := T) hK (st := (st.1 + 1, st.2)) cb).1
      cases ev : pTerm T (st.1 + 1, st.2) with
      | inl f =>
        rw [ev] at v
        obtain ⟨S2, v1, v2, v3⟩ := v.l
        have en := v3.en (nI (adK T st.1)) (nI 0)
        have e9 := m_sumE v3 (vI (nI (adK T st.1)))
        refine ⟨S2, ?_, v2, v3⟩
        simp (disch := omega) only [s175_54, s175_55, s175_58, s175_59, s175_60, s175_61, s175_64, q_0, q_1, q_2, q_3, q_4, q_5, q_6, q_7, q_8, q_9, q_10, q_11, q_12, q_13, q_14, q_16, q_20, q_23, q_24, q_32, q_42, q_43, q_45, q_47, q_48, q_50, q_57, q_59, q_60, q_61, q_62, q_63, q_64, q_66, q_91, q_93, q_97, q_99, q_122, q_144, q_255, q_256, q_300, q_380, q_400, q_620, q_999, q_1000, q_4095, q_4096, q_9999, q_65536, q_99999, q_31, nI_add, pk_mul, nE, nL, nT, nM31, nShl, ib_nI, nI_clamp, bI_n0, bI_n1, bI_nar, uI_r, uI_l, uL_r, uL_i, uL_p, uA_r, uA_l, bV_some, bU_some, nar_n0, nar_n1, and_self, and_true, true_and, and_false, false_and, if_true, if_false, eq_self, Bool.false_eq_true, Bool.true_eq_false, not_true_eq_false, not_false_eq_true, ↓reduceIte, nlT, nlF, ntT, ntF, neT, neF, ieT, ieF, decide_true, decide_false, Bool.not_true, Bool.not_false, Bool.and_true, Bool.true_and, Bool.and_false, Bool.false_and, Bool.or_true, Bool.true_or, Bool.or_false, Bool.false_or, v1, en, e9]
      | inr s =>
        rw [ev] at v vo
        obtain ⟨S2, v1, v2, v3⟩ := v.r
        have vo' : Oc T false (st.1 + 1, st.2) s := vo
        have p1 : st.1 + 1 < s.1 := vo'.1
        have hg4 := vo'.gd hg2
        have z1 := hg4.1
        have z2 := hg4.2.1
        have z3 := hg4.2.2
        obtain ⟨S3, u1, u2, u3⟩ := v3.en (by decide) hs (by omega) (adK T st.1) 0
        have u3' : MP T sl S3 0 (put s (adK T st.1)) := u3
        simp (disch := omega) only [s175_54, s175_55, s175_58, s175_59, s175_60, s175_61, s175_64, q_0, q_1, q_2, q_3, q_4, q_5, q_6, q_7, q_8, q_9, q_10, q_11, q_12, q_13, q_14, q_16, q_20, q_23, q_24, q_32, q_42, q_43, q_45, q_47, q_48, q_50, q_57, q_59, q_60, q_61, q_62, q_63, q_64, q_66, q_91, q_93, q_97, q_99, q_122, q_144, q_255, q_256, q_300, q_380, q_400, q_620, q_999, q_1000, q_4095, q_4096, q_9999, q_65536, q_99999, q_31, nI_add, pk_mul, nE, nL, nT, nM31, nShl, ib_nI, nI_clamp, bI_n0, bI_n1, bI_nar, uI_r, uI_l, uL_r, uL_i, uL_p, uA_r, uA_l, bV_some, bU_some, nar_n0, nar_n1, and_self, and_true, true_and, and_false, false_and, if_true, if_false, eq_self, Bool.false_eq_true, Bool.true_eq_false, not_true_eq_false, not_false_eq_true, ↓reduceIte, nlT, nlF, ntT, ntF, neT, neF, ieT, ieF, decide_true, decide_false, Bool.not_true, Bool.not_false, Bool.and_true, Bool.true_and, Bool.and_false, Bool.false_and, Bool.or_true, Bool.true_or, Bool.or_false, Bool.false_or, v1, u1]
        refine MO.pre ?_ (v2.tr u2)
        exact ih (st := put s (adK T st.1)) _ (by show 400 - s.1 < n; omega) u3' (hg.md (Nat.le_refl _) vo')
    · rw [uL_e cm]
      have e1 : (chI T st.1 = nI 43) = False := by rw [k42]; exact eq_false (fun z => cm ⟨z.1, Or.inl z.2⟩)
      have e2 : (chI T st.1 = nI 45) = False := by rw [k47]; exact eq_false (fun z => cm ⟨z.1, Or.inr z.2⟩)
      refine ⟨S, ?_, MF.rf, h⟩
      rw [s175_4]
      simp (disch := omega) only [s175_5, s175_8, s175_11, s175_12, s175_15, s175_17, s175_20, s175_21, s175_24, s175_26, s175_67, q_0, q_1, q_2, q_3, q_4, q_5, q_6, q_7, q_8, q_9, q_10, q_11, q_12, q_13, q_14, q_16, q_20, q_23, q_24, q_32, q_42, q_43, q_45, q_47, q_48, q_50, q_57, q_59, q_60, q_61, q_62, q_63, q_64, q_66, q_91, q_93, q_97, q_99, q_122, q_144, q_255, q_256, q_300, q_380, q_400, q_620, q_999, q_1000, q_4095, q_4096, q_9999, q_65536, q_99999, q_31, nI_add, pk_mul, nE, nL, nT, nM31, nShl, ib_nI, nI_clamp, bI_n0, bI_n1, bI_nar, uI_r, uI_l, uL_r, uL_i, uL_p, uA_r, uA_l, bV_some, bU_some, nar_n0, nar_n1, and_self, and_true, true_and, and_false, false_and, if_true, if_false, eq_self, Bool.false_eq_true, Bool.true_eq_false, not_true_eq_false, not_false_eq_true, ↓reduceIte, nlT, nlF, ntT, ntF, neT, neF, ieT, ieF, decide_true, decide_false, Bool.not_true, Bool.not_false, Bool.and_true, Bool.true_and, Bool.and_false, Bool.false_and, Bool.or_true, Bool.true_or, Bool.or_false, Bool.false_or, hf, hsg', e1, e2]
theorem m_sum {T : Tp} {sl : Nat} {S : Sto} {st : Ps} (hK : TpK T) (hs : sl < 6) (h : MP T sl S 0 st) (hg : Gd T st) : MO T sl 61 S (call 175 0 [vR 50 0] S) (pSum T st) := by
  have v := m_term hK hs h hg
  have vo := (pTerm_oc (T := T) hK hg.1).1
  show MO T sl 61 S (run 175 0 0 [vR 50 0, vU] [] S) _
  unfold pSum
  cases ev : pTerm T st with
  | inl f =>
    rw [ev] at v
    obtain ⟨S2, v1, v2, v3⟩ := v.l
    have e9 := m_sumE v3 vU
    refine ⟨S2, ?_, v2, v3⟩
    simp (disch := omega) only [s175_0, s175_1, q_0, q_1, q_2, q_3, q_4, q_5, q_6, q_7, q_8, q_9, q_10, q_11, q_12, q_13, q_14, q_16, q_20, q_23, q_24, q_32, q_42, q_43, q_45, q_47, q_48, q_50, q_57, q_59, q_60, q_61, q_62, q_63, q_64, q_66, q_91, q_93, q_97, q_99, q_122, q_144, q_255, q_256, q_300, q_380, q_400, q_620, q_999, q_1000, q_4095, q_4096, q_9999, q_65536, q_99999, q_31, nI_add, pk_mul, nE, nL, nT, nM31, nShl, ib_nI, nI_clamp, bI_n0, bI_n1, bI_nar, uI_r, uI_l, uL_r, uL_i, uL_p, uA_r, uA_l, bV_some, bU_some, nar_n0, nar_n1, and_self, and_true, true_and, and_false, false_and, if_true, if_false, eq_self, Bool.false_eq_true, Bool.true_eq_false, not_true_eq_false, not_false_eq_true, ↓reduceIte, nlT, nlF, ntT, ntF, neT, neF, ieT, ieF, decide_true, decide_false, Bool.not_true, Bool.not_false, Bool.and_true, Bool.true_and, Bool.and_false, Bool.false_and, Bool.or_true, Bool.true_or, Bool.or_false, Bool.false_or, v1, e9]
  | inr s =>
    rw [ev] at v vo
    obtain ⟨S2, v1, v2, v3⟩ := v.r
    have hg4 := (show Oc T false st s from vo).gd hg
    simp (disch := omega) only [s175_0, s175_1, q_0, q_1, q_2, q_3, q_4, q_5, q_6, q_7, q_8, q_9, q_10, q_11, q_12, q_13, q_14, q_16, q_20, q_23, q_24, q_32, q_42, q_43, q_45, q_47, q_48, q_50, q_57, q_59, q_60, q_61, q_62, q_63, q_64, q_66, q_91, q_93, q_97, q_99, q_122, q_144, q_255, q_256, q_300, q_380, q_400, q_620, q_999, q_1000, q_4095, q_4096, q_9999, q_65536, q_99999, q_31, nI_add, pk_mul, nE, nL, nT, nM31, nShl, ib_nI, nI_clamp, bI_n0, bI_n1, bI_nar, uI_r, uI_l, uL_r, uL_i, uL_p, uA_r, uA_l, bV_some, bU_some, nar_n0, nar_n1, and_self, and_true, true_and, and_false, false_and, if_true, if_false, eq_self, Bool.false_eq_true, Bool.true_eq_false, not_true_eq_false, not_false_eq_true, ↓reduceIte, nlT, nlF, ntT, ntF, neT, neF, ieT, ieF, decide_true, decide_false, Bool.not_true, Bool.not_false, Bool.and_true, Bool.true_and, Bool.and_false, Bool.false_and, Bool.or_true, Bool.true_or, Bool.or_false, Bool.false_or, v1]
    exact MO.pre (m_sumL hK hs 401 vU (by omega) v3 hg4) v2
theorem m_sumX {T : Tp} {sl m f : Nat} {S : Sto} (hK : TpK T) (hs : sl < 6) (hm : m ≤ 900) (h : MX T sl m S f) : MO T sl (m + 1) S (call 175 0 [vR 50 0] S) (Sum.inl f) := by
  obtain ⟨S2, v1, v2, v3⟩ := (m_termX hK hs hm h).l
  have e9 := m_sumE v3 vU
  refine ⟨S2, ?_, v2, v3⟩
  show run 175 0 0 [vR 50 0, vU] [] S = _
  simp (disch := omega) only [s175_0, s175_1, q_0, q_1, q_2, q_3, q_4, q_5, q_6, q_7, q_8, q_9, q_10, q_11, q_12, q_13, q_14, q_16, q_20, q_23, q_24, q_32, q_42, q_43, q_45, q_47, q_48, q_50, q_57, q_59, q_60, q_61, q_62, q_63, q_64, q_66, q_91, q_93, q_97, q_99, q_122, q_144, q_255, q_256, q_300, q_380, q_400, q_620, q_999, q_1000, q_4095, q_4096, q_9999, q_65536, q_99999, q_31, nI_add, pk_mul, nE, nL, nT, nM31, nShl, ib_nI, nI_clamp, bI_n0, bI_n1, bI_nar, uI_r, uI_l, uL_r, uL_i, uL_p, uA_r, uA_l, bV_some, bU_some, nar_n0, nar_n1, and_self, and_true, true_and, and_false, false_and, if_true, if_false, eq_self, Bool.false_eq_true, Bool.true_eq_false, not_true_eq_false, not_false_eq_true, ↓reduceIte, nlT, nlF, ntT, ntF, neT, neF, ieT, ieF, decide_true, decide_false, Bool.not_true, Bool.not_false, Bool.and_true, Bool.true_and, Bool.and_false, Bool.false_and, Bool.or_true, Bool.true_or, Bool.or_false, Bool.false_or, v1, e9]
