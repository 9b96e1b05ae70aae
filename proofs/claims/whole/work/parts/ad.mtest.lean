/-! the reference reads a TEST -/
def MY (T : Tp) (sl : Nat) (S : Sto) (f : Nat) : Prop := ∃ st, MP T sl S f st ∧ f ≠ 0 ∧ f < 100000 ∧ st.1 ≤ 410 ∧ st.2.1 ≤ 100 ∧ st.2.2.length < 300
theorem MX.y {T : Tp} {sl m : Nat} {S : Sto} {f : Nat} (hK : TpK T) (h : MX T sl m S f) (hm : m ≤ 100) : MY T sl S f := by
  have hK1 := hK.1
  obtain ⟨st, h1, h2, h3, h4, h5, h6⟩ := h
  exact ⟨st, h1, h2, h3, by omega, by omega, h6⟩
def TX (T : Tp) (sl : Nat) (S : Sto) (x : Option (Option av × Sto)) (f : Nat) : Prop := ∃ S', x = some (none, S') ∧ MG sl S S' ∧ MY T sl S' f
theorem TX.pre {T : Tp} {sl f : Nat} {S S1 : Sto} {x : Option (Option av × Sto)} (h : TX T sl S1 x f) (hf : MG sl S S1) : TX T sl S x f := by
  obtain ⟨S', h1, h2, h3⟩ := h
  exact ⟨S', h1, hf.tr h2, h3⟩
def MS (T : Tp) (sl : Nat) (S : Sto) (st : Ps) (stk : List Nat) : Prop := MP T sl S 0 st ∧ MK S stk ∧ stk.length ≤ st.1
noncomputable abbrev hdR (w : Nat) (x y : av) (S : Sto) : Option (Option av × Sto) := run 184 0 9 [vR 50 0, vI (nI w), vI (nI 1), x, y] [] S
/-- where the TEST is whole -/
noncomputable abbrev enR (S : Sto) : Option (Option av × Sto) := run 184 0 137 [vR 50 0, vI (nI 0), vI (nI 1), vI (nI 0), vI (nI 0)] [] S
def FR (T : Tp) (sl : Nat) (S : Sto) (z : Option (Option av × Sto)) (stk : List Nat) (res : Sum Nat Ps) : Prop := match res with
  | Sum.inl f => TX T sl S z f
  | Sum.inr st' => ∃ S' x' y', z = hdR 0 x' y' S' ∧ MG sl S S' ∧ MS T sl S' st' stk
def TR (T : Tp) (sl : Nat) (S : Sto) (z : Option (Option av × Sto)) (stk : List Nat) (res : Sum Nat Ps) : Prop := match res with
  | Sum.inl f => TX T sl S z f
  | Sum.inr st' => ∃ S', z = enR S' ∧ MG sl S S' ∧ MS T sl S' st' stk
theorem TR.pre {T : Tp} {sl : Nat} {S S1 : Sto} {z : Option (Option av × Sto)} {stk : List Nat} {res : Sum Nat Ps} (h : TR T sl S1 z stk res) (hf : MG sl S S1) : TR T sl S z stk res := by
  cases res with
  | inl f => exact TX.pre h hf
  | inr st =>
    obtain ⟨S', h1, h2, h3⟩ := h
    exact ⟨S', h1, hf.tr h2, h3⟩
theorem FR.pre {T : Tp} {sl : Nat} {S S1 : Sto} {z : Option (Option av × Sto)} {stk : List Nat} {res : Sum Nat Ps} (h : FR T sl S1 z stk res) (hf : MG sl S S1) : FR T sl S z stk res := by
  cases res with
  | inl f => exact TX.pre h hf
  | inr st =>
    obtain ⟨S', x', y', h1, h2, h3⟩ := h
    exact ⟨S', x', y', h1, hf.tr h2, h3⟩
def FSm (T : Tp) (sl d : Nat) (F : Ps → Sum Nat Ps) : Prop := ∀ S st stk x y, MS T sl S st stk → Gd T st → dpO stk = d → FR T sl S (hdR 1 x y S) stk (F st)
theorem m_hdX {T : Tp} {sl f w : Nat} {S : Sto} (h : MY T sl S f) (x y : av) : hdR w x y S = some (none, S) := by
  obtain ⟨st, h1, h2, h3, _⟩ := h
  have e1 : S.1 50 0 19 = nI f := h1.2.2.2.1
  show run 184 0 9 [vR 50 0, vI (nI w), vI (nI 1), x, y] [] S = _
  rw [s184_9]
  simp (disch := omega) only [s184_10, s184_13, s184_14, s184_17, s184_202, q_0, q_1, q_2, q_3, q_4, q_5, q_6, q_7, q_8, q_9, q_10, q_11, q_12, q_13, q_14, q_16, q_20, q_23, q_24, q_32, q_42, q_43, q_45, q_47, q_48, q_50, q_57, q_59, q_60, q_61, q_62, q_63, q_64, q_66, q_91, q_93, q_97, q_99, q_122, q_144, q_255, q_256, q_300, q_380, q_400, q_620, q_999, q_1000, q_4095, q_4096, q_9999, q_65536, q_99999, q_31, nI_add, pk_mul, nE, nL, nT, nM31, nShl, ib_nI, nI_clamp, bI_n0, bI_n1, bI_nar, uI_r, uI_l, uL_r, uL_i, uL_p, uA_r, uA_l, bV_some, bU_some, nar_n0, nar_n1, and_self, and_true, true_and, and_false, false_and, if_true, if_false, eq_self, Bool.false_eq_true, Bool.true_eq_false, not_true_eq_false, not_false_eq_true, ↓reduceIte, nlT, nlF, ntT, ntF, neT, neF, ieT, ieF, decide_true, decide_false, Bool.not_true, Bool.not_false, Bool.and_true, Bool.true_and, Bool.and_false, Bool.false_and, Bool.or_true, Bool.true_or, Bool.or_false, Bool.false_or, e1]
def opL (b : Bool) (a : Nat) : Cd := if b = true then [(a, 0)] else []
def osL (b : Bool) (a : Nat) (stk : List Nat) : List Nat := if b = true then a :: stk else stk
theorem m_ansO {T : Tp} {sl a : Nat} {S : Sto} {st : Ps} {stk : List Nat} (b : Bool) (h : MP T sl S 0 st) (hk : MK S (osL b a stk)) (hs : sl < 6) (hl : (osL b a stk).length < 402) (hn : st.2.2.length < 300) (ha : a = 9 ∨ a = 10 ∨ a = 11) (ht : (tpI stk = nI a) = False) : ∃ S', call 188 0 [vR 50 0, vI (nI a)] S = some (none, S') ∧ MG sl S S' ∧ MP T sl S' 0 (st.1, st.2.1, st.2.2 ++ opL b a) ∧ MK S' stk := by
  cases b with
  | false =>
    refine ⟨S, m_ansN hk hl ht, MG.rf, ?_, hk⟩
    show MP T sl S 0 (st.1, st.2.1, st.2.2 ++ [])
    rw [List.append_nil]
    exact h
  | true =>
    have hl' : stk.length + 1 < 402 := hl
    obtain ⟨S', a1, a2, a3, a4⟩ := m_ansY h hk hs hl' hn ha
    exact ⟨S', by rw [a1]; exact m_ansN a4 (by omega) ht, a2, a3, a4⟩
def tOk (stk : List Nat) : Prop := stk = [] ∨ ∃ s, stk = 12 :: s
theorem tOk_n {stk : List Nat} (h : tOk stk) {a : Nat} (ha : a = 9 ∨ a = 10 ∨ a = 11) : (tpI stk = nI a) = False := by
  rcases h with rfl | ⟨s, rfl⟩
  · show (-nI 1 = nI a) = False
    rcases ha with rfl | rfl | rfl <;> decide
  · show (nI 12 = nI a) = False
    rcases ha with rfl | rfl | rfl <;> decide
theorem os_n {stk : List Nat} (h : tOk stk) {a : Nat} (w : Bool) (ha : a = 9 ∨ a = 10) : (tpI (osL w 11 stk) = nI a) = False := by
  cases w with
  | false => exact tOk_n h (by omega)
  | true =>
    show (nI 11 = nI a) = False
    rcases ha with rfl | rfl <;> decide
theorem os_9 {stk : List Nat} (h : tOk stk) (v w : Bool) : (tpI (osL v 10 (osL w 11 stk)) = nI 9) = False := by
  cases v with
  | false => exact os_n h w (Or.inl rfl)
  | true =>
    show (nI 10 = nI 9) = False
    decide
theorem os_l (b : Bool) (a : Nat) (stk : List Nat) : (osL b a stk).length ≤ stk.length + 1 ∧ stk.length ≤ (osL b a stk).length := by
  cases b with
  | false => exact ⟨Nat.le_succ _, Nat.le_refl _⟩
  | true => exact ⟨Nat.le_refl _, Nat.le_succ _⟩
theorem os_d (b : Bool) {a : Nat} (ha : a = 10 ∨ a = 11) (stk : List Nat) : dpO (osL b a stk) = dpO stk := by
  cases b with
  | false => rfl
  | true =>
    show (if a = 9 ∨ a = 12 then 1 else 0) + dpO stk = dpO stk
    rw [if_neg (by omega), Nat.zero_add]
theorem m_testL {T : Tp} {sl d : Nat} {F : Ps → Sum Nat Ps} {p0 : Ps} {stk : List Nat} (hK : TpK T) (hs : sl < 6) (hF : FOK T F) (hS : FSm T sl d F) (hp0 : Gd T p0) (ht : tOk stk) (hd : dpO stk = d) : ∀ n {S : Sto} {st : Ps} {a w : Bool} {x y : av}, 400 - st.1 < n → MP T sl S 0 st → MK S (osL a 10 (osL w 11 stk)) → (osL a 10 (osL w 11 stk)).length ≤ st.1 → tsI T p0 (w, (st.1, st.2.1, st.2.2 ++ opL a 10)) → TR T sl S (hdR 0 x y S) stk (tsL T F (w, (st.1, st.2.1, st.2.2 ++ opL a 10))) := by
  have hK1 := hK.1
  intro n
  induction n with
  | zero => intro S st a w x y hn; omega
  | succ n ih =>
    intro S st a w x y hn h hk hlen hI
    have hgw : Gd T (st.1, st.2.1, (st.2.2 ++ opL a 10) ++ wo w) := tsI_gd hI hp0
    have g1 : st.1 ≤ T.1 := hgw.1
    have g2 : st.2.1 ≤ 60 := hgw.2.1
    have g3 : 3 * ((st.2.2 ++ opL a 10) ++ wo w).length ≤ 6 * st.2.1 + st.1 := hgw.2.2
    have l1 : ((st.2.2 ++ opL a 10) ++ wo w).length = (st.2.2 ++ opL a 10).length + (wo w).length := List.length_append
    have l2 : (st.2.2 ++ opL a 10).length = st.2.2.length + (opL a 10).length := List.length_append
    have h6 := sc_le T blP st.1 g1
    have h5 := sc_ge T blP st.1
    have q1 := os_l w 11 stk
    have q2 := os_l a 10 (osL w 11 stk)
    have hf : S.1 50 0 19 = nI 0 := h.2.2.2.1
    have e9 := m_ansN hk (by omega) (os_9 ht a w)
    obtain ⟨S1, b1, b2, b3⟩ := h.bl hK (by omega)
    have hk1 := hk.mf b2
    have ta : wEq T (sc T blP st.1) wAnd = true → tsL T F (w, (st.1, st.2.1, st.2.2 ++ opL a 10)) = bnd (F (sc T blP st.1 + 3, st.2.1, st.2.2 ++ opL a 10)) (fun s => tsL T F (w, put s 10)) := fun q => tsL_a (x := (w, (st.1, st.2.1, st.2.2 ++ opL a 10))) hK hF q
    have to : wEq T (sc T blP st.1) wAnd = false → wEq T (sc T blP st.1) wOr = true → tsL T F (w, (st.1, st.2.1, st.2.2 ++ opL a 10)) = bnd (F (sc T blP st.1 + 2, st.2.1, (st.2.2 ++ opL a 10) ++ wo w)) (fun s => tsL T F (true, s)) := fun q q' => tsL_o (x := (w, (st.1, st.2.1, st.2.2 ++ opL a 10))) hK hF q q'
    have te : wEq T (sc T blP st.1) wAnd = false → wEq T (sc T blP st.1) wOr = false → tsL T F (w, (st.1, st.2.1, st.2.2 ++ opL a 10)) = Sum.inr (sc T blP st.1, st.2.1, (st.2.2 ++ opL a 10) ++ wo w) := fun q q' => tsL_e (x := (w, (st.1, st.2.1, st.2.2 ++ opL a 10))) q q'
    generalize sc T blP st.1 = b at b3 h6 h5 ta to te
    have b3' : MP T sl S1 0 (b, st.2) := b3
    have es1 := m_stands (q := 21) (w := wAnd) hK b3'.1 b3'.2.1 (show b < 10000 by omega) (by decide) (by decide) (by decide)
    have es2 := m_stands (q := 22) (w := wOr) hK b3'.1 b3'.2.1 (show b < 10000 by omega) (by decide) (by decide) (by decide)
    obtain ⟨S2, c1, c2, c3, c4⟩ := m_ansO a b3' hk1 hs (by omega) (show st.2.2.length < 300 by omega) (Or.inr (Or.inl rfl)) (os_n ht w (Or.inr rfl))
    have c3' : MP T sl S2 0 (b, st.2.1, st.2.2 ++ opL a 10) := c3
    have s1 : hdR 0 x y S = run 184 0 73 [vR 50 0, vI (nI 0), vI (nI 1), vI (bI (wEq T b wAnd)), vI (bI (wEq T b wOr))] [] S2 := by
      show run 184 0 9 [vR 50 0, vI (nI 0), vI (nI 1), x, y] [] S = _
      rw [s184_9]
      simp (disch := omega) only [s184_10, s184_13, s184_14, s184_17, s184_20, s184_21, s184_40, s184_41, s184_43, s184_46, s184_47, s184_50, s184_51, s184_54, s184_57, s184_58, s184_59, s184_62, s184_65, s184_67, s184_68, s184_70, q_0, q_1, q_2, q_3, q_4, q_5, q_6, q_7, q_8, q_9, q_10, q_11, q_12, q_13, q_14, q_16, q_20, q_23, q_24, q_32, q_42, q_43, q_45, q_47, q_48, q_50, q_57, q_59, q_60, q_61, q_62, q_63, q_64, q_66, q_91, q_93, q_97, q_99, q_122, q_144, q_255, q_256, q_300, q_380, q_400, q_620, q_999, q_1000, q_4095, q_4096, q_9999, q_65536, q_99999, q_31, nI_add, pk_mul, nE, nL, nT, nM31, nShl, ib_nI, nI_clamp, bI_n0, bI_n1, bI_nar, uI_r, uI_l, uL_r, uL_i, uL_p, uA_r, uA_l, bV_some, bU_some, nar_n0, nar_n1, and_self, and_true, true_and, and_false, false_and, if_true, if_false, eq_self, Bool.false_eq_true, Bool.true_eq_false, not_true_eq_false, not_false_eq_true, ↓reduceIte, nlT, nlF, ntT, ntF, neT, neF, ieT, ieF, decide_true, decide_false, Bool.not_true, Bool.not_false, Bool.and_true, Bool.true_and, Bool.and_false, Bool.false_and, Bool.or_true, Bool.true_or, Bool.or_false, Bool.false_or, hf, e9, b1, es1, es2, c1]
    rw [s1]
    refine TR.pre ?_ (b2.g.tr c2)
    cases ca : wEq T b wAnd with
    | true =>
      rw [ta ca]
      have hw3 : sc T ltP b = b + 3 := (wEq_e ca).1
      have hb3 : b + 3 ≤ T.1 := wEq_l ca
      have co : wEq T b wOr = false := by
        cases q : wEq T b wOr with
        | false => rfl
        | true =>
          have q3 : sc T ltP b = b + 2 := (wEq_e q).1
          omega
      rw [co]
      obtain ⟨S3, d1, d2, d3, d4⟩ := m_openA (a := 10) c3' c4 (by omega) (Or.inl rfl)
      have hp3 : S3.1 50 0 18 = nI b := d3.2.1
      have d5 : MP T sl (uI S3 50 0 18 (nI (b + 3))) 0 (b + 3, st.2.1, st.2.2 ++ opL a 10) := d3.mp (b + 3)
      have d6 : MF sl S3 (uI S3 50 0 18 (nI (b + 3))) := MF.rf.u (Or.inl ⟨rfl, by omega⟩)
      have s2 : run 184 0 73 [vR 50 0, vI (nI 0), vI (nI 1), vI (bI true), vI (bI false)] [] S2 = hdR 1 (vI (bI true)) (vI (bI false)) (uI S3 50 0 18 (nI (b + 3))) := by
        show _ = run 184 0 9 [vR 50 0, vI (nI 1), vI (nI 1), vI (bI true), vI (bI false)] [] _
        simp (disch := omega) only [s184_0, s184_1, s184_2, s184_5, s184_6, s184_7, s184_8, s184_10, s184_13, s184_14, s184_17, s184_20, s184_21, s184_24, s184_25, s184_28, s184_31, s184_32, s184_35, s184_36, s184_37, s184_40, s184_41, s184_43, s184_46, s184_47, s184_50, s184_51, s184_54, s184_57, s184_58, s184_59, s184_62, s184_65, s184_67, s184_68, s184_70, s184_73, s184_74, s184_77, s184_79, s184_82, s184_84, s184_87, s184_88, s184_90, s184_93, s184_94, s184_95, s184_98, s184_100, s184_103, s184_105, s184_108, s184_109, s184_110, s184_113, s184_114, s184_117, s184_118, s184_121, s184_122, s184_123, s184_126, s184_127, s184_128, s184_131, s184_132, s184_134, s184_137, s184_138, s184_141, s184_143, s184_146, s184_147, s184_150, s184_152, s184_155, s184_156, s184_157, s184_158, s184_161, s184_164, s184_165, s184_166, s184_169, s184_170, s184_171, s184_174, s184_175, s184_176, s184_179, s184_180, s184_181, s184_184, s184_185, s184_186, s184_189, s184_190, s184_191, s184_194, s184_197, s184_198, s184_199, s184_202, q_0, q_1, q_2, q_3, q_4, q_5, q_6, q_7, q_8, q_9, q_10, q_11, q_12, q_13, q_14, q_16, q_20, q_23, q_24, q_32, q_42, q_43, q_45, q_47, q_48, q_50, q_57, q_59, q_60, q_61, q_62, q_63, q_64, q_66, q_91, q_93, q_97, q_99, q_122, q_144, q_255, q_256, q_300, q_380, q_400, q_620, q_999, q_1000, q_4095, q_4096, q_9999, q_65536, q_99999, q_31, nI_add, pk_mul, nE, nL, nT, nM31, nShl, ib_nI, nI_clamp, bI_n0, bI_n1, bI_nar, uI_r, uI_l, uL_r, uL_i, uL_p, uA_r, uA_l, bV_some, bU_some, nar_n0, nar_n1, and_self, and_true, true_and, and_false, false_and, if_true, if_false, eq_self, Bool.false_eq_true, Bool.true_eq_false, not_true_eq_false, not_false_eq_true, ↓reduceIte, nlT, nlF, ntT, ntF, neT, neF, ieT, ieF, decide_true, decide_false, Bool.not_true, Bool.not_false, Bool.and_true, Bool.true_and, Bool.and_false, Bool.false_and, Bool.or_true, Bool.true_or, Bool.or_false, Bool.false_or, d1, hp3]
      rw [s2]
      refine TR.pre ?_ (d2.tr d6.g)
      have hg4 : Gd T (b + 3, st.2.1, st.2.2 ++ opL a 10) := ⟨hb3, g2, by show 3 * (st.2.2 ++ opL a 10).length ≤ 6 * st.2.1 + (b + 3); omega⟩
      have v := hS (uI S3 50 0 18 (nI (b + 3))) _ (10 :: osL w 11 stk) (vI (bI true)) (vI (bI false)) ⟨d5, d4.mf d6, by show (osL w 11 stk).length + 1 ≤ b + 3; omega⟩ hg4 (by rw [← hd, ← os_d w (Or.inr rfl) stk]; exact os_d true (Or.inl rfl) _)
      have vo := hF (b + 3, st.2.1, st.2.2 ++ opL a 10) hb3
      cases ev : F (b + 3, st.2.1, st.2.2 ++ opL a 10) with
      | inl f =>
        rw [ev] at v
        exact v
      | inr s =>
        rw [ev] at v vo
        obtain ⟨S5, x', y', v1, v2, v3, v4, v5⟩ := v
        have vo' : Oc T true (b + 3, st.2.1, st.2.2 ++ opL a 10) s := vo
        have p1 : b + 3 < s.1 := vo'.1
        rw [v1, bnd_r]
        refine TR.pre ?_ v2
        exact ih (st := s) (a := true) (w := w) (by omega) v3 v4 (by show (osL w 11 stk).length + 1 ≤ s.1; omega) (tsI_a hI vo' (by show st.1 < b + 3; omega) rfl)
    | false =>
      cases co : wEq T b wOr with
      | true =>
        rw [to ca co]
        have hb3 : b + 2 ≤ T.1 := wEq_l co
        obtain ⟨S3, d1, d2, d3, d4⟩ := m_ansO w c3' c4 hs (by omega) (by show (st.2.2 ++ opL a 10).length < 300; omega) (Or.inr (Or.inr rfl)) (tOk_n ht (Or.inr (Or.inr rfl)))
        have d3' : MP T sl S3 0 (b, st.2.1, (st.2.2 ++ opL a 10) ++ wo w) := d3
        obtain ⟨S4, f1, f2, f3, f4⟩ := m_openA (a := 11) d3' d4 (by omega) (Or.inr rfl)
        have hp3 : S4.1 50 0 18 = nI b := f3.2.1
        have d5 : MP T sl (uI S4 50 0 18 (nI (b + 2))) 0 (b + 2, st.2.1, (st.2.2 ++ opL a 10) ++ wo w) := f3.mp (b + 2)
        have d6 : MF sl S4 (uI S4 50 0 18 (nI (b + 2))) := MF.rf.u (Or.inl ⟨rfl, by omega⟩)
        have s2 : run 184 0 73 [vR 50 0, vI (nI 0), vI (nI 1), vI (bI false), vI (bI true)] [] S2 = hdR 1 (vI (bI false)) (vI (bI true)) (uI S4 50 0 18 (nI (b + 2))) := by
          show _ = run 184 0 9 [vR 50 0, vI (nI 1), vI (nI 1), vI (bI false), vI (bI true)] [] _
          simp (disch := omega) only [s184_0, s184_1, s184_2, s184_5, s184_6, s184_7, s184_8, s184_10, s184_13, s184_14, s184_17, s184_20, s184_21, s184_24, s184_25, s184_28, s184_31, s184_32, s184_35, s184_36, s184_37, s184_40, s184_41, s184_43, s184_46, s184_47, s184_50, s184_51, s184_54, s184_57, s184_58, s184_59, s184_62, s184_65, s184_67, s184_68, s184_70, s184_73, s184_74, s184_77, s184_79, s184_82, s184_84, s184_87, s184_88, s184_90, s184_93, s184_94, s184_95, s184_98, s184_100, s184_103, s184_105, s184_108, s184_109, s184_110, s184_113, s184_114, s184_117, s184_118, s184_121, s184_122, s184_123, s184_126, s184_127, s184_128, s184_131, s184_132, s184_134, s184_137, s184_138, s184_141, s184_143, s184_146, s184_147, s184_150, s184_152, s184_155, s184_156, s184_157, s184_158, s184_161, s184_164, s184_165, s184_166, s184_169, s184_170, s184_171, s184_174, s184_175, s184_176, s184_179, s184_180, s184_181, s184_184, s184_185, s184_186, s184_189, s184_190, s184_191, s184_194, s184_197, s184_198, s184_199, s184_202, q_0, q_1, q_2, q_3, q_4, q_5, q_6, q_7, q_8, q_9, q_10, q_11, q_12, q_13, q_14, q_16, q_20, q_23, q_24, q_32, q_42, q_43, q_45, q_47, q_48, q_50, q_57, q_59, q_60, q_61, q_62, q_63, q_64, q_66, q_91, q_93, q_97, q_99, q_122, q_144, q_255, q_256, q_300, q_380, q_400, q_620, q_999, q_1000, q_4095, q_4096, q_9999, q_65536, q_99999, q_31, nI_add, pk_mul, nE, nL, nT, nM31, nShl, ib_nI, nI_clamp, bI_n0, bI_n1, bI_nar, uI_r, uI_l, uL_r, uL_i, uL_p, uA_r, uA_l, bV_some, bU_some, nar_n0, nar_n1, and_self, and_true, true_and, and_false, false_and, if_true, if_false, eq_self, Bool.false_eq_true, Bool.true_eq_false, not_true_eq_false, not_false_eq_true, ↓reduceIte, nlT, nlF, ntT, ntF, neT, neF, ieT, ieF, decide_true, decide_false, Bool.not_true, Bool.not_false, Bool.and_true, Bool.true_and, Bool.and_false, Bool.false_and, Bool.or_true, Bool.true_or, Bool.or_false, Bool.false_or, d1, f1, hp3]
        rw [s2]
        refine TR.pre ?_ ((d2.tr f2).tr d6.g)
        have hg4 : Gd T (b + 2, st.2.1, (st.2.2 ++ opL a 10) ++ wo w) := ⟨hb3, g2, by show 3 * ((st.2.2 ++ opL a 10) ++ wo w).length ≤ 6 * st.2.1 + (b + 2); omega⟩
        have v := hS (uI S4 50 0 18 (nI (b + 2))) _ (11 :: stk) (vI (bI false)) (vI (bI true)) ⟨d5, f4.mf d6, by show stk.length + 1 ≤ b + 2; omega⟩ hg4 (by rw [← hd]; exact os_d true (Or.inr rfl) stk)
        have vo := hF (b + 2, st.2.1, (st.2.2 ++ opL a 10) ++ wo w) hb3
        cases ev : F (b + 2, st.2.1, (st.2.2 ++ opL a 10) ++ wo w) with
        | inl f =>
          rw [ev] at v
          exact v
        | inr s =>
          rw [ev] at v vo
          obtain ⟨S5, x', y', v1, v2, v3, v4, v5⟩ := v
          have vo' : Oc T true (b + 2, st.2.1, (st.2.2 ++ opL a 10) ++ wo w) s := vo
          have p1 : b + 2 < s.1 := vo'.1
          rw [v1, bnd_r]
          refine TR.pre ?_ v2
          have es : (s.1, s.2.1, s.2.2 ++ opL false 10) = s := by
            show (s.1, s.2.1, s.2.2 ++ []) = s
            rw [List.append_nil]
          have hI2 : tsI T p0 (true, (s.1, s.2.1, s.2.2 ++ opL false 10)) := by
            rw [es]
            exact Or.inr ⟨rfl, _, (b + 2, st.2.1, (st.2.2 ++ opL a 10) ++ wo w), tsI_w hI, by show st.1 < b + 2; omega, rfl, vo'⟩
          have fin := ih (S := S5) (st := s) (a := false) (w := true) (x := x') (y := y') (by omega) v3 v4 (by show stk.length + 1 ≤ s.1; omega) hI2
          rw [es] at fin
          exact fin
      | false =>
        rw [te ca co]
        obtain ⟨S3, d1, d2, d3, d4⟩ := m_ansO w c3' c4 hs (by omega) (by show (st.2.2 ++ opL a 10).length < 300; omega) (Or.inr (Or.inr rfl)) (tOk_n ht (Or.inr (Or.inr rfl)))
        have d3' : MP T sl S3 0 (b, st.2.1, (st.2.2 ++ opL a 10) ++ wo w) := d3
        refine ⟨S3, ?_, d2, d3', d4, by show stk.length ≤ b; omega⟩
        show _ = run 184 0 137 [vR 50 0, vI (nI 0), vI (nI 1), vI (nI 0), vI (nI 0)] [] S3
        simp (disch := omega) only [s184_73, s184_74, s184_77, s184_79, s184_131, s184_132, s184_134, q_0, q_1, q_2, q_3, q_4, q_5, q_6, q_7, q_8, q_9, q_10, q_11, q_12, q_13, q_14, q_16, q_20, q_23, q_24, q_32, q_42, q_43, q_45, q_47, q_48, q_50, q_57, q_59, q_60, q_61, q_62, q_63, q_64, q_66, q_91, q_93, q_97, q_99, q_122, q_144, q_255, q_256, q_300, q_380, q_400, q_620, q_999, q_1000, q_4095, q_4096, q_9999, q_65536, q_99999, q_31, nI_add, pk_mul, nE, nL, nT, nM31, nShl, ib_nI, nI_clamp, bI_n0, bI_n1, bI_nar, uI_r, uI_l, uL_r, uL_i, uL_p, uA_r, uA_l, bV_some, bU_some, nar_n0, nar_n1, and_self, and_true, true_and, and_false, false_and, if_true, if_false, eq_self, Bool.false_eq_true, Bool.true_eq_false, not_true_eq_false, not_false_eq_true, ↓reduceIte, nlT, nlF, ntT, ntF, neT, neF, ieT, ieF, decide_true, decide_false, Bool.not_true, Bool.not_false, Bool.and_true, Bool.true_and, Bool.and_false, Bool.false_and, Bool.or_true, Bool.true_or, Bool.or_false, Bool.false_or, d1]
        rfl
theorem m_test {T : Tp} {sl d : Nat} {F : Ps → Sum Nat Ps} {stk : List Nat} (hK : TpK T) (hs : sl < 6) (hF : FOK T F) (hS : FSm T sl d F) (ht : tOk stk) (hd : dpO stk = d) {S : Sto} {st : Ps} {x y : av} (h : MS T sl S st stk) (hg : Gd T st) : TR T sl S (hdR 1 x y S) stk (pTst T F st) := by
  have v := hS S st stk x y h hg hd
  have vo := hF st hg.1
  unfold pTst
  cases ev : F st with
  | inl f =>
    rw [ev] at v
    exact v
  | inr s =>
    rw [ev] at v vo
    obtain ⟨S5, x', y', v1, v2, v3, v4, v5⟩ := v
    have vo' : Oc T true st s := vo
    rw [v1, bnd_r]
    refine TR.pre ?_ v2
    have es : (s.1, s.2.1, s.2.2 ++ opL false 10) = s := by
      show (s.1, s.2.1, s.2.2 ++ []) = s
      rw [List.append_nil]
    have hI2 : tsI T st (false, (s.1, s.2.1, s.2.2 ++ opL false 10)) := by
      rw [es]
      exact Or.inl ⟨rfl, vo'⟩
    have fin := m_testL hK hs hF hS hg ht hd 401 (S := S5) (st := s) (a := false) (w := false) (x := x') (y := y') (by omega) v3 v4 v5 hI2
    rw [es] at fin
    exact fin
