/-! the class reads a VALUE, a SUM -/
def CF (r : Nat) (S S' : Sto) : Prop := S'.2 = S.2 ∧ ∀ t i k, ¬ ((t = 24 ∧ 2 ≤ k) ∨ (t = 17 ∧ i = r ∧ k = 1) ∨ (t = 18 ∧ i = r)) → S'.1 t i k = S.1 t i k
theorem CF.rf {r : Nat} {S : Sto} : CF r S S := ⟨rfl, fun _ _ _ _ => rfl⟩
theorem CF.tr {r : Nat} {S S' S'' : Sto} (h : CF r S S') (h' : CF r S' S'') : CF r S S'' := ⟨h'.1.trans h.1, fun t i k hq => (h'.2 t i k hq).trans (h.2 t i k hq)⟩
theorem CF.u {r : Nat} {S S' : Sto} (h : CF r S S') {t i k : Nat} {v : Int32} (hq : (t = 24 ∧ 2 ≤ k) ∨ (t = 17 ∧ i = r ∧ k = 1) ∨ (t = 18 ∧ i = r)) : CF r S (uI S' t i k v) := by
  refine ⟨h.1, fun a b c hn => ?_⟩
  rw [uI_r, if_neg (by rintro ⟨rfl, rfl, rfl⟩; exact hn hq)]
  exact h.2 a b c hn
/-- where the class stands in a law's text -/
def CP (T : Tp) (r : Nat) (S : Sto) (st : Ps) : Prop := TpC S T ∧ S.1 24 0 2 = nI st.1 ∧ S.1 24 0 4 = nI st.2.1 ∧ S.1 24 0 5 = nI 0 ∧ S.2.2 = some r ∧ S.1 17 r 1 = nI st.2.2.length ∧ ∀ e, e < st.2.2.length → S.1 18 r e = enc (st.2.2.getD e (0, 0)).1 (st.2.2.getD e (0, 0)).2
theorem CP.at' {T : Tp} {r : Nat} {S : Sto} {st : Ps} (h : CP T r S st) (p : Nat) : CP T r (uI S 24 0 2 (nI p)) (p, st.2) := by
  obtain ⟨h1, h2, h3, h4, h5, h6, h7⟩ := h
  refine ⟨h1.u (by decide) (by decide), ?_, ?_, ?_, h5, ?_, fun e he => ?_⟩
  · rw [uI_r, if_pos ⟨rfl, rfl, rfl⟩]
  · rw [uI_r, if_neg (by omega)]; exact h3
  · rw [uI_r, if_neg (by omega)]; exact h4
  · rw [uI_r, if_neg (by omega)]; exact h6
  · rw [uI_r, if_neg (by omega)]; exact h7 e he
theorem CP.bh {T : Tp} {r : Nat} {S : Sto} {st : Ps} (h : CP T r S st) (v : Int32) : CP T r (uI S 24 0 3 v) st := by
  obtain ⟨h1, h2, h3, h4, h5, h6, h7⟩ := h
  refine ⟨h1.u (by decide) (by decide), ?_, ?_, ?_, h5, ?_, fun e he => ?_⟩
  · rw [uI_r, if_neg (by omega)]; exact h2
  · rw [uI_r, if_neg (by omega)]; exact h3
  · rw [uI_r, if_neg (by omega)]; exact h4
  · rw [uI_r, if_neg (by omega)]; exact h6
  · rw [uI_r, if_neg (by omega)]; exact h7 e he
theorem CP.ct {T : Tp} {r : Nat} {S : Sto} {st : Ps} (h : CP T r S st) (c : Nat) : CP T r (uI S 24 0 4 (nI c)) (st.1, c, st.2.2) := by
  obtain ⟨h1, h2, h3, h4, h5, h6, h7⟩ := h
  refine ⟨h1.u (by decide) (by decide), ?_, ?_, ?_, h5, ?_, fun e he => ?_⟩
  · rw [uI_r, if_neg (by omega)]; exact h2
  · rw [uI_r, if_pos ⟨rfl, rfl, rfl⟩]
  · rw [uI_r, if_neg (by omega)]; exact h4
  · rw [uI_r, if_neg (by omega)]; exact h6
  · rw [uI_r, if_neg (by omega)]; exact h7 e he
theorem cd_app {l : Cd} {x : Nat × Nat} {e : Nat} (h : e < l.length) : (l ++ [x]).getD e (0, 0) = l.getD e (0, 0) := by
  rw [List.getD_eq_getElem?_getD, List.getD_eq_getElem?_getD, List.getElem?_append_left h]
theorem CP.em {T : Tp} {r : Nat} {S : Sto} {st : Ps} (h : CP T r S st) (k v : Nat) (hn : st.2.2.length < 400) : ∃ S', call 12 0 [vR 17 r, vI (enc k v)] S = some (none, S') ∧ CF r S S' ∧ CP T r S' (st.1, st.2.1, st.2.2 ++ [(k, v)]) := by
  obtain ⟨h1, h2, h3, h4, h5, h6, h7⟩ := h
  refine ⟨_, x_emit (enc k v) h6 hn, (CF.rf.u (Or.inr (Or.inl ⟨rfl, rfl, rfl⟩))).u (Or.inr (Or.inr ⟨rfl, rfl⟩)), (h1.u (by decide) (by decide)).u (by decide) (by omega), ?_, ?_, ?_, h5, ?_, fun e he => ?_⟩
  · rw [uI_r, if_neg (by omega), uI_r, if_neg (by omega)]; exact h2
  · rw [uI_r, if_neg (by omega), uI_r, if_neg (by omega)]; exact h3
  · rw [uI_r, if_neg (by omega), uI_r, if_neg (by omega)]; exact h4
  · rw [uI_r, if_neg (by omega), uI_r, if_pos ⟨rfl, rfl, rfl⟩]
    show _ = nI (st.2.2 ++ [(k, v)]).length
    rw [List.length_append]
    rfl
  · have he' : e < (st.2.2 ++ [(k, v)]).length := he
    rw [List.length_append] at he'
    have he2 : e < st.2.2.length + 1 := he'
    show _ = enc ((st.2.2 ++ [(k, v)]).getD e (0, 0)).1 ((st.2.2 ++ [(k, v)]).getD e (0, 0)).2
    rw [uI_r]
    by_cases c : e = st.2.2.length
    · rw [if_pos ⟨rfl, rfl, c⟩, c, cd_getD]
    · rw [if_neg (by omega), uI_r, if_neg (by omega), cd_app (by omega)]
      exact h7 e (by omega)
/-- a reader's answer -/
def RC (T : Tp) (r : Nat) (S : Sto) (x : Option (Option av × Sto)) (res : Sum Nat Ps) : Prop := ∃ b S', x = some (some (vI (bI b)), S') ∧ CF r S S' ∧ (match res with
  | Sum.inl f => b = false ∧ S'.1 24 0 5 = nI f ∧ TpC S' T
  | Sum.inr st' => b = true ∧ CP T r S' st')
theorem RC.pre {T : Tp} {r : Nat} {S S1 : Sto} {x : Option (Option av × Sto)} {res : Sum Nat Ps} (h : RC T r S1 x res) (hf : CF r S S1) : RC T r S x res := by
  obtain ⟨b, S', h1, h2, h3⟩ := h
  exact ⟨b, S', h1, hf.tr h2, h3⟩
theorem RC.fl {T : Tp} {r : Nat} {S S1 : Sto} {f : Nat} (hT : TpC S1 T) (hf : CF r S S1) : RC T r S (some (some (vI (nI 0)), uI S1 24 0 5 (nI f))) (Sum.inl f) :=
  ⟨false, _, rfl, hf.u (Or.inl ⟨rfl, by decide⟩), rfl, by rw [uI_r, if_pos ⟨rfl, rfl, rfl⟩], hT.u (by decide) (by decide)⟩
theorem RC.ok {T : Tp} {r : Nat} {S S1 : Sto} {st : Ps} (h : CP T r S1 st) (hf : CF r S S1) : RC T r S (some (some (vI (nI 1)), S1)) (Sum.inr st) := ⟨true, S1, rfl, hf, rfl, h⟩
theorem RC.l {T : Tp} {r : Nat} {S : Sto} {x : Option (Option av × Sto)} {f : Nat} (h : RC T r S x (Sum.inl f)) : ∃ S', x = some (some (vI (nI 0)), S') ∧ CF r S S' ∧ S'.1 24 0 5 = nI f ∧ TpC S' T := by
  obtain ⟨b, S', h1, h2, h3, h4, h5⟩ := h
  rw [h3] at h1
  exact ⟨S', h1, h2, h4, h5⟩
theorem RC.r {T : Tp} {r : Nat} {S : Sto} {x : Option (Option av × Sto)} {st : Ps} (h : RC T r S x (Sum.inr st)) : ∃ S', x = some (some (vI (nI 1)), S') ∧ CF r S S' ∧ CP T r S' st := by
  obtain ⟨b, S', h1, h2, h3, h4⟩ := h
  rw [h3] at h1
  exact ⟨S', h1, h2, h4⟩
theorem RC.f0 {T : Tp} {r : Nat} {S S' : Sto} {f : Nat} (h2 : CF r S S') (h3 : S'.1 24 0 5 = nI f) (h4 : TpC S' T) : RC T r S (some (some (vI (nI 0)), S')) (Sum.inl f) := ⟨false, S', rfl, h2, rfl, h3, h4⟩
theorem x_valT {T : Tp} {r : Nat} {S : Sto} {b c e k n : Nat} {l : Cd} (h : CP T r S (b, c, l)) (he : S.1 24 0 3 = nI e) (hc : c ≤ 60) (hl : l.length < 400) (x1 x3 : av) : RC T r S (run 62 0 53 [vR 24 0, x1, vI (enc k n), x3] [] S) (if 60 ≤ c then Sum.inl (flt 3 b) else Sum.inr (e, c + 1, l ++ [(k, n)])) := by
  have h2 : S.1 24 0 2 = nI b := h.2.1
  have h4 : S.1 24 0 4 = nI c := h.2.2.1
  have hw : S.2.2 = some r := h.2.2.2.2.1
  by_cases c1 : 60 ≤ c
  · rw [if_pos c1]
    have ef := x_fail (S := S) (s := 3) h2
    simp (disch := omega) only [s62_0, s62_1, s62_4, s62_5, s62_6, s62_8, s62_11, s62_12, s62_14, s62_17, s62_18, s62_21, s62_22, s62_23, s62_26, s62_27, s62_28, s62_31, s62_32, s62_33, s62_35, s62_38, s62_39, s62_40, s62_43, s62_44, s62_45, s62_48, s62_49, s62_50, s62_51, s62_52, s62_53, s62_54, s62_57, s62_59, s62_62, s62_63, s62_64, s62_67, s62_68, s62_69, s62_70, s62_73, s62_74, s62_75, s62_78, s62_79, s62_80, s62_83, s62_86, s62_87, s62_90, s62_91, s62_94, s62_95, q_0, q_1, q_2, q_3, q_4, q_5, q_6, q_7, q_8, q_9, q_10, q_11, q_12, q_13, q_14, q_16, q_20, q_23, q_24, q_32, q_42, q_43, q_45, q_47, q_48, q_50, q_57, q_59, q_60, q_61, q_62, q_63, q_64, q_66, q_91, q_93, q_97, q_99, q_122, q_144, q_255, q_256, q_300, q_380, q_400, q_620, q_999, q_1000, q_4095, q_4096, q_9999, q_65536, q_99999, q_31, nI_add, pk_mul, nE, nL, nT, nM31, nShl, ib_nI, nI_clamp, bI_n0, bI_n1, bI_nar, uI_r, uI_l, uL_r, uL_i, uL_p, uA_r, uA_l, bV_some, bU_some, nar_n0, nar_n1, and_self, and_true, true_and, and_false, false_and, if_true, if_false, eq_self, Bool.false_eq_true, Bool.true_eq_false, not_true_eq_false, not_false_eq_true, ↓reduceIte, nlT, nlF, ntT, ntF, neT, neF, ieT, ieF, decide_true, decide_false, Bool.not_true, Bool.not_false, Bool.and_true, Bool.true_and, Bool.and_false, Bool.false_and, Bool.or_true, Bool.true_or, Bool.or_false, Bool.false_or, h4, ef]
    exact RC.fl h.1 CF.rf
  · rw [if_neg c1]
    obtain ⟨S3, e1, e2, e3⟩ := ((h.ct (c + 1)).at' e).em k n hl
    simp (disch := omega) only [s62_53, s62_54, s62_57, s62_59, s62_68, s62_69, s62_70, s62_73, s62_74, s62_75, s62_78, s62_79, s62_80, s62_83, s62_86, q_0, q_1, q_2, q_3, q_4, q_5, q_6, q_7, q_8, q_9, q_10, q_11, q_12, q_13, q_14, q_16, q_20, q_23, q_24, q_32, q_42, q_43, q_45, q_47, q_48, q_50, q_57, q_59, q_60, q_61, q_62, q_63, q_64, q_66, q_91, q_93, q_97, q_99, q_122, q_144, q_255, q_256, q_300, q_380, q_400, q_620, q_999, q_1000, q_4095, q_4096, q_9999, q_65536, q_99999, q_31, nI_add, pk_mul, nE, nL, nT, nM31, nShl, ib_nI, nI_clamp, bI_n0, bI_n1, bI_nar, uI_r, uI_l, uL_r, uL_i, uL_p, uA_r, uA_l, bV_some, bU_some, nar_n0, nar_n1, and_self, and_true, true_and, and_false, false_and, if_true, if_false, eq_self, Bool.false_eq_true, Bool.true_eq_false, not_true_eq_false, not_false_eq_true, ↓reduceIte, nlT, nlF, ntT, ntF, neT, neF, ieT, ieF, decide_true, decide_false, Bool.not_true, Bool.not_false, Bool.and_true, Bool.true_and, Bool.and_false, Bool.false_and, Bool.or_true, Bool.true_or, Bool.or_false, Bool.false_or, h4, he]
    rw [s62_87 (w := r) (hw := ((h.ct (c + 1)).at' e).2.2.2.2.1)]
    simp (disch := omega) only [s62_90, s62_91, q_0, q_1, q_2, q_3, q_4, q_5, q_6, q_7, q_8, q_9, q_10, q_11, q_12, q_13, q_14, q_16, q_20, q_23, q_24, q_32, q_42, q_43, q_45, q_47, q_48, q_50, q_57, q_59, q_60, q_61, q_62, q_63, q_64, q_66, q_91, q_93, q_97, q_99, q_122, q_144, q_255, q_256, q_300, q_380, q_400, q_620, q_999, q_1000, q_4095, q_4096, q_9999, q_65536, q_99999, q_31, nI_add, pk_mul, nE, nL, nT, nM31, nShl, ib_nI, nI_clamp, bI_n0, bI_n1, bI_nar, uI_r, uI_l, uL_r, uL_i, uL_p, uA_r, uA_l, bV_some, bU_some, nar_n0, nar_n1, and_self, and_true, true_and, and_false, false_and, if_true, if_false, eq_self, Bool.false_eq_true, Bool.true_eq_false, not_true_eq_false, not_false_eq_true, ↓reduceIte, nlT, nlF, ntT, ntF, neT, neF, ieT, ieF, decide_true, decide_false, Bool.not_true, Bool.not_false, Bool.and_true, Bool.true_and, Bool.and_false, Bool.false_and, Bool.or_true, Bool.true_or, Bool.or_false, Bool.false_or, e1, s62_94, s62_95]
    exact RC.ok e3 (CF.tr ((CF.rf.u (Or.inl ⟨rfl, by decide⟩)).u (Or.inl ⟨rfl, by decide⟩)) e2)
theorem oK_n : oK none = -nI 1 := rfl
theorem oK_s (k : Nat) : oK (some k) = nI k := rfl
theorem m1_ge : (nI 0 ≤ -nI 1) = False := by decide
theorem m1_48 : (-nI 1 < nI 48) = True := by decide
theorem enc_0 (n : Nat) : enc 0 n = nI n := rfl
theorem enc_1 (n : Nat) : enc 1 n = -nI 1 - nI n := rfl
theorem wdk_V : WdK wV := by
  unfold WdK
  decide
theorem wdk_S : WdK wS := by
  unfold WdK
  decide
theorem x_value {T : Tp} {r : Nat} {S : Sto} {st : Ps} (hK : TpK T) (h : CP T r S st) (hg : Gd T st) : RC T r S (call 62 0 [vR 24 0] S) (pVal T st) := by
  have hK1 := hK.1
  have g1 := hg.1
  have g2 := hg.2.1
  have g3 := hg.2.2
  have e1 := x_next hK st.1 h.1 h.2.1 (by omega)
  have h6 := sc_le T blP st.1 g1
  unfold pVal pValB
  have hC : CP T r (uI S 24 0 2 (nI (sc T blP st.1))) (sc T blP st.1, st.2) := h.at' _
  have hF : CF r S (uI S 24 0 2 (nI (sc T blP st.1))) := CF.rf.u (Or.inl ⟨rfl, by decide⟩)
  show RC T r S (run 62 0 0 [vR 24 0, vU, vU, vU] [] S) _
  generalize sc T blP st.1 = b at e1 h6 hC hF
  generalize uI S 24 0 2 (nI b) = S1 at e1 hC hF
  refine RC.pre ?_ hF
  have wrd : ¬ (b < T.1 ∧ dgP (T.2 b) = true) → ∀ x1, RC T r S1 (run 62 0 32 [vR 24 0, x1, vU, vU] [] S1) (match wInF T b wV 0 with
    | none => Sum.inl (flt 0 b)
    | some k => if 60 ≤ st.2.1 then Sum.inl (flt 3 b) else Sum.inr (sc T ltP b, st.2.1 + 1, st.2.2 ++ [(1, k)])) := by
    intro _ x1
    have e2 := x_wordIn (S := S1) (q := 1) (ws := wV) hK hC.1 hC.2.1 (show b ≤ 400 by omega) (by decide) (by decide) wdk_V (by decide)
    have hC2 := hC.bh (nI (sc T ltP b))
    have hb3 : (uI S1 24 0 3 (nI (sc T ltP b))).1 24 0 3 = nI (sc T ltP b) := by rw [uI_r, if_pos ⟨rfl, rfl, rfl⟩]
    have hF2 : CF r S1 (uI S1 24 0 3 (nI (sc T ltP b))) := CF.rf.u (Or.inl ⟨rfl, by decide⟩)
    generalize uI S1 24 0 3 (nI (sc T ltP b)) = S2 at e2 hC2 hb3 hF2
    refine RC.pre ?_ hF2
    cases e3 : wInF T b wV 0 with
    | none =>
      rw [e3, oK_n] at e2
      have ef := x_fail (S := S2) (s := 0) hC2.2.1
      simp (disch := omega) only [s62_0, s62_1, s62_4, s62_5, s62_6, s62_8, s62_11, s62_12, s62_14, s62_17, s62_18, s62_21, s62_22, s62_23, s62_26, s62_27, s62_28, s62_31, s62_32, s62_33, s62_35, s62_38, s62_39, s62_40, s62_43, s62_44, s62_45, s62_48, s62_49, s62_50, s62_51, s62_52, s62_53, s62_54, s62_57, s62_59, s62_62, s62_63, s62_64, s62_67, s62_68, s62_69, s62_70, s62_73, s62_74, s62_75, s62_78, s62_79, s62_80, s62_83, s62_86, s62_87, s62_90, s62_91, s62_94, s62_95, q_0, q_1, q_2, q_3, q_4, q_5, q_6, q_7, q_8, q_9, q_10, q_11, q_12, q_13, q_14, q_16, q_20, q_23, q_24, q_32, q_42, q_43, q_45, q_47, q_48, q_50, q_57, q_59, q_60, q_61, q_62, q_63, q_64, q_66, q_91, q_93, q_97, q_99, q_122, q_144, q_255, q_256, q_300, q_380, q_400, q_620, q_999, q_1000, q_4095, q_4096, q_9999, q_65536, q_99999, q_31, nI_add, pk_mul, nE, nL, nT, nM31, nShl, ib_nI, nI_clamp, bI_n0, bI_n1, bI_nar, uI_r, uI_l, uL_r, uL_i, uL_p, uA_r, uA_l, bV_some, bU_some, nar_n0, nar_n1, and_self, and_true, true_and, and_false, false_and, if_true, if_false, eq_self, Bool.false_eq_true, Bool.true_eq_false, not_true_eq_false, not_false_eq_true, ↓reduceIte, nlT, nlF, ntT, ntF, neT, neF, ieT, ieF, decide_true, decide_false, Bool.not_true, Bool.not_false, Bool.and_true, Bool.true_and, Bool.and_false, Bool.false_and, Bool.or_true, Bool.true_or, Bool.or_false, Bool.false_or, e2, m1_ge, ef]
      exact RC.fl hC2.1 CF.rf
    | some k =>
      rw [e3, oK_s] at e2
      obtain ⟨_, k1, _⟩ := wInF_e e3
      have k3 : k < 11 := by
        have : wV.length = 11 := rfl
        omega
      have et := x_valT (k := 1) (n := k) hC2 hb3 g2 (show st.2.2.length < 400 by omega) x1 (vI (nI k))
      rw [enc_1] at et
      simp (disch := omega) only [s62_32, s62_33, s62_35, s62_38, s62_39, s62_40, s62_49, s62_50, s62_51, s62_52, q_0, q_1, q_2, q_3, q_4, q_5, q_6, q_7, q_8, q_9, q_10, q_11, q_12, q_13, q_14, q_16, q_20, q_23, q_24, q_32, q_42, q_43, q_45, q_47, q_48, q_50, q_57, q_59, q_60, q_61, q_62, q_63, q_64, q_66, q_91, q_93, q_97, q_99, q_122, q_144, q_255, q_256, q_300, q_380, q_400, q_620, q_999, q_1000, q_4095, q_4096, q_9999, q_65536, q_99999, q_31, nI_add, pk_mul, nE, nL, nT, nM31, nShl, ib_nI, nI_clamp, bI_n0, bI_n1, bI_nar, uI_r, uI_l, uL_r, uL_i, uL_p, uA_r, uA_l, bV_some, bU_some, nar_n0, nar_n1, and_self, and_true, true_and, and_false, false_and, if_true, if_false, eq_self, Bool.false_eq_true, Bool.true_eq_false, not_true_eq_false, not_false_eq_true, ↓reduceIte, nlT, nlF, ntT, ntF, neT, neF, ieT, ieF, decide_true, decide_false, Bool.not_true, Bool.not_false, Bool.and_true, Bool.true_and, Bool.and_false, Bool.false_and, Bool.or_true, Bool.true_or, Bool.or_false, Bool.false_or, e2]
      exact et
  by_cases c : b < T.1 ∧ dgP (T.2 b) = true
  · rw [if_pos c]
    have h3 : 48 ≤ T.2 b ∧ T.2 b ≤ 57 := by simpa [dgP] using c.2
    have ec : chI T b = nI (T.2 b) := by unfold chI; rw [if_pos c.1]
    rw [ec] at e1
    have e2 := x_number hK hC.1 hC.2.1 (show b ≤ 400 by omega)
    have hC2 := hC.bh (nI (sc T dgP b))
    have hb3 : (uI S1 24 0 3 (nI (sc T dgP b))).1 24 0 3 = nI (sc T dgP b) := by rw [uI_r, if_pos ⟨rfl, rfl, rfl⟩]
    have hF2 : CF r S1 (uI S1 24 0 3 (nI (sc T dgP b))) := CF.rf.u (Or.inl ⟨rfl, by decide⟩)
    generalize uI S1 24 0 3 (nI (sc T dgP b)) = S2 at e2 hC2 hb3 hF2
    refine RC.pre ?_ hF2
    unfold nuV at e2
    by_cases c2 : 5 < sc T dgP b - b
    · rw [if_pos c2]
      rw [if_pos c2] at e2
      have ef := x_fail (S := S2) (s := 1) hC2.2.1
      simp (disch := omega) only [s62_0, s62_1, s62_4, s62_5, s62_6, s62_8, s62_11, s62_12, s62_14, s62_17, s62_18, s62_21, s62_22, s62_23, s62_26, s62_27, s62_28, s62_31, s62_32, s62_33, s62_35, s62_38, s62_39, s62_40, s62_43, s62_44, s62_45, s62_48, s62_49, s62_50, s62_51, s62_52, s62_53, s62_54, s62_57, s62_59, s62_62, s62_63, s62_64, s62_67, s62_68, s62_69, s62_70, s62_73, s62_74, s62_75, s62_78, s62_79, s62_80, s62_83, s62_86, s62_87, s62_90, s62_91, s62_94, s62_95, q_0, q_1, q_2, q_3, q_4, q_5, q_6, q_7, q_8, q_9, q_10, q_11, q_12, q_13, q_14, q_16, q_20, q_23, q_24, q_32, q_42, q_43, q_45, q_47, q_48, q_50, q_57, q_59, q_60, q_61, q_62, q_63, q_64, q_66, q_91, q_93, q_97, q_99, q_122, q_144, q_255, q_256, q_300, q_380, q_400, q_620, q_999, q_1000, q_4095, q_4096, q_9999, q_65536, q_99999, q_31, nI_add, pk_mul, nE, nL, nT, nM31, nShl, ib_nI, nI_clamp, bI_n0, bI_n1, bI_nar, uI_r, uI_l, uL_r, uL_i, uL_p, uA_r, uA_l, bV_some, bU_some, nar_n0, nar_n1, and_self, and_true, true_and, and_false, false_and, if_true, if_false, eq_self, Bool.false_eq_true, Bool.true_eq_false, not_true_eq_false, not_false_eq_true, ↓reduceIte, nlT, nlF, ntT, ntF, neT, neF, ieT, ieF, decide_true, decide_false, Bool.not_true, Bool.not_false, Bool.and_true, Bool.true_and, Bool.and_false, Bool.false_and, Bool.or_true, Bool.true_or, Bool.or_false, Bool.false_or, e1, e2, m1_ge, ef]
      exact RC.fl hC2.1 CF.rf
    · rw [if_neg c2]
      rw [if_neg c2] at e2
      have q3 := nm5 (T := T) (b := b) (p := sc T dgP b) (Nat.le_refl _)
      have q4 : m5 (sc T dgP b - b) = sc T dgP b - b := by
        unfold m5
        split <;> omega
      rw [q4] at q3
      have et := x_valT (k := 0) (n := nmF T b (sc T dgP b - b)) hC2 hb3 g2 (show st.2.2.length < 400 by omega) (vI (nI (T.2 b))) vU
      rw [enc_0] at et
      simp (disch := omega) only [s62_0, s62_1, s62_4, s62_5, s62_6, s62_8, s62_11, s62_12, s62_14, s62_17, s62_18, s62_21, s62_22, s62_23, q_0, q_1, q_2, q_3, q_4, q_5, q_6, q_7, q_8, q_9, q_10, q_11, q_12, q_13, q_14, q_16, q_20, q_23, q_24, q_32, q_42, q_43, q_45, q_47, q_48, q_50, q_57, q_59, q_60, q_61, q_62, q_63, q_64, q_66, q_91, q_93, q_97, q_99, q_122, q_144, q_255, q_256, q_300, q_380, q_400, q_620, q_999, q_1000, q_4095, q_4096, q_9999, q_65536, q_99999, q_31, nI_add, pk_mul, nE, nL, nT, nM31, nShl, ib_nI, nI_clamp, bI_n0, bI_n1, bI_nar, uI_r, uI_l, uL_r, uL_i, uL_p, uA_r, uA_l, bV_some, bU_some, nar_n0, nar_n1, and_self, and_true, true_and, and_false, false_and, if_true, if_false, eq_self, Bool.false_eq_true, Bool.true_eq_false, not_true_eq_false, not_false_eq_true, ↓reduceIte, nlT, nlF, ntT, ntF, neT, neF, ieT, ieF, decide_true, decide_false, Bool.not_true, Bool.not_false, Bool.and_true, Bool.true_and, Bool.and_false, Bool.false_and, Bool.or_true, Bool.true_or, Bool.or_false, Bool.false_or, e1, e2]
      exact et
  · rw [if_neg c]
    have wr := wrd c
    by_cases c1 : b < T.1
    · have hb := hK.2 b c1
      have ec : chI T b = nI (T.2 b) := by unfold chI; rw [if_pos c1]
      rw [ec] at e1
      by_cases c2 : 48 ≤ T.2 b
      · have c3 : 57 < T.2 b := by
          rcases Nat.lt_or_ge 57 (T.2 b) with q | q
          · exact q
          · exact absurd ⟨c1, by simp [dgP, c2, q]⟩ c
        simp (disch := omega) only [s62_0, s62_1, s62_4, s62_5, s62_6, s62_8, s62_11, s62_12, s62_14, q_0, q_1, q_2, q_3, q_4, q_5, q_6, q_7, q_8, q_9, q_10, q_11, q_12, q_13, q_14, q_16, q_20, q_23, q_24, q_32, q_42, q_43, q_45, q_47, q_48, q_50, q_57, q_59, q_60, q_61, q_62, q_63, q_64, q_66, q_91, q_93, q_97, q_99, q_122, q_144, q_255, q_256, q_300, q_380, q_400, q_620, q_999, q_1000, q_4095, q_4096, q_9999, q_65536, q_99999, q_31, nI_add, pk_mul, nE, nL, nT, nM31, nShl, ib_nI, nI_clamp, bI_n0, bI_n1, bI_nar, uI_r, uI_l, uL_r, uL_i, uL_p, uA_r, uA_l, bV_some, bU_some, nar_n0, nar_n1, and_self, and_true, true_and, and_false, false_and, if_true, if_false, eq_self, Bool.false_eq_true, Bool.true_eq_false, not_true_eq_false, not_false_eq_true, ↓reduceIte, nlT, nlF, ntT, ntF, neT, neF, ieT, ieF, decide_true, decide_false, Bool.not_true, Bool.not_false, Bool.and_true, Bool.true_and, Bool.and_false, Bool.false_and, Bool.or_true, Bool.true_or, Bool.or_false, Bool.false_or, e1]
        exact wr _
      · simp (disch := omega) only [s62_0, s62_1, s62_4, s62_5, s62_6, s62_8, q_0, q_1, q_2, q_3, q_4, q_5, q_6, q_7, q_8, q_9, q_10, q_11, q_12, q_13, q_14, q_16, q_20, q_23, q_24, q_32, q_42, q_43, q_45, q_47, q_48, q_50, q_57, q_59, q_60, q_61, q_62, q_63, q_64, q_66, q_91, q_93, q_97, q_99, q_122, q_144, q_255, q_256, q_300, q_380, q_400, q_620, q_999, q_1000, q_4095, q_4096, q_9999, q_65536, q_99999, q_31, nI_add, pk_mul, nE, nL, nT, nM31, nShl, ib_nI, nI_clamp, bI_n0, bI_n1, bI_nar, uI_r, uI_l, uL_r, uL_i, uL_p, uA_r, uA_l, bV_some, bU_some, nar_n0, nar_n1, and_self, and_true, true_and, and_false, false_and, if_true, if_false, eq_self, Bool.false_eq_true, Bool.true_eq_false, not_true_eq_false, not_false_eq_true, ↓reduceIte, nlT, nlF, ntT, ntF, neT, neF, ieT, ieF, decide_true, decide_false, Bool.not_true, Bool.not_false, Bool.and_true, Bool.true_and, Bool.and_false, Bool.false_and, Bool.or_true, Bool.true_or, Bool.or_false, Bool.false_or, e1]
        exact wr _
    · have ec : chI T b = -nI 1 := by unfold chI; rw [if_neg c1]
      rw [ec] at e1
      simp (disch := omega) only [s62_0, s62_1, s62_4, s62_5, s62_6, s62_8, q_0, q_1, q_2, q_3, q_4, q_5, q_6, q_7, q_8, q_9, q_10, q_11, q_12, q_13, q_14, q_16, q_20, q_23, q_24, q_32, q_42, q_43, q_45, q_47, q_48, q_50, q_57, q_59, q_60, q_61, q_62, q_63, q_64, q_66, q_91, q_93, q_97, q_99, q_122, q_144, q_255, q_256, q_300, q_380, q_400, q_620, q_999, q_1000, q_4095, q_4096, q_9999, q_65536, q_99999, q_31, nI_add, pk_mul, nE, nL, nT, nM31, nShl, ib_nI, nI_clamp, bI_n0, bI_n1, bI_nar, uI_r, uI_l, uL_r, uL_i, uL_p, uA_r, uA_l, bV_some, bU_some, nar_n0, nar_n1, and_self, and_true, true_and, and_false, false_and, if_true, if_false, eq_self, Bool.false_eq_true, Bool.true_eq_false, not_true_eq_false, not_false_eq_true, ↓reduceIte, nlT, nlF, ntT, ntF, neT, neF, ieT, ieF, decide_true, decide_false, Bool.not_true, Bool.not_false, Bool.and_true, Bool.true_and, Bool.and_false, Bool.false_and, Bool.or_true, Bool.true_or, Bool.or_false, Bool.false_or, e1, m1_48]
      exact wr _
