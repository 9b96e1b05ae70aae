/-! the class reads a CLAUSE, a LAW -/
def CG (r : Nat) (S S' : Sto) : Prop := S'.2 = S.2 ∧ ∀ t i k, ¬ ((t = 24 ∧ 2 ≤ k) ∨ (17 ≤ t ∧ t ≤ 22 ∧ i = r)) → S'.1 t i k = S.1 t i k
theorem CG.rf {r : Nat} {S : Sto} : CG r S S := ⟨rfl, fun _ _ _ _ => rfl⟩
theorem CG.tr {r : Nat} {S S' S'' : Sto} (h : CG r S S') (h' : CG r S' S'') : CG r S S'' := ⟨h'.1.trans h.1, fun t i k hq => (h'.2 t i k hq).trans (h.2 t i k hq)⟩
theorem CG.u {r : Nat} {S S' : Sto} (h : CG r S S') {t i k : Nat} {v : Int32} (hq : (t = 24 ∧ 2 ≤ k) ∨ (17 ≤ t ∧ t ≤ 22 ∧ i = r)) : CG r S (uI S' t i k v) := by
  refine ⟨h.1, fun a b c hn => ?_⟩
  rw [uI_r, if_neg (by rintro ⟨rfl, rfl, rfl⟩; exact hn hq)]
  exact h.2 a b c hn
theorem CF.g {r : Nat} {S S' : Sto} (h : CF r S S') : CG r S S' := ⟨h.1, fun t i k hn => h.2 t i k (by omega)⟩
/-- CLAUSEs that the class has laid down -/
def CK (r : Nat) (S : Sto) (cs : List Cl) : Prop := S.1 17 r 0 = nI cs.length ∧ ∀ c, c < cs.length → S.1 19 r c = nI (cs.getD c (0, 0, 0, 0)).1 ∧ S.1 20 r c = nI (cs.getD c (0, 0, 0, 0)).2.1 ∧ S.1 21 r c = nI (cs.getD c (0, 0, 0, 0)).2.2.1 ∧ S.1 22 r c = nI (cs.getD c (0, 0, 0, 0)).2.2.2
theorem CK.cf {r : Nat} {S S' : Sto} {cs : List Cl} (h : CK r S cs) (hf : CF r S S') : CK r S' cs := by
  refine ⟨by rw [hf.2 17 r 0 (by omega)]; exact h.1, fun c hc => ?_⟩
  rw [hf.2 19 r c (by omega), hf.2 20 r c (by omega), hf.2 21 r c (by omega), hf.2 22 r c (by omega)]
  exact h.2 c hc
theorem cl_getD (u : List Cl) (e : Cl) : (u ++ [e]).getD u.length (0, 0, 0, 0) = e := by
  rw [List.getD_eq_getElem?_getD, List.getElem?_append_right (Nat.le_refl _), Nat.sub_self]
  rfl
theorem cl_app {l : List Cl} {x : Cl} {e : Nat} (h : e < l.length) : (l ++ [x]).getD e (0, 0, 0, 0) = l.getD e (0, 0, 0, 0) := by
  rw [List.getD_eq_getElem?_getD, List.getD_eq_getElem?_getD, List.getElem?_append_left h]
theorem x_addC {T : Tp} {r : Nat} {S : Sto} {st : Ps} {cs : List Cl} (h : CP T r S st) (hc : CK r S cs) (hn : cs.length < 12) (k a t : Nat) : ∃ S', call 13 0 [vR 17 r, vI (nI k), vI (nI a), vI (nI t)] S = some (none, S') ∧ CG r S S' ∧ CP T r S' st ∧ CK r S' (cs ++ [(k, a, t, st.2.2.length)]) := by
  obtain ⟨h1, h2, h3, h4, h5, h6, h7⟩ := h
  have c0 := hc.1
  show ∃ S', run 13 0 0 [vR 17 r, vI (nI k), vI (nI a), vI (nI t)] [] S = _ ∧ _
  simp (disch := omega) only [s13_0, s13_1, s13_4, s13_6, s13_9, s13_10, s13_13, s13_14, s13_17, s13_18, s13_19, s13_20, s13_23, s13_24, s13_27, s13_28, s13_29, s13_30, s13_33, s13_34, s13_37, s13_38, s13_39, s13_40, s13_43, s13_44, s13_47, s13_48, s13_51, s13_52, s13_53, s13_54, s13_57, s13_58, s13_59, s13_62, q_0, q_1, q_2, q_3, q_4, q_5, q_6, q_7, q_8, q_9, q_10, q_11, q_12, q_13, q_14, q_16, q_20, q_23, q_24, q_32, q_42, q_43, q_45, q_47, q_48, q_50, q_57, q_59, q_60, q_61, q_62, q_63, q_64, q_66, q_91, q_93, q_97, q_99, q_122, q_144, q_255, q_256, q_300, q_380, q_400, q_620, q_999, q_1000, q_4095, q_4096, q_9999, q_65536, q_99999, q_31, nI_add, pk_mul, nE, nL, nT, nM31, nShl, ib_nI, nI_clamp, bI_n0, bI_n1, bI_nar, uI_r, uI_l, uL_r, uL_i, uL_p, uA_r, uA_l, bV_some, bU_some, nar_n0, nar_n1, and_self, and_true, true_and, and_false, false_and, if_true, if_false, eq_self, Bool.false_eq_true, Bool.true_eq_false, not_true_eq_false, not_false_eq_true, ↓reduceIte, nlT, nlF, ntT, ntF, neT, neF, ieT, ieF, decide_true, decide_false, Bool.not_true, Bool.not_false, Bool.and_true, Bool.true_and, Bool.and_false, Bool.false_and, Bool.or_true, Bool.true_or, Bool.or_false, Bool.false_or, c0, h6]
  refine ⟨_, rfl, ?_, ⟨?_, ?_, ?_, ?_, h5, ?_, fun e he => ?_⟩, ?_, fun c hcc => ?_⟩
  · exact ((((CG.rf.u (Or.inr (by omega))).u (Or.inr (by omega))).u (Or.inr (by omega))).u (Or.inr (by omega))).u (Or.inr (by omega))
  · exact ((((h1.u (by decide) (by omega)).u (by decide) (by omega)).u (by decide) (by omega)).u (by decide) (by omega)).u (by decide) (by omega)
  · simp (disch := omega) only [uI_r, if_neg]; exact h2
  · simp (disch := omega) only [uI_r, if_neg]; exact h3
  · simp (disch := omega) only [uI_r, if_neg]; exact h4
  · simp (disch := omega) only [uI_r, if_neg]; exact h6
  · simp (disch := omega) only [uI_r, if_neg]; exact h7 e he
  · rw [uI_r, if_pos ⟨rfl, rfl, rfl⟩, List.length_append]
    rfl
  · rw [List.length_append] at hcc
    have hcc' : c < cs.length + 1 := hcc
    by_cases e : c = cs.length
    · rw [e, cl_getD]
      simp (disch := omega) only [uI_r, if_neg, if_pos, and_self]
      exact ⟨rfl, rfl, rfl, rfl⟩
    · rw [cl_app (by omega)]
      simp (disch := omega) only [uI_r, if_neg]
      exact hc.2 c (by omega)
def RL (T : Tp) (r : Nat) (S : Sto) (x : Option (Option av × Sto)) (res : Sum Nat (List Cl × Ps)) : Prop := ∃ b S', x = some (some (vI (bI b)), S') ∧ CG r S S' ∧ (match res with
  | Sum.inl f => b = false ∧ S'.1 24 0 5 = nI f ∧ TpC S' T
  | Sum.inr y => b = true ∧ CP T r S' y.2 ∧ CK r S' y.1)
theorem RL.f0 {T : Tp} {r : Nat} {S S' : Sto} {f : Nat} (h2 : CG r S S') (h3 : S'.1 24 0 5 = nI f) (h4 : TpC S' T) : RL T r S (some (some (vI (nI 0)), S')) (Sum.inl f) := ⟨false, S', rfl, h2, rfl, h3, h4⟩
theorem RL.fl {T : Tp} {r : Nat} {S S1 : Sto} {f : Nat} (hT : TpC S1 T) (hf : CG r S S1) : RL T r S (some (some (vI (nI 0)), uI S1 24 0 5 (nI f))) (Sum.inl f) :=
  ⟨false, _, rfl, hf.u (Or.inl ⟨rfl, by decide⟩), rfl, by rw [uI_r, if_pos ⟨rfl, rfl, rfl⟩], hT.u (by decide) (by decide)⟩
theorem RL.pre {T : Tp} {r : Nat} {S S1 : Sto} {x : Option (Option av × Sto)} {res : Sum Nat (List Cl × Ps)} (h : RL T r S1 x res) (hf : CG r S S1) : RL T r S x res := by
  obtain ⟨b, S', h1, h2, h3⟩ := h
  exact ⟨b, S', h1, hf.tr h2, h3⟩
theorem RL.l {T : Tp} {r : Nat} {S : Sto} {x : Option (Option av × Sto)} {f : Nat} (h : RL T r S x (Sum.inl f)) : ∃ S', x = some (some (vI (nI 0)), S') ∧ CG r S S' ∧ S'.1 24 0 5 = nI f ∧ TpC S' T := by
  obtain ⟨b, S', h1, h2, h3, h4, h5⟩ := h
  rw [h3] at h1
  exact ⟨S', h1, h2, h4, h5⟩
theorem RL.r {T : Tp} {r : Nat} {S : Sto} {x : Option (Option av × Sto)} {y : List Cl × Ps} (h : RL T r S x (Sum.inr y)) : ∃ S', x = some (some (vI (nI 1)), S') ∧ CG r S S' ∧ CP T r S' y.2 ∧ CK r S' y.1 := by
  obtain ⟨b, S', h1, h2, h3, h4, h5⟩ := h
  rw [h3] at h1
  exact ⟨S', h1, h2, h4, h5⟩
theorem x_size {T : Tp} {r : Nat} {S : Sto} {st : Ps} (h : CP T r S st) : call 11 0 [vR 17 r] S = some (some (vI (nI st.2.2.length)), S) := by
  show run 11 0 0 [vR 17 r] [] S = _
  simp (disch := omega) only [s11_0, s11_1, s11_4, q_0, q_1, q_2, q_3, q_4, q_5, q_6, q_7, q_8, q_9, q_10, q_11, q_12, q_13, q_14, q_16, q_20, q_23, q_24, q_32, q_42, q_43, q_45, q_47, q_48, q_50, q_57, q_59, q_60, q_61, q_62, q_63, q_64, q_66, q_91, q_93, q_97, q_99, q_122, q_144, q_255, q_256, q_300, q_380, q_400, q_620, q_999, q_1000, q_4095, q_4096, q_9999, q_65536, q_99999, q_31, nI_add, pk_mul, nE, nL, nT, nM31, nShl, ib_nI, nI_clamp, bI_n0, bI_n1, bI_nar, uI_r, uI_l, uL_r, uL_i, uL_p, uA_r, uA_l, bV_some, bU_some, nar_n0, nar_n1, and_self, and_true, true_and, and_false, false_and, if_true, if_false, eq_self, Bool.false_eq_true, Bool.true_eq_false, not_true_eq_false, not_false_eq_true, ↓reduceIte, nlT, nlF, ntT, ntF, neT, neF, ieT, ieF, decide_true, decide_false, Bool.not_true, Bool.not_false, Bool.and_true, Bool.true_and, Bool.and_false, Bool.false_and, Bool.or_true, Bool.true_or, Bool.or_false, Bool.false_or, h.2.2.2.2.2.1]
theorem x_clE {T : Tp} {r : Nat} {S : Sto} {s : Ps} {cs : List Cl} (h : CP T r S s) (hc : CK r S cs) (hn : cs.length < 12) (k a t : Nat) (a1 : av) : RL T r S (run 57 0 100 [vR 24 0, a1, vI (nI k), vI (nI a), vI (nI t)] [] S) (Sum.inr (cs ++ [(k, a, t, s.2.2.length)], s)) := by
  obtain ⟨S', e1, e2, e3, e4⟩ := x_addC h hc hn k a t
  simp (disch := omega) only [s57_100, q_0, q_1, q_2, q_3, q_4, q_5, q_6, q_7, q_8, q_9, q_10, q_11, q_12, q_13, q_14, q_16, q_20, q_23, q_24, q_32, q_42, q_43, q_45, q_47, q_48, q_50, q_57, q_59, q_60, q_61, q_62, q_63, q_64, q_66, q_91, q_93, q_97, q_99, q_122, q_144, q_255, q_256, q_300, q_380, q_400, q_620, q_999, q_1000, q_4095, q_4096, q_9999, q_65536, q_99999, q_31, nI_add, pk_mul, nE, nL, nT, nM31, nShl, ib_nI, nI_clamp, bI_n0, bI_n1, bI_nar, uI_r, uI_l, uL_r, uL_i, uL_p, uA_r, uA_l, bV_some, bU_some, nar_n0, nar_n1, and_self, and_true, true_and, and_false, false_and, if_true, if_false, eq_self, Bool.false_eq_true, Bool.true_eq_false, not_true_eq_false, not_false_eq_true, ↓reduceIte, nlT, nlF, ntT, ntF, neT, neF, ieT, ieF, decide_true, decide_false, Bool.not_true, Bool.not_false, Bool.and_true, Bool.true_and, Bool.and_false, Bool.false_and, Bool.or_true, Bool.true_or, Bool.or_false, Bool.false_or]
  rw [s57_101 (w := r) (hw := h.2.2.2.2.1)]
  simp (disch := omega) only [s57_104, s57_105, s57_106, s57_108, s57_111, s57_112, q_0, q_1, q_2, q_3, q_4, q_5, q_6, q_7, q_8, q_9, q_10, q_11, q_12, q_13, q_14, q_16, q_20, q_23, q_24, q_32, q_42, q_43, q_45, q_47, q_48, q_50, q_57, q_59, q_60, q_61, q_62, q_63, q_64, q_66, q_91, q_93, q_97, q_99, q_122, q_144, q_255, q_256, q_300, q_380, q_400, q_620, q_999, q_1000, q_4095, q_4096, q_9999, q_65536, q_99999, q_31, nI_add, pk_mul, nE, nL, nT, nM31, nShl, ib_nI, nI_clamp, bI_n0, bI_n1, bI_nar, uI_r, uI_l, uL_r, uL_i, uL_p, uA_r, uA_l, bV_some, bU_some, nar_n0, nar_n1, and_self, and_true, true_and, and_false, false_and, if_true, if_false, eq_self, Bool.false_eq_true, Bool.true_eq_false, not_true_eq_false, not_false_eq_true, ↓reduceIte, nlT, nlF, ntT, ntF, neT, neF, ieT, ieF, decide_true, decide_false, Bool.not_true, Bool.not_false, Bool.and_true, Bool.true_and, Bool.and_false, Bool.false_and, Bool.or_true, Bool.true_or, Bool.or_false, Bool.false_or, e1]
  exact ⟨true, S', rfl, e2, rfl, e3, e4⟩
theorem x_clT {T : Tp} {r : Nat} {S : Sto} {s : Ps} {cs : List Cl} (hK : TpK T) (h : CP T r S s) (hc : CK r S cs) (hg : Gd T s) (hb : sc T blP s.1 = s.1) (hn : cs.length < 12) (k a : Nat) (a1 a4 : av) : RL T r S (run 57 0 59 [vR 24 0, a1, vI (nI k), vI (nI a), a4] [] S) (bnd (pClT T k a s) (fun x => Sum.inr (cs ++ [x.2], x.1))) := by
  have hK1 := hK.1
  have g1 := hg.1
  have e0 := x_size h
  have e1 := x_next hK s.1 h.1 h.2.1 (by omega)
  rw [hb] at e1
  have hC : CP T r (uI S 24 0 2 (nI s.1)) s := h.at' s.1
  have hF : CF r S (uI S 24 0 2 (nI s.1)) := CF.rf.u (Or.inl ⟨rfl, by decide⟩)
  generalize uI S 24 0 2 (nI s.1) = S1 at e1 hC hF
  have e2 := x_wordIn (S := S1) (q := 2) (ws := [wIf]) hK hC.1 hC.2.1 (show s.1 ≤ 400 by omega) (by decide) (by decide) wdk_I (by decide)
  have hC2 := hC.bh (nI (sc T ltP s.1))
  have hb3 : (uI S1 24 0 3 (nI (sc T ltP s.1))).1 24 0 3 = nI (sc T ltP s.1) := by rw [uI_r, if_pos ⟨rfl, rfl, rfl⟩]
  have hF2 : CF r S (uI S1 24 0 3 (nI (sc T ltP s.1))) := hF.u (Or.inl ⟨rfl, by decide⟩)
  generalize uI S1 24 0 3 (nI (sc T ltP s.1)) = S2 at e2 hC2 hb3 hF2
  rw [wInF_1] at e2
  refine RL.pre ?_ hF2.g
  have hc2 := hc.cf hF2
  simp (disch := omega) only [s57_59, q_0, q_1, q_2, q_3, q_4, q_5, q_6, q_7, q_8, q_9, q_10, q_11, q_12, q_13, q_14, q_16, q_20, q_23, q_24, q_32, q_42, q_43, q_45, q_47, q_48, q_50, q_57, q_59, q_60, q_61, q_62, q_63, q_64, q_66, q_91, q_93, q_97, q_99, q_122, q_144, q_255, q_256, q_300, q_380, q_400, q_620, q_999, q_1000, q_4095, q_4096, q_9999, q_65536, q_99999, q_31, nI_add, pk_mul, nE, nL, nT, nM31, nShl, ib_nI, nI_clamp, bI_n0, bI_n1, bI_nar, uI_r, uI_l, uL_r, uL_i, uL_p, uA_r, uA_l, bV_some, bU_some, nar_n0, nar_n1, and_self, and_true, true_and, and_false, false_and, if_true, if_false, eq_self, Bool.false_eq_true, Bool.true_eq_false, not_true_eq_false, not_false_eq_true, ↓reduceIte, nlT, nlF, ntT, ntF, neT, neF, ieT, ieF, decide_true, decide_false, Bool.not_true, Bool.not_false, Bool.and_true, Bool.true_and, Bool.and_false, Bool.false_and, Bool.or_true, Bool.true_or, Bool.or_false, Bool.false_or]
  rw [s57_60 (w := r) (hw := h.2.2.2.2.1)]
  unfold pClT
  by_cases c : wEq T s.1 wIf = true
  · rw [if_pos c]
    rw [if_pos c, oK_s] at e2
    have hl3 : sc T ltP s.1 = s.1 + 2 := (wEq_e c).1
    rw [hl3] at hb3
    have hb4 : s.1 + 2 ≤ T.1 := wEq_l c
    have hC3 : CP T r (uI S2 24 0 2 (nI (s.1 + 2))) (s.1 + 2, s.2) := hC2.at' (s.1 + 2)
    have hF3 : CF r S2 (uI S2 24 0 2 (nI (s.1 + 2))) := CF.rf.u (Or.inl ⟨rfl, by decide⟩)
    have hg3 : Gd T (s.1 + 2, s.2) := hg.up (by show s.1 ≤ s.1 + 2; omega) hb4 rfl
    simp (disch := omega) only [s57_63, s57_66, s57_68, s57_69, s57_72, s57_73, s57_74, s57_76, s57_79, s57_82, s57_83, s57_84, s57_87, s57_90, s57_91, s57_92, q_0, q_1, q_2, q_3, q_4, q_5, q_6, q_7, q_8, q_9, q_10, q_11, q_12, q_13, q_14, q_16, q_20, q_23, q_24, q_32, q_42, q_43, q_45, q_47, q_48, q_50, q_57, q_59, q_60, q_61, q_62, q_63, q_64, q_66, q_91, q_93, q_97, q_99, q_122, q_144, q_255, q_256, q_300, q_380, q_400, q_620, q_999, q_1000, q_4095, q_4096, q_9999, q_65536, q_99999, q_31, nI_add, pk_mul, nE, nL, nT, nM31, nShl, ib_nI, nI_clamp, bI_n0, bI_n1, bI_nar, uI_r, uI_l, uL_r, uL_i, uL_p, uA_r, uA_l, bV_some, bU_some, nar_n0, nar_n1, and_self, and_true, true_and, and_false, false_and, if_true, if_false, eq_self, Bool.false_eq_true, Bool.true_eq_false, not_true_eq_false, not_false_eq_true, ↓reduceIte, nlT, nlF, ntT, ntF, neT, neF, ieT, ieF, decide_true, decide_false, Bool.not_true, Bool.not_false, Bool.and_true, Bool.true_and, Bool.and_false, Bool.false_and, Bool.or_true, Bool.true_or, Bool.or_false, Bool.false_or, e0, e1, e2, hb3]
    have hc3 := hc2.cf hF3
    refine RL.pre ?_ hF3.g
    generalize uI S2 24 0 2 (nI (s.1 + 2)) = S3 at hC3 hc3
    have v := x_test (j := 43) (d := 0) hK (by decide) (pFact_oc hK 10) (x_fact hK 10 43 (by decide) (by decide)) hC3 hg3
    have v' : RC T r S3 (call 64 44 [vR 24 0, vI (nI 0)] S3) (pTst T (pFact T 10) (s.1 + 2, s.2)) := v
    cases ev : pTst T (pFact T 10) (s.1 + 2, s.2) with
    | inl f =>
      rw [ev] at v'
      obtain ⟨S4, v1, v2, v3, v4⟩ := v'.l
      simp (disch := omega) only [s57_95, s57_98, s57_99, q_0, q_1, q_2, q_3, q_4, q_5, q_6, q_7, q_8, q_9, q_10, q_11, q_12, q_13, q_14, q_16, q_20, q_23, q_24, q_32, q_42, q_43, q_45, q_47, q_48, q_50, q_57, q_59, q_60, q_61, q_62, q_63, q_64, q_66, q_91, q_93, q_97, q_99, q_122, q_144, q_255, q_256, q_300, q_380, q_400, q_620, q_999, q_1000, q_4095, q_4096, q_9999, q_65536, q_99999, q_31, nI_add, pk_mul, nE, nL, nT, nM31, nShl, ib_nI, nI_clamp, bI_n0, bI_n1, bI_nar, uI_r, uI_l, uL_r, uL_i, uL_p, uA_r, uA_l, bV_some, bU_some, nar_n0, nar_n1, and_self, and_true, true_and, and_false, false_and, if_true, if_false, eq_self, Bool.false_eq_true, Bool.true_eq_false, not_true_eq_false, not_false_eq_true, ↓reduceIte, nlT, nlF, ntT, ntF, neT, neF, ieT, ieF, decide_true, decide_false, Bool.not_true, Bool.not_false, Bool.and_true, Bool.true_and, Bool.and_false, Bool.false_and, Bool.or_true, Bool.true_or, Bool.or_false, Bool.false_or, v1]
      exact RL.f0 v2.g v3 v4
    | inr s' =>
      rw [ev] at v'
      obtain ⟨S4, v1, v2, v3⟩ := v'.r
      simp (disch := omega) only [s57_95, q_0, q_1, q_2, q_3, q_4, q_5, q_6, q_7, q_8, q_9, q_10, q_11, q_12, q_13, q_14, q_16, q_20, q_23, q_24, q_32, q_42, q_43, q_45, q_47, q_48, q_50, q_57, q_59, q_60, q_61, q_62, q_63, q_64, q_66, q_91, q_93, q_97, q_99, q_122, q_144, q_255, q_256, q_300, q_380, q_400, q_620, q_999, q_1000, q_4095, q_4096, q_9999, q_65536, q_99999, q_31, nI_add, pk_mul, nE, nL, nT, nM31, nShl, ib_nI, nI_clamp, bI_n0, bI_n1, bI_nar, uI_r, uI_l, uL_r, uL_i, uL_p, uA_r, uA_l, bV_some, bU_some, nar_n0, nar_n1, and_self, and_true, true_and, and_false, false_and, if_true, if_false, eq_self, Bool.false_eq_true, Bool.true_eq_false, not_true_eq_false, not_false_eq_true, ↓reduceIte, nlT, nlF, ntT, ntF, neT, neF, ieT, ieF, decide_true, decide_false, Bool.not_true, Bool.not_false, Bool.and_true, Bool.true_and, Bool.and_false, Bool.false_and, Bool.or_true, Bool.true_or, Bool.or_false, Bool.false_or, v1]
      exact RL.pre (x_clE v3 (hc3.cf v2) hn k a s.2.2.length a1) v2.g
  · rw [if_neg c]
    rw [if_neg c, oK_n] at e2
    simp (disch := omega) only [s57_63, s57_66, s57_68, s57_69, s57_72, s57_73, s57_74, s57_76, s57_79, q_0, q_1, q_2, q_3, q_4, q_5, q_6, q_7, q_8, q_9, q_10, q_11, q_12, q_13, q_14, q_16, q_20, q_23, q_24, q_32, q_42, q_43, q_45, q_47, q_48, q_50, q_57, q_59, q_60, q_61, q_62, q_63, q_64, q_66, q_91, q_93, q_97, q_99, q_122, q_144, q_255, q_256, q_300, q_380, q_400, q_620, q_999, q_1000, q_4095, q_4096, q_9999, q_65536, q_99999, q_31, nI_add, pk_mul, nE, nL, nT, nM31, nShl, ib_nI, nI_clamp, bI_n0, bI_n1, bI_nar, uI_r, uI_l, uL_r, uL_i, uL_p, uA_r, uA_l, bV_some, bU_some, nar_n0, nar_n1, and_self, and_true, true_and, and_false, false_and, if_true, if_false, eq_self, Bool.false_eq_true, Bool.true_eq_false, not_true_eq_false, not_false_eq_true, ↓reduceIte, nlT, nlF, ntT, ntF, neT, neF, ieT, ieF, decide_true, decide_false, Bool.not_true, Bool.not_false, Bool.and_true, Bool.true_and, Bool.and_false, Bool.false_and, Bool.or_true, Bool.true_or, Bool.or_false, Bool.false_or, e0, e1, e2, m1_0]
    exact x_clE hC2 hc2 hn k a s.2.2.length a1
theorem x_clause {T : Tp} {r : Nat} {S : Sto} {st : Ps} {cs : List Cl} (hK : TpK T) (h : CP T r S st) (hc : CK r S cs) (hg : Gd T st) (hn : cs.length ≤ 12) : RL T r S (call 57 0 [vR 24 0, vI (nI cs.length)] S) (bnd (pCl T cs.length st) (fun x => Sum.inr (cs ++ [x.2], x.1))) := by
  have hK1 := hK.1
  have g1 := hg.1
  have e1 := x_next hK st.1 h.1 h.2.1 (by omega)
  have h6 := sc_le T blP st.1 g1
  have h5 := sc_ge T blP st.1
  have hC : CP T r (uI S 24 0 2 (nI (sc T blP st.1))) (sc T blP st.1, st.2) := h.at' _
  have hF : CF r S (uI S 24 0 2 (nI (sc T blP st.1))) := CF.rf.u (Or.inl ⟨rfl, by decide⟩)
  unfold pCl
  show RL T r S (run 57 0 0 [vR 24 0, vI (nI cs.length), vU, vU, vU] [] S) _
  generalize sc T blP st.1 = b at e1 h6 h5 hC hF
  generalize uI S 24 0 2 (nI b) = S1 at e1 hC hF
  have e2 := x_wordIn (S := S1) (q := 0) (ws := wS) hK hC.1 hC.2.1 (show b ≤ 400 by omega) (by decide) (by decide) wdk_S (by decide)
  have hC2 := hC.bh (nI (sc T ltP b))
  have hb3 : (uI S1 24 0 3 (nI (sc T ltP b))).1 24 0 3 = nI (sc T ltP b) := by rw [uI_r, if_pos ⟨rfl, rfl, rfl⟩]
  have hF2 : CF r S (uI S1 24 0 3 (nI (sc T ltP b))) := hF.u (Or.inl ⟨rfl, by decide⟩)
  generalize uI S1 24 0 3 (nI (sc T ltP b)) = S2 at e2 hC2 hb3 hF2
  refine RL.pre ?_ hF2.g
  have hc2 := hc.cf hF2
  cases e3 : wInF T b wS 0 with
  | none =>
    rw [e3, oK_n] at e2
    have ef := x_fail (S := S2) (s := 0) hC2.2.1
    simp (disch := omega) only [s57_0, s57_1, s57_4, s57_5, s57_6, s57_8, s57_11, s57_12, s57_13, s57_16, s57_17, s57_18, s57_21, q_0, q_1, q_2, q_3, q_4, q_5, q_6, q_7, q_8, q_9, q_10, q_11, q_12, q_13, q_14, q_16, q_20, q_23, q_24, q_32, q_42, q_43, q_45, q_47, q_48, q_50, q_57, q_59, q_60, q_61, q_62, q_63, q_64, q_66, q_91, q_93, q_97, q_99, q_122, q_144, q_255, q_256, q_300, q_380, q_400, q_620, q_999, q_1000, q_4095, q_4096, q_9999, q_65536, q_99999, q_31, nI_add, pk_mul, nE, nL, nT, nM31, nShl, ib_nI, nI_clamp, bI_n0, bI_n1, bI_nar, uI_r, uI_l, uL_r, uL_i, uL_p, uA_r, uA_l, bV_some, bU_some, nar_n0, nar_n1, and_self, and_true, true_and, and_false, false_and, if_true, if_false, eq_self, Bool.false_eq_true, Bool.true_eq_false, not_true_eq_false, not_false_eq_true, ↓reduceIte, nlT, nlF, ntT, ntF, neT, neF, ieT, ieF, decide_true, decide_false, Bool.not_true, Bool.not_false, Bool.and_true, Bool.true_and, Bool.and_false, Bool.false_and, Bool.or_true, Bool.true_or, Bool.or_false, Bool.false_or, e1, e2, m1_ge, ef]
    exact RL.fl hC2.1 CG.rf
  | some k =>
    rw [e3, oK_s] at e2
    obtain ⟨_, k1, k2⟩ := wInF_e e3
    have k3 : k < 5 := by
      have : wS.length = 5 := rfl
      omega
    show RL T r S2 _ (bnd (if 12 ≤ cs.length then Sum.inl (flt 4 b) else bnd (pSum T (sc T ltP b, st.2)) (pClT T k st.2.2.length)) (fun x => Sum.inr (cs ++ [x.2], x.1)))
    by_cases c : 12 ≤ cs.length
    · rw [if_pos c]
      have ef := x_fail (S := S2) (s := 4) hC2.2.1
      simp (disch := omega) only [s57_0, s57_1, s57_4, s57_5, s57_6, s57_8, s57_11, s57_12, s57_13, s57_22, s57_23, s57_25, s57_28, s57_29, s57_30, s57_33, q_0, q_1, q_2, q_3, q_4, q_5, q_6, q_7, q_8, q_9, q_10, q_11, q_12, q_13, q_14, q_16, q_20, q_23, q_24, q_32, q_42, q_43, q_45, q_47, q_48, q_50, q_57, q_59, q_60, q_61, q_62, q_63, q_64, q_66, q_91, q_93, q_97, q_99, q_122, q_144, q_255, q_256, q_300, q_380, q_400, q_620, q_999, q_1000, q_4095, q_4096, q_9999, q_65536, q_99999, q_31, nI_add, pk_mul, nE, nL, nT, nM31, nShl, ib_nI, nI_clamp, bI_n0, bI_n1, bI_nar, uI_r, uI_l, uL_r, uL_i, uL_p, uA_r, uA_l, bV_some, bU_some, nar_n0, nar_n1, and_self, and_true, true_and, and_false, false_and, if_true, if_false, eq_self, Bool.false_eq_true, Bool.true_eq_false, not_true_eq_false, not_false_eq_true, ↓reduceIte, nlT, nlF, ntT, ntF, neT, neF, ieT, ieF, decide_true, decide_false, Bool.not_true, Bool.not_false, Bool.and_true, Bool.true_and, Bool.and_false, Bool.false_and, Bool.or_true, Bool.true_or, Bool.or_false, Bool.false_or, e1, e2, ef]
      exact RL.fl hC2.1 CG.rf
    · rw [if_neg c, bnd_b]
      have h7 := sc_ge T ltP b
      have h8 := sc_le T ltP b h6
      have hC3 : CP T r (uI S2 24 0 2 (nI (sc T ltP b))) (sc T ltP b, st.2) := hC2.at' _
      have hF3 : CF r S2 (uI S2 24 0 2 (nI (sc T ltP b))) := CF.rf.u (Or.inl ⟨rfl, by decide⟩)
      have hg3 : Gd T (sc T ltP b, st.2) := hg.up (by show st.1 ≤ sc T ltP b; omega) h8 rfl
      have es := x_size hC3
      have hc3 := hc2.cf hF3
      simp (disch := omega) only [s57_0, s57_1, s57_4, s57_5, s57_6, s57_8, s57_11, s57_12, s57_13, s57_22, s57_23, s57_25, s57_34, s57_35, s57_36, s57_39, s57_42, q_0, q_1, q_2, q_3, q_4, q_5, q_6, q_7, q_8, q_9, q_10, q_11, q_12, q_13, q_14, q_16, q_20, q_23, q_24, q_32, q_42, q_43, q_45, q_47, q_48, q_50, q_57, q_59, q_60, q_61, q_62, q_63, q_64, q_66, q_91, q_93, q_97, q_99, q_122, q_144, q_255, q_256, q_300, q_380, q_400, q_620, q_999, q_1000, q_4095, q_4096, q_9999, q_65536, q_99999, q_31, nI_add, pk_mul, nE, nL, nT, nM31, nShl, ib_nI, nI_clamp, bI_n0, bI_n1, bI_nar, uI_r, uI_l, uL_r, uL_i, uL_p, uA_r, uA_l, bV_some, bU_some, nar_n0, nar_n1, and_self, and_true, true_and, and_false, false_and, if_true, if_false, eq_self, Bool.false_eq_true, Bool.true_eq_false, not_true_eq_false, not_false_eq_true, ↓reduceIte, nlT, nlF, ntT, ntF, neT, neF, ieT, ieF, decide_true, decide_false, Bool.not_true, Bool.not_false, Bool.and_true, Bool.true_and, Bool.and_false, Bool.false_and, Bool.or_true, Bool.true_or, Bool.or_false, Bool.false_or, e1, e2, hb3]
      rw [s57_43 (w := r) (hw := hC3.2.2.2.2.1)]
      refine RL.pre ?_ hF3.g
      generalize uI S2 24 0 2 (nI (sc T ltP b)) = S3 at hC3 hc3 es
      have v := x_sum hK hC3 hg3
      have vo := pSum_oc (T := T) hK (st := (sc T ltP b, st.2)) h8
      cases ev : pSum T (sc T ltP b, st.2) with
      | inl f =>
        rw [ev] at v
        obtain ⟨S4, v1, v2, v3, v4⟩ := v.l
        simp (disch := omega) only [s57_46, s57_49, s57_50, s57_51, s57_54, s57_57, s57_58, q_0, q_1, q_2, q_3, q_4, q_5, q_6, q_7, q_8, q_9, q_10, q_11, q_12, q_13, q_14, q_16, q_20, q_23, q_24, q_32, q_42, q_43, q_45, q_47, q_48, q_50, q_57, q_59, q_60, q_61, q_62, q_63, q_64, q_66, q_91, q_93, q_97, q_99, q_122, q_144, q_255, q_256, q_300, q_380, q_400, q_620, q_999, q_1000, q_4095, q_4096, q_9999, q_65536, q_99999, q_31, nI_add, pk_mul, nE, nL, nT, nM31, nShl, ib_nI, nI_clamp, bI_n0, bI_n1, bI_nar, uI_r, uI_l, uL_r, uL_i, uL_p, uA_r, uA_l, bV_some, bU_some, nar_n0, nar_n1, and_self, and_true, true_and, and_false, false_and, if_true, if_false, eq_self, Bool.false_eq_true, Bool.true_eq_false, not_true_eq_false, not_false_eq_true, ↓reduceIte, nlT, nlF, ntT, ntF, neT, neF, ieT, ieF, decide_true, decide_false, Bool.not_true, Bool.not_false, Bool.and_true, Bool.true_and, Bool.and_false, Bool.false_and, Bool.or_true, Bool.true_or, Bool.or_false, Bool.false_or, es, v1]
        exact RL.f0 v2.g v3 v4
      | inr s =>
        rw [ev] at v vo
        obtain ⟨S4, v1, v2, v3⟩ := v.r
        have hg4 := (show Oc T false (sc T ltP b, st.2) s from vo.1).gd hg3
        simp (disch := omega) only [s57_46, s57_49, s57_50, s57_51, s57_54, q_0, q_1, q_2, q_3, q_4, q_5, q_6, q_7, q_8, q_9, q_10, q_11, q_12, q_13, q_14, q_16, q_20, q_23, q_24, q_32, q_42, q_43, q_45, q_47, q_48, q_50, q_57, q_59, q_60, q_61, q_62, q_63, q_64, q_66, q_91, q_93, q_97, q_99, q_122, q_144, q_255, q_256, q_300, q_380, q_400, q_620, q_999, q_1000, q_4095, q_4096, q_9999, q_65536, q_99999, q_31, nI_add, pk_mul, nE, nL, nT, nM31, nShl, ib_nI, nI_clamp, bI_n0, bI_n1, bI_nar, uI_r, uI_l, uL_r, uL_i, uL_p, uA_r, uA_l, bV_some, bU_some, nar_n0, nar_n1, and_self, and_true, true_and, and_false, false_and, if_true, if_false, eq_self, Bool.false_eq_true, Bool.true_eq_false, not_true_eq_false, not_false_eq_true, ↓reduceIte, nlT, nlF, ntT, ntF, neT, neF, ieT, ieF, decide_true, decide_false, Bool.not_true, Bool.not_false, Bool.and_true, Bool.true_and, Bool.and_false, Bool.false_and, Bool.or_true, Bool.true_or, Bool.or_false, Bool.false_or, es, v1]
        exact RL.pre (x_clT hK v3 (hc3.cf v2) hg4 (vo.2 s rfl) (by omega) k st.2.2.length _ _) v2.g
/-- what reading a law leaves -/
def RA (T : Tp) (r : Nat) (S : Sto) (x : Option (Option av × Sto)) (res : Sum Nat (List Cl × Ps)) : Prop := ∃ f S', x = some (some (vI (nI f)), S') ∧ CG r S S' ∧ (match res with
  | Sum.inl g => f = g
  | Sum.inr y => f = 0 ∧ RepLC S' r (lwOf y.1 y.2.2.2))
theorem RA.pre {T : Tp} {r : Nat} {S S1 : Sto} {x : Option (Option av × Sto)} {res : Sum Nat (List Cl × Ps)} (h : RA T r S1 x res) (hf : CG r S S1) : RA T r S x res := by
  obtain ⟨f, S', h1, h2, h3⟩ := h
  exact ⟨f, S', h1, hf.tr h2, h3⟩
theorem ch_end {T : Tp} {b : Nat} (hK : TpK T) : (chI T b = -nI 1) = (T.1 ≤ b) := by
  unfold chI
  by_cases c : b < T.1
  · have := hK.2 b c
    rw [if_pos c, nI_nm1 (by omega)]
    exact (eq_false (by omega)).symm
  · rw [if_neg c]
    simp
    omega
theorem rep_of {T : Tp} {r : Nat} {S : Sto} {st : Ps} {cs : List Cl} (h : CP T r S st) (hc : CK r S cs) : RepLC S r (lwOf cs st.2.2) := ⟨hc.1, hc.2, h.2.2.2.2.2.2⟩
theorem x_readL {T : Tp} {r : Nat} (hK : TpK T) : ∀ m {S : Sto} {cs : List Cl} {st : Ps}, cs.length + m = 13 → CP T r S st → CK r S cs → Gd T st → RA T r S (run 56 0 29 [vR 24 0, vR 17 r, vI (nI cs.length)] [] S) (pLw T m cs st) := by
  intro m
  have hK1 := hK.1
  induction m with
  | zero =>
    intro S cs st hn h hc hg
    have h5 : S.1 24 0 5 = nI 0 := h.2.2.2.1
    rw [s56_29]
    simp (disch := omega) only [s56_30, s56_32, s56_92, s56_93, s56_96, q_0, q_1, q_2, q_3, q_4, q_5, q_6, q_7, q_8, q_9, q_10, q_11, q_12, q_13, q_14, q_16, q_20, q_23, q_24, q_32, q_42, q_43, q_45, q_47, q_48, q_50, q_57, q_59, q_60, q_61, q_62, q_63, q_64, q_66, q_91, q_93, q_97, q_99, q_122, q_144, q_255, q_256, q_300, q_380, q_400, q_620, q_999, q_1000, q_4095, q_4096, q_9999, q_65536, q_99999, q_31, nI_add, pk_mul, nE, nL, nT, nM31, nShl, ib_nI, nI_clamp, bI_n0, bI_n1, bI_nar, uI_r, uI_l, uL_r, uL_i, uL_p, uA_r, uA_l, bV_some, bU_some, nar_n0, nar_n1, and_self, and_true, true_and, and_false, false_and, if_true, if_false, eq_self, Bool.false_eq_true, Bool.true_eq_false, not_true_eq_false, not_false_eq_true, ↓reduceIte, nlT, nlF, ntT, ntF, neT, neF, ieT, ieF, decide_true, decide_false, Bool.not_true, Bool.not_false, Bool.and_true, Bool.true_and, Bool.and_false, Bool.false_and, Bool.or_true, Bool.true_or, Bool.or_false, Bool.false_or, h5]
    exact ⟨0, S, rfl, CG.rf, rfl⟩
  | succ m ih =>
    intro S cs st hn h hc hg
    have v := x_clause hK h hc hg (by omega)
    have vo := pCl_ok (T := T) hK (n := cs.length) hg
    rw [pLw_s, s56_29]
    cases ev : pCl T cs.length st with
    | inl f =>
      rw [ev] at v
      obtain ⟨S4, v1, v2, v3, v4⟩ := v.l
      simp (disch := omega) only [s56_30, s56_32, s56_35, s56_36, s56_37, s56_40, s56_51, s56_52, s56_55, q_0, q_1, q_2, q_3, q_4, q_5, q_6, q_7, q_8, q_9, q_10, q_11, q_12, q_13, q_14, q_16, q_20, q_23, q_24, q_32, q_42, q_43, q_45, q_47, q_48, q_50, q_57, q_59, q_60, q_61, q_62, q_63, q_64, q_66, q_91, q_93, q_97, q_99, q_122, q_144, q_255, q_256, q_300, q_380, q_400, q_620, q_999, q_1000, q_4095, q_4096, q_9999, q_65536, q_99999, q_31, nI_add, pk_mul, nE, nL, nT, nM31, nShl, ib_nI, nI_clamp, bI_n0, bI_n1, bI_nar, uI_r, uI_l, uL_r, uL_i, uL_p, uA_r, uA_l, bV_some, bU_some, nar_n0, nar_n1, and_self, and_true, true_and, and_false, false_and, if_true, if_false, eq_self, Bool.false_eq_true, Bool.true_eq_false, not_true_eq_false, not_false_eq_true, ↓reduceIte, nlT, nlF, ntT, ntF, neT, neF, ieT, ieF, decide_true, decide_false, Bool.not_true, Bool.not_false, Bool.and_true, Bool.true_and, Bool.and_false, Bool.false_and, Bool.or_true, Bool.true_or, Bool.or_false, Bool.false_or, v1, v3]
      exact ⟨f, S4, rfl, v2, rfl⟩
    | inr x =>
      rw [ev] at v vo
      obtain ⟨S4, v1, v2, v3, v4⟩ := v.r
      obtain ⟨o1, o2, o3, o4⟩ := vo
      have w3 : CP T r S4 x.1 := v3
      have w4 : CK r S4 (cs ++ [x.2]) := v4
      have hl : (cs ++ [x.2]).length = cs.length + 1 := by rw [List.length_append]; rfl
      have z1 := o2.1
      have e1 := x_next hK x.1.1 w3.1 w3.2.1 (by omega)
      have h6 := sc_le T blP x.1.1 z1
      have h5 := sc_ge T blP x.1.1
      have hs := sc_sc T blP x.1.1
      have hC : CP T r (uI S4 24 0 2 (nI (sc T blP x.1.1))) (sc T blP x.1.1, x.1.2) := w3.at' _
      have hF : CF r S4 (uI S4 24 0 2 (nI (sc T blP x.1.1))) := CF.rf.u (Or.inl ⟨rfl, by decide⟩)
      rw [bnd_r]
      refine RA.pre ?_ (v2.tr hF.g)
      have hc5 := w4.cf hF
      generalize sc T blP x.1.1 = b at e1 h6 h5 hC hF hs hc5
      generalize uI S4 24 0 2 (nI b) = S5 at e1 hC hF hc5
      have c5 : S5.1 24 0 5 = nI 0 := hC.2.2.2.1
      have e9 : (-1 : Int32) = -nI 1 := rfl
      by_cases c : T.1 ≤ b
      · rw [if_pos c]
        have ec : (chI T b = -nI 1) = True := by rw [ch_end hK]; exact eq_true c
        simp (disch := omega) only [s56_30, s56_32, s56_35, s56_36, s56_37, s56_40, s56_43, s56_44, s56_47, s56_48, s56_51, s56_52, s56_55, q_0, q_1, q_2, q_3, q_4, q_5, q_6, q_7, q_8, q_9, q_10, q_11, q_12, q_13, q_14, q_16, q_20, q_23, q_24, q_32, q_42, q_43, q_45, q_47, q_48, q_50, q_57, q_59, q_60, q_61, q_62, q_63, q_64, q_66, q_91, q_93, q_97, q_99, q_122, q_144, q_255, q_256, q_300, q_380, q_400, q_620, q_999, q_1000, q_4095, q_4096, q_9999, q_65536, q_99999, q_31, nI_add, pk_mul, nE, nL, nT, nM31, nShl, ib_nI, nI_clamp, bI_n0, bI_n1, bI_nar, uI_r, uI_l, uL_r, uL_i, uL_p, uA_r, uA_l, bV_some, bU_some, nar_n0, nar_n1, and_self, and_true, true_and, and_false, false_and, if_true, if_false, eq_self, Bool.false_eq_true, Bool.true_eq_false, not_true_eq_false, not_false_eq_true, ↓reduceIte, nlT, nlF, ntT, ntF, neT, neF, ieT, ieF, decide_true, decide_false, Bool.not_true, Bool.not_false, Bool.and_true, Bool.true_and, Bool.and_false, Bool.false_and, Bool.or_true, Bool.true_or, Bool.or_false, Bool.false_or, v1, e1, e9, ec, c5]
        exact ⟨0, S5, rfl, CG.rf, rfl, (show RepLC S5 r (lwOf (cs ++ [x.2]) x.1.2.2) from rep_of (st := (b, x.1.2)) hC hc5)⟩
      · rw [if_neg c]
        have ec : (chI T b = -nI 1) = False := by rw [ch_end hK]; exact eq_false c
        have e2 := x_next hK b hC.1 hC.2.1 (by omega)
        rw [hs, uI_self hC.2.1] at e2
        have ra : S5.1 24 0 2 = nI b := hC.2.1
        have e59 := chI_eq (T := T) (p := b) (k := 59) hK (by decide)
        by_cases d : T.2 b = 59
        · rw [if_pos d]
          have ed : (chI T b = nI 59) = True := by rw [e59]; exact eq_true ⟨by omega, d⟩
          have hC6 : CP T r (uI S5 24 0 2 (nI (b + 1))) (b + 1, x.1.2) := hC.at' (b + 1)
          have hF6 : CF r S5 (uI S5 24 0 2 (nI (b + 1))) := CF.rf.u (Or.inl ⟨rfl, by decide⟩)
          simp (disch := omega) only [s56_30, s56_32, s56_35, s56_36, s56_37, s56_40, s56_43, s56_44, s56_47, s56_48, s56_56, s56_57, s56_60, s56_62, s56_76, s56_77, s56_78, s56_81, s56_82, s56_83, s56_86, s56_89, q_0, q_1, q_2, q_3, q_4, q_5, q_6, q_7, q_8, q_9, q_10, q_11, q_12, q_13, q_14, q_16, q_20, q_23, q_24, q_32, q_42, q_43, q_45, q_47, q_48, q_50, q_57, q_59, q_60, q_61, q_62, q_63, q_64, q_66, q_91, q_93, q_97, q_99, q_122, q_144, q_255, q_256, q_300, q_380, q_400, q_620, q_999, q_1000, q_4095, q_4096, q_9999, q_65536, q_99999, q_31, nI_add, pk_mul, nE, nL, nT, nM31, nShl, ib_nI, nI_clamp, bI_n0, bI_n1, bI_nar, uI_r, uI_l, uL_r, uL_i, uL_p, uA_r, uA_l, bV_some, bU_some, nar_n0, nar_n1, and_self, and_true, true_and, and_false, false_and, if_true, if_false, eq_self, Bool.false_eq_true, Bool.true_eq_false, not_true_eq_false, not_false_eq_true, ↓reduceIte, nlT, nlF, ntT, ntF, neT, neF, ieT, ieF, decide_true, decide_false, Bool.not_true, Bool.not_false, Bool.and_true, Bool.true_and, Bool.and_false, Bool.false_and, Bool.or_true, Bool.true_or, Bool.or_false, Bool.false_or, v1, e1, e2, e9, ec, ed, ra]
          refine RA.pre ?_ hF6.g
          have := ih (cs := cs ++ [x.2]) (st := (b + 1, x.1.2)) (by omega) hC6 (hc5.cf hF6) (o2.up (by show x.1.1 ≤ b + 1; omega) (by show b + 1 ≤ T.1; omega) rfl)
          rw [hl] at this
          exact this
        · rw [if_neg d]
          have ed : (chI T b = nI 59) = False := by rw [e59]; exact eq_false (fun q => d q.2)
          have ef := x_fail (S := S5) (s := 0) hC.2.1
          simp (disch := omega) only [s56_30, s56_32, s56_35, s56_36, s56_37, s56_40, s56_43, s56_44, s56_47, s56_48, s56_56, s56_57, s56_60, s56_62, s56_65, s56_66, s56_67, s56_70, s56_71, s56_72, s56_75, q_0, q_1, q_2, q_3, q_4, q_5, q_6, q_7, q_8, q_9, q_10, q_11, q_12, q_13, q_14, q_16, q_20, q_23, q_24, q_32, q_42, q_43, q_45, q_47, q_48, q_50, q_57, q_59, q_60, q_61, q_62, q_63, q_64, q_66, q_91, q_93, q_97, q_99, q_122, q_144, q_255, q_256, q_300, q_380, q_400, q_620, q_999, q_1000, q_4095, q_4096, q_9999, q_65536, q_99999, q_31, nI_add, pk_mul, nE, nL, nT, nM31, nShl, ib_nI, nI_clamp, bI_n0, bI_n1, bI_nar, uI_r, uI_l, uL_r, uL_i, uL_p, uA_r, uA_l, bV_some, bU_some, nar_n0, nar_n1, and_self, and_true, true_and, and_false, false_and, if_true, if_false, eq_self, Bool.false_eq_true, Bool.true_eq_false, not_true_eq_false, not_false_eq_true, ↓reduceIte, nlT, nlF, ntT, ntF, neT, neF, ieT, ieF, decide_true, decide_false, Bool.not_true, Bool.not_false, Bool.and_true, Bool.true_and, Bool.and_false, Bool.false_and, Bool.or_true, Bool.true_or, Bool.or_false, Bool.false_or, v1, e1, e2, e9, ec, ed, ef]
          exact ⟨flt 0 b, _, rfl, CG.rf.u (Or.inl ⟨rfl, by decide⟩), rfl⟩
