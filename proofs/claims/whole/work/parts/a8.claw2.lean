/-! the class's law -/
def LF (r : Nat) (S S' : Sto) : Prop := S'.2.1 = S.2.1 ∧ ∀ t i k, ¬ (t = 24 ∨ (17 ≤ t ∧ t ≤ 22 ∧ i = r)) → S'.1 t i k = S.1 t i k
theorem LF.rf {r : Nat} {S : Sto} : LF r S S := ⟨rfl, fun _ _ _ _ => rfl⟩
theorem LF.u {r : Nat} {S S' : Sto} (h : LF r S S') {t i k : Nat} {v : Int32} (hq : t = 24 ∨ (17 ≤ t ∧ t ≤ 22 ∧ i = r)) : LF r S (uI S' t i k v) := by
  refine ⟨h.1, fun a b c hn => ?_⟩
  rw [uI_r, if_neg (by rintro ⟨rfl, rfl, rfl⟩; exact hn hq)]
  exact h.2 a b c hn
theorem LF.p {r : Nat} {S S' : Sto} (h : LF r S S') (j : Nat) : LF r S (uP S' j) := ⟨h.1, h.2⟩
theorem LF.g {r : Nat} {S S' S'' : Sto} (h : LF r S S') (h' : CG r S' S'') : LF r S S'' := ⟨by rw [h'.1]; exact h.1, fun t i k hn => (h'.2 t i k (by omega)).trans (h.2 t i k hn)⟩
theorem uP_r (S : Sto) (j : Nat) : (uP S j).1 = S.1 := rfl
theorem x_readAs {T : Tp} {r : Nat} {S : Sto} (hK : TpK T) (hT : TpC S T) : ∃ f S', call 56 0 [vR 24 0, vR 17 r] S = some (some (vI (nI f)), S') ∧ LF r S S' ∧ (match pLw T 13 [] (0, 0, []) with
  | Sum.inl g => f = g
  | Sum.inr y => f = 0 ∧ RepLC S' r (lwOf y.1 y.2.2.2)) := by
  have hK1 := hK.1
  show ∃ f S', run 56 0 0 [vR 24 0, vR 17 r, vU] [] S = _ ∧ _
  simp (disch := omega) only [s56_0, s56_1, s56_2, s56_5, s56_6, s56_7, s56_10, s56_11, s56_12, s56_15, s56_16, s56_17, s56_20, q_0, q_1, q_2, q_3, q_4, q_5, q_6, q_7, q_8, q_9, q_10, q_11, q_12, q_13, q_14, q_16, q_20, q_23, q_24, q_32, q_42, q_43, q_45, q_47, q_48, q_50, q_57, q_59, q_60, q_61, q_62, q_63, q_64, q_66, q_91, q_93, q_97, q_99, q_122, q_144, q_255, q_256, q_300, q_380, q_400, q_620, q_999, q_1000, q_4095, q_4096, q_9999, q_65536, q_99999, q_31, nI_add, pk_mul, nE, nL, nT, nM31, nShl, ib_nI, nI_clamp, bI_n0, bI_n1, bI_nar, uI_r, uI_l, uL_r, uL_i, uL_p, uA_r, uA_l, bV_some, bU_some, nar_n0, nar_n1, and_self, and_true, true_and, and_false, false_and, if_true, if_false, eq_self, Bool.false_eq_true, Bool.true_eq_false, not_true_eq_false, not_false_eq_true, ↓reduceIte, nlT, nlF, ntT, ntF, neT, neF, ieT, ieF, decide_true, decide_false, Bool.not_true, Bool.not_false, Bool.and_true, Bool.true_and, Bool.and_false, Bool.false_and, Bool.or_true, Bool.true_or, Bool.or_false, Bool.false_or]
  rw [s56_21 (w := r) (hw := rfl)]
  have hF : LF r S (uP (uI (uI (uI S 24 0 2 (nI 0)) 24 0 4 (nI 0)) 24 0 5 (nI 0)) r) := (((LF.rf.u (Or.inl rfl)).u (Or.inl rfl)).u (Or.inl rfl)).p r
  have h1 : TpC (uP (uI (uI (uI S 24 0 2 (nI 0)) 24 0 4 (nI 0)) 24 0 5 (nI 0)) r) T := show TpC (uI (uI (uI S 24 0 2 (nI 0)) 24 0 4 (nI 0)) 24 0 5 (nI 0)) T from ((hT.u (by decide) (by decide)).u (by decide) (by decide)).u (by decide) (by decide)
  have h2 : (uP (uI (uI (uI S 24 0 2 (nI 0)) 24 0 4 (nI 0)) 24 0 5 (nI 0)) r).1 24 0 2 = nI 0 := by rw [uP_r]; simp (disch := omega) only [q_0, q_1, q_2, q_3, q_4, q_5, q_6, q_7, q_8, q_9, q_10, q_11, q_12, q_13, q_14, q_16, q_20, q_23, q_24, q_32, q_42, q_43, q_45, q_47, q_48, q_50, q_57, q_59, q_60, q_61, q_62, q_63, q_64, q_66, q_91, q_93, q_97, q_99, q_122, q_144, q_255, q_256, q_300, q_380, q_400, q_620, q_999, q_1000, q_4095, q_4096, q_9999, q_65536, q_99999, q_31, nI_add, pk_mul, nE, nL, nT, nM31, nShl, ib_nI, nI_clamp, bI_n0, bI_n1, bI_nar, uI_r, uI_l, uL_r, uL_i, uL_p, uA_r, uA_l, bV_some, bU_some, nar_n0, nar_n1, and_self, and_true, true_and, and_false, false_and, if_true, if_false, eq_self, Bool.false_eq_true, Bool.true_eq_false, not_true_eq_false, not_false_eq_true, ↓reduceIte, nlT, nlF, ntT, ntF, neT, neF, ieT, ieF, decide_true, decide_false, Bool.not_true, Bool.not_false, Bool.and_true, Bool.true_and, Bool.and_false, Bool.false_and, Bool.or_true, Bool.true_or, Bool.or_false, Bool.false_or]
  have h3 : (uP (uI (uI (uI S 24 0 2 (nI 0)) 24 0 4 (nI 0)) 24 0 5 (nI 0)) r).1 24 0 4 = nI 0 := by rw [uP_r]; simp (disch := omega) only [q_0, q_1, q_2, q_3, q_4, q_5, q_6, q_7, q_8, q_9, q_10, q_11, q_12, q_13, q_14, q_16, q_20, q_23, q_24, q_32, q_42, q_43, q_45, q_47, q_48, q_50, q_57, q_59, q_60, q_61, q_62, q_63, q_64, q_66, q_91, q_93, q_97, q_99, q_122, q_144, q_255, q_256, q_300, q_380, q_400, q_620, q_999, q_1000, q_4095, q_4096, q_9999, q_65536, q_99999, q_31, nI_add, pk_mul, nE, nL, nT, nM31, nShl, ib_nI, nI_clamp, bI_n0, bI_n1, bI_nar, uI_r, uI_l, uL_r, uL_i, uL_p, uA_r, uA_l, bV_some, bU_some, nar_n0, nar_n1, and_self, and_true, true_and, and_false, false_and, if_true, if_false, eq_self, Bool.false_eq_true, Bool.true_eq_false, not_true_eq_false, not_false_eq_true, ↓reduceIte, nlT, nlF, ntT, ntF, neT, neF, ieT, ieF, decide_true, decide_false, Bool.not_true, Bool.not_false, Bool.and_true, Bool.true_and, Bool.and_false, Bool.false_and, Bool.or_true, Bool.true_or, Bool.or_false, Bool.false_or]
  have h4 : (uP (uI (uI (uI S 24 0 2 (nI 0)) 24 0 4 (nI 0)) 24 0 5 (nI 0)) r).1 24 0 5 = nI 0 := by rw [uP_r]; simp (disch := omega) only [q_0, q_1, q_2, q_3, q_4, q_5, q_6, q_7, q_8, q_9, q_10, q_11, q_12, q_13, q_14, q_16, q_20, q_23, q_24, q_32, q_42, q_43, q_45, q_47, q_48, q_50, q_57, q_59, q_60, q_61, q_62, q_63, q_64, q_66, q_91, q_93, q_97, q_99, q_122, q_144, q_255, q_256, q_300, q_380, q_400, q_620, q_999, q_1000, q_4095, q_4096, q_9999, q_65536, q_99999, q_31, nI_add, pk_mul, nE, nL, nT, nM31, nShl, ib_nI, nI_clamp, bI_n0, bI_n1, bI_nar, uI_r, uI_l, uL_r, uL_i, uL_p, uA_r, uA_l, bV_some, bU_some, nar_n0, nar_n1, and_self, and_true, true_and, and_false, false_and, if_true, if_false, eq_self, Bool.false_eq_true, Bool.true_eq_false, not_true_eq_false, not_false_eq_true, ↓reduceIte, nlT, nlF, ntT, ntF, neT, neF, ieT, ieF, decide_true, decide_false, Bool.not_true, Bool.not_false, Bool.and_true, Bool.true_and, Bool.and_false, Bool.false_and, Bool.or_true, Bool.true_or, Bool.or_false, Bool.false_or]
  have h5 : (uP (uI (uI (uI S 24 0 2 (nI 0)) 24 0 4 (nI 0)) 24 0 5 (nI 0)) r).2.2 = some r := rfl
  generalize uP (uI (uI (uI S 24 0 2 (nI 0)) 24 0 4 (nI 0)) 24 0 5 (nI 0)) r = S1 at hF h1 h2 h3 h4 h5
  have e1 : call 10 0 [vR 17 r] S1 = some (none, uI (uI S1 17 r 0 (nI 0)) 17 r 1 (nI 0)) := by
    show run 10 0 0 [vR 17 r] [] S1 = _
    simp (disch := omega) only [s10_0, s10_1, s10_2, s10_5, s10_6, s10_7, s10_10, q_0, q_1, q_2, q_3, q_4, q_5, q_6, q_7, q_8, q_9, q_10, q_11, q_12, q_13, q_14, q_16, q_20, q_23, q_24, q_32, q_42, q_43, q_45, q_47, q_48, q_50, q_57, q_59, q_60, q_61, q_62, q_63, q_64, q_66, q_91, q_93, q_97, q_99, q_122, q_144, q_255, q_256, q_300, q_380, q_400, q_620, q_999, q_1000, q_4095, q_4096, q_9999, q_65536, q_99999, q_31, nI_add, pk_mul, nE, nL, nT, nM31, nShl, ib_nI, nI_clamp, bI_n0, bI_n1, bI_nar, uI_r, uI_l, uL_r, uL_i, uL_p, uA_r, uA_l, bV_some, bU_some, nar_n0, nar_n1, and_self, and_true, true_and, and_false, false_and, if_true, if_false, eq_self, Bool.false_eq_true, Bool.true_eq_false, not_true_eq_false, not_false_eq_true, ↓reduceIte, nlT, nlF, ntT, ntF, neT, neF, ieT, ieF, decide_true, decide_false, Bool.not_true, Bool.not_false, Bool.and_true, Bool.true_and, Bool.and_false, Bool.false_and, Bool.or_true, Bool.true_or, Bool.or_false, Bool.false_or]
  have hF2 : LF r S (uI (uI S1 17 r 0 (nI 0)) 17 r 1 (nI 0)) := (hF.u (Or.inr (by omega))).u (Or.inr (by omega))
  have hC : CP T r (uI (uI S1 17 r 0 (nI 0)) 17 r 1 (nI 0)) (0, 0, []) := by
    refine ⟨(h1.u (by decide) (by decide)).u (by decide) (by decide), ?_, ?_, ?_, h5, ?_, fun e he => ?_⟩
    · rw [uI_r, if_neg (by omega), uI_r, if_neg (by omega)]; exact h2
    · rw [uI_r, if_neg (by omega), uI_r, if_neg (by omega)]; exact h3
    · rw [uI_r, if_neg (by omega), uI_r, if_neg (by omega)]; exact h4
    · rw [uI_r, if_pos ⟨rfl, rfl, rfl⟩]; rfl
    · exact absurd he (Nat.not_lt_zero e)
  have hk : CK r (uI (uI S1 17 r 0 (nI 0)) 17 r 1 (nI 0)) [] := by
    refine ⟨?_, fun c hc => absurd hc (Nat.not_lt_zero c)⟩
    rw [uI_r, if_neg (by omega), uI_r, if_pos ⟨rfl, rfl, rfl⟩]
    rfl
  have hg : Gd T (0, 0, []) := ⟨Nat.zero_le _, by decide, by decide⟩
  simp (disch := omega) only [s56_24, s56_27, s56_28, q_0, q_1, q_2, q_3, q_4, q_5, q_6, q_7, q_8, q_9, q_10, q_11, q_12, q_13, q_14, q_16, q_20, q_23, q_24, q_32, q_42, q_43, q_45, q_47, q_48, q_50, q_57, q_59, q_60, q_61, q_62, q_63, q_64, q_66, q_91, q_93, q_97, q_99, q_122, q_144, q_255, q_256, q_300, q_380, q_400, q_620, q_999, q_1000, q_4095, q_4096, q_9999, q_65536, q_99999, q_31, nI_add, pk_mul, nE, nL, nT, nM31, nShl, ib_nI, nI_clamp, bI_n0, bI_n1, bI_nar, uI_r, uI_l, uL_r, uL_i, uL_p, uA_r, uA_l, bV_some, bU_some, nar_n0, nar_n1, and_self, and_true, true_and, and_false, false_and, if_true, if_false, eq_self, Bool.false_eq_true, Bool.true_eq_false, not_true_eq_false, not_false_eq_true, ↓reduceIte, nlT, nlF, ntT, ntF, neT, neF, ieT, ieF, decide_true, decide_false, Bool.not_true, Bool.not_false, Bool.and_true, Bool.true_and, Bool.and_false, Bool.false_and, Bool.or_true, Bool.true_or, Bool.or_false, Bool.false_or, e1]
  obtain ⟨f, S', a1, a2, a3⟩ := x_readL hK 13 (cs := []) rfl hC hk hg
  exact ⟨f, S', a1, hF2.g a2, a3⟩
def LF5 (r : Nat) (S S' : Sto) : Prop := S'.2.1 = S.2.1 ∧ ∀ t i k, ¬ (t = 24 ∨ (17 ≤ t ∧ t ≤ 22 ∧ i = r) ∨ (t = 0 ∧ i = 0 ∧ k = 5)) → S'.1 t i k = S.1 t i k
theorem LF.f5 {r : Nat} {S S' : Sto} (h : LF r S S') : LF5 r S S' := ⟨h.1, fun t i k hn => h.2 t i k (by omega)⟩
theorem LF.f6 {r : Nat} {S S' : Sto} (h : LF r S S') (v : Int32) : LF5 r S (uI S' 0 0 5 v) := by
  refine ⟨h.1, fun t i k hn => ?_⟩
  rw [uI_r, if_neg (by omega)]
  exact h.2 t i k (by omega)
def LwC (S : Sto) (T : Tp) (n : Nat) (x : Option (Option av × Sto)) (res : Sum Nat (List Cl × Ps)) : Prop := ∃ S', LF5 n S S' ∧ S'.1 24 0 1 = nI 0 ∧ (match res with
  | Sum.inl f => x = some (some (vI (-nI 2 - nI f)), S') ∧ S'.1 0 0 5 = nI n
  | Sum.inr y => x = some (some (vI (nI n)), S') ∧ S'.1 0 0 5 = nI (n + 1) ∧ RepLC S' n (lwOf y.1 y.2.2.2))
theorem law_ok {T : Tp} (hK : TpK T) : LwO T (pLw T 13 [] (0, 0, [])) := pLw_ok hK 12 [] (0, 0, []) rfl ⟨Nat.zero_le _, by decide, by decide⟩ (fun c hc => by cases hc)
theorem c_law6 {S : Sto} (hn : S.1 0 0 5 = nI 6) : call 103 0 [vR 0 0] S = some (some (vI (-nI 1)), S) := by
  show run 103 0 0 [vR 0 0, vU] [] S = _
  have e9 : (-1 : Int32) = -nI 1 := rfl
  simp (disch := omega) only [s103_0, s103_1, s103_4, s103_6, s103_9, s103_10, s103_11, s103_12, s103_15, s103_16, s103_19, s103_20, s103_23, s103_24, s103_27, s103_28, s103_29, s103_32, s103_33, s103_36, s103_37, s103_40, s103_42, s103_43, s103_44, s103_47, s103_48, s103_49, s103_52, s103_53, s103_54, s103_55, s103_58, q_0, q_1, q_2, q_3, q_4, q_5, q_6, q_7, q_8, q_9, q_10, q_11, q_12, q_13, q_14, q_16, q_20, q_23, q_24, q_32, q_42, q_43, q_45, q_47, q_48, q_50, q_57, q_59, q_60, q_61, q_62, q_63, q_64, q_66, q_91, q_93, q_97, q_99, q_122, q_144, q_255, q_256, q_300, q_380, q_400, q_620, q_999, q_1000, q_4095, q_4096, q_9999, q_65536, q_99999, q_31, nI_add, pk_mul, nE, nL, nT, nM31, nShl, ib_nI, nI_clamp, bI_n0, bI_n1, bI_nar, uI_r, uI_l, uL_r, uL_i, uL_p, uA_r, uA_l, bV_some, bU_some, nar_n0, nar_n1, and_self, and_true, true_and, and_false, false_and, if_true, if_false, eq_self, Bool.false_eq_true, Bool.true_eq_false, not_true_eq_false, not_false_eq_true, ↓reduceIte, nlT, nlF, ntT, ntF, neT, neF, ieT, ieF, decide_true, decide_false, Bool.not_true, Bool.not_false, Bool.and_true, Bool.true_and, Bool.and_false, Bool.false_and, Bool.or_true, Bool.true_or, Bool.or_false, Bool.false_or, hn, e9]
theorem c_law {S : Sto} {T : Tp} {n : Nat} (hK : TpK T) (hT : TpC S T) (hn : S.1 0 0 5 = nI n) (h6 : n < 6) : LwC S T n (call 103 0 [vR 0 0] S) (pLw T 13 [] (0, 0, [])) := by
  have hK1 := hK.1
  obtain ⟨f, S1, a1, a2, a3⟩ := x_readAs (r := n) hK hT
  have hn1 : S1.1 0 0 5 = nI n := by rw [a2.2 0 0 5 (by omega)]; exact hn
  have hm := law_ok hK
  have e2 : (-2 : Int32) = -nI 2 := rfl
  have hF : LF n S (uI S1 24 0 1 (nI 0)) := a2.u (Or.inl rfl)
  show LwC S T n (run 103 0 0 [vR 0 0, vU] [] S) _
  have s1 : run 103 0 0 [vR 0 0, vU] [] S = run 103 0 36 [vR 0 0, vI (nI f)] [] (uI S1 24 0 1 (nI 0)) := by
    simp (disch := omega) only [s103_0, s103_1, s103_4, s103_6, s103_11, s103_12, s103_15, s103_16, s103_19, s103_20, s103_23, s103_24, s103_27, s103_28, s103_29, s103_32, s103_33, q_0, q_1, q_2, q_3, q_4, q_5, q_6, q_7, q_8, q_9, q_10, q_11, q_12, q_13, q_14, q_16, q_20, q_23, q_24, q_32, q_42, q_43, q_45, q_47, q_48, q_50, q_57, q_59, q_60, q_61, q_62, q_63, q_64, q_66, q_91, q_93, q_97, q_99, q_122, q_144, q_255, q_256, q_300, q_380, q_400, q_620, q_999, q_1000, q_4095, q_4096, q_9999, q_65536, q_99999, q_31, nI_add, pk_mul, nE, nL, nT, nM31, nShl, ib_nI, nI_clamp, bI_n0, bI_n1, bI_nar, uI_r, uI_l, uL_r, uL_i, uL_p, uA_r, uA_l, bV_some, bU_some, nar_n0, nar_n1, and_self, and_true, true_and, and_false, false_and, if_true, if_false, eq_self, Bool.false_eq_true, Bool.true_eq_false, not_true_eq_false, not_false_eq_true, ↓reduceIte, nlT, nlF, ntT, ntF, neT, neF, ieT, ieF, decide_true, decide_false, Bool.not_true, Bool.not_false, Bool.and_true, Bool.true_and, Bool.and_false, Bool.false_and, Bool.or_true, Bool.true_or, Bool.or_false, Bool.false_or, hn, a1, Nat.zero_add]
  rw [s1]
  cases er : pLw T 13 [] (0, 0, []) with
  | inl g =>
    rw [er] at a3 hm
    have a3' : f = g := a3
    have hm' : Bf T g := hm
    have hm1 := hm'.1
    have hm2 := hm'.2
    rw [a3']
    refine ⟨uI S1 24 0 1 (nI 0), hF.f5, by rw [uI_r, if_pos ⟨rfl, rfl, rfl⟩], ?_, by rw [uI_r, if_neg (by omega)]; exact hn1⟩
    simp (disch := omega) only [s103_36, s103_37, s103_40, s103_42, s103_43, s103_44, s103_58, q_0, q_1, q_2, q_3, q_4, q_5, q_6, q_7, q_8, q_9, q_10, q_11, q_12, q_13, q_14, q_16, q_20, q_23, q_24, q_32, q_42, q_43, q_45, q_47, q_48, q_50, q_57, q_59, q_60, q_61, q_62, q_63, q_64, q_66, q_91, q_93, q_97, q_99, q_122, q_144, q_255, q_256, q_300, q_380, q_400, q_620, q_999, q_1000, q_4095, q_4096, q_9999, q_65536, q_99999, q_31, nI_add, pk_mul, nE, nL, nT, nM31, nShl, ib_nI, nI_clamp, bI_n0, bI_n1, bI_nar, uI_r, uI_l, uL_r, uL_i, uL_p, uA_r, uA_l, bV_some, bU_some, nar_n0, nar_n1, and_self, and_true, true_and, and_false, false_and, if_true, if_false, eq_self, Bool.false_eq_true, Bool.true_eq_false, not_true_eq_false, not_false_eq_true, ↓reduceIte, nlT, nlF, ntT, ntF, neT, neF, ieT, ieF, decide_true, decide_false, Bool.not_true, Bool.not_false, Bool.and_true, Bool.true_and, Bool.and_false, Bool.false_and, Bool.or_true, Bool.true_or, Bool.or_false, Bool.false_or, e2]
  | inr y =>
    rw [er] at a3
    have a3' : f = 0 ∧ RepLC S1 n (lwOf y.1 y.2.2.2) := a3
    rw [a3'.1]
    refine ⟨uI (uI S1 24 0 1 (nI 0)) 0 0 5 (nI (n + 1)), hF.f6 _, by rw [uI_r, if_neg (by omega), uI_r, if_pos ⟨rfl, rfl, rfl⟩], ?_, by rw [uI_r, if_pos ⟨rfl, rfl, rfl⟩], a3'.2.fr (fun t h1 h2 => ?_)⟩
    · simp (disch := omega) only [s103_36, s103_37, s103_47, s103_48, s103_49, s103_52, s103_53, s103_54, s103_55, s103_58, q_0, q_1, q_2, q_3, q_4, q_5, q_6, q_7, q_8, q_9, q_10, q_11, q_12, q_13, q_14, q_16, q_20, q_23, q_24, q_32, q_42, q_43, q_45, q_47, q_48, q_50, q_57, q_59, q_60, q_61, q_62, q_63, q_64, q_66, q_91, q_93, q_97, q_99, q_122, q_144, q_255, q_256, q_300, q_380, q_400, q_620, q_999, q_1000, q_4095, q_4096, q_9999, q_65536, q_99999, q_31, nI_add, pk_mul, nE, nL, nT, nM31, nShl, ib_nI, nI_clamp, bI_n0, bI_n1, bI_nar, uI_r, uI_l, uL_r, uL_i, uL_p, uA_r, uA_l, bV_some, bU_some, nar_n0, nar_n1, and_self, and_true, true_and, and_false, false_and, if_true, if_false, eq_self, Bool.false_eq_true, Bool.true_eq_false, not_true_eq_false, not_false_eq_true, ↓reduceIte, nlT, nlF, ntT, ntF, neT, neF, ieT, ieF, decide_true, decide_false, Bool.not_true, Bool.not_false, Bool.and_true, Bool.true_and, Bool.and_false, Bool.false_and, Bool.or_true, Bool.true_or, Bool.or_false, Bool.false_or, hn1]
    · funext k
      rw [uI_r, if_neg (by omega), uI_r, if_neg (by omega)]
