/-! years, runs -/
def pD (t i : Nat) : Bool := pcP t i || t == 44
def FD (S S' : Sto) : Prop := (Fr pD S S' ∧ S'.1 0 0 5 = S.1 0 0 5) ∧ Z44 S'
theorem pD_f {t i : Nat} (h : (17 ≤ t ∧ t ≤ 22) ∨ t = 15 ∨ t = 24 ∨ t = 25 ∨ 47 ≤ t ∨ (1 ≤ t ∧ t ≤ 13 ∧ 2 ≤ i)) : pD t i = false := by
  unfold pD
  rw [pcP_f (by omega), Bool.false_or]
  simp
  omega
theorem ResC.fd {S S' : Sto} {R : Rs} (h : ResC S R) (hf : FD S S') : ResC S' R := by
  obtain ⟨h1, h2, h3, h4⟩ := h
  obtain ⟨⟨f1, f2⟩, f3⟩ := hf
  refine ⟨fun k hk => ⟨?_, fun hm => ?_⟩, ⟨?_, fun r hr => ?_⟩, ⟨?_, fun i hi => ?_⟩, f3⟩
  · rw [f1.i (pD_f (by omega))]; exact (h1 k hk).1
  · exact ((h1 k hk).2 hm).fr f1 (fun t a b => pD_f (by omega))
  · rw [f2]; exact h2.1
  · exact (h2.2 r hr).fr (fun t a b => (f1 t r (pD_f (by omega))).1)
  · rw [f1.i (pD_f (by omega))]; exact h3.1
  · rw [f1.i (pD_f (by omega))]; exact h3.2 i hi
theorem RepM.fd {S S' : Sto} {A : Tn} (h : RepM S A) (hf : FD S S') : RepM S' A := h.fr hf.1.1 (fun t a b => pD_f (by omega))
theorem ResM.fd {S S' : Sto} {R : Rs} (h : ResM S R) (hf : FD S S') : ResM S' R := by
  obtain ⟨h1, h2, h3, h4⟩ := h
  have e : ∀ t k, 50 ≤ t → S'.1 t 0 k = S.1 t 0 k := fun t k ht => hf.1.1.i (pD_f (by omega)) k
  refine ⟨fun k hk => ⟨?_, fun hm f i a b => ?_⟩, ⟨?_, fun r hr => ?_⟩, ⟨?_, fun i hi => ?_⟩, ?_⟩
  · rw [e _ _ (by omega)]; exact (h1 k hk).1
  · rw [e _ _ (by omega)]; exact (h1 k hk).2 hm f i a b
  · rw [e _ _ (by omega)]; exact h2.1
  · exact (h2.2 r hr).fr (fun t a b => funext fun k => e t k (by omega))
  · rw [e _ _ (by omega)]; exact h3.1
  · rw [e _ _ (by omega)]; exact h3.2 i hi
  · rw [e _ _ (by omega)]; exact h4
theorem sl_mkD {S : Sto} {A A' : Tn} {R : Rs} {kc km : Nat} {as : List av} {v : Int32} (h : Inv S A R) (hc : ∃ S1, call kc 0 (vR 0 0 :: as) S = some (some (vI v), S1) ∧ FD S S1 ∧ RepC S1 0 A') (hm : ∀ S1, RepM S1 A → ResM S1 R → ∃ S2, call km 0 (vR 50 0 :: as) S1 = some (some (vI v), S2) ∧ FM S1 S2 ∧ RepM S2 A') (hw : WF A') : Sl S kc km as := by
  obtain ⟨S1, c1, c2, c3⟩ := hc
  obtain ⟨S2, m1, m2, m3⟩ := hm S1 (h.2.2.1.fd c2) (h.2.2.2.1.fd c2)
  exact ⟨v, S1, S2, c1, m1, A', R, c3.fm m2, (h.2.1.fd c2).fm m2, m3, (h.2.2.2.1.fd c2).fm m2, hw, h.2.2.2.2.2⟩
theorem FD.rf {S : Sto} {R : Rs} (h : ResC S R) : FD S S := ⟨⟨Fr.rfl', rfl⟩, h.2.2.2⟩
/-- frames of the trials -/
def pR : Nat → Nat → Bool := fun t i => pT 1 t i || pL [23, 26, 27, 28, 29, 44, 45, 46] t i
theorem pR_f {t i : Nat} (h : (1 ≤ t ∧ t ≤ 13 ∧ i ≠ 1) ∨ t = 0 ∨ (14 ≤ t ∧ t ≠ 23 ∧ t ≠ 26 ∧ t ≠ 27 ∧ t ≠ 28 ∧ t ≠ 29 ∧ t ≠ 44 ∧ t ≠ 45 ∧ t ≠ 46)) : pR t i = false := by
  unfold pR pT pL
  simp
  omega
theorem Fr.rt {S S' : Sto} (h : Fr (pT 1) S S') : Fr pR S S' := h.mn (fun t i e => by
  unfold pR at e
  simp only [Bool.or_eq_false_iff] at e
  exact e.1)
theorem Fr.rl {S S' : Sto} {L : List Nat} (h : Fr (pL L) S S') (hL : ∀ t, t ∈ L → t ∈ [23, 26, 27, 28, 29, 44, 45, 46]) : Fr pR S S' := (h.pl hL).mn (fun t i e => by
  unfold pR at e
  simp only [Bool.or_eq_false_iff] at e
  exact e.2)
theorem Fr.ry {S S' : Sto} (h : Fr (pY 1) S S') : Fr pR S S' := h.mn (fun t i e => by
  unfold pR at e
  unfold pY
  simp only [Bool.or_eq_false_iff] at e ⊢
  refine ⟨e.1, ?_⟩
  have := e.2
  simp [pL] at this ⊢
  omega)
theorem pY_d {q t i : Nat} (hq : q ≤ 1) (h : pD t i = false) : pY q t i = false := by
  unfold pD pcP at h
  unfold pY pT pL
  simp at h ⊢
  omega
theorem pR_d {t i : Nat} (h : pD t i = false) : pR t i = false := by
  unfold pD pcP at h
  unfold pR pT pL
  simp at h ⊢
  omega
theorem yr_v {n : Int32} (h1 : ¬ n < nI 1) {m : Nat} (hm : m < 2 ^ 31) (h2 : ¬ nI m < n) : ∃ k, 1 ≤ k ∧ k ≤ m ∧ n = nI k := by
  have e1 : (nI 1 : Int32).toInt = 1 := by decide
  rw [Int32.lt_iff_toInt_lt, e1] at h1
  rw [Int32.lt_iff_toInt_lt, nI_toInt hm] at h2
  refine ⟨n.toInt.toNat, by omega, by omega, ?_⟩
  apply Int32.toInt_inj.mp
  rw [nI_toInt (by omega)]
  omega
def o_years (A : Tn) (R : Rs) (l n : Int32) : Int32 × Tn := if lsB l R.2.1.1 = true ∧ ¬ n < nI 1 ∧ ¬ nI 60 < n ∧ ¬ nI 9999 < nI (A 0 4) + n then (nI (fsN (fun k => ysF (R.2.1.2 l.toNatClampNeg) n.toNatClampNeg A 5 k) 144 / 2), ysF (R.2.1.2 l.toNatClampNeg) n.toNatClampNeg A) else (-nI 1, A)
theorem yr_le (x : Int32) (m : Nat) : (x ≤ nI m) = ¬ nI m < x := propext Int32.not_lt.symm
theorem c_years {S : Sto} {A : Tn} {R : Rs} (h : RepC S 0 A) (hr : ResC S R) (hw : WF A) (hR : WFR R) (l n : Int32) : ∃ S1, call 130 0 [vR 0 0, vI l, vI n] S = some (some (vI (o_years A R l n).1), S1) ∧ FD S S1 ∧ RepC S1 0 (o_years A R l n).2 ∧ WF (o_years A R l n).2 := by
  have hR6 := hR.2.1.1
  show ∃ S1, run 130 0 0 [vR 0 0, vI l, vI n] [] S = _ ∧ _
  unfold o_years
  cases e1 : lsB l R.2.1.1 with
  | false =>
    simp (disch := omega) only [s130_0, s130_1, s130_2, s130_5, s130_8, s130_9, s130_10, s130_13, s130_14, s130_16, s130_19, s130_20, s130_23, s130_26, s130_27, s130_28, s130_31, s130_34, s130_35, s130_36, s130_37, s130_40, s130_41, s130_44, s130_45, s130_48, s130_49, s130_50, s130_51, s130_54, s130_55, s130_58, s130_61, q_0, q_1, q_2, q_3, q_4, q_5, q_6, q_7, q_8, q_9, q_10, q_11, q_12, q_13, q_14, q_16, q_20, q_23, q_24, q_32, q_42, q_43, q_45, q_47, q_48, q_50, q_57, q_59, q_60, q_61, q_62, q_63, q_64, q_66, q_91, q_93, q_97, q_99, q_122, q_144, q_255, q_256, q_300, q_380, q_400, q_620, q_999, q_1000, q_4095, q_4096, q_9999, q_65536, q_99999, q_31, nI_add, pk_mul, nE, nL, nT, nM31, nShl, ib_nI, nI_clamp, bI_n0, bI_n1, bI_nar, uI_r, uI_l, uL_r, uL_i, uL_p, uA_r, uA_l, bV_some, bU_some, nar_n0, nar_n1, and_self, and_true, true_and, and_false, false_and, if_true, if_false, eq_self, Bool.false_eq_true, Bool.true_eq_false, not_true_eq_false, not_false_eq_true, ↓reduceIte, nlT, nlF, ntT, ntF, neT, neF, ieT, ieF, decide_true, decide_false, Bool.not_true, Bool.not_false, Bool.and_true, Bool.true_and, Bool.and_false, Bool.false_and, Bool.or_true, Bool.true_or, Bool.or_false, Bool.false_or, x_isLw hr, e1]
    exact ⟨_, rfl, FD.rf hr, h, hw⟩
  | true =>
    have e1' := e1
    obtain ⟨r, hr', rfl⟩ := lsB_t e1 (by omega)
    by_cases c1 : n < nI 1
    · simp (disch := omega) only [s130_0, s130_1, s130_2, s130_5, s130_8, s130_9, s130_10, s130_13, s130_14, s130_16, s130_19, s130_20, s130_23, s130_26, s130_27, s130_28, s130_31, s130_34, s130_35, s130_36, s130_37, s130_40, s130_41, s130_44, s130_45, s130_48, s130_49, s130_50, s130_51, s130_54, s130_55, s130_58, s130_61, q_0, q_1, q_2, q_3, q_4, q_5, q_6, q_7, q_8, q_9, q_10, q_11, q_12, q_13, q_14, q_16, q_20, q_23, q_24, q_32, q_42, q_43, q_45, q_47, q_48, q_50, q_57, q_59, q_60, q_61, q_62, q_63, q_64, q_66, q_91, q_93, q_97, q_99, q_122, q_144, q_255, q_256, q_300, q_380, q_400, q_620, q_999, q_1000, q_4095, q_4096, q_9999, q_65536, q_99999, q_31, nI_add, pk_mul, nE, nL, nT, nM31, nShl, ib_nI, nI_clamp, bI_n0, bI_n1, bI_nar, uI_r, uI_l, uL_r, uL_i, uL_p, uA_r, uA_l, bV_some, bU_some, nar_n0, nar_n1, and_self, and_true, true_and, and_false, false_and, if_true, if_false, eq_self, Bool.false_eq_true, Bool.true_eq_false, not_true_eq_false, not_false_eq_true, ↓reduceIte, nlT, nlF, ntT, ntF, neT, neF, ieT, ieF, decide_true, decide_false, Bool.not_true, Bool.not_false, Bool.and_true, Bool.true_and, Bool.and_false, Bool.false_and, Bool.or_true, Bool.true_or, Bool.or_false, Bool.false_or, x_isLw hr, e1', c1]
      exact ⟨_, rfl, FD.rf hr, h, hw⟩
    · by_cases c2 : nI 60 < n
      · simp (disch := omega) only [s130_0, s130_1, s130_2, s130_5, s130_8, s130_9, s130_10, s130_13, s130_14, s130_16, s130_19, s130_20, s130_23, s130_26, s130_27, s130_28, s130_31, s130_34, s130_35, s130_36, s130_37, s130_40, s130_41, s130_44, s130_45, s130_48, s130_49, s130_50, s130_51, s130_54, s130_55, s130_58, s130_61, q_0, q_1, q_2, q_3, q_4, q_5, q_6, q_7, q_8, q_9, q_10, q_11, q_12, q_13, q_14, q_16, q_20, q_23, q_24, q_32, q_42, q_43, q_45, q_47, q_48, q_50, q_57, q_59, q_60, q_61, q_62, q_63, q_64, q_66, q_91, q_93, q_97, q_99, q_122, q_144, q_255, q_256, q_300, q_380, q_400, q_620, q_999, q_1000, q_4095, q_4096, q_9999, q_65536, q_99999, q_31, nI_add, pk_mul, nE, nL, nT, nM31, nShl, ib_nI, nI_clamp, bI_n0, bI_n1, bI_nar, uI_r, uI_l, uL_r, uL_i, uL_p, uA_r, uA_l, bV_some, bU_some, nar_n0, nar_n1, and_self, and_true, true_and, and_false, false_and, if_true, if_false, eq_self, Bool.false_eq_true, Bool.true_eq_false, not_true_eq_false, not_false_eq_true, ↓reduceIte, nlT, nlF, ntT, ntF, neT, neF, ieT, ieF, decide_true, decide_false, Bool.not_true, Bool.not_false, Bool.and_true, Bool.true_and, Bool.and_false, Bool.false_and, Bool.or_true, Bool.true_or, Bool.or_false, Bool.false_or, x_isLw hr, e1', c1, c2]
        exact ⟨_, rfl, FD.rf hr, h, hw⟩
      · obtain ⟨k, k1, k2, rfl⟩ := yr_v c1 (by decide) c2
        rw [nI_clamp (by omega), nI_clamp (by omega), nI_add]
        by_cases c3 : nI 9999 < nI (A 0 4 + k)
        · simp (disch := omega) only [s130_0, s130_1, s130_2, s130_5, s130_8, s130_9, s130_10, s130_13, s130_14, s130_16, s130_19, s130_20, s130_23, s130_26, s130_27, s130_28, s130_31, s130_34, s130_35, s130_36, s130_37, s130_40, s130_41, s130_44, s130_45, s130_48, s130_49, s130_50, s130_51, s130_54, s130_55, s130_58, s130_61, q_0, q_1, q_2, q_3, q_4, q_5, q_6, q_7, q_8, q_9, q_10, q_11, q_12, q_13, q_14, q_16, q_20, q_23, q_24, q_32, q_42, q_43, q_45, q_47, q_48, q_50, q_57, q_59, q_60, q_61, q_62, q_63, q_64, q_66, q_91, q_93, q_97, q_99, q_122, q_144, q_255, q_256, q_300, q_380, q_400, q_620, q_999, q_1000, q_4095, q_4096, q_9999, q_65536, q_99999, q_31, nI_add, pk_mul, nE, nL, nT, nM31, nShl, ib_nI, nI_clamp, bI_n0, bI_n1, bI_nar, uI_r, uI_l, uL_r, uL_i, uL_p, uA_r, uA_l, bV_some, bU_some, nar_n0, nar_n1, and_self, and_true, true_and, and_false, false_and, if_true, if_false, eq_self, Bool.false_eq_true, Bool.true_eq_false, not_true_eq_false, not_false_eq_true, ↓reduceIte, nlT, nlF, ntT, ntF, neT, neF, ieT, ieF, decide_true, decide_false, Bool.not_true, Bool.not_false, Bool.and_true, Bool.true_and, Bool.and_false, Bool.false_and, Bool.or_true, Bool.true_or, Bool.or_false, Bool.false_or, x_isLw hr, e1', h.ye, yr_le, c3]
          exact ⟨_, rfl, FD.rf hr, h, hw⟩
        · obtain ⟨S2, a1, a2, a3, a4, a5, a6⟩ := x_pass (n := k) h hw (hr.2.1.2 r hr') (hR.2.1.2 r hr') hr.2.2.2 (by omega)
          have e2 := x_oddsCount_A a3 a4
          rw [br_odds a4] at e2
          simp (disch := omega) only [s130_0, s130_1, s130_2, s130_5, s130_8, s130_9, s130_10, s130_13, s130_14, s130_16, s130_19, s130_20, s130_23, s130_26, s130_27, s130_28, s130_31, s130_34, s130_35, s130_36, s130_37, s130_40, s130_41, s130_44, s130_45, s130_48, s130_49, s130_50, s130_51, s130_54, s130_55, s130_58, s130_61, q_0, q_1, q_2, q_3, q_4, q_5, q_6, q_7, q_8, q_9, q_10, q_11, q_12, q_13, q_14, q_16, q_20, q_23, q_24, q_32, q_42, q_43, q_45, q_47, q_48, q_50, q_57, q_59, q_60, q_61, q_62, q_63, q_64, q_66, q_91, q_93, q_97, q_99, q_122, q_144, q_255, q_256, q_300, q_380, q_400, q_620, q_999, q_1000, q_4095, q_4096, q_9999, q_65536, q_99999, q_31, nI_add, pk_mul, nE, nL, nT, nM31, nShl, ib_nI, nI_clamp, bI_n0, bI_n1, bI_nar, uI_r, uI_l, uL_r, uL_i, uL_p, uA_r, uA_l, bV_some, bU_some, nar_n0, nar_n1, and_self, and_true, true_and, and_false, false_and, if_true, if_false, eq_self, Bool.false_eq_true, Bool.true_eq_false, not_true_eq_false, not_false_eq_true, ↓reduceIte, nlT, nlF, ntT, ntF, neT, neF, ieT, ieF, decide_true, decide_false, Bool.not_true, Bool.not_false, Bool.and_true, Bool.true_and, Bool.and_false, Bool.false_and, Bool.or_true, Bool.true_or, Bool.or_false, Bool.false_or, x_isLw hr, e1', h.ye, yr_le, c3, Nat.zero_add, a1, e2]
          exact ⟨_, rfl, ⟨⟨a2.mn (fun t i e => pY_d (by decide) e), a2.i rfl 5⟩, a5⟩, a3, a4⟩
theorem m_in1 (S : Sto) (n : Int32) {m : Nat} {b : Int64} (hb : (nI m).toInt64 = b) : call 137 0 [vL n.toInt64, vL 1, vL b] S = some (some (vI (bI (!decide (n < nI 1) && !decide (nI m < n)))), S) := m_inI S n (nI 1) (nI m) (by decide) hb
theorem r_years {S : Sto} {A : Tn} {R : Rs} (h : RepM S A) (hr : ResM S R) (hw : WF A) (hR : WFR R) (l n : Int32) : ∃ S1, call 255 0 [vR 50 0, vI l, vI n] S = some (some (vI (o_years A R l n).1), S1) ∧ FM S S1 ∧ RepM S1 (o_years A R l n).2 := by
  have hR6 := hR.2.1.1
  have hin : ∀ S, call 137 0 [vL n.toInt64, vL 1, vL 60] S = some (some (vI (bI (!decide (n < nI 1) && !decide (nI 60 < n)))), S) := fun S => m_in1 S n (by decide)
  show ∃ S1, run 255 0 0 [vR 50 0, vI l, vI n, vU] [] S = _ ∧ _
  unfold o_years
  cases e1 : lsB l R.2.1.1 with
  | false =>
    simp (disch := omega) only [s255_0, s255_1, s255_2, s255_5, s255_8, s255_9, s255_10, s255_11, s255_14, s255_17, s255_20, s255_21, s255_24, s255_25, s255_26, s255_27, s255_28, s255_31, s255_34, s255_35, s255_36, s255_37, s255_39, s255_40, s255_43, s255_44, s255_45, s255_48, s255_51, s255_54, s255_55, s255_58, q_0, q_1, q_2, q_3, q_4, q_5, q_6, q_7, q_8, q_9, q_10, q_11, q_12, q_13, q_14, q_16, q_20, q_23, q_24, q_32, q_42, q_43, q_45, q_47, q_48, q_50, q_57, q_59, q_60, q_61, q_62, q_63, q_64, q_66, q_91, q_93, q_97, q_99, q_122, q_144, q_255, q_256, q_300, q_380, q_400, q_620, q_999, q_1000, q_4095, q_4096, q_9999, q_65536, q_99999, q_31, nI_add, pk_mul, nE, nL, nT, nM31, nShl, ib_nI, nI_clamp, bI_n0, bI_n1, bI_nar, uI_r, uI_l, uL_r, uL_i, uL_p, uA_r, uA_l, bV_some, bU_some, nar_n0, nar_n1, and_self, and_true, true_and, and_false, false_and, if_true, if_false, eq_self, Bool.false_eq_true, Bool.true_eq_false, not_true_eq_false, not_false_eq_true, ↓reduceIte, nlT, nlF, ntT, ntF, neT, neF, ieT, ieF, decide_true, decide_false, Bool.not_true, Bool.not_false, Bool.and_true, Bool.true_and, Bool.and_false, Bool.false_and, Bool.or_true, Bool.true_or, Bool.or_false, Bool.false_or, m_isLw hr hR6, e1]
    exact ⟨_, rfl, FM.rf, h⟩
  | true =>
    have e1' := e1
    obtain ⟨r, hr', rfl⟩ := lsB_t e1 (by omega)
    by_cases c1 : n < nI 1
    · simp (disch := omega) only [s255_0, s255_1, s255_2, s255_5, s255_8, s255_9, s255_10, s255_11, s255_14, s255_17, s255_20, s255_21, s255_24, s255_25, s255_26, s255_27, s255_28, s255_31, s255_34, s255_35, s255_36, s255_37, s255_39, s255_40, s255_43, s255_44, s255_45, s255_48, s255_51, s255_54, s255_55, s255_58, q_0, q_1, q_2, q_3, q_4, q_5, q_6, q_7, q_8, q_9, q_10, q_11, q_12, q_13, q_14, q_16, q_20, q_23, q_24, q_32, q_42, q_43, q_45, q_47, q_48, q_50, q_57, q_59, q_60, q_61, q_62, q_63, q_64, q_66, q_91, q_93, q_97, q_99, q_122, q_144, q_255, q_256, q_300, q_380, q_400, q_620, q_999, q_1000, q_4095, q_4096, q_9999, q_65536, q_99999, q_31, nI_add, pk_mul, nE, nL, nT, nM31, nShl, ib_nI, nI_clamp, bI_n0, bI_n1, bI_nar, uI_r, uI_l, uL_r, uL_i, uL_p, uA_r, uA_l, bV_some, bU_some, nar_n0, nar_n1, and_self, and_true, true_and, and_false, false_and, if_true, if_false, eq_self, Bool.false_eq_true, Bool.true_eq_false, not_true_eq_false, not_false_eq_true, ↓reduceIte, nlT, nlF, ntT, ntF, neT, neF, ieT, ieF, decide_true, decide_false, Bool.not_true, Bool.not_false, Bool.and_true, Bool.true_and, Bool.and_false, Bool.false_and, Bool.or_true, Bool.true_or, Bool.or_false, Bool.false_or, m_isLw hr hR6, e1', hin, c1]
      exact ⟨_, rfl, FM.rf, h⟩
    · by_cases c2 : nI 60 < n
      · simp (disch := omega) only [s255_0, s255_1, s255_2, s255_5, s255_8, s255_9, s255_10, s255_11, s255_14, s255_17, s255_20, s255_21, s255_24, s255_25, s255_26, s255_27, s255_28, s255_31, s255_34, s255_35, s255_36, s255_37, s255_39, s255_40, s255_43, s255_44, s255_45, s255_48, s255_51, s255_54, s255_55, s255_58, q_0, q_1, q_2, q_3, q_4, q_5, q_6, q_7, q_8, q_9, q_10, q_11, q_12, q_13, q_14, q_16, q_20, q_23, q_24, q_32, q_42, q_43, q_45, q_47, q_48, q_50, q_57, q_59, q_60, q_61, q_62, q_63, q_64, q_66, q_91, q_93, q_97, q_99, q_122, q_144, q_255, q_256, q_300, q_380, q_400, q_620, q_999, q_1000, q_4095, q_4096, q_9999, q_65536, q_99999, q_31, nI_add, pk_mul, nE, nL, nT, nM31, nShl, ib_nI, nI_clamp, bI_n0, bI_n1, bI_nar, uI_r, uI_l, uL_r, uL_i, uL_p, uA_r, uA_l, bV_some, bU_some, nar_n0, nar_n1, and_self, and_true, true_and, and_false, false_and, if_true, if_false, eq_self, Bool.false_eq_true, Bool.true_eq_false, not_true_eq_false, not_false_eq_true, ↓reduceIte, nlT, nlF, ntT, ntF, neT, neF, ieT, ieF, decide_true, decide_false, Bool.not_true, Bool.not_false, Bool.and_true, Bool.true_and, Bool.and_false, Bool.false_and, Bool.or_true, Bool.true_or, Bool.or_false, Bool.false_or, m_isLw hr hR6, e1', hin, c1, c2]
        exact ⟨_, rfl, FM.rf, h⟩
      · obtain ⟨k, k1, k2, rfl⟩ := yr_v c1 (by decide) c2
        rw [nI_clamp (by omega), nI_clamp (by omega), nI_add]
        have hL := hr.2.1.2 r hr'
        have hl := hR.2.1.2 r hr'
        generalize R.2.1.2 r = L at hL hl ⊢
        by_cases c3 : nI 9999 < nI (A 0 4 + k)
        · simp (disch := omega) only [s255_0, s255_1, s255_2, s255_5, s255_8, s255_9, s255_10, s255_11, s255_14, s255_17, s255_20, s255_21, s255_24, s255_25, s255_26, s255_27, s255_28, s255_31, s255_34, s255_35, s255_36, s255_37, s255_39, s255_40, s255_43, s255_44, s255_45, s255_48, s255_51, s255_54, s255_55, s255_58, q_0, q_1, q_2, q_3, q_4, q_5, q_6, q_7, q_8, q_9, q_10, q_11, q_12, q_13, q_14, q_16, q_20, q_23, q_24, q_32, q_42, q_43, q_45, q_47, q_48, q_50, q_57, q_59, q_60, q_61, q_62, q_63, q_64, q_66, q_91, q_93, q_97, q_99, q_122, q_144, q_255, q_256, q_300, q_380, q_400, q_620, q_999, q_1000, q_4095, q_4096, q_9999, q_65536, q_99999, q_31, nI_add, pk_mul, nE, nL, nT, nM31, nShl, ib_nI, nI_clamp, bI_n0, bI_n1, bI_nar, uI_r, uI_l, uL_r, uL_i, uL_p, uA_r, uA_l, bV_some, bU_some, nar_n0, nar_n1, and_self, and_true, true_and, and_false, false_and, if_true, if_false, eq_self, Bool.false_eq_true, Bool.true_eq_false, not_true_eq_false, not_false_eq_true, ↓reduceIte, nlT, nlF, ntT, ntF, neT, neF, ieT, ieF, decide_true, decide_false, Bool.not_true, Bool.not_false, Bool.and_true, Bool.true_and, Bool.and_false, Bool.false_and, Bool.or_true, Bool.true_or, Bool.or_false, Bool.false_or, m_isLw hr hR6, e1', hin, h.sc, yr_le, c3]
          exact ⟨_, rfl, FM.rf, h⟩
        · simp (disch := omega) only [s255_0, s255_1, s255_2, s255_5, s255_8, s255_9, s255_10, s255_11, s255_14, s255_17, s255_20, s255_21, s255_24, s255_25, s255_26, s255_27, s255_28, s255_31, s255_34, s255_35, s255_36, s255_37, s255_39, s255_40, s255_43, s255_44, s255_45, s255_48, s255_51, s255_54, s255_55, s255_58, q_0, q_1, q_2, q_3, q_4, q_5, q_6, q_7, q_8, q_9, q_10, q_11, q_12, q_13, q_14, q_16, q_20, q_23, q_24, q_32, q_42, q_43, q_45, q_47, q_48, q_50, q_57, q_59, q_60, q_61, q_62, q_63, q_64, q_66, q_91, q_93, q_97, q_99, q_122, q_144, q_255, q_256, q_300, q_380, q_400, q_620, q_999, q_1000, q_4095, q_4096, q_9999, q_65536, q_99999, q_31, nI_add, pk_mul, nE, nL, nT, nM31, nShl, ib_nI, nI_clamp, bI_n0, bI_n1, bI_nar, uI_r, uI_l, uL_r, uL_i, uL_p, uA_r, uA_l, bV_some, bU_some, nar_n0, nar_n1, and_self, and_true, true_and, and_false, false_and, if_true, if_false, eq_self, Bool.false_eq_true, Bool.true_eq_false, not_true_eq_false, not_false_eq_true, ↓reduceIte, nlT, nlF, ntT, ntF, neT, neF, ieT, ieF, decide_true, decide_false, Bool.not_true, Bool.not_false, Bool.and_true, Bool.true_and, Bool.and_false, Bool.false_and, Bool.or_true, Bool.true_or, Bool.or_false, Bool.false_or, m_isLw hr hR6, e1', hin, h.sc, yr_le, c3]
          have key := upS (σ := Sto × Tn) (I := fun i s => ysF L (k - i) s.2 = ysF L k A ∧ JM S A s.1 s.2) (F := fun i s => run 255 0 38 [vR 50 0, vI (nI r), vI (nI k), vI (nI i)] [] s.1) (Q := fun x => ∃ S', x = some (some (vI (nI (fsN (fun j => ysF L k A 5 j) 144 / 2))), S') ∧ FM S S' ∧ RepM S' (ysF L k A)) (N := k) ?_ ?_ 0 (S, A) (by omega) ⟨rfl, Fr.rfl', h, hw, fun _ _ _ _ => rfl⟩
          · exact key
          · intro i s hi hI
            obtain ⟨S2, B⟩ := s
            obtain ⟨i1, hJ2⟩ := hI
            simp only at i1 hJ2
            obtain ⟨S3, d1, d2⟩ := m_year (r := r) (by omega) hL hl hJ2
            have hab : k - i = (k - (i + 1)) + 1 := by omega
            rw [hab, ysF_s] at i1
            refine Or.inr ⟨(S3, yr B L), ⟨i1, d2⟩, ?_⟩
            show run 255 0 38 _ _ _ = run 255 0 38 _ _ _
            rw [s255_38]
            simp (disch := omega) only [s255_0, s255_1, s255_2, s255_5, s255_8, s255_9, s255_10, s255_11, s255_14, s255_17, s255_20, s255_21, s255_24, s255_25, s255_26, s255_27, s255_28, s255_31, s255_34, s255_35, s255_36, s255_37, s255_39, s255_40, s255_43, s255_44, s255_45, s255_48, s255_51, s255_54, s255_55, s255_58, q_0, q_1, q_2, q_3, q_4, q_5, q_6, q_7, q_8, q_9, q_10, q_11, q_12, q_13, q_14, q_16, q_20, q_23, q_24, q_32, q_42, q_43, q_45, q_47, q_48, q_50, q_57, q_59, q_60, q_61, q_62, q_63, q_64, q_66, q_91, q_93, q_97, q_99, q_122, q_144, q_255, q_256, q_300, q_380, q_400, q_620, q_999, q_1000, q_4095, q_4096, q_9999, q_65536, q_99999, q_31, nI_add, pk_mul, nE, nL, nT, nM31, nShl, ib_nI, nI_clamp, bI_n0, bI_n1, bI_nar, uI_r, uI_l, uL_r, uL_i, uL_p, uA_r, uA_l, bV_some, bU_some, nar_n0, nar_n1, and_self, and_true, true_and, and_false, false_and, if_true, if_false, eq_self, Bool.false_eq_true, Bool.true_eq_false, not_true_eq_false, not_false_eq_true, ↓reduceIte, nlT, nlF, ntT, ntF, neT, neF, ieT, ieF, decide_true, decide_false, Bool.not_true, Bool.not_false, Bool.and_true, Bool.true_and, Bool.and_false, Bool.false_and, Bool.or_true, Bool.true_or, Bool.or_false, Bool.false_or, d1]
          · intro s hI
            obtain ⟨S2, B⟩ := s
            obtain ⟨i1, f1, f2, f3, f4⟩ := hI
            simp only at i1 f1 f2 f3 f4
            rw [Nat.sub_self] at i1
            have i1' : B = ysF L k A := i1
            rw [← i1']
            show ∃ S3, run 255 0 38 _ _ _ = _ ∧ _
            rw [s255_38]
            simp (disch := omega) only [s255_0, s255_1, s255_2, s255_5, s255_8, s255_9, s255_10, s255_11, s255_14, s255_17, s255_20, s255_21, s255_24, s255_25, s255_26, s255_27, s255_28, s255_31, s255_34, s255_35, s255_36, s255_37, s255_39, s255_40, s255_43, s255_44, s255_45, s255_48, s255_51, s255_54, s255_55, s255_58, q_0, q_1, q_2, q_3, q_4, q_5, q_6, q_7, q_8, q_9, q_10, q_11, q_12, q_13, q_14, q_16, q_20, q_23, q_24, q_32, q_42, q_43, q_45, q_47, q_48, q_50, q_57, q_59, q_60, q_61, q_62, q_63, q_64, q_66, q_91, q_93, q_97, q_99, q_122, q_144, q_255, q_256, q_300, q_380, q_400, q_620, q_999, q_1000, q_4095, q_4096, q_9999, q_65536, q_99999, q_31, nI_add, pk_mul, nE, nL, nT, nM31, nShl, ib_nI, nI_clamp, bI_n0, bI_n1, bI_nar, uI_r, uI_l, uL_r, uL_i, uL_p, uA_r, uA_l, bV_some, bU_some, nar_n0, nar_n1, and_self, and_true, true_and, and_false, false_and, if_true, if_false, eq_self, Bool.false_eq_true, Bool.true_eq_false, not_true_eq_false, not_false_eq_true, ↓reduceIte, nlT, nlF, ntT, ntF, neT, neF, ieT, ieF, decide_true, decide_false, Bool.not_true, Bool.not_false, Bool.and_true, Bool.true_and, Bool.and_false, Bool.false_and, Bool.or_true, Bool.true_or, Bool.or_false, Bool.false_or, m_allQ f2 f3]
            exact ⟨_, rfl, FM.pl f1 (by decide), f2⟩
def scB (B : Tn) (L : Lw) : Bool := ex (fun w => caB B L w) (B 0 2)
theorem x_someCan {S : Sto} {q : Nat} {A : Tn} {r : Nat} {L : Lw} (h : RepC S q A) (hw : WF A) (hL : RepLC S r L) (hl : WFL L) : ∃ S', call 26 0 [vR 26 0, vR 1 q, vR 17 r] S = some (some (vI (bI (scB A L))), S') ∧ Fr (pL [23, 26, 27, 28, 29]) S S' := by
  have hWk := hw.wk
  show ∃ S', run 26 0 0 [vR 26 0, vR 1 q, vR 17 r, vU] [] S = _ ∧ _
  simp only [s26_0, s26_1]
  have key := upS (σ := Sto) (I := fun i S1 => ex (fun w => caB A L w) i = false ∧ Fr (pL [23, 26, 27, 28, 29]) S S1) (F := fun i S1 => run 26 0 2 [vR 26 0, vR 1 q, vR 17 r, vI (nI i)] [] S1) (Q := fun x => ∃ S', x = some (some (vI (bI (scB A L))), S') ∧ Fr (pL [23, 26, 27, 28, 29]) S S') (N := A 0 2) ?_ ?_ 0 S (by omega) ⟨rfl, Fr.rfl'⟩
  · exact key
  · intro i S1 hi hI
    obtain ⟨i1, i2⟩ := hI
    have h1 := h.pl i2 (by decide)
    obtain ⟨S2, a1, a2, _⟩ := x_canBe h1 hw (hL.pl i2 (by decide)) hl hi
    show (∃ S', run 26 0 2 _ _ _ = _ ∧ _) ∨ ∃ s', _ ∧ run 26 0 2 _ _ _ = run 26 0 2 _ _ _
    rw [s26_2]
    cases c : caB A L i with
    | false =>
      rw [c] at a1
      refine Or.inr ⟨S2, ⟨?_, i2.tr a2⟩, ?_⟩
      · show (ex _ i || caB A L i) = false
        rw [i1, c]
        rfl
      · simp (disch := omega) only [s26_0, s26_1, s26_3, s26_4, s26_7, s26_10, s26_11, s26_12, s26_13, s26_14, s26_17, s26_20, s26_21, s26_22, s26_25, s26_28, s26_29, q_0, q_1, q_2, q_3, q_4, q_5, q_6, q_7, q_8, q_9, q_10, q_11, q_12, q_13, q_14, q_16, q_20, q_23, q_24, q_32, q_42, q_43, q_45, q_47, q_48, q_50, q_57, q_59, q_60, q_61, q_62, q_63, q_64, q_66, q_91, q_93, q_97, q_99, q_122, q_144, q_255, q_256, q_300, q_380, q_400, q_620, q_999, q_1000, q_4095, q_4096, q_9999, q_65536, q_99999, q_31, nI_add, pk_mul, nE, nL, nT, nM31, nShl, ib_nI, nI_clamp, bI_n0, bI_n1, bI_nar, uI_r, uI_l, uL_r, uL_i, uL_p, uA_r, uA_l, bV_some, bU_some, nar_n0, nar_n1, and_self, and_true, true_and, and_false, false_and, if_true, if_false, eq_self, Bool.false_eq_true, Bool.true_eq_false, not_true_eq_false, not_false_eq_true, ↓reduceIte, nlT, nlF, ntT, ntF, neT, neF, ieT, ieF, decide_true, decide_false, Bool.not_true, Bool.not_false, Bool.and_true, Bool.true_and, Bool.and_false, Bool.false_and, Bool.or_true, Bool.true_or, Bool.or_false, Bool.false_or, h1.wk, a1]
    | true =>
      rw [c] at a1
      have e : scB A L = true := ex_mono hi c
      refine Or.inl ?_
      simp (disch := omega) only [s26_0, s26_1, s26_3, s26_4, s26_7, s26_10, s26_11, s26_12, s26_13, s26_14, s26_17, s26_20, s26_21, s26_22, s26_25, s26_28, s26_29, q_0, q_1, q_2, q_3, q_4, q_5, q_6, q_7, q_8, q_9, q_10, q_11, q_12, q_13, q_14, q_16, q_20, q_23, q_24, q_32, q_42, q_43, q_45, q_47, q_48, q_50, q_57, q_59, q_60, q_61, q_62, q_63, q_64, q_66, q_91, q_93, q_97, q_99, q_122, q_144, q_255, q_256, q_300, q_380, q_400, q_620, q_999, q_1000, q_4095, q_4096, q_9999, q_65536, q_99999, q_31, nI_add, pk_mul, nE, nL, nT, nM31, nShl, ib_nI, nI_clamp, bI_n0, bI_n1, bI_nar, uI_r, uI_l, uL_r, uL_i, uL_p, uA_r, uA_l, bV_some, bU_some, nar_n0, nar_n1, and_self, and_true, true_and, and_false, false_and, if_true, if_false, eq_self, Bool.false_eq_true, Bool.true_eq_false, not_true_eq_false, not_false_eq_true, ↓reduceIte, nlT, nlF, ntT, ntF, neT, neF, ieT, ieF, decide_true, decide_false, Bool.not_true, Bool.not_false, Bool.and_true, Bool.true_and, Bool.and_false, Bool.false_and, Bool.or_true, Bool.true_or, Bool.or_false, Bool.false_or, h1.wk, a1, e]
      exact ⟨_, rfl, i2.tr a2⟩
  · intro S1 hI
    obtain ⟨i1, i2⟩ := hI
    have h1 := h.pl i2 (by decide)
    have e : scB A L = false := i1
    show ∃ S', run 26 0 2 _ _ _ = _ ∧ _
    rw [s26_2]
    simp (disch := omega) only [s26_0, s26_1, s26_3, s26_4, s26_7, s26_10, s26_11, s26_12, s26_13, s26_14, s26_17, s26_20, s26_21, s26_22, s26_25, s26_28, s26_29, q_0, q_1, q_2, q_3, q_4, q_5, q_6, q_7, q_8, q_9, q_10, q_11, q_12, q_13, q_14, q_16, q_20, q_23, q_24, q_32, q_42, q_43, q_45, q_47, q_48, q_50, q_57, q_59, q_60, q_61, q_62, q_63, q_64, q_66, q_91, q_93, q_97, q_99, q_122, q_144, q_255, q_256, q_300, q_380, q_400, q_620, q_999, q_1000, q_4095, q_4096, q_9999, q_65536, q_99999, q_31, nI_add, pk_mul, nE, nL, nT, nM31, nShl, ib_nI, nI_clamp, bI_n0, bI_n1, bI_nar, uI_r, uI_l, uL_r, uL_i, uL_p, uA_r, uA_l, bV_some, bU_some, nar_n0, nar_n1, and_self, and_true, true_and, and_false, false_and, if_true, if_false, eq_self, Bool.false_eq_true, Bool.true_eq_false, not_true_eq_false, not_false_eq_true, ↓reduceIte, nlT, nlF, ntT, ntF, neT, neF, ieT, ieF, decide_true, decide_false, Bool.not_true, Bool.not_false, Bool.and_true, Bool.true_and, Bool.and_false, Bool.false_and, Bool.or_true, Bool.true_or, Bool.or_false, Bool.false_or, h1.wk, e]
    exact ⟨_, rfl, i2⟩
theorem m_someCan {S : Sto} {A : Tn} {r : Nat} {L : Lw} (h : RepM S A) (hw : WF A) (hr : r < 6) (hL : RepLM S r L) (hl : WFL L) : ∃ S', call 262 0 [vR 50 0, vI (nI r)] S = some (some (vI (bI (scB A L))), S') ∧ Fr (pL [76, 77]) S S' := by
  have hWk := hw.wk
  show ∃ S', run 262 0 0 [vR 50 0, vI (nI r), vU, vU] [] S = _ ∧ _
  simp only [s262_0, s262_1, s262_2, s262_3]
  have key := upS (σ := Sto) (I := fun _ S1 => Fr (pL [76, 77]) S S1) (F := fun i S1 => run 262 0 4 [vR 50 0, vI (nI r), vI (bI (ex (fun w => caB A L w) i)), vI (nI i)] [] S1) (Q := fun x => ∃ S', x = some (some (vI (bI (scB A L))), S') ∧ Fr (pL [76, 77]) S S') (N := A 0 2) ?_ ?_ 0 S (by omega) Fr.rfl'
  · exact key
  · intro i S1 hi i2
    have h1 := h.pl i2 (by decide)
    obtain ⟨S2, a1, a2⟩ := m_canBe h1 hw hr (hL.pl i2 (by decide)) hl hi
    show (∃ S', run 262 0 4 _ _ _ = _ ∧ _) ∨ ∃ s', _ ∧ run 262 0 4 _ _ _ = run 262 0 4 [vR 50 0, vI (nI r), vI (bI (ex (fun w => caB A L w) i || caB A L i)), vI (nI (i + 1))] [] _
    rw [s262_4]
    cases c0 : ex (fun w => caB A L w) i with
    | true =>
      refine Or.inr ⟨S1, i2, ?_⟩
      simp (disch := omega) only [s262_0, s262_1, s262_2, s262_3, s262_5, s262_6, s262_9, s262_10, s262_11, s262_14, s262_15, s262_18, s262_19, s262_20, s262_21, s262_24, s262_27, s262_28, s262_31, s262_32, s262_33, s262_36, s262_39, s262_40, q_0, q_1, q_2, q_3, q_4, q_5, q_6, q_7, q_8, q_9, q_10, q_11, q_12, q_13, q_14, q_16, q_20, q_23, q_24, q_32, q_42, q_43, q_45, q_47, q_48, q_50, q_57, q_59, q_60, q_61, q_62, q_63, q_64, q_66, q_91, q_93, q_97, q_99, q_122, q_144, q_255, q_256, q_300, q_380, q_400, q_620, q_999, q_1000, q_4095, q_4096, q_9999, q_65536, q_99999, q_31, nI_add, pk_mul, nE, nL, nT, nM31, nShl, ib_nI, nI_clamp, bI_n0, bI_n1, bI_nar, uI_r, uI_l, uL_r, uL_i, uL_p, uA_r, uA_l, bV_some, bU_some, nar_n0, nar_n1, and_self, and_true, true_and, and_false, false_and, if_true, if_false, eq_self, Bool.false_eq_true, Bool.true_eq_false, not_true_eq_false, not_false_eq_true, ↓reduceIte, nlT, nlF, ntT, ntF, neT, neF, ieT, ieF, decide_true, decide_false, Bool.not_true, Bool.not_false, Bool.and_true, Bool.true_and, Bool.and_false, Bool.false_and, Bool.or_true, Bool.true_or, Bool.or_false, Bool.false_or, h1.sc]
      rfl
    | false =>
      cases c : caB A L i with
      | false =>
        rw [c] at a1
        refine Or.inr ⟨S2, i2.tr a2, ?_⟩
        simp (disch := omega) only [s262_0, s262_1, s262_2, s262_3, s262_5, s262_6, s262_9, s262_10, s262_11, s262_14, s262_15, s262_18, s262_19, s262_20, s262_21, s262_24, s262_27, s262_28, s262_31, s262_32, s262_33, s262_36, s262_39, s262_40, q_0, q_1, q_2, q_3, q_4, q_5, q_6, q_7, q_8, q_9, q_10, q_11, q_12, q_13, q_14, q_16, q_20, q_23, q_24, q_32, q_42, q_43, q_45, q_47, q_48, q_50, q_57, q_59, q_60, q_61, q_62, q_63, q_64, q_66, q_91, q_93, q_97, q_99, q_122, q_144, q_255, q_256, q_300, q_380, q_400, q_620, q_999, q_1000, q_4095, q_4096, q_9999, q_65536, q_99999, q_31, nI_add, pk_mul, nE, nL, nT, nM31, nShl, ib_nI, nI_clamp, bI_n0, bI_n1, bI_nar, uI_r, uI_l, uL_r, uL_i, uL_p, uA_r, uA_l, bV_some, bU_some, nar_n0, nar_n1, and_self, and_true, true_and, and_false, false_and, if_true, if_false, eq_self, Bool.false_eq_true, Bool.true_eq_false, not_true_eq_false, not_false_eq_true, ↓reduceIte, nlT, nlF, ntT, ntF, neT, neF, ieT, ieF, decide_true, decide_false, Bool.not_true, Bool.not_false, Bool.and_true, Bool.true_and, Bool.and_false, Bool.false_and, Bool.or_true, Bool.true_or, Bool.or_false, Bool.false_or, h1.sc, a1]
        rfl
      | true =>
        rw [c] at a1
        refine Or.inr ⟨S2, i2.tr a2, ?_⟩
        simp (disch := omega) only [s262_0, s262_1, s262_2, s262_3, s262_5, s262_6, s262_9, s262_10, s262_11, s262_14, s262_15, s262_18, s262_19, s262_20, s262_21, s262_24, s262_27, s262_28, s262_31, s262_32, s262_33, s262_36, s262_39, s262_40, q_0, q_1, q_2, q_3, q_4, q_5, q_6, q_7, q_8, q_9, q_10, q_11, q_12, q_13, q_14, q_16, q_20, q_23, q_24, q_32, q_42, q_43, q_45, q_47, q_48, q_50, q_57, q_59, q_60, q_61, q_62, q_63, q_64, q_66, q_91, q_93, q_97, q_99, q_122, q_144, q_255, q_256, q_300, q_380, q_400, q_620, q_999, q_1000, q_4095, q_4096, q_9999, q_65536, q_99999, q_31, nI_add, pk_mul, nE, nL, nT, nM31, nShl, ib_nI, nI_clamp, bI_n0, bI_n1, bI_nar, uI_r, uI_l, uL_r, uL_i, uL_p, uA_r, uA_l, bV_some, bU_some, nar_n0, nar_n1, and_self, and_true, true_and, and_false, false_and, if_true, if_false, eq_self, Bool.false_eq_true, Bool.true_eq_false, not_true_eq_false, not_false_eq_true, ↓reduceIte, nlT, nlF, ntT, ntF, neT, neF, ieT, ieF, decide_true, decide_false, Bool.not_true, Bool.not_false, Bool.and_true, Bool.true_and, Bool.and_false, Bool.false_and, Bool.or_true, Bool.true_or, Bool.or_false, Bool.false_or, h1.sc, a1]
        rfl
  · intro S1 i2
    have h1 := h.pl i2 (by decide)
    show ∃ S', run 262 0 4 _ _ _ = _ ∧ _
    rw [s262_4]
    simp (disch := omega) only [s262_0, s262_1, s262_2, s262_3, s262_5, s262_6, s262_9, s262_10, s262_11, s262_14, s262_15, s262_18, s262_19, s262_20, s262_21, s262_24, s262_27, s262_28, s262_31, s262_32, s262_33, s262_36, s262_39, s262_40, q_0, q_1, q_2, q_3, q_4, q_5, q_6, q_7, q_8, q_9, q_10, q_11, q_12, q_13, q_14, q_16, q_20, q_23, q_24, q_32, q_42, q_43, q_45, q_47, q_48, q_50, q_57, q_59, q_60, q_61, q_62, q_63, q_64, q_66, q_91, q_93, q_97, q_99, q_122, q_144, q_255, q_256, q_300, q_380, q_400, q_620, q_999, q_1000, q_4095, q_4096, q_9999, q_65536, q_99999, q_31, nI_add, pk_mul, nE, nL, nT, nM31, nShl, ib_nI, nI_clamp, bI_n0, bI_n1, bI_nar, uI_r, uI_l, uL_r, uL_i, uL_p, uA_r, uA_l, bV_some, bU_some, nar_n0, nar_n1, and_self, and_true, true_and, and_false, false_and, if_true, if_false, eq_self, Bool.false_eq_true, Bool.true_eq_false, not_true_eq_false, not_false_eq_true, ↓reduceIte, nlT, nlF, ntT, ntF, neT, neF, ieT, ieF, decide_true, decide_false, Bool.not_true, Bool.not_false, Bool.and_true, Bool.true_and, Bool.and_false, Bool.false_and, Bool.or_true, Bool.true_or, Bool.or_false, Bool.false_or, h1.sc]
    exact ⟨_, rfl, i2⟩
