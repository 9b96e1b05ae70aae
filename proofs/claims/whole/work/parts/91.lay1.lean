/-! things laid to twos (class) -/
theorem nRm (a d : Nat) : nI a - nI (a / d * d) = nI (a % d) := by
  have e := Nat.div_add_mod a d
  have e2 : a / d * d ≤ a := Nat.div_mul_le_self a d
  rw [nSub e2]
  congr 1
  have e3 : a / d * d = d * (a / d) := Nat.mul_comm _ _
  omega
theorem ct_all {P : Nat → Bool} : ∀ {n : Nat}, (∀ i, i < n → P i = true) → ct P n = n
  | 0, _ => rfl
  | n + 1, h => by
    rw [ct_ss, ct_all (fun i hi => h i (by omega)), h n (by omega)]
    rfl
theorem ct_iota {P : Nat → Bool} {n t : Nat} (ht : t ≤ n) (h : ∀ s, s < n → P s = decide (s < t)) : ct P n = t := by
  obtain ⟨d, rfl⟩ := Nat.le.dest ht
  rw [ct_zero t d (fun i h1 h2 => by rw [h i h2]; simp; omega)]
  exact ct_all (fun i hi => by rw [h i (by omega)]; simp [hi])
theorem ct_nth {P : Nat → Bool} : ∀ {n k : Nat}, k < ct P n → ∃ t, t < n ∧ P t = true ∧ ct P t = k
  | 0, k, h => by simp [ct] at h
  | n + 1, k, h => by
    by_cases c : k < ct P n
    · obtain ⟨t, h1, h2⟩ := ct_nth c
      exact ⟨t, by omega, h2⟩
    · rw [ct_ss] at h
      by_cases e : P n = true
      · rw [if_pos e] at h
        exact ⟨n, by omega, e, by omega⟩
      · rw [if_neg e] at h
        omega
def th (m k : Nat) : Nat := ct (fun s => decide (ctp m (s + 1) ≤ k)) 24
theorem th_rk {m t : Nat} (ht : t < 24) (hb : m.testBit t = true) : th m (ctp m t) = t := by
  unfold th
  apply ct_iota (by omega)
  intro s hs
  by_cases c : s < t
  · have : ctp m (s + 1) ≤ ctp m t := ct_mo _ (by omega)
    simp [this, c]
  · have h1 : ctp m (t + 1) ≤ ctp m (s + 1) := ct_mo _ (by omega)
    have h2 : ctp m (t + 1) = ctp m t + 1 := by rw [ctp_s, if_pos hb]
    have h3 : ¬ ctp m (s + 1) ≤ ctp m t := by omega
    simp [h3, c]
def dgT (m n way t : Nat) : Nat := way / n ^ (ctp m 24 - 1 - ctp m t) % n
/-- what a two stops at a place of the row -/
def sbB (A : Tn) (m : Nat) (L : List Nat) (k i : Nat) : Nat := stT A (th m k) (L.getD i 0 / 16) (L.getD i 0 % 16)
def siw (A : Tn) (m : Nat) (L : List Nat) (way : Nat) : Nat := orN (fun j => sbB A m L (ctp m 24 - 1 - j) (way / L.length ^ j % L.length)) (ctp m 24)
theorem siw_lt {A : Tn} (hw : WF A) (m : Nat) (L : List Nat) (way : Nat) : siw A m L way < 2 ^ 12 := orN_lt (fun k _ => stT_lt hw _ _ _)
def SbS (S : Sto) (A : Tn) (m : Nat) (L : List Nat) (T : Nat) : Prop := ∀ t i, t < T → m.testBit t = true → i < L.length → S.1 40 0 (6 * ctp m t + i) = nI (stT A t (L.getD i 0 / 16) (L.getD i 0 % 16))
theorem SbS.at {S : Sto} {A : Tn} {m : Nat} {L : List Nat} (h : SbS S A m L 24) {k i : Nat} (hk : k < ctp m 24) (hi : i < L.length) : S.1 40 0 (6 * k + i) = nI (sbB A m L k i) := by
  obtain ⟨t, h1, h2, h3⟩ := ct_nth hk
  have h3' : ctp m t = k := h3
  have := h t i h1 h2 hi
  rw [h3'] at this
  rw [this]
  unfold sbB
  rw [← h3', th_rk h1 h2]
theorem x_inWay {S : Sto} {A : Tn} {m : Nat} {L : List Nat} {way : Nat} (hs : SbS S A m L 24) (hc : ctp m 24 ≤ 4) (hn1 : 1 ≤ L.length) (hn6 : L.length ≤ 6) (hwy : way < 2 ^ 31) : call 50 0 [vR 36 0, vI (nI way), vI (nI (ctp m 24)), vI (nI L.length)] S = some (some (vI (nI (siw A m L way))), S) := by
  show run 50 0 0 [vR 36 0, vI (nI way), vI (nI (ctp m 24)), vI (nI L.length), vU, vU, vU] [] S = _
  simp only [s50_0, s50_1, s50_3, s50_4, s50_6, s50_7, s50_8, s50_9]
  have e0 : way / L.length ^ 0 = way := by rw [Nat.pow_zero, Nat.div_one]
  have key := up_ (F := fun j => run 50 0 11 [vR 36 0, vI (nI way), vI (nI (ctp m 24)), vI (nI L.length), vI (nI (orN (fun j => sbB A m L (ctp m 24 - 1 - j) (way / L.length ^ j % L.length)) j)), vI (nI (way / L.length ^ j)), vI (nI (ctp m 24 - j) - nI 1)] [] S) (N := ctp m 24) (R := some (some (vI (nI (siw A m L way))), S)) ?_ ?_ 0 (by omega)
  · simp only [e0] at key
    exact key
  · intro j hj
    have hq : way / L.length ^ j < 2 ^ 31 := Nat.lt_of_le_of_lt (Nat.div_le_self _ _) hwy
    have hm : way / L.length ^ j % L.length < L.length := Nat.mod_lt _ (by omega)
    have e1 : nI (ctp m 24 - j) - nI 1 = nI (ctp m 24 - 1 - j) := by
      rw [nSub (by omega)]
      congr 1
      omega
    have e2 : nI (ctp m 24 - 1 - j) + (-nI 1) = nI (ctp m 24 - (j + 1)) - nI 1 := by
      rw [show ctp m 24 - (j + 1) = ctp m 24 - 1 - j by omega, Int32.sub_eq_add_neg]
    have e3 : way / L.length ^ (j + 1) = way / L.length ^ j / L.length := by
      rw [Nat.pow_succ, Nat.div_div_eq_div_mul]
    have r1 := hs.at (k := ctp m 24 - 1 - j) (i := way / L.length ^ j % L.length) (by omega) hm
    show run 50 0 11 _ _ _ = run 50 0 11 _ _ _
    rw [s50_11, e1, orN_s, e3]
    simp (disch := omega) only [s50_0, s50_1, s50_3, s50_4, s50_6, s50_7, s50_8, s50_9, s50_13, s50_16, s50_17, s50_20, s50_22, s50_23, s50_26, s50_28, s50_30, s50_31, s50_33, s50_34, s50_35, s50_36, s50_37, s50_38, s50_40, s50_42, s50_43, s50_44, s50_46, s50_49, s50_52, s50_54, q_0, q_1, q_2, q_3, q_4, q_5, q_6, q_7, q_8, q_9, q_10, q_11, q_12, q_13, q_14, q_16, q_20, q_23, q_24, q_32, q_42, q_43, q_45, q_47, q_48, q_50, q_57, q_59, q_60, q_61, q_62, q_63, q_64, q_66, q_91, q_93, q_97, q_99, q_122, q_144, q_255, q_256, q_300, q_380, q_400, q_620, q_999, q_1000, q_4095, q_4096, q_9999, q_65536, q_99999, q_31, nI_add, pk_mul, nE, nL, nT, nM31, nShl, ib_nI, nI_clamp, bI_n0, bI_n1, bI_nar, uI_r, uI_l, uL_r, uL_i, uL_p, uA_r, uA_l, bV_some, bU_some, nar_n0, nar_n1, and_self, and_true, true_and, and_false, false_and, if_true, if_false, eq_self, Bool.false_eq_true, Bool.true_eq_false, not_true_eq_false, not_false_eq_true, ↓reduceIte, nlT, nlF, ntT, ntF, neT, neF, ieT, ieF, decide_true, decide_false, Bool.not_true, Bool.not_false, Bool.and_true, Bool.true_and, Bool.and_false, Bool.false_and, Bool.or_true, Bool.true_or, Bool.or_false, Bool.false_or, nDiv, nRm, r1, nx_or, e2]
  · have e1 : (nI (ctp m 24 - ctp m 24) - nI 1 : Int32) = -nI 1 := by rw [Nat.sub_self]; decide
    have e2 : (-nI 1 < nI 0) = True := by decide
    show run 50 0 11 _ _ _ = _
    rw [s50_11, e1]
    simp (disch := omega) only [s50_0, s50_1, s50_3, s50_4, s50_6, s50_7, s50_8, s50_9, s50_13, s50_16, s50_17, s50_20, s50_22, s50_23, s50_26, s50_28, s50_30, s50_31, s50_33, s50_34, s50_35, s50_36, s50_37, s50_38, s50_40, s50_42, s50_43, s50_44, s50_46, s50_49, s50_52, s50_54, q_0, q_1, q_2, q_3, q_4, q_5, q_6, q_7, q_8, q_9, q_10, q_11, q_12, q_13, q_14, q_16, q_20, q_23, q_24, q_32, q_42, q_43, q_45, q_47, q_48, q_50, q_57, q_59, q_60, q_61, q_62, q_63, q_64, q_66, q_91, q_93, q_97, q_99, q_122, q_144, q_255, q_256, q_300, q_380, q_400, q_620, q_999, q_1000, q_4095, q_4096, q_9999, q_65536, q_99999, q_31, nI_add, pk_mul, nE, nL, nT, nM31, nShl, ib_nI, nI_clamp, bI_n0, bI_n1, bI_nar, uI_r, uI_l, uL_r, uL_i, uL_p, uA_r, uA_l, bV_some, bU_some, nar_n0, nar_n1, and_self, and_true, true_and, and_false, false_and, if_true, if_false, eq_self, Bool.false_eq_true, Bool.true_eq_false, not_true_eq_false, not_false_eq_true, ↓reduceIte, nlT, nlF, ntT, ntF, neT, neF, ieT, ieF, decide_true, decide_false, Bool.not_true, Bool.not_false, Bool.and_true, Bool.true_and, Bool.and_false, Bool.false_and, Bool.or_true, Bool.true_or, Bool.or_false, Bool.false_or, e2]
    rfl
/-- the first least -/
def amI (f : Nat → Nat) : Nat → Nat × Nat
  | 0 => (0, 13)
  | w + 1 => if f w < (amI f w).2 then (w, f w) else amI f w
theorem amI_s (f : Nat → Nat) (w : Nat) : amI f (w + 1) = if f w < (amI f w).2 then (w, f w) else amI f w := rfl
theorem amI_p {f : Nat → Nat} (hf : ∀ w, f w ≤ 12) : ∀ {w : Nat}, 0 < w → (amI f w).1 < w ∧ (amI f w).2 = f (amI f w).1
  | 0, h => by omega
  | w + 1, _ => by
    rw [amI_s]
    by_cases c : f w < (amI f w).2
    · rw [if_pos c]
      exact ⟨by show w < w + 1; omega, rfl⟩
    · rw [if_neg c]
      cases w with
      | zero =>
        have := hf 0
        exact absurd (show f 0 < 13 by omega) c
      | succ w =>
        have := amI_p hf (w := w + 1) (by omega)
        exact ⟨by omega, this.2⟩
theorem amI_le {f : Nat → Nat} (hf : ∀ w, f w ≤ 12) : ∀ w, (amI f w).2 ≤ 13 ∧ (amI f w).1 ≤ w
  | 0 => ⟨Nat.le_refl 13, Nat.le_refl _⟩
  | w + 1 => by
    have ih := amI_le hf w
    have := hf w
    rw [amI_s]
    split
    · exact ⟨by show f w ≤ 13; omega, by show w ≤ w + 1; omega⟩
    · exact ⟨ih.1, by omega⟩
def lyF (A : Tn) (m : Nat) (L : List Nat) (w : Nat) : Nat := pop (stW A m ||| siw A m L w)
theorem lyF_le {A : Tn} (hw : WF A) (m : Nat) (L : List Nat) (w : Nat) : lyF A m L w ≤ 12 := by
  unfold lyF
  rw [pop_lt (Nat.or_lt_two_pow (stW_lt hw m) (siw_lt hw m L w)) (by decide)]
  exact ct_le _ _
theorem x_firstWay {S : Sto} {A : Tn} {m : Nat} {L : List Nat} {ways : Nat} (hw : WF A) (hs : SbS S A m L 24) (hc : ctp m 24 ≤ 4) (hn1 : 1 ≤ L.length) (hn6 : L.length ≤ 6) (hwy : ways < 2 ^ 31) : call 49 0 [vR 36 0, vI (nI (stW A m)), vI (nI (ctp m 24)), vI (nI ways), vI (nI L.length)] S = some (some (vI (nI (amI (lyF A m L) ways).1)), S) := by
  show run 49 0 0 [vR 36 0, vI (nI (stW A m)), vI (nI (ctp m 24)), vI (nI ways), vI (nI L.length), vU, vU, vU, vU] [] S = _
  simp (disch := omega) only [s49_0, s49_1, s49_3, s49_5, s49_7, s49_8, s49_12, s49_13, s49_16, s49_17, s49_18, s49_20, s49_21, s49_23, s49_26, s49_27, s49_30, s49_32, s49_34, s49_36, s49_39, s49_41, s49_43, s49_45, s49_47, s49_50, s49_53, s49_55, q_0, q_1, q_2, q_3, q_4, q_5, q_6, q_7, q_8, q_9, q_10, q_11, q_12, q_13, q_14, q_16, q_20, q_23, q_24, q_32, q_42, q_43, q_45, q_47, q_48, q_50, q_57, q_59, q_60, q_61, q_62, q_63, q_64, q_66, q_91, q_93, q_97, q_99, q_122, q_144, q_255, q_256, q_300, q_380, q_400, q_620, q_999, q_1000, q_4095, q_4096, q_9999, q_65536, q_99999, q_31, nI_add, pk_mul, nE, nL, nT, nM31, nShl, ib_nI, nI_clamp, bI_n0, bI_n1, bI_nar, uI_r, uI_l, uL_r, uL_i, uL_p, uA_r, uA_l, bV_some, bU_some, nar_n0, nar_n1, and_self, and_true, true_and, and_false, false_and, if_true, if_false, eq_self, Bool.false_eq_true, Bool.true_eq_false, not_true_eq_false, not_false_eq_true, ↓reduceIte, nlT, nlF, ntT, ntF, neT, neF, ieT, ieF, decide_true, decide_false, Bool.not_true, Bool.not_false, Bool.and_true, Bool.true_and, Bool.and_false, Bool.false_and, Bool.or_true, Bool.true_or, Bool.or_false, Bool.false_or]
  refine upS (σ := av) (I := fun _ _ => True) (F := fun w s => run 49 0 10 [vR 36 0, vI (nI (stW A m)), vI (nI (ctp m 24)), vI (nI ways), vI (nI L.length), vI (nI (amI (lyF A m L) w).1), vI (nI (amI (lyF A m L) w).2), vI (nI w), s] [] S) (Q := fun z => z = some (some (vI (nI (amI (lyF A m L) ways).1)), S)) (N := ways) ?_ ?_ 0 vU (by omega) trivial
  · intro w s hlt _
    have e1 := x_inWay (way := w) hs hc hn1 hn6 (by omega)
    have l1 : stW A m ||| siw A m L w < 2 ^ 12 := Nat.or_lt_two_pow (stW_lt hw m) (siw_lt hw m L w)
    have e2 := x_bitCount S (m := stW A m ||| siw A m L w) (by omega)
    have e2' : call 270 0 [vI (nI (stW A m ||| siw A m L w))] S = some (some (vI (nI (lyF A m L w))), S) := e2
    have l2 := lyF_le hw m L w
    have l3 := amI_le (lyF_le hw m L) w
    refine Or.inr ⟨vI (nI (lyF A m L w)), trivial, ?_⟩
    show run 49 0 10 _ _ _ = run 49 0 10 _ _ _
    rw [s49_10, amI_s]
    by_cases c : lyF A m L w < (amI (lyF A m L) w).2
    · simp (disch := omega) only [s49_0, s49_1, s49_3, s49_5, s49_7, s49_8, s49_12, s49_13, s49_16, s49_17, s49_18, s49_20, s49_21, s49_23, s49_26, s49_27, s49_30, s49_32, s49_34, s49_36, s49_39, s49_41, s49_43, s49_45, s49_47, s49_50, s49_53, s49_55, q_0, q_1, q_2, q_3, q_4, q_5, q_6, q_7, q_8, q_9, q_10, q_11, q_12, q_13, q_14, q_16, q_20, q_23, q_24, q_32, q_42, q_43, q_45, q_47, q_48, q_50, q_57, q_59, q_60, q_61, q_62, q_63, q_64, q_66, q_91, q_93, q_97, q_99, q_122, q_144, q_255, q_256, q_300, q_380, q_400, q_620, q_999, q_1000, q_4095, q_4096, q_9999, q_65536, q_99999, q_31, nI_add, pk_mul, nE, nL, nT, nM31, nShl, ib_nI, nI_clamp, bI_n0, bI_n1, bI_nar, uI_r, uI_l, uL_r, uL_i, uL_p, uA_r, uA_l, bV_some, bU_some, nar_n0, nar_n1, and_self, and_true, true_and, and_false, false_and, if_true, if_false, eq_self, Bool.false_eq_true, Bool.true_eq_false, not_true_eq_false, not_false_eq_true, ↓reduceIte, nlT, nlF, ntT, ntF, neT, neF, ieT, ieF, decide_true, decide_false, Bool.not_true, Bool.not_false, Bool.and_true, Bool.true_and, Bool.and_false, Bool.false_and, Bool.or_true, Bool.true_or, Bool.or_false, Bool.false_or, e1, nx_or, e2', c]
    · simp (disch := omega) only [s49_0, s49_1, s49_3, s49_5, s49_7, s49_8, s49_12, s49_13, s49_16, s49_17, s49_18, s49_20, s49_21, s49_23, s49_26, s49_27, s49_30, s49_32, s49_34, s49_36, s49_39, s49_41, s49_43, s49_45, s49_47, s49_50, s49_53, s49_55, q_0, q_1, q_2, q_3, q_4, q_5, q_6, q_7, q_8, q_9, q_10, q_11, q_12, q_13, q_14, q_16, q_20, q_23, q_24, q_32, q_42, q_43, q_45, q_47, q_48, q_50, q_57, q_59, q_60, q_61, q_62, q_63, q_64, q_66, q_91, q_93, q_97, q_99, q_122, q_144, q_255, q_256, q_300, q_380, q_400, q_620, q_999, q_1000, q_4095, q_4096, q_9999, q_65536, q_99999, q_31, nI_add, pk_mul, nE, nL, nT, nM31, nShl, ib_nI, nI_clamp, bI_n0, bI_n1, bI_nar, uI_r, uI_l, uL_r, uL_i, uL_p, uA_r, uA_l, bV_some, bU_some, nar_n0, nar_n1, and_self, and_true, true_and, and_false, false_and, if_true, if_false, eq_self, Bool.false_eq_true, Bool.true_eq_false, not_true_eq_false, not_false_eq_true, ↓reduceIte, nlT, nlF, ntT, ntF, neT, neF, ieT, ieF, decide_true, decide_false, Bool.not_true, Bool.not_false, Bool.and_true, Bool.true_and, Bool.and_false, Bool.false_and, Bool.or_true, Bool.true_or, Bool.or_false, Bool.false_or, e1, nx_or, e2', c]
  · intro s _
    show run 49 0 10 _ _ _ = _
    rw [s49_10]
    simp (disch := omega) only [s49_0, s49_1, s49_3, s49_5, s49_7, s49_8, s49_12, s49_13, s49_16, s49_17, s49_18, s49_20, s49_21, s49_23, s49_26, s49_27, s49_30, s49_32, s49_34, s49_36, s49_39, s49_41, s49_43, s49_45, s49_47, s49_50, s49_53, s49_55, q_0, q_1, q_2, q_3, q_4, q_5, q_6, q_7, q_8, q_9, q_10, q_11, q_12, q_13, q_14, q_16, q_20, q_23, q_24, q_32, q_42, q_43, q_45, q_47, q_48, q_50, q_57, q_59, q_60, q_61, q_62, q_63, q_64, q_66, q_91, q_93, q_97, q_99, q_122, q_144, q_255, q_256, q_300, q_380, q_400, q_620, q_999, q_1000, q_4095, q_4096, q_9999, q_65536, q_99999, q_31, nI_add, pk_mul, nE, nL, nT, nM31, nShl, ib_nI, nI_clamp, bI_n0, bI_n1, bI_nar, uI_r, uI_l, uL_r, uL_i, uL_p, uA_r, uA_l, bV_some, bU_some, nar_n0, nar_n1, and_self, and_true, true_and, and_false, false_and, if_true, if_false, eq_self, Bool.false_eq_true, Bool.true_eq_false, not_true_eq_false, not_false_eq_true, ↓reduceIte, nlT, nlF, ntT, ntF, neT, neF, ieT, ieF, decide_true, decide_false, Bool.not_true, Bool.not_false, Bool.and_true, Bool.true_and, Bool.and_false, Bool.false_and, Bool.or_true, Bool.true_or, Bool.or_false, Bool.false_or]
theorem x_pairOf (S : Sto) {way lo n : Nat} (hwy : way < 2 ^ 31) (hl : lo < 100) (hn1 : 1 ≤ n) (hn6 : n ≤ 6) : call 51 0 [vI (nI way), vI (nI lo), vI (nI n)] S = some (some (vI (nI (way / n ^ lo % n))), S) := by
  show run 51 0 0 [vI (nI way), vI (nI lo), vI (nI n), vU, vU] [] S = _
  simp only [s51_0, s51_1, s51_2, s51_3]
  have e0 : way / n ^ 0 = way := by rw [Nat.pow_zero, Nat.div_one]
  have key := up_ (F := fun j => run 51 0 5 [vI (nI way), vI (nI lo), vI (nI n), vI (nI (way / n ^ j)), vI (nI j)] [] S) (N := lo) (R := some (some (vI (nI (way / n ^ lo % n))), S)) ?_ ?_ 0 (by omega)
  · simp only [e0] at key
    exact key
  · intro j hj
    have hq : way / n ^ j < 2 ^ 31 := Nat.lt_of_le_of_lt (Nat.div_le_self _ _) hwy
    have e3 : way / n ^ (j + 1) = way / n ^ j / n := by
      rw [Nat.pow_succ, Nat.div_div_eq_div_mul]
    show run 51 0 5 _ _ _ = run 51 0 5 _ _ _
    rw [s51_5, e3]
    simp (disch := omega) only [s51_0, s51_1, s51_2, s51_3, s51_7, s51_8, s51_11, s51_12, s51_15, s51_16, s51_17, s51_18, s51_19, s51_22, s51_25, s51_26, s51_29, s51_30, s51_31, s51_32, s51_35, s51_36, q_0, q_1, q_2, q_3, q_4, q_5, q_6, q_7, q_8, q_9, q_10, q_11, q_12, q_13, q_14, q_16, q_20, q_23, q_24, q_32, q_42, q_43, q_45, q_47, q_48, q_50, q_57, q_59, q_60, q_61, q_62, q_63, q_64, q_66, q_91, q_93, q_97, q_99, q_122, q_144, q_255, q_256, q_300, q_380, q_400, q_620, q_999, q_1000, q_4095, q_4096, q_9999, q_65536, q_99999, q_31, nI_add, pk_mul, nE, nL, nT, nM31, nShl, ib_nI, nI_clamp, bI_n0, bI_n1, bI_nar, uI_r, uI_l, uL_r, uL_i, uL_p, uA_r, uA_l, bV_some, bU_some, nar_n0, nar_n1, and_self, and_true, true_and, and_false, false_and, if_true, if_false, eq_self, Bool.false_eq_true, Bool.true_eq_false, not_true_eq_false, not_false_eq_true, ↓reduceIte, nlT, nlF, ntT, ntF, neT, neF, ieT, ieF, decide_true, decide_false, Bool.not_true, Bool.not_false, Bool.and_true, Bool.true_and, Bool.and_false, Bool.false_and, Bool.or_true, Bool.true_or, Bool.or_false, Bool.false_or, nDiv]
  · have hq : way / n ^ lo < 2 ^ 31 := Nat.lt_of_le_of_lt (Nat.div_le_self _ _) hwy
    show run 51 0 5 _ _ _ = _
    rw [s51_5]
    simp (disch := omega) only [s51_0, s51_1, s51_2, s51_3, s51_7, s51_8, s51_11, s51_12, s51_15, s51_16, s51_17, s51_18, s51_19, s51_22, s51_25, s51_26, s51_29, s51_30, s51_31, s51_32, s51_35, s51_36, q_0, q_1, q_2, q_3, q_4, q_5, q_6, q_7, q_8, q_9, q_10, q_11, q_12, q_13, q_14, q_16, q_20, q_23, q_24, q_32, q_42, q_43, q_45, q_47, q_48, q_50, q_57, q_59, q_60, q_61, q_62, q_63, q_64, q_66, q_91, q_93, q_97, q_99, q_122, q_144, q_255, q_256, q_300, q_380, q_400, q_620, q_999, q_1000, q_4095, q_4096, q_9999, q_65536, q_99999, q_31, nI_add, pk_mul, nE, nL, nT, nM31, nShl, ib_nI, nI_clamp, bI_n0, bI_n1, bI_nar, uI_r, uI_l, uL_r, uL_i, uL_p, uA_r, uA_l, bV_some, bU_some, nar_n0, nar_n1, and_self, and_true, true_and, and_false, false_and, if_true, if_false, eq_self, Bool.false_eq_true, Bool.true_eq_false, not_true_eq_false, not_false_eq_true, ↓reduceIte, nlT, nlF, ntT, ntF, neT, neF, ieT, ieF, decide_true, decide_false, Bool.not_true, Bool.not_false, Bool.and_true, Bool.true_and, Bool.and_false, Bool.false_and, Bool.or_true, Bool.true_or, Bool.or_false, Bool.false_or, nDiv, nRm]
theorem x_lyIn {S : Sto} {q : Nat} {A : Tn} {m p t : Nat} {L : List Nat} {k w9 : av} {ways : Nat} (h : RepC S q A) (hw : WF A) (hL : ∀ x, x ∈ L → x / 16 < x % 16 ∧ x % 16 < 12 ∧ x < 200) (hp : PlS S L) (hn6 : L.length ≤ 6) (hs : SbS S A m L t) (ht : t < 24) (hb : m.testBit t = true) (hc : ctp m t < 4) : ∃ S2 x, run 47 0 44 [vR 36 0, vR 1 q, vI (nI m), vI (nI p), k, vI (nI L.length), vI (nI (ctp m t)), vI (nI ways), vI (nI t), vI (nI 0)] [] S = run 47 0 17 [vR 36 0, vR 1 q, vI (nI m), vI (nI p), k, vI (nI L.length), vI (nI (ctp m t + 1)), vI (nI (ways * L.length)), vI (nI (t + 1)), x] [] S2 ∧ Fr (pL [40]) S S2 ∧ SbS S2 A m L (t + 1) := by
  refine upS (σ := Sto) (I := fun i S1 => Fr (pL [40]) S S1 ∧ SbS S1 A m L t ∧ ∀ j, j < i → S1.1 40 0 (6 * ctp m t + j) = nI (stT A t (L.getD j 0 / 16) (L.getD j 0 % 16))) (F := fun i S1 => run 47 0 44 [vR 36 0, vR 1 q, vI (nI m), vI (nI p), k, vI (nI L.length), vI (nI (ctp m t)), vI (nI ways), vI (nI t), vI (nI i)] [] S1) (Q := fun z => ∃ S2 x, z = run 47 0 17 [vR 36 0, vR 1 q, vI (nI m), vI (nI p), k, vI (nI L.length), vI (nI (ctp m t + 1)), vI (nI (ways * L.length)), vI (nI (t + 1)), x] [] S2 ∧ Fr (pL [40]) S S2 ∧ SbS S2 A m L (t + 1)) (N := L.length) ?_ ?_ 0 S (by omega) ⟨Fr.rfl', hs, fun j hj => by omega⟩
  · intro i S1 hi hI
    obtain ⟨i1, i2, i3⟩ := hI
    have h1 := h.pl i1 (by decide)
    have hm : L.getD i 0 ∈ L := by
      rw [List.getD_eq_getElem?_getD, List.getElem?_eq_getElem hi]
      exact List.getElem_mem hi
    have hx := hL _ hm
    have r1 : S1.1 39 0 i = nI (L.getD i 0) := by rw [i1.i rfl]; exact hp i hi
    have e1 := x_stThr h1 hw (t := t) (o := L.getD i 0 / 16) (p := L.getD i 0 % 16) ht (by omega) hx.2.1
    refine Or.inr ⟨uI S1 40 0 (6 * ctp m t + i) (nI (stT A t (L.getD i 0 / 16) (L.getD i 0 % 16))), ⟨i1.uI rfl, fun t' i' g1 g2 g3 => ?_, fun j hj => ?_⟩, ?_⟩
    · have g4 : ctp m (t' + 1) = ctp m t' + 1 := by rw [ctp_s, if_pos g2]
      have g5 : ctp m (t' + 1) ≤ ctp m t := ct_mo _ (by omega)
      rw [uI_r, if_neg (by omega)]
      exact i2 t' i' g1 g2 g3
    · rw [uI_r]
      by_cases e : j = i
      · rw [if_pos ⟨rfl, rfl, by omega⟩, e]
      · rw [if_neg (by omega)]
        exact i3 j (by omega)
    · show run 47 0 44 _ _ _ = run 47 0 44 _ _ _
      rw [s47_44]
      simp (disch := omega) only [s47_0, s47_1, s47_2, s47_3, s47_6, s47_8, s47_9, s47_11, s47_12, s47_14, s47_15, s47_19, s47_20, s47_23, s47_26, s47_27, s47_29, s47_32, s47_35, s47_37, s47_38, s47_41, s47_42, s47_46, s47_48, s47_51, s47_52, s47_55, s47_57, s47_59, s47_60, s47_62, s47_63, s47_64, s47_66, s47_67, s47_70, s47_72, s47_73, s47_75, s47_76, s47_77, s47_80, s47_82, s47_83, s47_85, s47_86, s47_89, s47_90, s47_93, s47_96, s47_99, s47_101, s47_103, s47_104, s47_106, s47_109, s47_112, s47_113, s47_114, s47_115, s47_118, s47_120, s47_122, s47_124, s47_127, s47_129, s47_131, s47_134, s47_135, s47_136, s47_139, s47_140, s47_142, s47_144, s47_146, s47_149, s47_150, s47_153, s47_154, s47_155, s47_158, s47_160, s47_162, s47_163, s47_164, s47_166, s47_167, s47_169, s47_172, s47_173, q_0, q_1, q_2, q_3, q_4, q_5, q_6, q_7, q_8, q_9, q_10, q_11, q_12, q_13, q_14, q_16, q_20, q_23, q_24, q_32, q_42, q_43, q_45, q_47, q_48, q_50, q_57, q_59, q_60, q_61, q_62, q_63, q_64, q_66, q_91, q_93, q_97, q_99, q_122, q_144, q_255, q_256, q_300, q_380, q_400, q_620, q_999, q_1000, q_4095, q_4096, q_9999, q_65536, q_99999, q_31, nI_add, pk_mul, nE, nL, nT, nM31, nShl, ib_nI, nI_clamp, bI_n0, bI_n1, bI_nar, uI_r, uI_l, uL_r, uL_i, uL_p, uA_r, uA_l, bV_some, bU_some, nar_n0, nar_n1, and_self, and_true, true_and, and_false, false_and, if_true, if_false, eq_self, Bool.false_eq_true, Bool.true_eq_false, not_true_eq_false, not_false_eq_true, ↓reduceIte, nlT, nlF, ntT, ntF, neT, neF, ieT, ieF, decide_true, decide_false, Bool.not_true, Bool.not_false, Bool.and_true, Bool.true_and, Bool.and_false, Bool.false_and, Bool.or_true, Bool.true_or, Bool.or_false, Bool.false_or, r1, nDiv, nRm, e1]
  · intro S1 hI
    obtain ⟨i1, i2, i3⟩ := hI
    refine ⟨S1, vI (nI L.length), ?_, i1, fun t' i' g1 g2 g3 => ?_⟩
    · show run 47 0 44 _ _ _ = _
      rw [s47_44]
      simp (disch := omega) only [s47_0, s47_1, s47_2, s47_3, s47_6, s47_8, s47_9, s47_11, s47_12, s47_14, s47_15, s47_19, s47_20, s47_23, s47_26, s47_27, s47_29, s47_32, s47_35, s47_37, s47_38, s47_41, s47_42, s47_46, s47_48, s47_51, s47_52, s47_55, s47_57, s47_59, s47_60, s47_62, s47_63, s47_64, s47_66, s47_67, s47_70, s47_72, s47_73, s47_75, s47_76, s47_77, s47_80, s47_82, s47_83, s47_85, s47_86, s47_89, s47_90, s47_93, s47_96, s47_99, s47_101, s47_103, s47_104, s47_106, s47_109, s47_112, s47_113, s47_114, s47_115, s47_118, s47_120, s47_122, s47_124, s47_127, s47_129, s47_131, s47_134, s47_135, s47_136, s47_139, s47_140, s47_142, s47_144, s47_146, s47_149, s47_150, s47_153, s47_154, s47_155, s47_158, s47_160, s47_162, s47_163, s47_164, s47_166, s47_167, s47_169, s47_172, s47_173, q_0, q_1, q_2, q_3, q_4, q_5, q_6, q_7, q_8, q_9, q_10, q_11, q_12, q_13, q_14, q_16, q_20, q_23, q_24, q_32, q_42, q_43, q_45, q_47, q_48, q_50, q_57, q_59, q_60, q_61, q_62, q_63, q_64, q_66, q_91, q_93, q_97, q_99, q_122, q_144, q_255, q_256, q_300, q_380, q_400, q_620, q_999, q_1000, q_4095, q_4096, q_9999, q_65536, q_99999, q_31, nI_add, pk_mul, nE, nL, nT, nM31, nShl, ib_nI, nI_clamp, bI_n0, bI_n1, bI_nar, uI_r, uI_l, uL_r, uL_i, uL_p, uA_r, uA_l, bV_some, bU_some, nar_n0, nar_n1, and_self, and_true, true_and, and_false, false_and, if_true, if_false, eq_self, Bool.false_eq_true, Bool.true_eq_false, not_true_eq_false, not_false_eq_true, ↓reduceIte, nlT, nlF, ntT, ntF, neT, neF, ieT, ieF, decide_true, decide_false, Bool.not_true, Bool.not_false, Bool.and_true, Bool.true_and, Bool.and_false, Bool.false_and, Bool.or_true, Bool.true_or, Bool.or_false, Bool.false_or]
    · by_cases e : t' = t
      · rw [e]
        exact i3 i' g3
      · exact i2 t' i' (by omega) g2 g3
theorem SbS.all {S : Sto} {A : Tn} {m T : Nat} {L : List Nat} (h : SbS S A m L T) (hm : m < 2 ^ T) : SbS S A m L 24 := by
  intro t i _ h2 h3
  refine h t i ?_ h2 h3
  apply Classical.byContradiction
  intro hn
  rw [tb_hi hm (i := t) (by omega)] at h2
  cases h2
theorem ctp_T {m T : Nat} (hm : m < 2 ^ T) (hT : T ≤ 24) : ctp m T = ctp m 24 := by
  have := ct_zero (P := fun i => m.testBit i) T (24 - T) (fun i h1 _ => tb_hi hm h1)
  rw [show T + (24 - T) = 24 by omega] at this
  exact this.symm
/-- how many things are stopped then, and who has the thing at place k -/
def lyB (A : Tn) (m p : Nat) : Nat := (amI (lyF A m (plL p)) ((plL p).length ^ ctp m 24)).1
def lyV (A : Tn) (m p : Nat) (k : Int32) : Int32 := if k < nI 0 then nI (lyF A m (plL p) (lyB A m p)) else nI ((plL p).getD (lyB A m p / (plL p).length ^ (ctp m 24 - 1 - k.toNatClampNeg) % (plL p).length) 0)
theorem x_layOut {S : Sto} {q : Nat} {A : Tn} {m p : Nat} {k : Int32} (h : RepC S q A) (hw : WF A) (hm : m < 2 ^ A 0 1) (hc1 : 1 ≤ ctp m 24) (hc : ctp m 24 ≤ 4) (hp : p < 2 ^ A 0 0) (hp2 : 2 ≤ ctp p 12) (hp4 : ctp p 12 ≤ 4) (hk : k = -nI 1 ∨ ∃ j, j < ctp m 24 ∧ k = nI j) : ∃ S', call 47 0 [vR 36 0, vR 1 q, vI (nI m), vI (nI p), vI k] S = some (some (vI (lyV A m p k)), S') ∧ Fr (pL [39, 40]) S S' := by
  have hT := hw.th
  have hT2 : 2 ^ A 0 1 ≤ 2 ^ 24 := Nat.pow_le_pow_right (by decide) hT
  obtain ⟨S1, a1, a2, a3⟩ := x_findPairs h hw hp hp4
  have h1 := h.pl a2 (by decide)
  have hl := plL_len hp4 hp2
  have hLm : ∀ x, x ∈ plL p → x / 16 < x % 16 ∧ x % 16 < 12 ∧ x < 200 := fun x hx => by
    have := plE_mem hx (by decide)
    exact ⟨this.1, this.2.1, this.2.2.2.2⟩
  have hpw : ∀ j, j ≤ 4 → (plL p).length ^ j ≤ 1296 ∧ 0 < (plL p).length ^ j := by
    intro j hj
    have e1 : (plL p).length ^ j ≤ 6 ^ j := Nat.pow_le_pow_left hl.2 j
    have e2 : 6 ^ j ≤ 6 ^ 4 := Nat.pow_le_pow_right (by decide) hj
    have e3 : (6 : Nat) ^ 4 = 1296 := by decide
    exact ⟨by omega, Nat.pow_pos (by omega)⟩
  show ∃ S', run 47 0 0 [vR 36 0, vR 1 q, vI (nI m), vI (nI p), vI k, vU, vU, vU, vU, vU] [] S = _ ∧ _
  simp (disch := omega) only [s47_0, s47_1, s47_2, s47_3, s47_6, s47_8, s47_9, s47_11, s47_12, s47_14, s47_15, s47_19, s47_20, s47_23, s47_26, s47_27, s47_29, s47_32, s47_35, s47_37, s47_38, s47_41, s47_42, s47_46, s47_48, s47_51, s47_52, s47_55, s47_57, s47_59, s47_60, s47_62, s47_63, s47_64, s47_66, s47_67, s47_70, s47_72, s47_73, s47_75, s47_76, s47_77, s47_80, s47_82, s47_83, s47_85, s47_86, s47_89, s47_90, s47_93, s47_96, s47_99, s47_101, s47_103, s47_104, s47_106, s47_109, s47_112, s47_113, s47_114, s47_115, s47_118, s47_120, s47_122, s47_124, s47_127, s47_129, s47_131, s47_134, s47_135, s47_136, s47_139, s47_140, s47_142, s47_144, s47_146, s47_149, s47_150, s47_153, s47_154, s47_155, s47_158, s47_160, s47_162, s47_163, s47_164, s47_166, s47_167, s47_169, s47_172, s47_173, q_0, q_1, q_2, q_3, q_4, q_5, q_6, q_7, q_8, q_9, q_10, q_11, q_12, q_13, q_14, q_16, q_20, q_23, q_24, q_32, q_42, q_43, q_45, q_47, q_48, q_50, q_57, q_59, q_60, q_61, q_62, q_63, q_64, q_66, q_91, q_93, q_97, q_99, q_122, q_144, q_255, q_256, q_300, q_380, q_400, q_620, q_999, q_1000, q_4095, q_4096, q_9999, q_65536, q_99999, q_31, nI_add, pk_mul, nE, nL, nT, nM31, nShl, ib_nI, nI_clamp, bI_n0, bI_n1, bI_nar, uI_r, uI_l, uL_r, uL_i, uL_p, uA_r, uA_l, bV_some, bU_some, nar_n0, nar_n1, and_self, and_true, true_and, and_false, false_and, if_true, if_false, eq_self, Bool.false_eq_true, Bool.true_eq_false, not_true_eq_false, not_false_eq_true, ↓reduceIte, nlT, nlF, ntT, ntF, neT, neF, ieT, ieF, decide_true, decide_false, Bool.not_true, Bool.not_false, Bool.and_true, Bool.true_and, Bool.and_false, Bool.false_and, Bool.or_true, Bool.true_or, Bool.or_false, Bool.false_or, a1]
  refine upS (σ := Sto × av) (I := fun t s => Fr (pL [39, 40]) S s.1 ∧ PlS s.1 (plL p) ∧ SbS s.1 A m (plL p) t) (F := fun t s => run 47 0 17 [vR 36 0, vR 1 q, vI (nI m), vI (nI p), vI k, vI (nI (plL p).length), vI (nI (ctp m t)), vI (nI ((plL p).length ^ ctp m t)), vI (nI t), s.2] [] s.1) (Q := fun z => ∃ S', z = some (some (vI (lyV A m p k)), S') ∧ Fr (pL [39, 40]) S S') (N := A 0 1) ?_ ?_ 0 (S1, vU) (by omega) ⟨a2.pl (by simp), a3, fun t i ht => by omega⟩
  · intro t s ht hI
    obtain ⟨S2, x⟩ := s
    obtain ⟨i1, i2, i3⟩ := hI
    simp only at i1 i2 i3
    have h2 := h.pl i1 (by decide)
    refine Or.inr ?_
    show ∃ s', _ ∧ run 47 0 17 [vR 36 0, vR 1 q, vI (nI m), vI (nI p), vI k, vI (nI (plL p).length), vI (nI (ctp m t)), vI (nI ((plL p).length ^ ctp m t)), vI (nI t), x] [] S2 = run 47 0 17 _ _ _
    rw [s47_17, ctp_s m t]
    cases c1 : m.testBit t with
    | false =>
      refine ⟨(S2, x), ⟨i1, i2, fun t' i' g1 g2 g3 => ?_⟩, ?_⟩
      · by_cases e : t' = t
        · rw [e, c1] at g2; cases g2
        · exact i3 t' i' (by omega) g2 g3
      · simp (disch := omega) only [s47_0, s47_1, s47_2, s47_3, s47_6, s47_8, s47_9, s47_11, s47_12, s47_14, s47_15, s47_19, s47_20, s47_23, s47_26, s47_27, s47_29, s47_32, s47_35, s47_37, s47_38, s47_41, s47_42, s47_46, s47_48, s47_51, s47_52, s47_55, s47_57, s47_59, s47_60, s47_62, s47_63, s47_64, s47_66, s47_67, s47_70, s47_72, s47_73, s47_75, s47_76, s47_77, s47_80, s47_82, s47_83, s47_85, s47_86, s47_89, s47_90, s47_93, s47_96, s47_99, s47_101, s47_103, s47_104, s47_106, s47_109, s47_112, s47_113, s47_114, s47_115, s47_118, s47_120, s47_122, s47_124, s47_127, s47_129, s47_131, s47_134, s47_135, s47_136, s47_139, s47_140, s47_142, s47_144, s47_146, s47_149, s47_150, s47_153, s47_154, s47_155, s47_158, s47_160, s47_162, s47_163, s47_164, s47_166, s47_167, s47_169, s47_172, s47_173, q_0, q_1, q_2, q_3, q_4, q_5, q_6, q_7, q_8, q_9, q_10, q_11, q_12, q_13, q_14, q_16, q_20, q_23, q_24, q_32, q_42, q_43, q_45, q_47, q_48, q_50, q_57, q_59, q_60, q_61, q_62, q_63, q_64, q_66, q_91, q_93, q_97, q_99, q_122, q_144, q_255, q_256, q_300, q_380, q_400, q_620, q_999, q_1000, q_4095, q_4096, q_9999, q_65536, q_99999, q_31, nI_add, pk_mul, nE, nL, nT, nM31, nShl, ib_nI, nI_clamp, bI_n0, bI_n1, bI_nar, uI_r, uI_l, uL_r, uL_i, uL_p, uA_r, uA_l, bV_some, bU_some, nar_n0, nar_n1, and_self, and_true, true_and, and_false, false_and, if_true, if_false, eq_self, Bool.false_eq_true, Bool.true_eq_false, not_true_eq_false, not_false_eq_true, ↓reduceIte, nlT, nlF, ntT, ntF, neT, neF, ieT, ieF, decide_true, decide_false, Bool.not_true, Bool.not_false, Bool.and_true, Bool.true_and, Bool.and_false, Bool.false_and, Bool.or_true, Bool.true_or, Bool.or_false, Bool.false_or, h2.th, x_has, c1, Nat.add_zero]
    | true =>
      have g4 : ctp m (t + 1) = ctp m t + 1 := by rw [ctp_s, if_pos c1]
      have g5 : ctp m (t + 1) ≤ ctp m 24 := ct_mo _ (by omega)
      obtain ⟨S3, x', d1, d2, d3⟩ := x_lyIn (p := p) (k := vI k) (w9 := x) (ways := (plL p).length ^ ctp m t) h2 hw hLm i2 hl.2 i3 (by omega) c1 (by omega)
      refine ⟨(S3, x'), ⟨i1.tr (d2.pl (by simp)), fun i hi => by rw [d2.i rfl]; exact i2 i hi, d3⟩, ?_⟩
      simp (disch := omega) only [s47_0, s47_1, s47_2, s47_3, s47_6, s47_8, s47_9, s47_11, s47_12, s47_14, s47_15, s47_19, s47_20, s47_23, s47_26, s47_27, s47_29, s47_32, s47_35, s47_37, s47_38, s47_41, s47_42, s47_46, s47_48, s47_51, s47_52, s47_55, s47_57, s47_59, s47_60, s47_62, s47_63, s47_64, s47_66, s47_67, s47_70, s47_72, s47_73, s47_75, s47_76, s47_77, s47_80, s47_82, s47_83, s47_85, s47_86, s47_89, s47_90, s47_93, s47_96, s47_99, s47_101, s47_103, s47_104, s47_106, s47_109, s47_112, s47_113, s47_114, s47_115, s47_118, s47_120, s47_122, s47_124, s47_127, s47_129, s47_131, s47_134, s47_135, s47_136, s47_139, s47_140, s47_142, s47_144, s47_146, s47_149, s47_150, s47_153, s47_154, s47_155, s47_158, s47_160, s47_162, s47_163, s47_164, s47_166, s47_167, s47_169, s47_172, s47_173, q_0, q_1, q_2, q_3, q_4, q_5, q_6, q_7, q_8, q_9, q_10, q_11, q_12, q_13, q_14, q_16, q_20, q_23, q_24, q_32, q_42, q_43, q_45, q_47, q_48, q_50, q_57, q_59, q_60, q_61, q_62, q_63, q_64, q_66, q_91, q_93, q_97, q_99, q_122, q_144, q_255, q_256, q_300, q_380, q_400, q_620, q_999, q_1000, q_4095, q_4096, q_9999, q_65536, q_99999, q_31, nI_add, pk_mul, nE, nL, nT, nM31, nShl, ib_nI, nI_clamp, bI_n0, bI_n1, bI_nar, uI_r, uI_l, uL_r, uL_i, uL_p, uA_r, uA_l, bV_some, bU_some, nar_n0, nar_n1, and_self, and_true, true_and, and_false, false_and, if_true, if_false, eq_self, Bool.false_eq_true, Bool.true_eq_false, not_true_eq_false, not_false_eq_true, ↓reduceIte, nlT, nlF, ntT, ntF, neT, neF, ieT, ieF, decide_true, decide_false, Bool.not_true, Bool.not_false, Bool.and_true, Bool.true_and, Bool.and_false, Bool.false_and, Bool.or_true, Bool.true_or, Bool.or_false, Bool.false_or, h2.th, x_has, c1, Nat.pow_succ]
      exact d1
  · intro s hI
    obtain ⟨S2, x⟩ := s
    obtain ⟨i1, i2, i3⟩ := hI
    simp only at i1 i2 i3
    have h2 := h.pl i1 (by decide)
    have i3' := i3.all hm
    have hw4 := hpw (ctp m 24) hc
    have e1 := x_stWo h2 hw (m := m) (by omega)
    have e2 := x_firstWay hw i3' hc hl.1 hl.2 (ways := (plL p).length ^ ctp m 24) (by omega)
    have e2' : call 49 0 [vR 36 0, vI (nI (stW A m)), vI (nI (ctp m 24)), vI (nI ((plL p).length ^ ctp m 24)), vI (nI (plL p).length)] S2 = some (some (vI (nI (lyB A m p))), S2) := e2
    have l1 := (amI_p (lyF_le hw m (plL p)) hw4.2).1
    have l1' : lyB A m p < (plL p).length ^ ctp m 24 := l1
    have e3 := x_inWay (way := lyB A m p) i3' hc hl.1 hl.2 (by omega)
    have l3 : stW A m ||| siw A m (plL p) (lyB A m p) < 2 ^ 12 := Nat.or_lt_two_pow (stW_lt hw m) (siw_lt hw m _ _)
    have e4 : call 270 0 [vI (nI (stW A m ||| siw A m (plL p) (lyB A m p)))] S2 = some (some (vI (nI (lyF A m (plL p) (lyB A m p)))), S2) := x_bitCount S2 (by omega)
    refine ⟨S2, ?_, i1⟩
    show run 47 0 17 [vR 36 0, vR 1 q, vI (nI m), vI (nI p), vI k, vI (nI (plL p).length), vI (nI (ctp m (A 0 1))), vI (nI ((plL p).length ^ ctp m (A 0 1))), vI (nI (A 0 1)), x] [] S2 = _
    rw [s47_17, ctp_T hm hT]
    unfold lyV
    rcases hk with rfl | ⟨j, hj, rfl⟩
    · have c0 : (-nI 1 < nI 0) = True := by decide
      have c1 : (nI 0 ≤ -nI 1) = False := by decide
      simp (disch := omega) only [s47_0, s47_1, s47_2, s47_3, s47_6, s47_8, s47_9, s47_11, s47_12, s47_14, s47_15, s47_19, s47_20, s47_23, s47_26, s47_27, s47_29, s47_32, s47_35, s47_37, s47_38, s47_41, s47_42, s47_46, s47_48, s47_51, s47_52, s47_55, s47_57, s47_59, s47_60, s47_62, s47_63, s47_64, s47_66, s47_67, s47_70, s47_72, s47_73, s47_75, s47_76, s47_77, s47_80, s47_82, s47_83, s47_85, s47_86, s47_89, s47_90, s47_93, s47_96, s47_99, s47_101, s47_103, s47_104, s47_106, s47_109, s47_112, s47_113, s47_114, s47_115, s47_118, s47_120, s47_122, s47_124, s47_127, s47_129, s47_131, s47_134, s47_135, s47_136, s47_139, s47_140, s47_142, s47_144, s47_146, s47_149, s47_150, s47_153, s47_154, s47_155, s47_158, s47_160, s47_162, s47_163, s47_164, s47_166, s47_167, s47_169, s47_172, s47_173, q_0, q_1, q_2, q_3, q_4, q_5, q_6, q_7, q_8, q_9, q_10, q_11, q_12, q_13, q_14, q_16, q_20, q_23, q_24, q_32, q_42, q_43, q_45, q_47, q_48, q_50, q_57, q_59, q_60, q_61, q_62, q_63, q_64, q_66, q_91, q_93, q_97, q_99, q_122, q_144, q_255, q_256, q_300, q_380, q_400, q_620, q_999, q_1000, q_4095, q_4096, q_9999, q_65536, q_99999, q_31, nI_add, pk_mul, nE, nL, nT, nM31, nShl, ib_nI, nI_clamp, bI_n0, bI_n1, bI_nar, uI_r, uI_l, uL_r, uL_i, uL_p, uA_r, uA_l, bV_some, bU_some, nar_n0, nar_n1, and_self, and_true, true_and, and_false, false_and, if_true, if_false, eq_self, Bool.false_eq_true, Bool.true_eq_false, not_true_eq_false, not_false_eq_true, ↓reduceIte, nlT, nlF, ntT, ntF, neT, neF, ieT, ieF, decide_true, decide_false, Bool.not_true, Bool.not_false, Bool.and_true, Bool.true_and, Bool.and_false, Bool.false_and, Bool.or_true, Bool.true_or, Bool.or_false, Bool.false_or, h2.th, e1, e2', e3, nx_or, e4, c0, c1]
    · have hm5 : lyB A m p / (plL p).length ^ (ctp m 24 - 1 - j) % (plL p).length < (plL p).length := Nat.mod_lt _ (by omega)
      have e5 := x_pairOf S2 (way := lyB A m p) (lo := ctp m 24 - 1 - j) (n := (plL p).length) (by omega) (by omega) hl.1 hl.2
      have r1 := i2 _ hm5
      have l9 := hl.2
      rw [nI_clamp (by omega)]
      simp (disch := omega) only [s47_0, s47_1, s47_2, s47_3, s47_6, s47_8, s47_9, s47_11, s47_12, s47_14, s47_15, s47_19, s47_20, s47_23, s47_26, s47_27, s47_29, s47_32, s47_35, s47_37, s47_38, s47_41, s47_42, s47_46, s47_48, s47_51, s47_52, s47_55, s47_57, s47_59, s47_60, s47_62, s47_63, s47_64, s47_66, s47_67, s47_70, s47_72, s47_73, s47_75, s47_76, s47_77, s47_80, s47_82, s47_83, s47_85, s47_86, s47_89, s47_90, s47_93, s47_96, s47_99, s47_101, s47_103, s47_104, s47_106, s47_109, s47_112, s47_113, s47_114, s47_115, s47_118, s47_120, s47_122, s47_124, s47_127, s47_129, s47_131, s47_134, s47_135, s47_136, s47_139, s47_140, s47_142, s47_144, s47_146, s47_149, s47_150, s47_153, s47_154, s47_155, s47_158, s47_160, s47_162, s47_163, s47_164, s47_166, s47_167, s47_169, s47_172, s47_173, q_0, q_1, q_2, q_3, q_4, q_5, q_6, q_7, q_8, q_9, q_10, q_11, q_12, q_13, q_14, q_16, q_20, q_23, q_24, q_32, q_42, q_43, q_45, q_47, q_48, q_50, q_57, q_59, q_60, q_61, q_62, q_63, q_64, q_66, q_91, q_93, q_97, q_99, q_122, q_144, q_255, q_256, q_300, q_380, q_400, q_620, q_999, q_1000, q_4095, q_4096, q_9999, q_65536, q_99999, q_31, nI_add, pk_mul, nE, nL, nT, nM31, nShl, ib_nI, nI_clamp, bI_n0, bI_n1, bI_nar, uI_r, uI_l, uL_r, uL_i, uL_p, uA_r, uA_l, bV_some, bU_some, nar_n0, nar_n1, and_self, and_true, true_and, and_false, false_and, if_true, if_false, eq_self, Bool.false_eq_true, Bool.true_eq_false, not_true_eq_false, not_false_eq_true, ↓reduceIte, nlT, nlF, ntT, ntF, neT, neF, ieT, ieF, decide_true, decide_false, Bool.not_true, Bool.not_false, Bool.and_true, Bool.true_and, Bool.and_false, Bool.false_and, Bool.or_true, Bool.true_or, Bool.or_false, Bool.false_or, h2.th, e1, e2', nSub, e5, r1]
theorem pop_24 {m : Nat} (hm : m < 2 ^ 24) : pop m = ctp m 24 := pop_lt hm (by decide)
theorem pop_12 {m : Nat} (hm : m < 2 ^ 12) : pop m = ctp m 12 := pop_lt hm (by decide)
theorem k_v {k : Int32} {n : Nat} (hn : n < 100) (h1 : ¬ k < -nI 1) (h2 : k < nI n) : k = -nI 1 ∨ ∃ j, j < n ∧ k = nI j := by
  rw [Int32.lt_iff_toInt_lt] at h1 h2
  have e1 : (-nI 1 : Int32).toInt = -1 := by decide
  rw [e1] at h1
  rw [nI_toInt (by omega)] at h2
  by_cases c : k.toInt = -1
  · left
    apply Int32.toInt_inj.mp
    rw [c, e1]
  · right
    refine ⟨k.toInt.toNat, by omega, ?_⟩
    apply Int32.toInt_inj.mp
    rw [nI_toInt (by omega)]
    omega
def o_lay (A : Tn) (s p k : Int32) : Int32 := if (stB s (A 0 1) 1 4 && stB p (A 0 0) 2 4 && (dif p.toNatClampNeg (livB A) == 0) && !decide (k < -nI 1) && decide (k < nI (pop s.toNatClampNeg))) = true then lyV A s.toNatClampNeg p.toNatClampNeg k else -nI 1
theorem c_lay {S : Sto} {A : Tn} (h : RepC S 0 A) (hw : WF A) (s p k : Int32) : ∃ S1, call 125 0 [vR 0 0, vI s, vI p, vI k] S = some (some (vI (o_lay A s p k)), S1) ∧ FC S S1 ∧ RepC S1 0 A := by
  have hT := hw.th
  have hP := hw.pe
  show ∃ S1, run 125 0 0 [vR 0 0, vI s, vI p, vI k] [] S = _ ∧ _
  unfold o_lay
  cases e1 : stB s (A 0 1) 1 4 with
  | false =>
    simp (disch := omega) only [s125_0, s125_1, s125_2, s125_5, s125_8, s125_9, s125_10, s125_13, s125_16, s125_17, s125_18, s125_21, s125_24, s125_25, s125_26, s125_29, s125_32, s125_33, s125_34, s125_35, s125_36, s125_39, s125_42, s125_43, s125_44, s125_45, s125_48, s125_49, s125_50, s125_53, s125_54, s125_55, s125_58, s125_61, s125_62, s125_63, s125_64, s125_67, s125_68, s125_71, s125_72, s125_73, s125_74, s125_77, q_0, q_1, q_2, q_3, q_4, q_5, q_6, q_7, q_8, q_9, q_10, q_11, q_12, q_13, q_14, q_16, q_20, q_23, q_24, q_32, q_42, q_43, q_45, q_47, q_48, q_50, q_57, q_59, q_60, q_61, q_62, q_63, q_64, q_66, q_91, q_93, q_97, q_99, q_122, q_144, q_255, q_256, q_300, q_380, q_400, q_620, q_999, q_1000, q_4095, q_4096, q_9999, q_65536, q_99999, q_31, nI_add, pk_mul, nE, nL, nT, nM31, nShl, ib_nI, nI_clamp, bI_n0, bI_n1, bI_nar, uI_r, uI_l, uL_r, uL_i, uL_p, uA_r, uA_l, bV_some, bU_some, nar_n0, nar_n1, and_self, and_true, true_and, and_false, false_and, if_true, if_false, eq_self, Bool.false_eq_true, Bool.true_eq_false, not_true_eq_false, not_false_eq_true, ↓reduceIte, nlT, nlF, ntT, ntF, neT, neF, ieT, ieF, decide_true, decide_false, Bool.not_true, Bool.not_false, Bool.and_true, Bool.true_and, Bool.and_false, Bool.false_and, Bool.or_true, Bool.true_or, Bool.or_false, Bool.false_or, h.th, x_isSet, e1]
    exact ⟨_, rfl, FC.rf, h⟩
  | true =>
    cases e2 : stB p (A 0 0) 2 4 with
    | false =>
      simp (disch := omega) only [s125_0, s125_1, s125_2, s125_5, s125_8, s125_9, s125_10, s125_13, s125_16, s125_17, s125_18, s125_21, s125_24, s125_25, s125_26, s125_29, s125_32, s125_33, s125_34, s125_35, s125_36, s125_39, s125_42, s125_43, s125_44, s125_45, s125_48, s125_49, s125_50, s125_53, s125_54, s125_55, s125_58, s125_61, s125_62, s125_63, s125_64, s125_67, s125_68, s125_71, s125_72, s125_73, s125_74, s125_77, q_0, q_1, q_2, q_3, q_4, q_5, q_6, q_7, q_8, q_9, q_10, q_11, q_12, q_13, q_14, q_16, q_20, q_23, q_24, q_32, q_42, q_43, q_45, q_47, q_48, q_50, q_57, q_59, q_60, q_61, q_62, q_63, q_64, q_66, q_91, q_93, q_97, q_99, q_122, q_144, q_255, q_256, q_300, q_380, q_400, q_620, q_999, q_1000, q_4095, q_4096, q_9999, q_65536, q_99999, q_31, nI_add, pk_mul, nE, nL, nT, nM31, nShl, ib_nI, nI_clamp, bI_n0, bI_n1, bI_nar, uI_r, uI_l, uL_r, uL_i, uL_p, uA_r, uA_l, bV_some, bU_some, nar_n0, nar_n1, and_self, and_true, true_and, and_false, false_and, if_true, if_false, eq_self, Bool.false_eq_true, Bool.true_eq_false, not_true_eq_false, not_false_eq_true, ↓reduceIte, nlT, nlF, ntT, ntF, neT, neF, ieT, ieF, decide_true, decide_false, Bool.not_true, Bool.not_false, Bool.and_true, Bool.true_and, Bool.and_false, Bool.false_and, Bool.or_true, Bool.true_or, Bool.or_false, Bool.false_or, h.th, h.pe, x_isSet, e1, e2]
      exact ⟨_, rfl, FC.rf, h⟩
    | true =>
      have e1' := e1
      have e2' := e2
      obtain ⟨m, m1, rfl, m2, m3, m4⟩ := stB_t hT e1
      obtain ⟨w, w1, rfl, w2, w3, w4⟩ := stB_t (by omega) e2
      rw [nI_clamp (by omega), nI_clamp (by omega)]
      have hP2 : 2 ^ A 0 0 ≤ 2 ^ 12 := Nat.pow_le_pow_right (by decide) hP
      have l1 := dif_lt w (livB A)
      by_cases e3 : dif w (livB A) = 0
      · have e3' : (dif w (livB A) == 0) = true := by simp [e3]
        by_cases e4 : k < -nI 1
        · simp (disch := omega) only [s125_0, s125_1, s125_2, s125_5, s125_8, s125_9, s125_10, s125_13, s125_16, s125_17, s125_18, s125_21, s125_24, s125_25, s125_26, s125_29, s125_32, s125_33, s125_34, s125_35, s125_36, s125_39, s125_42, s125_43, s125_44, s125_45, s125_48, s125_49, s125_50, s125_53, s125_54, s125_55, s125_58, s125_61, s125_62, s125_63, s125_64, s125_67, s125_68, s125_71, s125_72, s125_73, s125_74, s125_77, q_0, q_1, q_2, q_3, q_4, q_5, q_6, q_7, q_8, q_9, q_10, q_11, q_12, q_13, q_14, q_16, q_20, q_23, q_24, q_32, q_42, q_43, q_45, q_47, q_48, q_50, q_57, q_59, q_60, q_61, q_62, q_63, q_64, q_66, q_91, q_93, q_97, q_99, q_122, q_144, q_255, q_256, q_300, q_380, q_400, q_620, q_999, q_1000, q_4095, q_4096, q_9999, q_65536, q_99999, q_31, nI_add, pk_mul, nE, nL, nT, nM31, nShl, ib_nI, nI_clamp, bI_n0, bI_n1, bI_nar, uI_r, uI_l, uL_r, uL_i, uL_p, uA_r, uA_l, bV_some, bU_some, nar_n0, nar_n1, and_self, and_true, true_and, and_false, false_and, if_true, if_false, eq_self, Bool.false_eq_true, Bool.true_eq_false, not_true_eq_false, not_false_eq_true, ↓reduceIte, nlT, nlF, ntT, ntF, neT, neF, ieT, ieF, decide_true, decide_false, Bool.not_true, Bool.not_false, Bool.and_true, Bool.true_and, Bool.and_false, Bool.false_and, Bool.or_true, Bool.true_or, Bool.or_false, Bool.false_or, h.th, h.pe, h.lvb, x_isSet, e1', e2', nI_dif, e3, e3', e4]
          exact ⟨_, rfl, FC.rf, h⟩
        · by_cases e5 : k < nI (pop m)
          · rw [pop_24 m4] at m2 m3
            rw [pop_12 (by omega)] at w2 w3
            have hk := k_v (n := ctp m 24) (by omega) e4 (by rw [← pop_24 m4]; exact e5)
            obtain ⟨S1, a1, a2⟩ := x_layOut h hw m1 m2 m3 w1 w2 w3 hk
            simp (disch := omega) only [s125_0, s125_1, s125_2, s125_5, s125_8, s125_9, s125_10, s125_13, s125_16, s125_17, s125_18, s125_21, s125_24, s125_25, s125_26, s125_29, s125_32, s125_33, s125_34, s125_35, s125_36, s125_39, s125_42, s125_43, s125_44, s125_45, s125_48, s125_49, s125_50, s125_53, s125_54, s125_55, s125_58, s125_61, s125_62, s125_63, s125_64, s125_67, s125_68, s125_71, s125_72, s125_73, s125_74, s125_77, q_0, q_1, q_2, q_3, q_4, q_5, q_6, q_7, q_8, q_9, q_10, q_11, q_12, q_13, q_14, q_16, q_20, q_23, q_24, q_32, q_42, q_43, q_45, q_47, q_48, q_50, q_57, q_59, q_60, q_61, q_62, q_63, q_64, q_66, q_91, q_93, q_97, q_99, q_122, q_144, q_255, q_256, q_300, q_380, q_400, q_620, q_999, q_1000, q_4095, q_4096, q_9999, q_65536, q_99999, q_31, nI_add, pk_mul, nE, nL, nT, nM31, nShl, ib_nI, nI_clamp, bI_n0, bI_n1, bI_nar, uI_r, uI_l, uL_r, uL_i, uL_p, uA_r, uA_l, bV_some, bU_some, nar_n0, nar_n1, and_self, and_true, true_and, and_false, false_and, if_true, if_false, eq_self, Bool.false_eq_true, Bool.true_eq_false, not_true_eq_false, not_false_eq_true, ↓reduceIte, nlT, nlF, ntT, ntF, neT, neF, ieT, ieF, decide_true, decide_false, Bool.not_true, Bool.not_false, Bool.and_true, Bool.true_and, Bool.and_false, Bool.false_and, Bool.or_true, Bool.true_or, Bool.or_false, Bool.false_or, h.th, h.pe, h.lvb, x_isSet, e1', e2', nI_dif, e3, e3', e4, x_bitCount, e5, a1]
            exact ⟨_, rfl, FC.pl a2 (by decide), h.pl a2 (by decide)⟩
          · simp (disch := omega) only [s125_0, s125_1, s125_2, s125_5, s125_8, s125_9, s125_10, s125_13, s125_16, s125_17, s125_18, s125_21, s125_24, s125_25, s125_26, s125_29, s125_32, s125_33, s125_34, s125_35, s125_36, s125_39, s125_42, s125_43, s125_44, s125_45, s125_48, s125_49, s125_50, s125_53, s125_54, s125_55, s125_58, s125_61, s125_62, s125_63, s125_64, s125_67, s125_68, s125_71, s125_72, s125_73, s125_74, s125_77, q_0, q_1, q_2, q_3, q_4, q_5, q_6, q_7, q_8, q_9, q_10, q_11, q_12, q_13, q_14, q_16, q_20, q_23, q_24, q_32, q_42, q_43, q_45, q_47, q_48, q_50, q_57, q_59, q_60, q_61, q_62, q_63, q_64, q_66, q_91, q_93, q_97, q_99, q_122, q_144, q_255, q_256, q_300, q_380, q_400, q_620, q_999, q_1000, q_4095, q_4096, q_9999, q_65536, q_99999, q_31, nI_add, pk_mul, nE, nL, nT, nM31, nShl, ib_nI, nI_clamp, bI_n0, bI_n1, bI_nar, uI_r, uI_l, uL_r, uL_i, uL_p, uA_r, uA_l, bV_some, bU_some, nar_n0, nar_n1, and_self, and_true, true_and, and_false, false_and, if_true, if_false, eq_self, Bool.false_eq_true, Bool.true_eq_false, not_true_eq_false, not_false_eq_true, ↓reduceIte, nlT, nlF, ntT, ntF, neT, neF, ieT, ieF, decide_true, decide_false, Bool.not_true, Bool.not_false, Bool.and_true, Bool.true_and, Bool.and_false, Bool.false_and, Bool.or_true, Bool.true_or, Bool.or_false, Bool.false_or, h.th, h.pe, h.lvb, x_isSet, e1', e2', nI_dif, e3, e3', e4, x_bitCount, e5]
            exact ⟨_, rfl, FC.rf, h⟩
      · have e3' : (dif w (livB A) == 0) = false := by simp [e3]
        simp (disch := omega) only [s125_0, s125_1, s125_2, s125_5, s125_8, s125_9, s125_10, s125_13, s125_16, s125_17, s125_18, s125_21, s125_24, s125_25, s125_26, s125_29, s125_32, s125_33, s125_34, s125_35, s125_36, s125_39, s125_42, s125_43, s125_44, s125_45, s125_48, s125_49, s125_50, s125_53, s125_54, s125_55, s125_58, s125_61, s125_62, s125_63, s125_64, s125_67, s125_68, s125_71, s125_72, s125_73, s125_74, s125_77, q_0, q_1, q_2, q_3, q_4, q_5, q_6, q_7, q_8, q_9, q_10, q_11, q_12, q_13, q_14, q_16, q_20, q_23, q_24, q_32, q_42, q_43, q_45, q_47, q_48, q_50, q_57, q_59, q_60, q_61, q_62, q_63, q_64, q_66, q_91, q_93, q_97, q_99, q_122, q_144, q_255, q_256, q_300, q_380, q_400, q_620, q_999, q_1000, q_4095, q_4096, q_9999, q_65536, q_99999, q_31, nI_add, pk_mul, nE, nL, nT, nM31, nShl, ib_nI, nI_clamp, bI_n0, bI_n1, bI_nar, uI_r, uI_l, uL_r, uL_i, uL_p, uA_r, uA_l, bV_some, bU_some, nar_n0, nar_n1, and_self, and_true, true_and, and_false, false_and, if_true, if_false, eq_self, Bool.false_eq_true, Bool.true_eq_false, not_true_eq_false, not_false_eq_true, ↓reduceIte, nlT, nlF, ntT, ntF, neT, neF, ieT, ieF, decide_true, decide_false, Bool.not_true, Bool.not_false, Bool.and_true, Bool.true_and, Bool.and_false, Bool.false_and, Bool.or_true, Bool.true_or, Bool.or_false, Bool.false_or, h.th, h.pe, h.lvb, x_isSet, e1', e2', nI_dif, e3, e3']
        exact ⟨_, rfl, FC.rf, h⟩
