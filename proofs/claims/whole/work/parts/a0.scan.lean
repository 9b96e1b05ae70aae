/-! reading the tape: blanks, words -/
def scF (T : Tp) (P : Nat → Bool) : Nat → Nat → Nat
  | 0, p => p
  | m + 1, p => if (decide (p < T.1) && P (T.2 p)) = true then scF T P m (p + 1) else p
theorem scF_s (T : Tp) (P : Nat → Bool) (m p : Nat) : scF T P (m + 1) p = if (decide (p < T.1) && P (T.2 p)) = true then scF T P m (p + 1) else p := rfl
/-- the first place from p on where P doesn't hold -/
def sc (T : Tp) (P : Nat → Bool) (p : Nat) : Nat := scF T P (T.1 - p) p
theorem sc_t {T : Tp} {P : Nat → Bool} {p : Nat} (h : p < T.1) (hp : P (T.2 p) = true) : sc T P p = sc T P (p + 1) := by
  unfold sc
  rw [show T.1 - p = (T.1 - (p + 1)) + 1 by omega, scF_s, if_pos (by simp [h, hp])]
theorem sc_f {T : Tp} {P : Nat → Bool} {p : Nat} (h : ¬ (p < T.1 ∧ P (T.2 p) = true)) : sc T P p = p := by
  unfold sc
  cases e : T.1 - p with
  | zero => rfl
  | succ m => rw [scF_s, if_neg (by simpa using h)]
theorem sc_ind {T : Tp} {P : Nat → Bool} {Q : Nat → Prop} (h1 : ∀ p, p < T.1 → P (T.2 p) = true → Q (p + 1) → Q p) (h2 : ∀ p, ¬ (p < T.1 ∧ P (T.2 p) = true) → Q p) : ∀ p, Q p := by
  have key : ∀ m p, T.1 - p = m → Q p := by
    intro m
    induction m with
    | zero => intro p hp; exact h2 p (by omega)
    | succ m ih =>
      intro p hp
      by_cases c : p < T.1 ∧ P (T.2 p) = true
      · exact h1 p c.1 c.2 (ih (p + 1) (by omega))
      · exact h2 p c
  exact fun p => key (T.1 - p) p rfl
theorem sc_ge (T : Tp) (P : Nat → Bool) : ∀ p, p ≤ sc T P p := by
  refine sc_ind (T := T) (P := P) (Q := fun p => p ≤ sc T P p) ?_ ?_
  · intro p h1 h2 ih
    rw [sc_t h1 h2]
    omega
  · intro p h
    rw [sc_f h]
    exact Nat.le_refl _
theorem sc_le (T : Tp) (P : Nat → Bool) : ∀ p, p ≤ T.1 → sc T P p ≤ T.1 := by
  refine sc_ind (T := T) (P := P) (Q := fun p => p ≤ T.1 → sc T P p ≤ T.1) ?_ ?_
  · intro p h1 h2 ih hp
    rw [sc_t h1 h2]
    exact ih (by omega)
  · intro p h hp
    rw [sc_f h]
    exact hp
theorem sc_mx (T : Tp) (P : Nat → Bool) {p : Nat} (h : T.1 ≤ p) : sc T P p = p := sc_f (by omega)
theorem sc_b (T : Tp) (P : Nat → Bool) : ∀ p i, p ≤ i → i < sc T P p → i < T.1 ∧ P (T.2 i) = true := by
  refine sc_ind (T := T) (P := P) (Q := fun p => ∀ i, p ≤ i → i < sc T P p → i < T.1 ∧ P (T.2 i) = true) ?_ ?_
  · intro p h1 h2 ih i hi hs
    rw [sc_t h1 h2] at hs
    by_cases c : i = p
    · rw [c]; exact ⟨h1, h2⟩
    · exact ih i (by omega) hs
  · intro p h i hi hs
    rw [sc_f h] at hs
    omega
theorem sc_e (T : Tp) (P : Nat → Bool) : ∀ p, ¬ (sc T P p < T.1 ∧ P (T.2 (sc T P p)) = true) := by
  refine sc_ind (T := T) (P := P) (Q := fun p => ¬ (sc T P p < T.1 ∧ P (T.2 (sc T P p)) = true)) ?_ ?_
  · intro p h1 h2 ih
    rw [sc_t h1 h2]
    exact ih
  · intro p h
    rw [sc_f h]
    exact h
theorem sc_sc (T : Tp) (P : Nat → Bool) (p : Nat) : sc T P (sc T P p) = sc T P p := sc_f (sc_e T P p)
def blP (c : Nat) : Bool := c == 32
def ltP (c : Nat) : Bool := decide (97 ≤ c) && decide (c ≤ 122)
def dgP (c : Nat) : Bool := decide (48 ≤ c) && decide (c ≤ 57)
def chI (T : Tp) (p : Nat) : Int32 := if p < T.1 then nI (T.2 p) else -nI 1
def TpK (T : Tp) : Prop := T.1 ≤ 400 ∧ ∀ i, i < T.1 → T.2 i < 256
theorem uI_self {S : Sto} {t i k : Nat} {v : Int32} (h : S.1 t i k = v) : uI S t i k v = S := by
  unfold uI
  refine Prod.ext ?_ rfl
  funext a b c
  show (if a = t ∧ b = i ∧ c = k then v else S.1 a b c) = S.1 a b c
  by_cases e : a = t ∧ b = i ∧ c = k
  · rw [if_pos e, e.1, e.2.1, e.2.2, h]
  · rw [if_neg e]
theorem uI_uI (S : Sto) (t i k : Nat) (v w : Int32) : uI (uI S t i k v) t i k w = uI S t i k w := by
  unfold uI
  refine Prod.ext ?_ rfl
  funext a b c
  show (if a = t ∧ b = i ∧ c = k then w else if a = t ∧ b = i ∧ c = k then v else S.1 a b c) = (if a = t ∧ b = i ∧ c = k then w else S.1 a b c)
  by_cases e : a = t ∧ b = i ∧ c = k
  · rw [if_pos e, if_pos e]
  · rw [if_neg e, if_neg e, if_neg e]
theorem TpC.u {S : Sto} {T : Tp} (h : TpC S T) {t i k : Nat} {v : Int32} (h1 : t ≠ 25) (h2 : ¬ (t = 24 ∧ k = 1)) : TpC (uI S t i k v) T := by
  refine ⟨?_, fun j hj => ?_⟩
  · rw [uI_r, if_neg (by omega)]; exact h.1
  · rw [uI_r, if_neg (by omega)]; exact h.2 j hj
theorem TpM.u {S : Sto} {T : Tp} (h : TpM S T) {t i k : Nat} {v : Int32} (h1 : t ≠ 67) (h2 : ¬ (t = 50 ∧ k = 17)) : TpM (uI S t i k v) T := by
  refine ⟨?_, fun j hj => ?_⟩
  · rw [uI_r, if_neg (by omega)]; exact h.1
  · rw [uI_r, if_neg (by omega)]; exact h.2 j hj
theorem x_next {T : Tp} (hK : TpK T) : ∀ p {S : Sto}, TpC S T → S.1 24 0 2 = nI p → p ≤ 400 → call 58 0 [vR 24 0] S = some (some (vI (chI T (sc T blP p))), uI S 24 0 2 (nI (sc T blP p))) := by
  have hK1 := hK.1
  refine sc_ind (T := T) (P := blP) (Q := fun p => ∀ {S : Sto}, TpC S T → S.1 24 0 2 = nI p → p ≤ 400 → call 58 0 [vR 24 0] S = some (some (vI (chI T (sc T blP p))), uI S 24 0 2 (nI (sc T blP p)))) ?_ ?_
  · intro p h1 h2 ih S hT hp hp4
    have h3 : T.2 p = 32 := by simpa [blP] using h2
    have r1 := hT.2 p h1
    rw [h3] at r1
    have e := ih (S := uI S 24 0 2 (nI (p + 1))) (hT.u (by decide) (by decide)) (by rw [uI_r, if_pos ⟨rfl, rfl, rfl⟩]) (by omega)
    have e' : run 58 0 0 [vR 24 0] [] (uI S 24 0 2 (nI (p + 1))) = some (some (vI (chI T (sc T blP (p + 1)))), uI (uI S 24 0 2 (nI (p + 1))) 24 0 2 (nI (sc T blP (p + 1)))) := e
    rw [uI_uI] at e'
    show run 58 0 0 [vR 24 0] [] S = _
    rw [s58_0, sc_t h1 h2, ← e']
    simp (disch := omega) only [s58_1, s58_4, s58_5, s58_8, s58_11, s58_12, s58_15, s58_16, s58_19, s58_20, s58_22, s58_25, s58_26, s58_27, s58_30, s58_31, s58_32, s58_35, s58_38, s58_39, s58_42, s58_43, s58_46, s58_49, s58_50, s58_53, s58_54, s58_57, s58_58, s58_61, s58_62, q_0, q_1, q_2, q_3, q_4, q_5, q_6, q_7, q_8, q_9, q_10, q_11, q_12, q_13, q_14, q_16, q_20, q_23, q_24, q_32, q_42, q_43, q_45, q_47, q_48, q_50, q_57, q_59, q_60, q_61, q_62, q_63, q_64, q_66, q_91, q_93, q_97, q_99, q_122, q_144, q_255, q_256, q_300, q_380, q_400, q_620, q_999, q_1000, q_4095, q_4096, q_9999, q_65536, q_99999, q_31, nI_add, pk_mul, nE, nL, nT, nM31, nShl, ib_nI, nI_clamp, bI_n0, bI_n1, bI_nar, uI_r, uI_l, uL_r, uL_i, uL_p, uA_r, uA_l, bV_some, bU_some, nar_n0, nar_n1, and_self, and_true, true_and, and_false, false_and, if_true, if_false, eq_self, Bool.false_eq_true, Bool.true_eq_false, not_true_eq_false, not_false_eq_true, ↓reduceIte, nlT, nlF, ntT, ntF, neT, neF, ieT, ieF, decide_true, decide_false, Bool.not_true, Bool.not_false, Bool.and_true, Bool.true_and, Bool.and_false, Bool.false_and, Bool.or_true, Bool.true_or, Bool.or_false, Bool.false_or, hp, hT.1, r1]
  · intro p h S hT hp hp4
    rw [sc_f h, uI_self hp]
    show run 58 0 0 [vR 24 0] [] S = _
    rw [s58_0]
    unfold chI
    by_cases c : p < T.1
    · have r1 := hT.2 p c
      have hb := hK.2 p c
      have h3 : T.2 p ≠ 32 := fun e => h ⟨c, by simp [blP, e]⟩
      rw [if_pos c]
      simp (disch := omega) only [s58_1, s58_4, s58_5, s58_8, s58_11, s58_12, s58_15, s58_16, s58_19, s58_20, s58_22, s58_25, s58_26, s58_27, s58_30, s58_31, s58_32, s58_35, s58_38, s58_39, s58_42, s58_43, s58_46, s58_49, s58_50, s58_53, s58_54, s58_57, s58_58, s58_61, s58_62, q_0, q_1, q_2, q_3, q_4, q_5, q_6, q_7, q_8, q_9, q_10, q_11, q_12, q_13, q_14, q_16, q_20, q_23, q_24, q_32, q_42, q_43, q_45, q_47, q_48, q_50, q_57, q_59, q_60, q_61, q_62, q_63, q_64, q_66, q_91, q_93, q_97, q_99, q_122, q_144, q_255, q_256, q_300, q_380, q_400, q_620, q_999, q_1000, q_4095, q_4096, q_9999, q_65536, q_99999, q_31, nI_add, pk_mul, nE, nL, nT, nM31, nShl, ib_nI, nI_clamp, bI_n0, bI_n1, bI_nar, uI_r, uI_l, uL_r, uL_i, uL_p, uA_r, uA_l, bV_some, bU_some, nar_n0, nar_n1, and_self, and_true, true_and, and_false, false_and, if_true, if_false, eq_self, Bool.false_eq_true, Bool.true_eq_false, not_true_eq_false, not_false_eq_true, ↓reduceIte, nlT, nlF, ntT, ntF, neT, neF, ieT, ieF, decide_true, decide_false, Bool.not_true, Bool.not_false, Bool.and_true, Bool.true_and, Bool.and_false, Bool.false_and, Bool.or_true, Bool.true_or, Bool.or_false, Bool.false_or, hp, hT.1, r1, h3]
    · rw [if_neg c]
      simp (disch := omega) only [s58_1, s58_4, s58_5, s58_8, s58_11, s58_12, s58_15, s58_16, s58_19, s58_20, s58_22, s58_25, s58_26, s58_27, s58_30, s58_31, s58_32, s58_35, s58_38, s58_39, s58_42, s58_43, s58_46, s58_49, s58_50, s58_53, s58_54, s58_57, s58_58, s58_61, s58_62, q_0, q_1, q_2, q_3, q_4, q_5, q_6, q_7, q_8, q_9, q_10, q_11, q_12, q_13, q_14, q_16, q_20, q_23, q_24, q_32, q_42, q_43, q_45, q_47, q_48, q_50, q_57, q_59, q_60, q_61, q_62, q_63, q_64, q_66, q_91, q_93, q_97, q_99, q_122, q_144, q_255, q_256, q_300, q_380, q_400, q_620, q_999, q_1000, q_4095, q_4096, q_9999, q_65536, q_99999, q_31, nI_add, pk_mul, nE, nL, nT, nM31, nShl, ib_nI, nI_clamp, bI_n0, bI_n1, bI_nar, uI_r, uI_l, uL_r, uL_i, uL_p, uA_r, uA_l, bV_some, bU_some, nar_n0, nar_n1, and_self, and_true, true_and, and_false, false_and, if_true, if_false, eq_self, Bool.false_eq_true, Bool.true_eq_false, not_true_eq_false, not_false_eq_true, ↓reduceIte, nlT, nlF, ntT, ntF, neT, neF, ieT, ieF, decide_true, decide_false, Bool.not_true, Bool.not_false, Bool.and_true, Bool.true_and, Bool.and_false, Bool.false_and, Bool.or_true, Bool.true_or, Bool.or_false, Bool.false_or, hp, hT.1]
theorem x_wEnd {T : Tp} (hK : TpK T) (x1 x2 x3 x4 x5 x6 x7 : av) : ∀ b {S : Sto}, TpC S T → S.1 24 0 3 = nI b → b ≤ 400 → run 59 0 8 [vR 24 0, x1, x2, x3, x4, x5, x6, x7] [] S = run 59 0 60 [vR 24 0, x1, x2, x3, x4, x5, x6, x7] [] (uI S 24 0 3 (nI (sc T ltP b))) := by
  have hK1 := hK.1
  refine sc_ind (T := T) (P := ltP) (Q := fun b => ∀ {S : Sto}, TpC S T → S.1 24 0 3 = nI b → b ≤ 400 → run 59 0 8 [vR 24 0, x1, x2, x3, x4, x5, x6, x7] [] S = run 59 0 60 [vR 24 0, x1, x2, x3, x4, x5, x6, x7] [] (uI S 24 0 3 (nI (sc T ltP b)))) ?_ ?_
  · intro p h1 h2 ih S hT hp hp4
    have h3 : 97 ≤ T.2 p ∧ T.2 p ≤ 122 := by simpa [ltP] using h2
    have r1 := hT.2 p h1
    have e := ih (S := uI S 24 0 3 (nI (p + 1))) (hT.u (by decide) (by decide)) (by rw [uI_r, if_pos ⟨rfl, rfl, rfl⟩]) (by omega)
    rw [uI_uI] at e
    rw [s59_8, sc_t h1 h2, ← e]
    simp (disch := omega) only [s59_9, s59_12, s59_13, s59_16, s59_19, s59_20, s59_23, s59_24, s59_27, s59_28, s59_30, s59_33, s59_34, s59_37, s59_38, s59_41, s59_42, s59_44, s59_47, s59_48, s59_49, s59_52, s59_53, s59_54, s59_57, q_0, q_1, q_2, q_3, q_4, q_5, q_6, q_7, q_8, q_9, q_10, q_11, q_12, q_13, q_14, q_16, q_20, q_23, q_24, q_32, q_42, q_43, q_45, q_47, q_48, q_50, q_57, q_59, q_60, q_61, q_62, q_63, q_64, q_66, q_91, q_93, q_97, q_99, q_122, q_144, q_255, q_256, q_300, q_380, q_400, q_620, q_999, q_1000, q_4095, q_4096, q_9999, q_65536, q_99999, q_31, nI_add, pk_mul, nE, nL, nT, nM31, nShl, ib_nI, nI_clamp, bI_n0, bI_n1, bI_nar, uI_r, uI_l, uL_r, uL_i, uL_p, uA_r, uA_l, bV_some, bU_some, nar_n0, nar_n1, and_self, and_true, true_and, and_false, false_and, if_true, if_false, eq_self, Bool.false_eq_true, Bool.true_eq_false, not_true_eq_false, not_false_eq_true, ↓reduceIte, nlT, nlF, ntT, ntF, neT, neF, ieT, ieF, decide_true, decide_false, Bool.not_true, Bool.not_false, Bool.and_true, Bool.true_and, Bool.and_false, Bool.false_and, Bool.or_true, Bool.true_or, Bool.or_false, Bool.false_or, hp, hT.1, r1]
  · intro p h S hT hp hp4
    rw [sc_f h, uI_self hp, s59_8]
    by_cases c : p < T.1
    · have r1 := hT.2 p c
      have hb := hK.2 p c
      have h3 : ¬ (97 ≤ T.2 p ∧ T.2 p ≤ 122) := fun e => h ⟨c, by simpa [ltP] using e⟩
      by_cases c2 : 97 ≤ T.2 p
      · simp (disch := omega) only [s59_9, s59_12, s59_13, s59_16, s59_19, s59_20, s59_23, s59_24, s59_27, s59_28, s59_30, s59_33, s59_34, s59_37, s59_38, s59_41, s59_42, s59_44, q_0, q_1, q_2, q_3, q_4, q_5, q_6, q_7, q_8, q_9, q_10, q_11, q_12, q_13, q_14, q_16, q_20, q_23, q_24, q_32, q_42, q_43, q_45, q_47, q_48, q_50, q_57, q_59, q_60, q_61, q_62, q_63, q_64, q_66, q_91, q_93, q_97, q_99, q_122, q_144, q_255, q_256, q_300, q_380, q_400, q_620, q_999, q_1000, q_4095, q_4096, q_9999, q_65536, q_99999, q_31, nI_add, pk_mul, nE, nL, nT, nM31, nShl, ib_nI, nI_clamp, bI_n0, bI_n1, bI_nar, uI_r, uI_l, uL_r, uL_i, uL_p, uA_r, uA_l, bV_some, bU_some, nar_n0, nar_n1, and_self, and_true, true_and, and_false, false_and, if_true, if_false, eq_self, Bool.false_eq_true, Bool.true_eq_false, not_true_eq_false, not_false_eq_true, ↓reduceIte, nlT, nlF, ntT, ntF, neT, neF, ieT, ieF, decide_true, decide_false, Bool.not_true, Bool.not_false, Bool.and_true, Bool.true_and, Bool.and_false, Bool.false_and, Bool.or_true, Bool.true_or, Bool.or_false, Bool.false_or, hp, hT.1, r1]
      · simp (disch := omega) only [s59_9, s59_12, s59_13, s59_16, s59_19, s59_20, s59_23, s59_24, s59_27, s59_28, s59_30, q_0, q_1, q_2, q_3, q_4, q_5, q_6, q_7, q_8, q_9, q_10, q_11, q_12, q_13, q_14, q_16, q_20, q_23, q_24, q_32, q_42, q_43, q_45, q_47, q_48, q_50, q_57, q_59, q_60, q_61, q_62, q_63, q_64, q_66, q_91, q_93, q_97, q_99, q_122, q_144, q_255, q_256, q_300, q_380, q_400, q_620, q_999, q_1000, q_4095, q_4096, q_9999, q_65536, q_99999, q_31, nI_add, pk_mul, nE, nL, nT, nM31, nShl, ib_nI, nI_clamp, bI_n0, bI_n1, bI_nar, uI_r, uI_l, uL_r, uL_i, uL_p, uA_r, uA_l, bV_some, bU_some, nar_n0, nar_n1, and_self, and_true, true_and, and_false, false_and, if_true, if_false, eq_self, Bool.false_eq_true, Bool.true_eq_false, not_true_eq_false, not_false_eq_true, ↓reduceIte, nlT, nlF, ntT, ntF, neT, neF, ieT, ieF, decide_true, decide_false, Bool.not_true, Bool.not_false, Bool.and_true, Bool.true_and, Bool.and_false, Bool.false_and, Bool.or_true, Bool.true_or, Bool.or_false, Bool.false_or, hp, hT.1, r1]
    · simp (disch := omega) only [s59_9, s59_12, s59_13, s59_16, q_0, q_1, q_2, q_3, q_4, q_5, q_6, q_7, q_8, q_9, q_10, q_11, q_12, q_13, q_14, q_16, q_20, q_23, q_24, q_32, q_42, q_43, q_45, q_47, q_48, q_50, q_57, q_59, q_60, q_61, q_62, q_63, q_64, q_66, q_91, q_93, q_97, q_99, q_122, q_144, q_255, q_256, q_300, q_380, q_400, q_620, q_999, q_1000, q_4095, q_4096, q_9999, q_65536, q_99999, q_31, nI_add, pk_mul, nE, nL, nT, nM31, nShl, ib_nI, nI_clamp, bI_n0, bI_n1, bI_nar, uI_r, uI_l, uL_r, uL_i, uL_p, uA_r, uA_l, bV_some, bU_some, nar_n0, nar_n1, and_self, and_true, true_and, and_false, false_and, if_true, if_false, eq_self, Bool.false_eq_true, Bool.true_eq_false, not_true_eq_false, not_false_eq_true, ↓reduceIte, nlT, nlF, ntT, ntF, neT, neF, ieT, ieF, decide_true, decide_false, Bool.not_true, Bool.not_false, Bool.and_true, Bool.true_and, Bool.and_false, Bool.false_and, Bool.or_true, Bool.true_or, Bool.or_false, Bool.false_or, hp, hT.1]
theorem x_len (S : Sto) {q : Nat} (h : (strB q).length < 1000) : call 276 0 [vR 100 q] S = some (some (vI (nI (strB q).length)), S) := by
  have e0 : call 277 0 [vR 100 q] S = some (some (vI (nI 0)), S) := by
    show run 277 0 0 [vR 100 q] [] S = _
    have z : vp_nar .byte (nI 0) = nI 0 := by decide
    simp (disch := omega) only [s277_0, s277_3, s277_6, s277_7, s277_10, s277_13, s277_14, q_0, q_1, q_2, q_3, q_4, q_5, q_6, q_7, q_8, q_9, q_10, q_11, q_12, q_13, q_14, q_16, q_20, q_23, q_24, q_32, q_42, q_43, q_45, q_47, q_48, q_50, q_57, q_59, q_60, q_61, q_62, q_63, q_64, q_66, q_91, q_93, q_97, q_99, q_122, q_144, q_255, q_256, q_300, q_380, q_400, q_620, q_999, q_1000, q_4095, q_4096, q_9999, q_65536, q_99999, q_31, nI_add, pk_mul, nE, nL, nT, nM31, nShl, ib_nI, nI_clamp, bI_n0, bI_n1, bI_nar, uI_r, uI_l, uL_r, uL_i, uL_p, uA_r, uA_l, bV_some, bU_some, nar_n0, nar_n1, and_self, and_true, true_and, and_false, false_and, if_true, if_false, eq_self, Bool.false_eq_true, Bool.true_eq_false, not_true_eq_false, not_false_eq_true, ↓reduceIte, nlT, nlF, ntT, ntF, neT, neF, ieT, ieF, decide_true, decide_false, Bool.not_true, Bool.not_false, Bool.and_true, Bool.true_and, Bool.and_false, Bool.false_and, Bool.or_true, Bool.true_or, Bool.or_false, Bool.false_or, z]
  have e1 : (0 : Nat) < 32 := by decide
  show run 276 0 0 [vR 100 q] [] S = _
  simp (disch := omega) only [s276_0, s276_1, s276_4, s276_5, s276_6, s276_9, s276_10, q_0, q_1, q_2, q_3, q_4, q_5, q_6, q_7, q_8, q_9, q_10, q_11, q_12, q_13, q_14, q_16, q_20, q_23, q_24, q_32, q_42, q_43, q_45, q_47, q_48, q_50, q_57, q_59, q_60, q_61, q_62, q_63, q_64, q_66, q_91, q_93, q_97, q_99, q_122, q_144, q_255, q_256, q_300, q_380, q_400, q_620, q_999, q_1000, q_4095, q_4096, q_9999, q_65536, q_99999, q_31, nI_add, pk_mul, nE, nL, nT, nM31, nShl, ib_nI, nI_clamp, bI_n0, bI_n1, bI_nar, uI_r, uI_l, uL_r, uL_i, uL_p, uA_r, uA_l, bV_some, bU_some, nar_n0, nar_n1, and_self, and_true, true_and, and_false, false_and, if_true, if_false, eq_self, Bool.false_eq_true, Bool.true_eq_false, not_true_eq_false, not_false_eq_true, ↓reduceIte, nlT, nlF, ntT, ntF, neT, neF, ieT, ieF, decide_true, decide_false, Bool.not_true, Bool.not_false, Bool.and_true, Bool.true_and, Bool.and_false, Bool.false_and, Bool.or_true, Bool.true_or, Bool.or_false, Bool.false_or, ofN, e0, nShr, Nat.pow_zero, Nat.div_one]
theorem chr_n {c : Nat} (h : c < 128) : (nI c &&& nI 255) = nI c ∧ ((nI c).toUInt32 % 65536).toInt32 = nI c ∧ vp_nar .char (nI c) = nI c := by
  have : ∀ c, c < 128 → (nI c &&& nI 255) = nI c ∧ ((nI c).toUInt32 % 65536).toInt32 = nI c ∧ vp_nar .char (nI c) = nI c := by decide +kernel
  exact this c h
theorem x_chr (S : Sto) {q i c : Nat} (h : (strB q).length < 1000) (hi : i < (strB q).length) (hc : (strB q).getD i 0 = nI c) (hc1 : c < 128) : call 278 0 [vR 100 q, vI (nI i)] S = some (some (vI (nI c)), S) := by
  obtain ⟨z1, z2, z3⟩ := chr_n hc1
  have hc' : (strB q).getD i (nI 0) = nI c := hc
  have e0 : call 279 0 [vR 100 q] S = some (some (vI (nI 1)), S) := by
    show run 279 0 0 [vR 100 q] [] S = _
    simp (disch := omega) only [s279_0, s279_3, s279_6, s279_7, s279_10, s279_13, s279_14, s279_17, s279_18, q_0, q_1, q_2, q_3, q_4, q_5, q_6, q_7, q_8, q_9, q_10, q_11, q_12, q_13, q_14, q_16, q_20, q_23, q_24, q_32, q_42, q_43, q_45, q_47, q_48, q_50, q_57, q_59, q_60, q_61, q_62, q_63, q_64, q_66, q_91, q_93, q_97, q_99, q_122, q_144, q_255, q_256, q_300, q_380, q_400, q_620, q_999, q_1000, q_4095, q_4096, q_9999, q_65536, q_99999, q_31, nI_add, pk_mul, nE, nL, nT, nM31, nShl, ib_nI, nI_clamp, bI_n0, bI_n1, bI_nar, uI_r, uI_l, uL_r, uL_i, uL_p, uA_r, uA_l, bV_some, bU_some, nar_n0, nar_n1, and_self, and_true, true_and, and_false, false_and, if_true, if_false, eq_self, Bool.false_eq_true, Bool.true_eq_false, not_true_eq_false, not_false_eq_true, ↓reduceIte, nlT, nlF, ntT, ntF, neT, neF, ieT, ieF, decide_true, decide_false, Bool.not_true, Bool.not_false, Bool.and_true, Bool.true_and, Bool.and_false, Bool.false_and, Bool.or_true, Bool.true_or, Bool.or_false, Bool.false_or]
  have e1 : call 288 0 [vI (nI i), vI (nI (strB q).length), vR 103 0] S = some (some (vI (nI i)), S) := by
    show run 288 0 0 [vI (nI i), vI (nI (strB q).length), vR 103 0] [] S = _
    simp (disch := omega) only [s288_0, s288_1, s288_4, s288_5, s288_6, s288_16, s288_17, q_0, q_1, q_2, q_3, q_4, q_5, q_6, q_7, q_8, q_9, q_10, q_11, q_12, q_13, q_14, q_16, q_20, q_23, q_24, q_32, q_42, q_43, q_45, q_47, q_48, q_50, q_57, q_59, q_60, q_61, q_62, q_63, q_64, q_66, q_91, q_93, q_97, q_99, q_122, q_144, q_255, q_256, q_300, q_380, q_400, q_620, q_999, q_1000, q_4095, q_4096, q_9999, q_65536, q_99999, q_31, nI_add, pk_mul, nE, nL, nT, nM31, nShl, ib_nI, nI_clamp, bI_n0, bI_n1, bI_nar, uI_r, uI_l, uL_r, uL_i, uL_p, uA_r, uA_l, bV_some, bU_some, nar_n0, nar_n1, and_self, and_true, true_and, and_false, false_and, if_true, if_false, eq_self, Bool.false_eq_true, Bool.true_eq_false, not_true_eq_false, not_false_eq_true, ↓reduceIte, nlT, nlF, ntT, ntF, neT, neF, ieT, ieF, decide_true, decide_false, Bool.not_true, Bool.not_false, Bool.and_true, Bool.true_and, Bool.and_false, Bool.false_and, Bool.or_true, Bool.true_or, Bool.or_false, Bool.false_or]
  have e2 : call 280 0 [vI (nI i), vI (nI (strB q).length)] S = some (none, S) := by
    show run 280 0 0 [vI (nI i), vI (nI (strB q).length)] [] S = _
    simp (disch := omega) only [s280_0, s280_1, s280_2, s280_5, s280_8, s280_9, q_0, q_1, q_2, q_3, q_4, q_5, q_6, q_7, q_8, q_9, q_10, q_11, q_12, q_13, q_14, q_16, q_20, q_23, q_24, q_32, q_42, q_43, q_45, q_47, q_48, q_50, q_57, q_59, q_60, q_61, q_62, q_63, q_64, q_66, q_91, q_93, q_97, q_99, q_122, q_144, q_255, q_256, q_300, q_380, q_400, q_620, q_999, q_1000, q_4095, q_4096, q_9999, q_65536, q_99999, q_31, nI_add, pk_mul, nE, nL, nT, nM31, nShl, ib_nI, nI_clamp, bI_n0, bI_n1, bI_nar, uI_r, uI_l, uL_r, uL_i, uL_p, uA_r, uA_l, bV_some, bU_some, nar_n0, nar_n1, and_self, and_true, true_and, and_false, false_and, if_true, if_false, eq_self, Bool.false_eq_true, Bool.true_eq_false, not_true_eq_false, not_false_eq_true, ↓reduceIte, nlT, nlF, ntT, ntF, neT, neF, ieT, ieF, decide_true, decide_false, Bool.not_true, Bool.not_false, Bool.and_true, Bool.true_and, Bool.and_false, Bool.false_and, Bool.or_true, Bool.true_or, Bool.or_false, Bool.false_or, e1]
  have e3 : call 281 0 [vR 101 q, vI (nI i)] S = some (some (vI (nI c)), S) := by
    show run 281 0 0 [vR 101 q, vI (nI i)] [] S = _
    simp (disch := omega) only [s281_0, s281_1, s281_2, s281_3, s281_6, s281_7, s281_8, s281_9, s281_12, s281_13, s281_14, q_0, q_1, q_2, q_3, q_4, q_5, q_6, q_7, q_8, q_9, q_10, q_11, q_12, q_13, q_14, q_16, q_20, q_23, q_24, q_32, q_42, q_43, q_45, q_47, q_48, q_50, q_57, q_59, q_60, q_61, q_62, q_63, q_64, q_66, q_91, q_93, q_97, q_99, q_122, q_144, q_255, q_256, q_300, q_380, q_400, q_620, q_999, q_1000, q_4095, q_4096, q_9999, q_65536, q_99999, q_31, nI_add, pk_mul, nE, nL, nT, nM31, nShl, ib_nI, nI_clamp, bI_n0, bI_n1, bI_nar, uI_r, uI_l, uL_r, uL_i, uL_p, uA_r, uA_l, bV_some, bU_some, nar_n0, nar_n1, and_self, and_true, true_and, and_false, false_and, if_true, if_false, eq_self, Bool.false_eq_true, Bool.true_eq_false, not_true_eq_false, not_false_eq_true, ↓reduceIte, nlT, nlF, ntT, ntF, neT, neF, ieT, ieF, decide_true, decide_false, Bool.not_true, Bool.not_false, Bool.and_true, Bool.true_and, Bool.and_false, Bool.false_and, Bool.or_true, Bool.true_or, Bool.or_false, Bool.false_or, ofN, e2, hc', z1, z2, z3]
  show run 278 0 0 [vR 100 q, vI (nI i)] [] S = _
  simp (disch := omega) only [s278_0, s278_1, s278_4, s278_7, s278_8, s278_11, s278_12, s278_15, s278_16, s278_17, s278_20, q_0, q_1, q_2, q_3, q_4, q_5, q_6, q_7, q_8, q_9, q_10, q_11, q_12, q_13, q_14, q_16, q_20, q_23, q_24, q_32, q_42, q_43, q_45, q_47, q_48, q_50, q_57, q_59, q_60, q_61, q_62, q_63, q_64, q_66, q_91, q_93, q_97, q_99, q_122, q_144, q_255, q_256, q_300, q_380, q_400, q_620, q_999, q_1000, q_4095, q_4096, q_9999, q_65536, q_99999, q_31, nI_add, pk_mul, nE, nL, nT, nM31, nShl, ib_nI, nI_clamp, bI_n0, bI_n1, bI_nar, uI_r, uI_l, uL_r, uL_i, uL_p, uA_r, uA_l, bV_some, bU_some, nar_n0, nar_n1, and_self, and_true, true_and, and_false, false_and, if_true, if_false, eq_self, Bool.false_eq_true, Bool.true_eq_false, not_true_eq_false, not_false_eq_true, ↓reduceIte, nlT, nlF, ntT, ntF, neT, neF, ieT, ieF, decide_true, decide_false, Bool.not_true, Bool.not_false, Bool.and_true, Bool.true_and, Bool.and_false, Bool.false_and, Bool.or_true, Bool.true_or, Bool.or_false, Bool.false_or, e0, e3, z3]
/-- how far a word fits -/
def fjB (T : Tp) (p e : Nat) (w : List Nat) : Nat → Bool
  | 0 => decide (p < e)
  | j + 1 => fjB T p e w j && (decide (p + j < e) && T.2 (p + j) == w.getD j 0)
theorem fjB_s (T : Tp) (p e : Nat) (w : List Nat) (j : Nat) : fjB T p e w (j + 1) = (fjB T p e w j && (decide (p + j < e) && T.2 (p + j) == w.getD j 0)) := rfl
def wEq (T : Tp) (p : Nat) (w : List Nat) : Bool := fjB T p (sc T ltP p) w w.length && p + w.length == sc T ltP p
def wInF (T : Tp) (p : Nat) : List (List Nat) → Nat → Option Nat
  | [], _ => none
  | w :: ws, k => if wEq T p w = true then some k else wInF T p ws (k + 1)
theorem wInF_s (T : Tp) (p : Nat) (w : List Nat) (ws : List (List Nat)) (k : Nat) : wInF T p (w :: ws) k = if wEq T p w = true then some k else wInF T p ws (k + 1) := rfl
def oK (x : Option Nat) : Int32 := match x with
  | none => -nI 1
  | some k => nI k
def joW : List (List Nat) → List Nat
  | [] => []
  | w :: [] => w
  | w :: v :: ws => w ++ 32 :: joW (v :: ws)
def WdK (ws : List (List Nat)) : Prop := ∀ w, w ∈ ws → w ≠ [] ∧ ∀ c, c ∈ w → 97 ≤ c ∧ c ≤ 122
theorem getD_m {l : List Nat} {i : Nat} (hi : i < l.length) : l.getD i 0 ∈ l := getD_mem hi
theorem map_getD (l : List Nat) {i : Nat} (hi : i < l.length) : (l.map nI).getD i 0 = nI (l.getD i 0) := by
  rw [List.getD_eq_getElem?_getD, List.getD_eq_getElem?_getD, List.getElem?_map, List.getElem?_eq_getElem hi]
  rfl
theorem app_getD {a b : List Nat} {i : Nat} : (a ++ b).getD (a.length + i) 0 = b.getD i 0 := by
  rw [List.getD_eq_getElem?_getD, List.getD_eq_getElem?_getD, List.getElem?_append_right (by omega), show a.length + i - a.length = i by omega]
theorem app_getL {a b : List Nat} {i : Nat} (h : i < a.length) : (a ++ b).getD i 0 = a.getD i 0 := by
  rw [List.getD_eq_getElem?_getD, List.getD_eq_getElem?_getD, List.getElem?_append_left h]
theorem x_wdLoop {S : Sto} {T : Tp} {p q : Nat} (hK : TpK T) (hT : TpC S T) (hp : S.1 24 0 2 = nI p) (hp4 : p ≤ 400) (hb : S.1 24 0 3 = nI (sc T ltP p)) (hl : (strB q).length < 500) : ∀ (ws : List (List Nat)) (pre : List Nat) (k : Nat) (x6 x7 : av), ws ≠ [] → WdK ws → strB q = (pre ++ joW ws).map nI → run 59 0 85 [vR 24 0, vR 100 q, vI (nI k), vI (nI pre.length), vI (bI (decide (p < sc T ltP p))), vI (nI pre.length), x6, x7] [] S = some (some (vI (oK (wInF T p ws k))), S)
  | [], _, _, _, _, h, _, _ => absurd rfl h
  | w :: ws, pre, k, x6, x7, _, hW, hq => by
    have hK1 := hK.1
    have hse : sc T ltP p ≤ 400 := by
      by_cases c : p ≤ T.1
      · have := sc_le T ltP p c; omega
      · rw [sc_mx T ltP (by omega)]; exact hp4
    have hsg := sc_ge T ltP p
    obtain ⟨hw0, hwc⟩ := hW w (by simp)
    have hwl : 0 < w.length := List.length_pos_iff.mpr hw0
    have hlen : (strB q).length = pre.length + (joW (w :: ws)).length := by rw [hq]; simp
    have hjl : w.length ≤ (joW (w :: ws)).length := by
      cases ws with
      | nil => exact Nat.le_refl _
      | cons v ws => show w.length ≤ (w ++ 32 :: joW (v :: ws)).length; simp
    have hjg : ∀ j, j < w.length → (joW (w :: ws)).getD j 0 = w.getD j 0 := by
      intro j hj
      cases ws with
      | nil => rfl
      | cons v ws => exact app_getL hj
    have hch : ∀ j, j < w.length → (strB q).getD (pre.length + j) 0 = nI (w.getD j 0) ∧ 97 ≤ w.getD j 0 ∧ w.getD j 0 ≤ 122 := by
      intro j hj
      refine ⟨?_, hwc _ (getD_m hj)⟩
      rw [hq, map_getD _ (by simp; omega), app_getD, hjg j hj]
    have eL := x_len S (q := q) (by omega)
    have letters : run 59 0 85 [vR 24 0, vR 100 q, vI (nI k), vI (nI pre.length), vI (bI (fjB T p (sc T ltP p) w 0)), vI (nI (pre.length + 0)), x6, x7] [] S = some (some (vI (oK (wInF T p (w :: ws) k))), S) := by
      refine upS (σ := av × av) (I := fun _ _ => True) (F := fun j x => run 59 0 85 [vR 24 0, vR 100 q, vI (nI k), vI (nI pre.length), vI (bI (fjB T p (sc T ltP p) w j)), vI (nI (pre.length + j)), x.1, x.2] [] S) (Q := fun z => z = some (some (vI (oK (wInF T p (w :: ws) k))), S)) (N := w.length) ?_ ?_ 0 (x6, x7) (by omega) trivial
      · intro j x hj _
        obtain ⟨c1, c2, c3⟩ := hch j hj
        have eC := x_chr S (q := q) (i := pre.length + j) (by omega) (by omega) c1 (by omega)
        have pl : nI (p + (pre.length + j)) - nI pre.length = nI (p + j) := by
          rw [nSub (by omega)]
          congr 1
          omega
        refine Or.inr ⟨(vI (nI (w.getD j 0)), vI (nI (p + j))), trivial, ?_⟩
        show run 59 0 85 _ _ _ = run 59 0 85 _ _ _
        rw [s59_85, fjB_s]
        cases f0 : fjB T p (sc T ltP p) w j with
        | false =>
          simp (disch := omega) only [s59_0, s59_1, s59_2, s59_5, s59_9, s59_12, s59_13, s59_16, s59_19, s59_20, s59_23, s59_24, s59_27, s59_28, s59_30, s59_33, s59_34, s59_37, s59_38, s59_41, s59_42, s59_44, s59_47, s59_48, s59_49, s59_52, s59_53, s59_54, s59_57, s59_60, s59_61, s59_62, s59_63, s59_64, s59_65, s59_68, s59_69, s59_72, s59_75, s59_76, s59_79, s59_80, s59_82, s59_83, s59_87, s59_88, s59_91, s59_94, s59_96, s59_97, s59_100, s59_103, s59_104, s59_106, s59_109, s59_112, s59_114, s59_116, s59_117, s59_120, s59_122, s59_123, s59_124, s59_125, s59_127, s59_129, s59_131, s59_134, s59_136, s59_139, s59_141, s59_142, s59_145, s59_148, s59_149, s59_152, s59_154, s59_155, s59_157, s59_160, s59_161, s59_164, s59_165, s59_167, s59_170, s59_172, s59_175, s59_177, s59_178, s59_181, s59_184, s59_185, s59_186, s59_189, s59_191, s59_192, s59_193, s59_194, s59_195, s59_198, s59_199, s59_202, s59_205, s59_206, s59_209, s59_210, s59_212, s59_215, s59_218, s59_219, q_0, q_1, q_2, q_3, q_4, q_5, q_6, q_7, q_8, q_9, q_10, q_11, q_12, q_13, q_14, q_16, q_20, q_23, q_24, q_32, q_42, q_43, q_45, q_47, q_48, q_50, q_57, q_59, q_60, q_61, q_62, q_63, q_64, q_66, q_91, q_93, q_97, q_99, q_122, q_144, q_255, q_256, q_300, q_380, q_400, q_620, q_999, q_1000, q_4095, q_4096, q_9999, q_65536, q_99999, q_31, nI_add, pk_mul, nE, nL, nT, nM31, nShl, ib_nI, nI_clamp, bI_n0, bI_n1, bI_nar, uI_r, uI_l, uL_r, uL_i, uL_p, uA_r, uA_l, bV_some, bU_some, nar_n0, nar_n1, and_self, and_true, true_and, and_false, false_and, if_true, if_false, eq_self, Bool.false_eq_true, Bool.true_eq_false, not_true_eq_false, not_false_eq_true, ↓reduceIte, nlT, nlF, ntT, ntF, neT, neF, ieT, ieF, decide_true, decide_false, Bool.not_true, Bool.not_false, Bool.and_true, Bool.true_and, Bool.and_false, Bool.false_and, Bool.or_true, Bool.true_or, Bool.or_false, Bool.false_or, eL, eC, hp, pl]
          rfl
        | true =>
          by_cases c4 : p + j < sc T ltP p
          · have hj1 := (sc_b T ltP p (p + j) (by omega) c4).1
            have hb1 := hK.2 _ hj1
            have r1 := hT.2 _ hj1
            by_cases c5 : T.2 (p + j) = w.getD j 0
            · have c5' : (T.2 (p + j) == w.getD j 0) = true := by rw [c5]; simp
              rw [c5'] 
              rw [c5] at r1
              simp (disch := omega) only [s59_0, s59_1, s59_2, s59_5, s59_9, s59_12, s59_13, s59_16, s59_19, s59_20, s59_23, s59_24, s59_27, s59_28, s59_30, s59_33, s59_34, s59_37, s59_38, s59_41, s59_42, s59_44, s59_47, s59_48, s59_49, s59_52, s59_53, s59_54, s59_57, s59_60, s59_61, s59_62, s59_63, s59_64, s59_65, s59_68, s59_69, s59_72, s59_75, s59_76, s59_79, s59_80, s59_82, s59_83, s59_87, s59_88, s59_91, s59_94, s59_96, s59_97, s59_100, s59_103, s59_104, s59_106, s59_109, s59_112, s59_114, s59_116, s59_117, s59_120, s59_122, s59_123, s59_124, s59_125, s59_127, s59_129, s59_131, s59_134, s59_136, s59_139, s59_141, s59_142, s59_145, s59_148, s59_149, s59_152, s59_154, s59_155, s59_157, s59_160, s59_161, s59_164, s59_165, s59_167, s59_170, s59_172, s59_175, s59_177, s59_178, s59_181, s59_184, s59_185, s59_186, s59_189, s59_191, s59_192, s59_193, s59_194, s59_195, s59_198, s59_199, s59_202, s59_205, s59_206, s59_209, s59_210, s59_212, s59_215, s59_218, s59_219, q_0, q_1, q_2, q_3, q_4, q_5, q_6, q_7, q_8, q_9, q_10, q_11, q_12, q_13, q_14, q_16, q_20, q_23, q_24, q_32, q_42, q_43, q_45, q_47, q_48, q_50, q_57, q_59, q_60, q_61, q_62, q_63, q_64, q_66, q_91, q_93, q_97, q_99, q_122, q_144, q_255, q_256, q_300, q_380, q_400, q_620, q_999, q_1000, q_4095, q_4096, q_9999, q_65536, q_99999, q_31, nI_add, pk_mul, nE, nL, nT, nM31, nShl, ib_nI, nI_clamp, bI_n0, bI_n1, bI_nar, uI_r, uI_l, uL_r, uL_i, uL_p, uA_r, uA_l, bV_some, bU_some, nar_n0, nar_n1, and_self, and_true, true_and, and_false, false_and, if_true, if_false, eq_self, Bool.false_eq_true, Bool.true_eq_false, not_true_eq_false, not_false_eq_true, ↓reduceIte, nlT, nlF, ntT, ntF, neT, neF, ieT, ieF, decide_true, decide_false, Bool.not_true, Bool.not_false, Bool.and_true, Bool.true_and, Bool.and_false, Bool.false_and, Bool.or_true, Bool.true_or, Bool.or_false, Bool.false_or, eL, eC, hp, hb, pl, r1, c4]
              rfl
            · have c5' : (T.2 (p + j) == w.getD j 0) = false := by rw [beq_eq_false_iff_ne]; exact c5
              rw [c5']
              simp (disch := omega) only [s59_0, s59_1, s59_2, s59_5, s59_9, s59_12, s59_13, s59_16, s59_19, s59_20, s59_23, s59_24, s59_27, s59_28, s59_30, s59_33, s59_34, s59_37, s59_38, s59_41, s59_42, s59_44, s59_47, s59_48, s59_49, s59_52, s59_53, s59_54, s59_57, s59_60, s59_61, s59_62, s59_63, s59_64, s59_65, s59_68, s59_69, s59_72, s59_75, s59_76, s59_79, s59_80, s59_82, s59_83, s59_87, s59_88, s59_91, s59_94, s59_96, s59_97, s59_100, s59_103, s59_104, s59_106, s59_109, s59_112, s59_114, s59_116, s59_117, s59_120, s59_122, s59_123, s59_124, s59_125, s59_127, s59_129, s59_131, s59_134, s59_136, s59_139, s59_141, s59_142, s59_145, s59_148, s59_149, s59_152, s59_154, s59_155, s59_157, s59_160, s59_161, s59_164, s59_165, s59_167, s59_170, s59_172, s59_175, s59_177, s59_178, s59_181, s59_184, s59_185, s59_186, s59_189, s59_191, s59_192, s59_193, s59_194, s59_195, s59_198, s59_199, s59_202, s59_205, s59_206, s59_209, s59_210, s59_212, s59_215, s59_218, s59_219, q_0, q_1, q_2, q_3, q_4, q_5, q_6, q_7, q_8, q_9, q_10, q_11, q_12, q_13, q_14, q_16, q_20, q_23, q_24, q_32, q_42, q_43, q_45, q_47, q_48, q_50, q_57, q_59, q_60, q_61, q_62, q_63, q_64, q_66, q_91, q_93, q_97, q_99, q_122, q_144, q_255, q_256, q_300, q_380, q_400, q_620, q_999, q_1000, q_4095, q_4096, q_9999, q_65536, q_99999, q_31, nI_add, pk_mul, nE, nL, nT, nM31, nShl, ib_nI, nI_clamp, bI_n0, bI_n1, bI_nar, uI_r, uI_l, uL_r, uL_i, uL_p, uA_r, uA_l, bV_some, bU_some, nar_n0, nar_n1, and_self, and_true, true_and, and_false, false_and, if_true, if_false, eq_self, Bool.false_eq_true, Bool.true_eq_false, not_true_eq_false, not_false_eq_true, ↓reduceIte, nlT, nlF, ntT, ntF, neT, neF, ieT, ieF, decide_true, decide_false, Bool.not_true, Bool.not_false, Bool.and_true, Bool.true_and, Bool.and_false, Bool.false_and, Bool.or_true, Bool.true_or, Bool.or_false, Bool.false_or, eL, eC, hp, hb, pl, r1, c5]
              rfl
          · have c4' : decide (p + j < sc T ltP p) = false := by simp [c4]
            rw [c4']
            simp (disch := omega) only [s59_0, s59_1, s59_2, s59_5, s59_9, s59_12, s59_13, s59_16, s59_19, s59_20, s59_23, s59_24, s59_27, s59_28, s59_30, s59_33, s59_34, s59_37, s59_38, s59_41, s59_42, s59_44, s59_47, s59_48, s59_49, s59_52, s59_53, s59_54, s59_57, s59_60, s59_61, s59_62, s59_63, s59_64, s59_65, s59_68, s59_69, s59_72, s59_75, s59_76, s59_79, s59_80, s59_82, s59_83, s59_87, s59_88, s59_91, s59_94, s59_96, s59_97, s59_100, s59_103, s59_104, s59_106, s59_109, s59_112, s59_114, s59_116, s59_117, s59_120, s59_122, s59_123, s59_124, s59_125, s59_127, s59_129, s59_131, s59_134, s59_136, s59_139, s59_141, s59_142, s59_145, s59_148, s59_149, s59_152, s59_154, s59_155, s59_157, s59_160, s59_161, s59_164, s59_165, s59_167, s59_170, s59_172, s59_175, s59_177, s59_178, s59_181, s59_184, s59_185, s59_186, s59_189, s59_191, s59_192, s59_193, s59_194, s59_195, s59_198, s59_199, s59_202, s59_205, s59_206, s59_209, s59_210, s59_212, s59_215, s59_218, s59_219, q_0, q_1, q_2, q_3, q_4, q_5, q_6, q_7, q_8, q_9, q_10, q_11, q_12, q_13, q_14, q_16, q_20, q_23, q_24, q_32, q_42, q_43, q_45, q_47, q_48, q_50, q_57, q_59, q_60, q_61, q_62, q_63, q_64, q_66, q_91, q_93, q_97, q_99, q_122, q_144, q_255, q_256, q_300, q_380, q_400, q_620, q_999, q_1000, q_4095, q_4096, q_9999, q_65536, q_99999, q_31, nI_add, pk_mul, nE, nL, nT, nM31, nShl, ib_nI, nI_clamp, bI_n0, bI_n1, bI_nar, uI_r, uI_l, uL_r, uL_i, uL_p, uA_r, uA_l, bV_some, bU_some, nar_n0, nar_n1, and_self, and_true, true_and, and_false, false_and, if_true, if_false, eq_self, Bool.false_eq_true, Bool.true_eq_false, not_true_eq_false, not_false_eq_true, ↓reduceIte, nlT, nlF, ntT, ntF, neT, neF, ieT, ieF, decide_true, decide_false, Bool.not_true, Bool.not_false, Bool.and_true, Bool.true_and, Bool.and_false, Bool.false_and, Bool.or_true, Bool.true_or, Bool.or_false, Bool.false_or, eL, eC, hp, hb, pl]
            rfl
      · intro x _
        have pl : nI (p + (pre.length + w.length)) - nI pre.length = nI (p + w.length) := by
          rw [nSub (by omega)]
          congr 1
          omega
        show run 59 0 85 [vR 24 0, vR 100 q, vI (nI k), vI (nI pre.length), vI (bI (fjB T p (sc T ltP p) w w.length)), vI (nI (pre.length + w.length)), x.1, x.2] [] S = _
        have endw : ∀ c6 : av, (wEq T p w = true → run 59 0 170 [vR 24 0, vR 100 q, vI (nI k), vI (nI pre.length), vI (bI (fjB T p (sc T ltP p) w w.length)), vI (nI (pre.length + w.length)), c6, vI (nI (p + w.length))] [] S = some (some (vI (nI k)), S)) ∧ (wEq T p w = false → run 59 0 170 [vR 24 0, vR 100 q, vI (nI k), vI (nI pre.length), vI (bI (fjB T p (sc T ltP p) w w.length)), vI (nI (pre.length + w.length)), c6, vI (nI (p + w.length))] [] S = run 59 0 85 [vR 24 0, vR 100 q, vI (nI (k + 1)), vI (nI (pre.length + w.length + 1)), vI (bI (decide (p < sc T ltP p))), vI (nI (pre.length + w.length + 1)), c6, vI (nI (p + w.length))] [] S) := by
          intro c6
          unfold wEq
          refine ⟨fun h => ?_, fun h => ?_⟩
          · rw [Bool.and_eq_true, beq_iff_eq] at h
            rw [h.1]
            simp (disch := omega) only [s59_0, s59_1, s59_2, s59_5, s59_9, s59_12, s59_13, s59_16, s59_19, s59_20, s59_23, s59_24, s59_27, s59_28, s59_30, s59_33, s59_34, s59_37, s59_38, s59_41, s59_42, s59_44, s59_47, s59_48, s59_49, s59_52, s59_53, s59_54, s59_57, s59_60, s59_61, s59_62, s59_63, s59_64, s59_65, s59_68, s59_69, s59_72, s59_75, s59_76, s59_79, s59_80, s59_82, s59_83, s59_87, s59_88, s59_91, s59_94, s59_96, s59_97, s59_100, s59_103, s59_104, s59_106, s59_109, s59_112, s59_114, s59_116, s59_117, s59_120, s59_122, s59_123, s59_124, s59_125, s59_127, s59_129, s59_131, s59_134, s59_136, s59_139, s59_141, s59_142, s59_145, s59_148, s59_149, s59_152, s59_154, s59_155, s59_157, s59_160, s59_161, s59_164, s59_165, s59_167, s59_170, s59_172, s59_175, s59_177, s59_178, s59_181, s59_184, s59_185, s59_186, s59_189, s59_191, s59_192, s59_193, s59_194, s59_195, s59_198, s59_199, s59_202, s59_205, s59_206, s59_209, s59_210, s59_212, s59_215, s59_218, s59_219, q_0, q_1, q_2, q_3, q_4, q_5, q_6, q_7, q_8, q_9, q_10, q_11, q_12, q_13, q_14, q_16, q_20, q_23, q_24, q_32, q_42, q_43, q_45, q_47, q_48, q_50, q_57, q_59, q_60, q_61, q_62, q_63, q_64, q_66, q_91, q_93, q_97, q_99, q_122, q_144, q_255, q_256, q_300, q_380, q_400, q_620, q_999, q_1000, q_4095, q_4096, q_9999, q_65536, q_99999, q_31, nI_add, pk_mul, nE, nL, nT, nM31, nShl, ib_nI, nI_clamp, bI_n0, bI_n1, bI_nar, uI_r, uI_l, uL_r, uL_i, uL_p, uA_r, uA_l, bV_some, bU_some, nar_n0, nar_n1, and_self, and_true, true_and, and_false, false_and, if_true, if_false, eq_self, Bool.false_eq_true, Bool.true_eq_false, not_true_eq_false, not_false_eq_true, ↓reduceIte, nlT, nlF, ntT, ntF, neT, neF, ieT, ieF, decide_true, decide_false, Bool.not_true, Bool.not_false, Bool.and_true, Bool.true_and, Bool.and_false, Bool.false_and, Bool.or_true, Bool.true_or, Bool.or_false, Bool.false_or, hb, h.2]
          · cases f0 : fjB T p (sc T ltP p) w w.length with
            | false =>
              by_cases c7 : p < sc T ltP p
              · simp (disch := omega) only [s59_0, s59_1, s59_2, s59_5, s59_9, s59_12, s59_13, s59_16, s59_19, s59_20, s59_23, s59_24, s59_27, s59_28, s59_30, s59_33, s59_34, s59_37, s59_38, s59_41, s59_42, s59_44, s59_47, s59_48, s59_49, s59_52, s59_53, s59_54, s59_57, s59_60, s59_61, s59_62, s59_63, s59_64, s59_65, s59_68, s59_69, s59_72, s59_75, s59_76, s59_79, s59_80, s59_82, s59_83, s59_87, s59_88, s59_91, s59_94, s59_96, s59_97, s59_100, s59_103, s59_104, s59_106, s59_109, s59_112, s59_114, s59_116, s59_117, s59_120, s59_122, s59_123, s59_124, s59_125, s59_127, s59_129, s59_131, s59_134, s59_136, s59_139, s59_141, s59_142, s59_145, s59_148, s59_149, s59_152, s59_154, s59_155, s59_157, s59_160, s59_161, s59_164, s59_165, s59_167, s59_170, s59_172, s59_175, s59_177, s59_178, s59_181, s59_184, s59_185, s59_186, s59_189, s59_191, s59_192, s59_193, s59_194, s59_195, s59_198, s59_199, s59_202, s59_205, s59_206, s59_209, s59_210, s59_212, s59_215, s59_218, s59_219, q_0, q_1, q_2, q_3, q_4, q_5, q_6, q_7, q_8, q_9, q_10, q_11, q_12, q_13, q_14, q_16, q_20, q_23, q_24, q_32, q_42, q_43, q_45, q_47, q_48, q_50, q_57, q_59, q_60, q_61, q_62, q_63, q_64, q_66, q_91, q_93, q_97, q_99, q_122, q_144, q_255, q_256, q_300, q_380, q_400, q_620, q_999, q_1000, q_4095, q_4096, q_9999, q_65536, q_99999, q_31, nI_add, pk_mul, nE, nL, nT, nM31, nShl, ib_nI, nI_clamp, bI_n0, bI_n1, bI_nar, uI_r, uI_l, uL_r, uL_i, uL_p, uA_r, uA_l, bV_some, bU_some, nar_n0, nar_n1, and_self, and_true, true_and, and_false, false_and, if_true, if_false, eq_self, Bool.false_eq_true, Bool.true_eq_false, not_true_eq_false, not_false_eq_true, ↓reduceIte, nlT, nlF, ntT, ntF, neT, neF, ieT, ieF, decide_true, decide_false, Bool.not_true, Bool.not_false, Bool.and_true, Bool.true_and, Bool.and_false, Bool.false_and, Bool.or_true, Bool.true_or, Bool.or_false, Bool.false_or, hb, hp, c7]
                rfl
              · simp (disch := omega) only [s59_0, s59_1, s59_2, s59_5, s59_9, s59_12, s59_13, s59_16, s59_19, s59_20, s59_23, s59_24, s59_27, s59_28, s59_30, s59_33, s59_34, s59_37, s59_38, s59_41, s59_42, s59_44, s59_47, s59_48, s59_49, s59_52, s59_53, s59_54, s59_57, s59_60, s59_61, s59_62, s59_63, s59_64, s59_65, s59_68, s59_69, s59_72, s59_75, s59_76, s59_79, s59_80, s59_82, s59_83, s59_87, s59_88, s59_91, s59_94, s59_96, s59_97, s59_100, s59_103, s59_104, s59_106, s59_109, s59_112, s59_114, s59_116, s59_117, s59_120, s59_122, s59_123, s59_124, s59_125, s59_127, s59_129, s59_131, s59_134, s59_136, s59_139, s59_141, s59_142, s59_145, s59_148, s59_149, s59_152, s59_154, s59_155, s59_157, s59_160, s59_161, s59_164, s59_165, s59_167, s59_170, s59_172, s59_175, s59_177, s59_178, s59_181, s59_184, s59_185, s59_186, s59_189, s59_191, s59_192, s59_193, s59_194, s59_195, s59_198, s59_199, s59_202, s59_205, s59_206, s59_209, s59_210, s59_212, s59_215, s59_218, s59_219, q_0, q_1, q_2, q_3, q_4, q_5, q_6, q_7, q_8, q_9, q_10, q_11, q_12, q_13, q_14, q_16, q_20, q_23, q_24, q_32, q_42, q_43, q_45, q_47, q_48, q_50, q_57, q_59, q_60, q_61, q_62, q_63, q_64, q_66, q_91, q_93, q_97, q_99, q_122, q_144, q_255, q_256, q_300, q_380, q_400, q_620, q_999, q_1000, q_4095, q_4096, q_9999, q_65536, q_99999, q_31, nI_add, pk_mul, nE, nL, nT, nM31, nShl, ib_nI, nI_clamp, bI_n0, bI_n1, bI_nar, uI_r, uI_l, uL_r, uL_i, uL_p, uA_r, uA_l, bV_some, bU_some, nar_n0, nar_n1, and_self, and_true, true_and, and_false, false_and, if_true, if_false, eq_self, Bool.false_eq_true, Bool.true_eq_false, not_true_eq_false, not_false_eq_true, ↓reduceIte, nlT, nlF, ntT, ntF, neT, neF, ieT, ieF, decide_true, decide_false, Bool.not_true, Bool.not_false, Bool.and_true, Bool.true_and, Bool.and_false, Bool.false_and, Bool.or_true, Bool.true_or, Bool.or_false, Bool.false_or, hb, hp, c7]
                rfl
            | true =>
              rw [f0, Bool.true_and, beq_eq_false_iff_ne] at h
              by_cases c7 : p < sc T ltP p
              · simp (disch := omega) only [s59_0, s59_1, s59_2, s59_5, s59_9, s59_12, s59_13, s59_16, s59_19, s59_20, s59_23, s59_24, s59_27, s59_28, s59_30, s59_33, s59_34, s59_37, s59_38, s59_41, s59_42, s59_44, s59_47, s59_48, s59_49, s59_52, s59_53, s59_54, s59_57, s59_60, s59_61, s59_62, s59_63, s59_64, s59_65, s59_68, s59_69, s59_72, s59_75, s59_76, s59_79, s59_80, s59_82, s59_83, s59_87, s59_88, s59_91, s59_94, s59_96, s59_97, s59_100, s59_103, s59_104, s59_106, s59_109, s59_112, s59_114, s59_116, s59_117, s59_120, s59_122, s59_123, s59_124, s59_125, s59_127, s59_129, s59_131, s59_134, s59_136, s59_139, s59_141, s59_142, s59_145, s59_148, s59_149, s59_152, s59_154, s59_155, s59_157, s59_160, s59_161, s59_164, s59_165, s59_167, s59_170, s59_172, s59_175, s59_177, s59_178, s59_181, s59_184, s59_185, s59_186, s59_189, s59_191, s59_192, s59_193, s59_194, s59_195, s59_198, s59_199, s59_202, s59_205, s59_206, s59_209, s59_210, s59_212, s59_215, s59_218, s59_219, q_0, q_1, q_2, q_3, q_4, q_5, q_6, q_7, q_8, q_9, q_10, q_11, q_12, q_13, q_14, q_16, q_20, q_23, q_24, q_32, q_42, q_43, q_45, q_47, q_48, q_50, q_57, q_59, q_60, q_61, q_62, q_63, q_64, q_66, q_91, q_93, q_97, q_99, q_122, q_144, q_255, q_256, q_300, q_380, q_400, q_620, q_999, q_1000, q_4095, q_4096, q_9999, q_65536, q_99999, q_31, nI_add, pk_mul, nE, nL, nT, nM31, nShl, ib_nI, nI_clamp, bI_n0, bI_n1, bI_nar, uI_r, uI_l, uL_r, uL_i, uL_p, uA_r, uA_l, bV_some, bU_some, nar_n0, nar_n1, and_self, and_true, true_and, and_false, false_and, if_true, if_false, eq_self, Bool.false_eq_true, Bool.true_eq_false, not_true_eq_false, not_false_eq_true, ↓reduceIte, nlT, nlF, ntT, ntF, neT, neF, ieT, ieF, decide_true, decide_false, Bool.not_true, Bool.not_false, Bool.and_true, Bool.true_and, Bool.and_false, Bool.false_and, Bool.or_true, Bool.true_or, Bool.or_false, Bool.false_or, hb, hp, c7, h]
                rfl
              · simp (disch := omega) only [s59_0, s59_1, s59_2, s59_5, s59_9, s59_12, s59_13, s59_16, s59_19, s59_20, s59_23, s59_24, s59_27, s59_28, s59_30, s59_33, s59_34, s59_37, s59_38, s59_41, s59_42, s59_44, s59_47, s59_48, s59_49, s59_52, s59_53, s59_54, s59_57, s59_60, s59_61, s59_62, s59_63, s59_64, s59_65, s59_68, s59_69, s59_72, s59_75, s59_76, s59_79, s59_80, s59_82, s59_83, s59_87, s59_88, s59_91, s59_94, s59_96, s59_97, s59_100, s59_103, s59_104, s59_106, s59_109, s59_112, s59_114, s59_116, s59_117, s59_120, s59_122, s59_123, s59_124, s59_125, s59_127, s59_129, s59_131, s59_134, s59_136, s59_139, s59_141, s59_142, s59_145, s59_148, s59_149, s59_152, s59_154, s59_155, s59_157, s59_160, s59_161, s59_164, s59_165, s59_167, s59_170, s59_172, s59_175, s59_177, s59_178, s59_181, s59_184, s59_185, s59_186, s59_189, s59_191, s59_192, s59_193, s59_194, s59_195, s59_198, s59_199, s59_202, s59_205, s59_206, s59_209, s59_210, s59_212, s59_215, s59_218, s59_219, q_0, q_1, q_2, q_3, q_4, q_5, q_6, q_7, q_8, q_9, q_10, q_11, q_12, q_13, q_14, q_16, q_20, q_23, q_24, q_32, q_42, q_43, q_45, q_47, q_48, q_50, q_57, q_59, q_60, q_61, q_62, q_63, q_64, q_66, q_91, q_93, q_97, q_99, q_122, q_144, q_255, q_256, q_300, q_380, q_400, q_620, q_999, q_1000, q_4095, q_4096, q_9999, q_65536, q_99999, q_31, nI_add, pk_mul, nE, nL, nT, nM31, nShl, ib_nI, nI_clamp, bI_n0, bI_n1, bI_nar, uI_r, uI_l, uL_r, uL_i, uL_p, uA_r, uA_l, bV_some, bU_some, nar_n0, nar_n1, and_self, and_true, true_and, and_false, false_and, if_true, if_false, eq_self, Bool.false_eq_true, Bool.true_eq_false, not_true_eq_false, not_false_eq_true, ↓reduceIte, nlT, nlF, ntT, ntF, neT, neF, ieT, ieF, decide_true, decide_false, Bool.not_true, Bool.not_false, Bool.and_true, Bool.true_and, Bool.and_false, Bool.false_and, Bool.or_true, Bool.true_or, Bool.or_false, Bool.false_or, hb, hp, c7, h]
                rfl
        have nextw : wEq T p w = false → ws ≠ [] → ∀ c6 c7 : av, run 59 0 85 [vR 24 0, vR 100 q, vI (nI (k + 1)), vI (nI (pre.length + w.length + 1)), vI (bI (decide (p < sc T ltP p))), vI (nI (pre.length + w.length + 1)), c6, c7] [] S = some (some (vI (oK (wInF T p ws (k + 1)))), S) := by
          intro _ hne c6 c7
          have e2 : strB q = ((pre ++ w ++ [32]) ++ joW ws).map nI := by
            rw [hq]
            cases ws with
            | nil => exact absurd rfl hne
            | cons v ws =>
              congr 1
              show pre ++ (w ++ 32 :: joW (v :: ws)) = _
              simp
          have e3 : (pre ++ w ++ [32]).length = pre.length + w.length + 1 := by rw [List.length_append, List.length_append]; rfl
          have hl2 : (strB q).length = pre.length + w.length + 1 + (joW ws).length := by rw [e2, List.length_map, List.length_append, e3]
          have := x_wdLoop hK hT hp hp4 hb hl ws (pre ++ w ++ [32]) (k + 1) c6 c7 hne (fun v hv => hW v (by simp [hv])) e2
          rw [e3] at this
          exact this
        rw [s59_85, wInF_s]
        cases ws with
        | nil =>
          have hll : (strB q).length = pre.length + w.length := hlen
          cases cw : wEq T p w with
          | true =>
            simp (disch := omega) only [s59_0, s59_1, s59_2, s59_5, s59_9, s59_12, s59_13, s59_16, s59_19, s59_20, s59_23, s59_24, s59_27, s59_28, s59_30, s59_33, s59_34, s59_37, s59_38, s59_41, s59_42, s59_44, s59_47, s59_48, s59_49, s59_52, s59_53, s59_54, s59_57, s59_60, s59_61, s59_62, s59_63, s59_64, s59_65, s59_68, s59_69, s59_72, s59_75, s59_76, s59_79, s59_80, s59_82, s59_83, s59_87, s59_88, s59_91, s59_94, s59_96, s59_97, s59_100, s59_103, s59_104, s59_106, s59_109, s59_112, s59_114, s59_116, s59_117, s59_120, s59_122, s59_123, s59_124, s59_125, s59_127, s59_129, s59_131, s59_134, s59_136, s59_139, s59_141, s59_142, s59_145, s59_148, s59_149, s59_152, s59_154, s59_155, s59_157, s59_160, s59_161, s59_164, s59_165, s59_167, s59_172, s59_175, s59_177, s59_178, s59_181, s59_184, s59_185, s59_186, s59_189, s59_191, s59_192, s59_193, s59_194, s59_195, s59_198, s59_199, s59_202, s59_205, s59_206, s59_209, s59_210, s59_212, s59_215, s59_218, s59_219, q_0, q_1, q_2, q_3, q_4, q_5, q_6, q_7, q_8, q_9, q_10, q_11, q_12, q_13, q_14, q_16, q_20, q_23, q_24, q_32, q_42, q_43, q_45, q_47, q_48, q_50, q_57, q_59, q_60, q_61, q_62, q_63, q_64, q_66, q_91, q_93, q_97, q_99, q_122, q_144, q_255, q_256, q_300, q_380, q_400, q_620, q_999, q_1000, q_4095, q_4096, q_9999, q_65536, q_99999, q_31, nI_add, pk_mul, nE, nL, nT, nM31, nShl, ib_nI, nI_clamp, bI_n0, bI_n1, bI_nar, uI_r, uI_l, uL_r, uL_i, uL_p, uA_r, uA_l, bV_some, bU_some, nar_n0, nar_n1, and_self, and_true, true_and, and_false, false_and, if_true, if_false, eq_self, Bool.false_eq_true, Bool.true_eq_false, not_true_eq_false, not_false_eq_true, ↓reduceIte, nlT, nlF, ntT, ntF, neT, neF, ieT, ieF, decide_true, decide_false, Bool.not_true, Bool.not_false, Bool.and_true, Bool.true_and, Bool.and_false, Bool.false_and, Bool.or_true, Bool.true_or, Bool.or_false, Bool.false_or, eL, hp, pl]
            rw [(endw _).1 cw]
            rfl
          | false =>
            simp (disch := omega) only [s59_0, s59_1, s59_2, s59_5, s59_9, s59_12, s59_13, s59_16, s59_19, s59_20, s59_23, s59_24, s59_27, s59_28, s59_30, s59_33, s59_34, s59_37, s59_38, s59_41, s59_42, s59_44, s59_47, s59_48, s59_49, s59_52, s59_53, s59_54, s59_57, s59_60, s59_61, s59_62, s59_63, s59_64, s59_65, s59_68, s59_69, s59_72, s59_75, s59_76, s59_79, s59_80, s59_82, s59_83, s59_87, s59_88, s59_91, s59_94, s59_96, s59_97, s59_100, s59_103, s59_104, s59_106, s59_109, s59_112, s59_114, s59_116, s59_117, s59_120, s59_122, s59_123, s59_124, s59_125, s59_127, s59_129, s59_131, s59_134, s59_136, s59_139, s59_141, s59_142, s59_145, s59_148, s59_149, s59_152, s59_154, s59_155, s59_157, s59_160, s59_161, s59_164, s59_165, s59_167, s59_172, s59_175, s59_177, s59_178, s59_181, s59_184, s59_185, s59_186, s59_189, s59_191, s59_192, s59_193, s59_194, s59_195, s59_198, s59_199, s59_202, s59_205, s59_206, s59_209, s59_210, s59_212, s59_215, s59_218, s59_219, q_0, q_1, q_2, q_3, q_4, q_5, q_6, q_7, q_8, q_9, q_10, q_11, q_12, q_13, q_14, q_16, q_20, q_23, q_24, q_32, q_42, q_43, q_45, q_47, q_48, q_50, q_57, q_59, q_60, q_61, q_62, q_63, q_64, q_66, q_91, q_93, q_97, q_99, q_122, q_144, q_255, q_256, q_300, q_380, q_400, q_620, q_999, q_1000, q_4095, q_4096, q_9999, q_65536, q_99999, q_31, nI_add, pk_mul, nE, nL, nT, nM31, nShl, ib_nI, nI_clamp, bI_n0, bI_n1, bI_nar, uI_r, uI_l, uL_r, uL_i, uL_p, uA_r, uA_l, bV_some, bU_some, nar_n0, nar_n1, and_self, and_true, true_and, and_false, false_and, if_true, if_false, eq_self, Bool.false_eq_true, Bool.true_eq_false, not_true_eq_false, not_false_eq_true, ↓reduceIte, nlT, nlF, ntT, ntF, neT, neF, ieT, ieF, decide_true, decide_false, Bool.not_true, Bool.not_false, Bool.and_true, Bool.true_and, Bool.and_false, Bool.false_and, Bool.or_true, Bool.true_or, Bool.or_false, Bool.false_or, eL, hp, pl]
            rw [(endw _).2 cw, s59_85]
            simp (disch := omega) only [s59_0, s59_1, s59_2, s59_5, s59_9, s59_12, s59_13, s59_16, s59_19, s59_20, s59_23, s59_24, s59_27, s59_28, s59_30, s59_33, s59_34, s59_37, s59_38, s59_41, s59_42, s59_44, s59_47, s59_48, s59_49, s59_52, s59_53, s59_54, s59_57, s59_60, s59_61, s59_62, s59_63, s59_64, s59_65, s59_68, s59_69, s59_72, s59_75, s59_76, s59_79, s59_80, s59_82, s59_83, s59_87, s59_88, s59_91, s59_94, s59_96, s59_97, s59_100, s59_103, s59_104, s59_106, s59_109, s59_112, s59_114, s59_116, s59_117, s59_120, s59_122, s59_123, s59_124, s59_125, s59_127, s59_129, s59_131, s59_134, s59_136, s59_139, s59_141, s59_142, s59_145, s59_148, s59_149, s59_152, s59_154, s59_155, s59_157, s59_160, s59_161, s59_164, s59_165, s59_167, s59_170, s59_172, s59_175, s59_177, s59_178, s59_181, s59_184, s59_185, s59_186, s59_189, s59_191, s59_192, s59_193, s59_194, s59_195, s59_198, s59_199, s59_202, s59_205, s59_206, s59_209, s59_210, s59_212, s59_215, s59_218, s59_219, q_0, q_1, q_2, q_3, q_4, q_5, q_6, q_7, q_8, q_9, q_10, q_11, q_12, q_13, q_14, q_16, q_20, q_23, q_24, q_32, q_42, q_43, q_45, q_47, q_48, q_50, q_57, q_59, q_60, q_61, q_62, q_63, q_64, q_66, q_91, q_93, q_97, q_99, q_122, q_144, q_255, q_256, q_300, q_380, q_400, q_620, q_999, q_1000, q_4095, q_4096, q_9999, q_65536, q_99999, q_31, nI_add, pk_mul, nE, nL, nT, nM31, nShl, ib_nI, nI_clamp, bI_n0, bI_n1, bI_nar, uI_r, uI_l, uL_r, uL_i, uL_p, uA_r, uA_l, bV_some, bU_some, nar_n0, nar_n1, and_self, and_true, true_and, and_false, false_and, if_true, if_false, eq_self, Bool.false_eq_true, Bool.true_eq_false, not_true_eq_false, not_false_eq_true, ↓reduceIte, nlT, nlF, ntT, ntF, neT, neF, ieT, ieF, decide_true, decide_false, Bool.not_true, Bool.not_false, Bool.and_true, Bool.true_and, Bool.and_false, Bool.false_and, Bool.or_true, Bool.true_or, Bool.or_false, Bool.false_or, eL]
            rfl
        | cons v ws =>
          have hll : pre.length + w.length < (strB q).length := by
            rw [hlen]
            show pre.length + w.length < pre.length + (w ++ 32 :: joW (v :: ws)).length
            simp
          have c32 : (strB q).getD (pre.length + w.length) 0 = nI 32 := by
            rw [hq, map_getD _ (by
              show _ < (pre ++ (w ++ 32 :: joW (v :: ws))).length
              simp)]
            show nI ((pre ++ (w ++ 32 :: joW (v :: ws))).getD (pre.length + w.length) 0) = _
            rw [app_getD]
            have := app_getD (a := w) (b := 32 :: joW (v :: ws)) (i := 0)
            rw [Nat.add_zero] at this
            rw [this]
            rfl
          have eC := x_chr S (q := q) (i := pre.length + w.length) (by omega) hll c32 (by decide)
          cases cw : wEq T p w with
          | true =>
            simp (disch := omega) only [s59_0, s59_1, s59_2, s59_5, s59_9, s59_12, s59_13, s59_16, s59_19, s59_20, s59_23, s59_24, s59_27, s59_28, s59_30, s59_33, s59_34, s59_37, s59_38, s59_41, s59_42, s59_44, s59_47, s59_48, s59_49, s59_52, s59_53, s59_54, s59_57, s59_60, s59_61, s59_62, s59_63, s59_64, s59_65, s59_68, s59_69, s59_72, s59_75, s59_76, s59_79, s59_80, s59_82, s59_83, s59_87, s59_88, s59_91, s59_94, s59_96, s59_97, s59_100, s59_103, s59_104, s59_106, s59_109, s59_112, s59_114, s59_116, s59_117, s59_120, s59_122, s59_123, s59_124, s59_125, s59_127, s59_129, s59_131, s59_134, s59_136, s59_139, s59_141, s59_142, s59_145, s59_148, s59_149, s59_152, s59_154, s59_155, s59_157, s59_160, s59_161, s59_164, s59_165, s59_167, s59_172, s59_175, s59_177, s59_178, s59_181, s59_184, s59_185, s59_186, s59_189, s59_191, s59_192, s59_193, s59_194, s59_195, s59_198, s59_199, s59_202, s59_205, s59_206, s59_209, s59_210, s59_212, s59_215, s59_218, s59_219, q_0, q_1, q_2, q_3, q_4, q_5, q_6, q_7, q_8, q_9, q_10, q_11, q_12, q_13, q_14, q_16, q_20, q_23, q_24, q_32, q_42, q_43, q_45, q_47, q_48, q_50, q_57, q_59, q_60, q_61, q_62, q_63, q_64, q_66, q_91, q_93, q_97, q_99, q_122, q_144, q_255, q_256, q_300, q_380, q_400, q_620, q_999, q_1000, q_4095, q_4096, q_9999, q_65536, q_99999, q_31, nI_add, pk_mul, nE, nL, nT, nM31, nShl, ib_nI, nI_clamp, bI_n0, bI_n1, bI_nar, uI_r, uI_l, uL_r, uL_i, uL_p, uA_r, uA_l, bV_some, bU_some, nar_n0, nar_n1, and_self, and_true, true_and, and_false, false_and, if_true, if_false, eq_self, Bool.false_eq_true, Bool.true_eq_false, not_true_eq_false, not_false_eq_true, ↓reduceIte, nlT, nlF, ntT, ntF, neT, neF, ieT, ieF, decide_true, decide_false, Bool.not_true, Bool.not_false, Bool.and_true, Bool.true_and, Bool.and_false, Bool.false_and, Bool.or_true, Bool.true_or, Bool.or_false, Bool.false_or, eL, eC, hp, pl]
            rw [(endw _).1 cw]
            rfl
          | false =>
            simp (disch := omega) only [s59_0, s59_1, s59_2, s59_5, s59_9, s59_12, s59_13, s59_16, s59_19, s59_20, s59_23, s59_24, s59_27, s59_28, s59_30, s59_33, s59_34, s59_37, s59_38, s59_41, s59_42, s59_44, s59_47, s59_48, s59_49, s59_52, s59_53, s59_54, s59_57, s59_60, s59_61, s59_62, s59_63, s59_64, s59_65, s59_68, s59_69, s59_72, s59_75, s59_76, s59_79, s59_80, s59_82, s59_83, s59_87, s59_88, s59_91, s59_94, s59_96, s59_97, s59_100, s59_103, s59_104, s59_106, s59_109, s59_112, s59_114, s59_116, s59_117, s59_120, s59_122, s59_123, s59_124, s59_125, s59_127, s59_129, s59_131, s59_134, s59_136, s59_139, s59_141, s59_142, s59_145, s59_148, s59_149, s59_152, s59_154, s59_155, s59_157, s59_160, s59_161, s59_164, s59_165, s59_167, s59_172, s59_175, s59_177, s59_178, s59_181, s59_184, s59_185, s59_186, s59_189, s59_191, s59_192, s59_193, s59_194, s59_195, s59_198, s59_199, s59_202, s59_205, s59_206, s59_209, s59_210, s59_212, s59_215, s59_218, s59_219, q_0, q_1, q_2, q_3, q_4, q_5, q_6, q_7, q_8, q_9, q_10, q_11, q_12, q_13, q_14, q_16, q_20, q_23, q_24, q_32, q_42, q_43, q_45, q_47, q_48, q_50, q_57, q_59, q_60, q_61, q_62, q_63, q_64, q_66, q_91, q_93, q_97, q_99, q_122, q_144, q_255, q_256, q_300, q_380, q_400, q_620, q_999, q_1000, q_4095, q_4096, q_9999, q_65536, q_99999, q_31, nI_add, pk_mul, nE, nL, nT, nM31, nShl, ib_nI, nI_clamp, bI_n0, bI_n1, bI_nar, uI_r, uI_l, uL_r, uL_i, uL_p, uA_r, uA_l, bV_some, bU_some, nar_n0, nar_n1, and_self, and_true, true_and, and_false, false_and, if_true, if_false, eq_self, Bool.false_eq_true, Bool.true_eq_false, not_true_eq_false, not_false_eq_true, ↓reduceIte, nlT, nlF, ntT, ntF, neT, neF, ieT, ieF, decide_true, decide_false, Bool.not_true, Bool.not_false, Bool.and_true, Bool.true_and, Bool.and_false, Bool.false_and, Bool.or_true, Bool.true_or, Bool.or_false, Bool.false_or, eL, eC, hp, pl]
            rw [(endw _).2 cw, nextw cw (by simp) _ _]
    exact letters
theorem x_wordIn {S : Sto} {T : Tp} {p q : Nat} {ws : List (List Nat)} (hK : TpK T) (hT : TpC S T) (hp : S.1 24 0 2 = nI p) (hp4 : p ≤ 400) (hl : (strB q).length < 500) (hne : ws ≠ []) (hW : WdK ws) (hq : strB q = (joW ws).map nI) : call 59 0 [vR 24 0, vR 100 q] S = some (some (vI (oK (wInF T p ws 0))), uI S 24 0 3 (nI (sc T ltP p))) := by
  have hK1 := hK.1
  have hse : sc T ltP p ≤ 400 := by
    by_cases c : p ≤ T.1
    · have := sc_le T ltP p c; omega
    · rw [sc_mx T ltP (by omega)]; exact hp4
  have e1 := x_wEnd hK (vR 100 q) vU vU vU vU vU vU p (S := uI S 24 0 3 (nI p)) (hT.u (by decide) (by decide)) (by rw [uI_r, if_pos ⟨rfl, rfl, rfl⟩]) hp4
  rw [uI_uI] at e1
  have hp' : (uI S 24 0 3 (nI (sc T ltP p))).1 24 0 2 = nI p := by rw [uI_r, if_neg (by omega)]; exact hp
  have hb' : (uI S 24 0 3 (nI (sc T ltP p))).1 24 0 3 = nI (sc T ltP p) := by rw [uI_r, if_pos ⟨rfl, rfl, rfl⟩]
  have e2 := fun x6 x7 => x_wdLoop (S := uI S 24 0 3 (nI (sc T ltP p))) (q := q) hK (hT.u (by decide) (by decide)) hp' hp4 hb' hl ws [] 0 x6 x7 hne hW hq
  show run 59 0 0 [vR 24 0, vR 100 q, vU, vU, vU, vU, vU, vU] [] S = _
  simp (disch := omega) only [s59_0, s59_1, s59_2, s59_5, q_0, q_1, q_2, q_3, q_4, q_5, q_6, q_7, q_8, q_9, q_10, q_11, q_12, q_13, q_14, q_16, q_20, q_23, q_24, q_32, q_42, q_43, q_45, q_47, q_48, q_50, q_57, q_59, q_60, q_61, q_62, q_63, q_64, q_66, q_91, q_93, q_97, q_99, q_122, q_144, q_255, q_256, q_300, q_380, q_400, q_620, q_999, q_1000, q_4095, q_4096, q_9999, q_65536, q_99999, q_31, nI_add, pk_mul, nE, nL, nT, nM31, nShl, ib_nI, nI_clamp, bI_n0, bI_n1, bI_nar, uI_r, uI_l, uL_r, uL_i, uL_p, uA_r, uA_l, bV_some, bU_some, nar_n0, nar_n1, and_self, and_true, true_and, and_false, false_and, if_true, if_false, eq_self, Bool.false_eq_true, Bool.true_eq_false, not_true_eq_false, not_false_eq_true, ↓reduceIte, nlT, nlF, ntT, ntF, neT, neF, ieT, ieF, decide_true, decide_false, Bool.not_true, Bool.not_false, Bool.and_true, Bool.true_and, Bool.and_false, Bool.false_and, Bool.or_true, Bool.true_or, Bool.or_false, Bool.false_or, hp]
  rw [e1]
  by_cases c7 : p < sc T ltP p
  · have e3 := e2 vU vU
    have c8 : decide (p < sc T ltP p) = true := by simp [c7]
    rw [c8] at e3
    simp (disch := omega) only [s59_0, s59_1, s59_2, s59_5, s59_9, s59_12, s59_13, s59_16, s59_19, s59_20, s59_23, s59_24, s59_27, s59_28, s59_30, s59_33, s59_34, s59_37, s59_38, s59_41, s59_42, s59_44, s59_47, s59_48, s59_49, s59_52, s59_53, s59_54, s59_57, s59_60, s59_61, s59_62, s59_63, s59_64, s59_65, s59_68, s59_69, s59_72, s59_75, s59_76, s59_79, s59_80, s59_82, s59_83, s59_87, s59_88, s59_91, s59_94, s59_96, s59_97, s59_100, s59_103, s59_104, s59_106, s59_109, s59_112, s59_114, s59_116, s59_117, s59_120, s59_122, s59_123, s59_124, s59_125, s59_127, s59_129, s59_131, s59_134, s59_136, s59_139, s59_141, s59_142, s59_145, s59_148, s59_149, s59_152, s59_154, s59_155, s59_157, s59_160, s59_161, s59_164, s59_165, s59_167, s59_170, s59_172, s59_175, s59_177, s59_178, s59_181, s59_184, s59_185, s59_186, s59_189, s59_191, s59_192, s59_193, s59_194, s59_195, s59_198, s59_199, s59_202, s59_205, s59_206, s59_209, s59_210, s59_212, s59_215, s59_218, s59_219, q_0, q_1, q_2, q_3, q_4, q_5, q_6, q_7, q_8, q_9, q_10, q_11, q_12, q_13, q_14, q_16, q_20, q_23, q_24, q_32, q_42, q_43, q_45, q_47, q_48, q_50, q_57, q_59, q_60, q_61, q_62, q_63, q_64, q_66, q_91, q_93, q_97, q_99, q_122, q_144, q_255, q_256, q_300, q_380, q_400, q_620, q_999, q_1000, q_4095, q_4096, q_9999, q_65536, q_99999, q_31, nI_add, pk_mul, nE, nL, nT, nM31, nShl, ib_nI, nI_clamp, bI_n0, bI_n1, bI_nar, uI_r, uI_l, uL_r, uL_i, uL_p, uA_r, uA_l, bV_some, bU_some, nar_n0, nar_n1, and_self, and_true, true_and, and_false, false_and, if_true, if_false, eq_self, Bool.false_eq_true, Bool.true_eq_false, not_true_eq_false, not_false_eq_true, ↓reduceIte, nlT, nlF, ntT, ntF, neT, neF, ieT, ieF, decide_true, decide_false, Bool.not_true, Bool.not_false, Bool.and_true, Bool.true_and, Bool.and_false, Bool.false_and, Bool.or_true, Bool.true_or, Bool.or_false, Bool.false_or, hb', hp', hp, c7]
    exact e3
  · have e3 := e2 vU vU
    have c8 : decide (p < sc T ltP p) = false := by simp [c7]
    rw [c8] at e3
    simp (disch := omega) only [s59_0, s59_1, s59_2, s59_5, s59_9, s59_12, s59_13, s59_16, s59_19, s59_20, s59_23, s59_24, s59_27, s59_28, s59_30, s59_33, s59_34, s59_37, s59_38, s59_41, s59_42, s59_44, s59_47, s59_48, s59_49, s59_52, s59_53, s59_54, s59_57, s59_60, s59_61, s59_62, s59_63, s59_64, s59_65, s59_68, s59_69, s59_72, s59_75, s59_76, s59_79, s59_80, s59_82, s59_83, s59_87, s59_88, s59_91, s59_94, s59_96, s59_97, s59_100, s59_103, s59_104, s59_106, s59_109, s59_112, s59_114, s59_116, s59_117, s59_120, s59_122, s59_123, s59_124, s59_125, s59_127, s59_129, s59_131, s59_134, s59_136, s59_139, s59_141, s59_142, s59_145, s59_148, s59_149, s59_152, s59_154, s59_155, s59_157, s59_160, s59_161, s59_164, s59_165, s59_167, s59_170, s59_172, s59_175, s59_177, s59_178, s59_181, s59_184, s59_185, s59_186, s59_189, s59_191, s59_192, s59_193, s59_194, s59_195, s59_198, s59_199, s59_202, s59_205, s59_206, s59_209, s59_210, s59_212, s59_215, s59_218, s59_219, q_0, q_1, q_2, q_3, q_4, q_5, q_6, q_7, q_8, q_9, q_10, q_11, q_12, q_13, q_14, q_16, q_20, q_23, q_24, q_32, q_42, q_43, q_45, q_47, q_48, q_50, q_57, q_59, q_60, q_61, q_62, q_63, q_64, q_66, q_91, q_93, q_97, q_99, q_122, q_144, q_255, q_256, q_300, q_380, q_400, q_620, q_999, q_1000, q_4095, q_4096, q_9999, q_65536, q_99999, q_31, nI_add, pk_mul, nE, nL, nT, nM31, nShl, ib_nI, nI_clamp, bI_n0, bI_n1, bI_nar, uI_r, uI_l, uL_r, uL_i, uL_p, uA_r, uA_l, bV_some, bU_some, nar_n0, nar_n1, and_self, and_true, true_and, and_false, false_and, if_true, if_false, eq_self, Bool.false_eq_true, Bool.true_eq_false, not_true_eq_false, not_false_eq_true, ↓reduceIte, nlT, nlF, ntT, ntF, neT, neF, ieT, ieF, decide_true, decide_false, Bool.not_true, Bool.not_false, Bool.and_true, Bool.true_and, Bool.and_false, Bool.false_and, Bool.or_true, Bool.true_or, Bool.or_false, Bool.false_or, hb', hp', hp, c7]
    exact e3
