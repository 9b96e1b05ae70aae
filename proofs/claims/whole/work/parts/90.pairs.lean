/-! twos of a set -/
theorem nRem {a d : Nat} (ha : a < 2 ^ 31) (h0 : 0 < d) (hd : d < 2 ^ 31) : nI a - nI a / nI d * nI d = nI (a % d) := by
  have e := Nat.div_add_mod a d
  have e2 : a / d * d ≤ a := Nat.div_mul_le_self a d
  rw [nDiv ha h0 hd, pk_mul, nSub e2]
  congr 1
  have e3 : a / d * d = d * (a / d) := Nat.mul_comm _ _
  omega
def pgB (p e : Nat) : Bool := decide (e / 12 < e % 12) && p.testBit (e / 12) && p.testBit (e % 12)
def plE (p : Nat) : Nat → List Nat
  | 0 => []
  | e + 1 => if pgB p e = true then plE p e ++ [16 * (e / 12) + e % 12] else plE p e
theorem plE_s (p e : Nat) : plE p (e + 1) = if pgB p e = true then plE p e ++ [16 * (e / 12) + e % 12] else plE p e := rfl
theorem plE_sk {p e : Nat} : ∀ {n : Nat}, (∀ i, e ≤ i → i < e + n → pgB p i = false) → plE p (e + n) = plE p e
  | 0, _ => rfl
  | n + 1, h => by
    rw [← Nat.add_assoc, plE_s, h (e + n) (by omega) (by omega), plE_sk (fun i h1 h2 => h i h1 (by omega))]
    simp
theorem pgB_ab {p a b : Nat} (hb : b < 12) : pgB p (12 * a + b) = (decide (a < b) && p.testBit a && p.testBit b) := by
  unfold pgB
  rw [show (12 * a + b) / 12 = a by omega, show (12 * a + b) % 12 = b by omega]
theorem plE_ab {p a b : Nat} (hb : b < 12) (hab : a < b) : plE p (12 * a + (b + 1)) = if (p.testBit a && p.testBit b) = true then plE p (12 * a + b) ++ [16 * a + b] else plE p (12 * a + b) := by
  rw [← Nat.add_assoc, plE_s, pgB_ab hb, show (12 * a + b) / 12 = a by omega, show (12 * a + b) % 12 = b by omega]
  simp [hab]
theorem plE_row {p a n : Nat} (hn : n ≤ 12) (hp : ∀ i, n ≤ i → p.testBit i = false) : plE p (12 * (a + 1) + (a + 2)) = plE p (12 * a + n) := by
  have e : 12 * (a + 1) + (a + 2) = (12 * a + n) + (12 - n + (a + 2)) := by omega
  rw [e]
  apply plE_sk
  intro i h1 h2
  unfold pgB
  by_cases c : i < 12 * a + 12
  · have e1 : i / 12 = a := by omega
    have e2 : n ≤ i % 12 := by omega
    rw [hp _ e2]
    simp
  · have e1 : a + 1 ≤ i / 12 := by omega
    have e2 : ¬ i / 12 < i % 12 := by omega
    simp [e2]
def tri (t j : Nat) : Nat := fsN (fun i => t - (i + 1)) j
theorem tri_s (t j : Nat) : tri t (j + 1) = tri t j + (t - (j + 1)) := rfl
def ctp (p x : Nat) : Nat := ct (fun i => p.testBit i) x
theorem ctp_s (p x : Nat) : ctp p (x + 1) = ctp p x + if p.testBit x = true then 1 else 0 := rfl
theorem ct_mo (P : Nat → Bool) {a b : Nat} (h : a ≤ b) : ct P a ≤ ct P b := by
  obtain ⟨d, rfl⟩ := Nat.le.dest h
  rw [ct_add]
  omega
theorem plE_len {p : Nat} : ∀ {a : Nat}, a < 12 → ∀ {b : Nat}, a < b → b ≤ 12 → (plE p (12 * a + b)).length = tri (ctp p 12) (ctp p a) + if p.testBit a = true then ctp p b - ctp p (a + 1) else 0 := by
  have row : ∀ a, a < 12 → (plE p (12 * a + (a + 1))).length = tri (ctp p 12) (ctp p a) → ∀ n, a + 1 + n ≤ 12 → (plE p (12 * a + (a + 1 + n))).length = tri (ctp p 12) (ctp p a) + if p.testBit a = true then ctp p (a + 1 + n) - ctp p (a + 1) else 0 := by
    intro a ha hb n
    induction n with
    | zero =>
      intro _
      rw [Nat.add_zero, hb]
      split <;> omega
    | succ n ih =>
      intro hn
      have ih' := ih (by omega)
      have hm : ctp p (a + 1) ≤ ctp p (a + 1 + n) := ct_mo _ (by omega)
      rw [← Nat.add_assoc (a + 1), plE_ab (by omega) (by omega), ctp_s p (a + 1 + n)]
      cases c1 : p.testBit a with
      | false =>
        rw [c1] at ih'
        simpa using ih'
      | true =>
        rw [c1] at ih'
        simp only [if_true] at ih'
        cases c2 : p.testBit (a + 1 + n) with
        | false => simpa using ih'
        | true =>
          simp only [Bool.and_self, if_true, List.length_append, ih', List.length_singleton]
          omega
  have base : ∀ a, a < 12 → (plE p (12 * a + (a + 1))).length = tri (ctp p 12) (ctp p a) := by
    intro a
    induction a with
    | zero =>
      intro _
      have e : plE p (0 + 1) = plE p 0 := plE_sk (fun i h1 h2 => by
        have : i = 0 := by omega
        subst this
        rfl)
      show (plE p (0 + 1)).length = _
      rw [e]
      rfl
    | succ a ih =>
      intro ha
      have r := row a (by omega) (ih (by omega)) (11 - a) (by omega)
      rw [show a + 1 + (11 - a) = 12 by omega] at r
      have e : 12 * (a + 1) + (a + 1 + 1) = (12 * a + 12) + (a + 2) := by omega
      have e2 : plE p ((12 * a + 12) + (a + 2)) = plE p (12 * a + 12) := plE_sk (fun i h1 h2 => by
        unfold pgB
        have e2 : ¬ i / 12 < i % 12 := by omega
        simp [e2])
      rw [e, e2, r, ctp_s p a]
      cases c1 : p.testBit a with
      | false => simp
      | true =>
        simp only [if_true]
        rw [tri_s]
  intro a ha b hab hb
  have r := row a ha (base a ha) (b - (a + 1)) (by omega)
  rw [show a + 1 + (b - (a + 1)) = b by omega] at r
  exact r
theorem tri_6 : ∀ t, t ≤ 4 → ∀ j, j ≤ 4 → tri t j ≤ 6 := by decide
theorem tri_1 : ∀ t, t ≤ 4 → 2 ≤ t → ∀ j, j ≤ 4 → t ≤ j + 1 → 1 ≤ tri t j := by decide
theorem pl_room {p a b : Nat} (hp : ctp p 12 ≤ 4) (hb : b < 12) (hab : a < b) (h1 : p.testBit a = true) (h2 : p.testBit b = true) : (plE p (12 * a + b)).length < 6 := by
  rw [plE_len (by omega) hab (by omega), if_pos h1]
  have e1 : ctp p (a + 1) = ctp p a + 1 := by rw [ctp_s, if_pos h1]
  have e2 : ctp p (b + 1) = ctp p b + 1 := by rw [ctp_s, if_pos h2]
  have e3 : ctp p (b + 1) ≤ ctp p 12 := ct_mo _ (by omega)
  have e4 : ctp p (a + 1) ≤ ctp p b := ct_mo _ (by omega)
  have e5 := tri_s (ctp p 12) (ctp p a)
  have e6 := tri_6 (ctp p 12) hp (ctp p a + 1) (by omega)
  omega
def plL (p : Nat) : List Nat := plE p (12 * 11 + 12)
theorem plL_len {p : Nat} (hp : ctp p 12 ≤ 4) (hp2 : 2 ≤ ctp p 12) : 1 ≤ (plL p).length ∧ (plL p).length ≤ 6 := by
  unfold plL
  rw [plE_len (by decide) (by decide) (by decide)]
  have e1 : ctp p 12 = ctp p 11 + if p.testBit 11 = true then 1 else 0 := ctp_s p 11
  have e2 : (if p.testBit 11 = true then ctp p 12 - ctp p (11 + 1) else 0) = 0 := by
    show (if p.testBit 11 = true then ctp p 12 - ctp p 12 else 0) = 0
    split <;> omega
  have e3 : ctp p 12 ≤ ctp p 11 + 1 := by rw [e1]; split <;> omega
  have e4 : ctp p 11 ≤ ctp p 12 := ct_mo _ (by decide)
  rw [e2]
  exact ⟨tri_1 _ hp hp2 _ (by omega) e3, tri_6 _ hp _ (by omega)⟩
theorem plE_mem {p : Nat} : ∀ {e x : Nat}, x ∈ plE p e → e ≤ 144 → x / 16 < x % 16 ∧ x % 16 < 12 ∧ p.testBit (x / 16) = true ∧ p.testBit (x % 16) = true ∧ x < 200
  | 0, x, h, _ => by simp [plE] at h
  | e + 1, x, h, he => by
    rw [plE_s] at h
    by_cases c : pgB p e = true
    · rw [if_pos c] at h
      simp only [List.mem_append, List.mem_singleton] at h
      rcases h with h | h
      · exact plE_mem h (by omega)
      · unfold pgB at c
        simp only [Bool.and_eq_true, decide_eq_true_eq] at c
        have h16 : x / 16 = e / 12 := by omega
        have h17 : x % 16 = e % 12 := by omega
        rw [h16, h17]
        exact ⟨c.1.1, by omega, c.1.2, c.2, by omega⟩
    · rw [if_neg c] at h
      exact plE_mem h (by omega)
def PlS (S : Sto) (l : List Nat) : Prop := ∀ i, i < l.length → S.1 39 0 i = nI (l.getD i 0)
theorem x_findPairs {S : Sto} {q : Nat} {A : Tn} {p : Nat} (h : RepC S q A) (hw : WF A) (hp : p < 2 ^ A 0 0) (h4 : ctp p 12 ≤ 4) : ∃ S', call 48 0 [vR 36 0, vR 1 q, vI (nI p)] S = some (some (vI (nI (plL p).length)), S') ∧ Fr (pL [39]) S S' ∧ PlS S' (plL p) := by
  have hP := hw.pe
  have hP12 : 2 ^ A 0 0 ≤ 2 ^ 12 := Nat.pow_le_pow_right (by decide) hP
  have hpb : ∀ i, A 0 0 ≤ i → p.testBit i = false := fun i hi => tb_hi hp hi
  show ∃ S', run 48 0 0 [vR 36 0, vR 1 q, vI (nI p), vU, vU, vU] [] S = _ ∧ _
  simp only [s48_0, s48_1, s48_2, s48_3]
  have inner : ∀ a S1, a < A 0 0 → Fr (pL [39]) S S1 → PlS S1 (plE p (12 * a + (a + 1))) → ∃ S2 x', run 48 0 20 [vR 36 0, vR 1 q, vI (nI p), vI (nI (plE p (12 * a + (a + 1))).length), vI (nI a), vI (nI (a + 1))] [] S1 = run 48 0 5 [vR 36 0, vR 1 q, vI (nI p), vI (nI (plE p (12 * (a + 1) + (a + 2))).length), vI (nI (a + 1)), x'] [] S2 ∧ Fr (pL [39]) S S2 ∧ PlS S2 (plE p (12 * (a + 1) + (a + 2))) := by
    intro a S1 ha hf hs
    refine upS (σ := Sto) (I := fun b S2 => a < b ∧ Fr (pL [39]) S S2 ∧ PlS S2 (plE p (12 * a + b))) (F := fun b S2 => run 48 0 20 [vR 36 0, vR 1 q, vI (nI p), vI (nI (plE p (12 * a + b)).length), vI (nI a), vI (nI b)] [] S2) (Q := fun w => ∃ S2 x', w = run 48 0 5 [vR 36 0, vR 1 q, vI (nI p), vI (nI (plE p (12 * (a + 1) + (a + 2))).length), vI (nI (a + 1)), x'] [] S2 ∧ Fr (pL [39]) S S2 ∧ PlS S2 (plE p (12 * (a + 1) + (a + 2)))) (N := A 0 0) ?_ ?_ (a + 1) S1 (by omega) ⟨by omega, hf, hs⟩
    · intro b S2 hb hI
      obtain ⟨i0, i1, i2⟩ := hI
      have h2 := h.pl i1 (by decide)
      refine Or.inr ?_
      show ∃ s', _ ∧ run 48 0 20 _ _ _ = run 48 0 20 _ _ _
      rw [s48_20, plE_ab (by omega) i0]
      cases c1 : p.testBit a with
      | false =>
        refine ⟨S2, ⟨by omega, i1, by simpa using i2⟩, ?_⟩
        simp (disch := omega) only [s48_0, s48_1, s48_2, s48_3, s48_7, s48_8, s48_11, s48_14, s48_16, s48_17, s48_18, s48_22, s48_23, s48_26, s48_29, s48_30, s48_32, s48_35, s48_38, s48_39, s48_41, s48_44, s48_47, s48_48, s48_50, s48_53, s48_54, s48_57, s48_58, s48_61, s48_63, s48_65, s48_66, s48_68, s48_69, s48_70, s48_73, s48_76, s48_79, s48_82, s48_83, q_0, q_1, q_2, q_3, q_4, q_5, q_6, q_7, q_8, q_9, q_10, q_11, q_12, q_13, q_14, q_16, q_20, q_23, q_24, q_32, q_42, q_43, q_45, q_47, q_48, q_50, q_57, q_59, q_60, q_61, q_62, q_63, q_64, q_66, q_91, q_93, q_97, q_99, q_122, q_144, q_255, q_256, q_300, q_380, q_400, q_620, q_999, q_1000, q_4095, q_4096, q_9999, q_65536, q_99999, q_31, nI_add, pk_mul, nE, nL, nT, nM31, nShl, ib_nI, nI_clamp, bI_n0, bI_n1, bI_nar, uI_r, uI_l, uL_r, uL_i, uL_p, uA_r, uA_l, bV_some, bU_some, nar_n0, nar_n1, and_self, and_true, true_and, and_false, false_and, if_true, if_false, eq_self, Bool.false_eq_true, Bool.true_eq_false, not_true_eq_false, not_false_eq_true, ↓reduceIte, nlT, nlF, ntT, ntF, neT, neF, ieT, ieF, decide_true, decide_false, Bool.not_true, Bool.not_false, Bool.and_true, Bool.true_and, Bool.and_false, Bool.false_and, Bool.or_true, Bool.true_or, Bool.or_false, Bool.false_or, h2.pe, x_has, c1]
      | true =>
        cases c2 : p.testBit b with
        | false =>
          refine ⟨S2, ⟨by omega, i1, by simpa using i2⟩, ?_⟩
          simp (disch := omega) only [s48_0, s48_1, s48_2, s48_3, s48_7, s48_8, s48_11, s48_14, s48_16, s48_17, s48_18, s48_22, s48_23, s48_26, s48_29, s48_30, s48_32, s48_35, s48_38, s48_39, s48_41, s48_44, s48_47, s48_48, s48_50, s48_53, s48_54, s48_57, s48_58, s48_61, s48_63, s48_65, s48_66, s48_68, s48_69, s48_70, s48_73, s48_76, s48_79, s48_82, s48_83, q_0, q_1, q_2, q_3, q_4, q_5, q_6, q_7, q_8, q_9, q_10, q_11, q_12, q_13, q_14, q_16, q_20, q_23, q_24, q_32, q_42, q_43, q_45, q_47, q_48, q_50, q_57, q_59, q_60, q_61, q_62, q_63, q_64, q_66, q_91, q_93, q_97, q_99, q_122, q_144, q_255, q_256, q_300, q_380, q_400, q_620, q_999, q_1000, q_4095, q_4096, q_9999, q_65536, q_99999, q_31, nI_add, pk_mul, nE, nL, nT, nM31, nShl, ib_nI, nI_clamp, bI_n0, bI_n1, bI_nar, uI_r, uI_l, uL_r, uL_i, uL_p, uA_r, uA_l, bV_some, bU_some, nar_n0, nar_n1, and_self, and_true, true_and, and_false, false_and, if_true, if_false, eq_self, Bool.false_eq_true, Bool.true_eq_false, not_true_eq_false, not_false_eq_true, ↓reduceIte, nlT, nlF, ntT, ntF, neT, neF, ieT, ieF, decide_true, decide_false, Bool.not_true, Bool.not_false, Bool.and_true, Bool.true_and, Bool.and_false, Bool.false_and, Bool.or_true, Bool.true_or, Bool.or_false, Bool.false_or, h2.pe, x_has, c1, c2]
        | true =>
          have hr := pl_room h4 (a := a) (b := b) (by omega) i0 c1 c2
          have e9 : (plE p (12 * a + b) ++ [16 * a + b]).length = (plE p (12 * a + b)).length + 1 := by simp
          refine ⟨uI S2 39 0 (plE p (12 * a + b)).length (nI (16 * a + b)), ⟨by omega, i1.uI rfl, ?_⟩, ?_⟩
          · rw [Bool.and_self, if_pos rfl]
            intro i hi
            rw [getD_app (by omega), uI_r]
            by_cases e : i = (plE p (12 * a + b)).length
            · rw [if_pos ⟨rfl, rfl, e⟩, if_pos e]
            · rw [if_neg (by omega), if_neg e]
              exact i2 i (by omega)
          · simp (disch := omega) only [s48_0, s48_1, s48_2, s48_3, s48_7, s48_8, s48_11, s48_14, s48_16, s48_17, s48_18, s48_22, s48_23, s48_26, s48_29, s48_30, s48_32, s48_35, s48_38, s48_39, s48_41, s48_44, s48_47, s48_48, s48_50, s48_53, s48_54, s48_57, s48_58, s48_61, s48_63, s48_65, s48_66, s48_68, s48_69, s48_70, s48_73, s48_76, s48_79, s48_82, s48_83, q_0, q_1, q_2, q_3, q_4, q_5, q_6, q_7, q_8, q_9, q_10, q_11, q_12, q_13, q_14, q_16, q_20, q_23, q_24, q_32, q_42, q_43, q_45, q_47, q_48, q_50, q_57, q_59, q_60, q_61, q_62, q_63, q_64, q_66, q_91, q_93, q_97, q_99, q_122, q_144, q_255, q_256, q_300, q_380, q_400, q_620, q_999, q_1000, q_4095, q_4096, q_9999, q_65536, q_99999, q_31, nI_add, pk_mul, nE, nL, nT, nM31, nShl, ib_nI, nI_clamp, bI_n0, bI_n1, bI_nar, uI_r, uI_l, uL_r, uL_i, uL_p, uA_r, uA_l, bV_some, bU_some, nar_n0, nar_n1, and_self, and_true, true_and, and_false, false_and, if_true, if_false, eq_self, Bool.false_eq_true, Bool.true_eq_false, not_true_eq_false, not_false_eq_true, ↓reduceIte, nlT, nlF, ntT, ntF, neT, neF, ieT, ieF, decide_true, decide_false, Bool.not_true, Bool.not_false, Bool.and_true, Bool.true_and, Bool.and_false, Bool.false_and, Bool.or_true, Bool.true_or, Bool.or_false, Bool.false_or, h2.pe, x_has, c1, c2, e9]
    · intro S2 hI
      obtain ⟨i0, i1, i2⟩ := hI
      have h2 := h.pl i1 (by decide)
      have er := plE_row (p := p) (a := a) hP hpb
      refine ⟨S2, vI (nI (A 0 0)), ?_, i1, ?_⟩
      · show run 48 0 20 _ _ _ = _
        rw [s48_20, er]
        simp (disch := omega) only [s48_0, s48_1, s48_2, s48_3, s48_7, s48_8, s48_11, s48_14, s48_16, s48_17, s48_18, s48_22, s48_23, s48_26, s48_29, s48_30, s48_32, s48_35, s48_38, s48_39, s48_41, s48_44, s48_47, s48_48, s48_50, s48_53, s48_54, s48_57, s48_58, s48_61, s48_63, s48_65, s48_66, s48_68, s48_69, s48_70, s48_73, s48_76, s48_79, s48_82, s48_83, q_0, q_1, q_2, q_3, q_4, q_5, q_6, q_7, q_8, q_9, q_10, q_11, q_12, q_13, q_14, q_16, q_20, q_23, q_24, q_32, q_42, q_43, q_45, q_47, q_48, q_50, q_57, q_59, q_60, q_61, q_62, q_63, q_64, q_66, q_91, q_93, q_97, q_99, q_122, q_144, q_255, q_256, q_300, q_380, q_400, q_620, q_999, q_1000, q_4095, q_4096, q_9999, q_65536, q_99999, q_31, nI_add, pk_mul, nE, nL, nT, nM31, nShl, ib_nI, nI_clamp, bI_n0, bI_n1, bI_nar, uI_r, uI_l, uL_r, uL_i, uL_p, uA_r, uA_l, bV_some, bU_some, nar_n0, nar_n1, and_self, and_true, true_and, and_false, false_and, if_true, if_false, eq_self, Bool.false_eq_true, Bool.true_eq_false, not_true_eq_false, not_false_eq_true, ↓reduceIte, nlT, nlF, ntT, ntF, neT, neF, ieT, ieF, decide_true, decide_false, Bool.not_true, Bool.not_false, Bool.and_true, Bool.true_and, Bool.and_false, Bool.false_and, Bool.or_true, Bool.true_or, Bool.or_false, Bool.false_or, h2.pe]
      · rw [er]
        exact i2
  have ez : plE p (12 * 0 + (0 + 1)) = [] := plE_sk (e := 0) (n := 1) (fun i h1 h2 => by
    have : i = 0 := by omega
    subst this
    rfl)
  refine upS (σ := Sto × av) (I := fun a s => Fr (pL [39]) S s.1 ∧ PlS s.1 (plE p (12 * a + (a + 1)))) (F := fun a s => run 48 0 5 [vR 36 0, vR 1 q, vI (nI p), vI (nI (plE p (12 * a + (a + 1))).length), vI (nI a), s.2] [] s.1) (Q := fun w => ∃ S', w = some (some (vI (nI (plL p).length)), S') ∧ Fr (pL [39]) S S' ∧ PlS S' (plL p)) (N := A 0 0) ?_ ?_ 0 (S, vU) (by omega) ⟨Fr.rfl', fun i hi => by rw [ez] at hi; simp at hi⟩
  · intro a s ha hI
    obtain ⟨S1, x⟩ := s
    obtain ⟨i1, i2⟩ := hI
    simp only at i1 i2
    have h1 := h.pl i1 (by decide)
    obtain ⟨S2, x', d1, d2, d3⟩ := inner a S1 ha i1 i2
    refine Or.inr ⟨(S2, x'), ⟨d2, d3⟩, ?_⟩
    show run 48 0 5 [vR 36 0, vR 1 q, vI (nI p), vI (nI (plE p (12 * a + (a + 1))).length), vI (nI a), x] [] S1 = run 48 0 5 [vR 36 0, vR 1 q, vI (nI p), vI (nI (plE p (12 * (a + 1) + (a + 2))).length), vI (nI (a + 1)), x'] [] S2
    rw [← d1, s48_5]
    simp (disch := omega) only [s48_0, s48_1, s48_2, s48_3, s48_7, s48_8, s48_11, s48_14, s48_16, s48_17, s48_18, s48_22, s48_23, s48_26, s48_29, s48_30, s48_32, s48_35, s48_38, s48_39, s48_41, s48_44, s48_47, s48_48, s48_50, s48_53, s48_54, s48_57, s48_58, s48_61, s48_63, s48_65, s48_66, s48_68, s48_69, s48_70, s48_73, s48_76, s48_79, s48_82, s48_83, q_0, q_1, q_2, q_3, q_4, q_5, q_6, q_7, q_8, q_9, q_10, q_11, q_12, q_13, q_14, q_16, q_20, q_23, q_24, q_32, q_42, q_43, q_45, q_47, q_48, q_50, q_57, q_59, q_60, q_61, q_62, q_63, q_64, q_66, q_91, q_93, q_97, q_99, q_122, q_144, q_255, q_256, q_300, q_380, q_400, q_620, q_999, q_1000, q_4095, q_4096, q_9999, q_65536, q_99999, q_31, nI_add, pk_mul, nE, nL, nT, nM31, nShl, ib_nI, nI_clamp, bI_n0, bI_n1, bI_nar, uI_r, uI_l, uL_r, uL_i, uL_p, uA_r, uA_l, bV_some, bU_some, nar_n0, nar_n1, and_self, and_true, true_and, and_false, false_and, if_true, if_false, eq_self, Bool.false_eq_true, Bool.true_eq_false, not_true_eq_false, not_false_eq_true, ↓reduceIte, nlT, nlF, ntT, ntF, neT, neF, ieT, ieF, decide_true, decide_false, Bool.not_true, Bool.not_false, Bool.and_true, Bool.true_and, Bool.and_false, Bool.false_and, Bool.or_true, Bool.true_or, Bool.or_false, Bool.false_or, h1.pe]
  · intro s hI
    obtain ⟨S1, x⟩ := s
    obtain ⟨i1, i2⟩ := hI
    simp only at i1 i2
    have h1 := h.pl i1 (by decide)
    have er : plL p = plE p (12 * A 0 0 + (A 0 0 + 1)) := by
      unfold plL
      by_cases c : A 0 0 = 12
      · rw [c]
        symm
        exact plE_sk (e := 12 * 11 + 12) (n := 13) (fun i h1 h2 => by
          unfold pgB
          have e2 : ¬ i / 12 < i % 12 := by omega
          simp [e2])
      · have e : 12 * 11 + 12 = (12 * A 0 0 + (A 0 0 + 1)) + (144 - (12 * A 0 0 + (A 0 0 + 1))) := by omega
        rw [e]
        exact plE_sk (fun i h1 h2 => by
          unfold pgB
          rw [hpb (i / 12) (by omega)]
          simp)
    refine ⟨S1, ?_, i1, by rw [er]; exact i2⟩
    show run 48 0 5 [vR 36 0, vR 1 q, vI (nI p), vI (nI (plE p (12 * A 0 0 + (A 0 0 + 1))).length), vI (nI (A 0 0)), x] [] S1 = _
    rw [s48_5, er]
    simp (disch := omega) only [s48_0, s48_1, s48_2, s48_3, s48_7, s48_8, s48_11, s48_14, s48_16, s48_17, s48_18, s48_22, s48_23, s48_26, s48_29, s48_30, s48_32, s48_35, s48_38, s48_39, s48_41, s48_44, s48_47, s48_48, s48_50, s48_53, s48_54, s48_57, s48_58, s48_61, s48_63, s48_65, s48_66, s48_68, s48_69, s48_70, s48_73, s48_76, s48_79, s48_82, s48_83, q_0, q_1, q_2, q_3, q_4, q_5, q_6, q_7, q_8, q_9, q_10, q_11, q_12, q_13, q_14, q_16, q_20, q_23, q_24, q_32, q_42, q_43, q_45, q_47, q_48, q_50, q_57, q_59, q_60, q_61, q_62, q_63, q_64, q_66, q_91, q_93, q_97, q_99, q_122, q_144, q_255, q_256, q_300, q_380, q_400, q_620, q_999, q_1000, q_4095, q_4096, q_9999, q_65536, q_99999, q_31, nI_add, pk_mul, nE, nL, nT, nM31, nShl, ib_nI, nI_clamp, bI_n0, bI_n1, bI_nar, uI_r, uI_l, uL_r, uL_i, uL_p, uA_r, uA_l, bV_some, bU_some, nar_n0, nar_n1, and_self, and_true, true_and, and_false, false_and, if_true, if_false, eq_self, Bool.false_eq_true, Bool.true_eq_false, not_true_eq_false, not_false_eq_true, ↓reduceIte, nlT, nlF, ntT, ntF, neT, neF, ieT, ieF, decide_true, decide_false, Bool.not_true, Bool.not_false, Bool.and_true, Bool.true_and, Bool.and_false, Bool.false_and, Bool.or_true, Bool.true_or, Bool.or_false, Bool.false_or, h1.pe]
def PmS (S : Sto) (l : List Nat) : Prop := ∀ i, i < l.length → S.1 90 0 i = nI (l.getD i 0 / 16) ∧ S.1 91 0 i = nI (l.getD i 0 % 16)
theorem m_pairsOf {S : Sto} {p : Nat} (hp : p < 2 ^ 12) (h4 : ctp p 12 ≤ 4) : ∃ S', call 239 0 [vR 50 0, vI (nI p)] S = some (some (vI (nI (plL p).length)), S') ∧ Fr (pL [90, 91]) S S' ∧ PmS S' (plL p) := by
  show ∃ S', run 239 0 0 [vR 50 0, vI (nI p), vU, vU, vU] [] S = _ ∧ _
  simp only [s239_0, s239_1, s239_2, s239_3]
  have inner : ∀ a S1, a < 12 → Fr (pL [90, 91]) S S1 → PmS S1 (plE p (12 * a + (a + 1))) → ∃ S2 x', run 239 0 15 [vR 50 0, vI (nI p), vI (nI (plE p (12 * a + (a + 1))).length), vI (nI a), vI (nI (a + 1))] [] S1 = run 239 0 4 [vR 50 0, vI (nI p), vI (nI (plE p (12 * (a + 1) + (a + 2))).length), vI (nI (a + 1)), x'] [] S2 ∧ Fr (pL [90, 91]) S S2 ∧ PmS S2 (plE p (12 * (a + 1) + (a + 2))) := by
    intro a S1 ha hf hs
    refine upS (σ := Sto) (I := fun b S2 => a < b ∧ Fr (pL [90, 91]) S S2 ∧ PmS S2 (plE p (12 * a + b))) (F := fun b S2 => run 239 0 15 [vR 50 0, vI (nI p), vI (nI (plE p (12 * a + b)).length), vI (nI a), vI (nI b)] [] S2) (Q := fun w => ∃ S2 x', w = run 239 0 4 [vR 50 0, vI (nI p), vI (nI (plE p (12 * (a + 1) + (a + 2))).length), vI (nI (a + 1)), x'] [] S2 ∧ Fr (pL [90, 91]) S S2 ∧ PmS S2 (plE p (12 * (a + 1) + (a + 2)))) (N := 12) ?_ ?_ (a + 1) S1 (by omega) ⟨by omega, hf, hs⟩
    · intro b S2 hb hI
      obtain ⟨i0, i1, i2⟩ := hI
      refine Or.inr ?_
      show ∃ s', _ ∧ run 239 0 15 _ _ _ = run 239 0 15 _ _ _
      rw [s239_15, plE_ab (by omega) i0]
      cases c1 : p.testBit a with
      | false =>
        refine ⟨S2, ⟨by omega, i1, by simpa using i2⟩, ?_⟩
        simp (disch := omega) only [s239_0, s239_1, s239_2, s239_3, s239_5, s239_7, s239_10, s239_11, s239_12, s239_13, s239_17, s239_19, s239_22, s239_23, s239_24, s239_27, s239_30, s239_31, s239_33, s239_36, s239_39, s239_40, s239_43, s239_44, s239_45, s239_46, s239_47, s239_50, s239_51, s239_53, s239_54, s239_57, s239_60, s239_63, s239_66, s239_69, s239_70, q_0, q_1, q_2, q_3, q_4, q_5, q_6, q_7, q_8, q_9, q_10, q_11, q_12, q_13, q_14, q_16, q_20, q_23, q_24, q_32, q_42, q_43, q_45, q_47, q_48, q_50, q_57, q_59, q_60, q_61, q_62, q_63, q_64, q_66, q_91, q_93, q_97, q_99, q_122, q_144, q_255, q_256, q_300, q_380, q_400, q_620, q_999, q_1000, q_4095, q_4096, q_9999, q_65536, q_99999, q_31, nI_add, pk_mul, nE, nL, nT, nM31, nShl, ib_nI, nI_clamp, bI_n0, bI_n1, bI_nar, uI_r, uI_l, uL_r, uL_i, uL_p, uA_r, uA_l, bV_some, bU_some, nar_n0, nar_n1, and_self, and_true, true_and, and_false, false_and, if_true, if_false, eq_self, Bool.false_eq_true, Bool.true_eq_false, not_true_eq_false, not_false_eq_true, ↓reduceIte, nlT, nlF, ntT, ntF, neT, neF, ieT, ieF, decide_true, decide_false, Bool.not_true, Bool.not_false, Bool.and_true, Bool.true_and, Bool.and_false, Bool.false_and, Bool.or_true, Bool.true_or, Bool.or_false, Bool.false_or, m_has, c1]
      | true =>
        cases c2 : p.testBit b with
        | false =>
          refine ⟨S2, ⟨by omega, i1, by simpa using i2⟩, ?_⟩
          simp (disch := omega) only [s239_0, s239_1, s239_2, s239_3, s239_5, s239_7, s239_10, s239_11, s239_12, s239_13, s239_17, s239_19, s239_22, s239_23, s239_24, s239_27, s239_30, s239_31, s239_33, s239_36, s239_39, s239_40, s239_43, s239_44, s239_45, s239_46, s239_47, s239_50, s239_51, s239_53, s239_54, s239_57, s239_60, s239_63, s239_66, s239_69, s239_70, q_0, q_1, q_2, q_3, q_4, q_5, q_6, q_7, q_8, q_9, q_10, q_11, q_12, q_13, q_14, q_16, q_20, q_23, q_24, q_32, q_42, q_43, q_45, q_47, q_48, q_50, q_57, q_59, q_60, q_61, q_62, q_63, q_64, q_66, q_91, q_93, q_97, q_99, q_122, q_144, q_255, q_256, q_300, q_380, q_400, q_620, q_999, q_1000, q_4095, q_4096, q_9999, q_65536, q_99999, q_31, nI_add, pk_mul, nE, nL, nT, nM31, nShl, ib_nI, nI_clamp, bI_n0, bI_n1, bI_nar, uI_r, uI_l, uL_r, uL_i, uL_p, uA_r, uA_l, bV_some, bU_some, nar_n0, nar_n1, and_self, and_true, true_and, and_false, false_and, if_true, if_false, eq_self, Bool.false_eq_true, Bool.true_eq_false, not_true_eq_false, not_false_eq_true, ↓reduceIte, nlT, nlF, ntT, ntF, neT, neF, ieT, ieF, decide_true, decide_false, Bool.not_true, Bool.not_false, Bool.and_true, Bool.true_and, Bool.and_false, Bool.false_and, Bool.or_true, Bool.true_or, Bool.or_false, Bool.false_or, m_has, c1, c2]
        | true =>
          have hr := pl_room h4 (a := a) (b := b) (by omega) i0 c1 c2
          have e9 : (plE p (12 * a + b) ++ [16 * a + b]).length = (plE p (12 * a + b)).length + 1 := by simp
          refine ⟨uI (uI S2 90 0 (plE p (12 * a + b)).length (nI a)) 91 0 (plE p (12 * a + b)).length (nI b), ⟨by omega, (i1.uI rfl).uI rfl, ?_⟩, ?_⟩
          · rw [Bool.and_self, if_pos rfl]
            intro i hi
            rw [getD_app (by omega)]
            simp only [uI_r]
            by_cases e : i = (plE p (12 * a + b)).length
            · rw [if_pos e, show (16 * a + b) / 16 = a by omega, show (16 * a + b) % 16 = b by omega]
              simp [e]
            · rw [if_neg e]
              simp only [e, and_false, if_false]
              exact i2 i (by omega)
          · simp (disch := omega) only [s239_0, s239_1, s239_2, s239_3, s239_5, s239_7, s239_10, s239_11, s239_12, s239_13, s239_17, s239_19, s239_22, s239_23, s239_24, s239_27, s239_30, s239_31, s239_33, s239_36, s239_39, s239_40, s239_43, s239_44, s239_45, s239_46, s239_47, s239_50, s239_51, s239_53, s239_54, s239_57, s239_60, s239_63, s239_66, s239_69, s239_70, q_0, q_1, q_2, q_3, q_4, q_5, q_6, q_7, q_8, q_9, q_10, q_11, q_12, q_13, q_14, q_16, q_20, q_23, q_24, q_32, q_42, q_43, q_45, q_47, q_48, q_50, q_57, q_59, q_60, q_61, q_62, q_63, q_64, q_66, q_91, q_93, q_97, q_99, q_122, q_144, q_255, q_256, q_300, q_380, q_400, q_620, q_999, q_1000, q_4095, q_4096, q_9999, q_65536, q_99999, q_31, nI_add, pk_mul, nE, nL, nT, nM31, nShl, ib_nI, nI_clamp, bI_n0, bI_n1, bI_nar, uI_r, uI_l, uL_r, uL_i, uL_p, uA_r, uA_l, bV_some, bU_some, nar_n0, nar_n1, and_self, and_true, true_and, and_false, false_and, if_true, if_false, eq_self, Bool.false_eq_true, Bool.true_eq_false, not_true_eq_false, not_false_eq_true, ↓reduceIte, nlT, nlF, ntT, ntF, neT, neF, ieT, ieF, decide_true, decide_false, Bool.not_true, Bool.not_false, Bool.and_true, Bool.true_and, Bool.and_false, Bool.false_and, Bool.or_true, Bool.true_or, Bool.or_false, Bool.false_or, m_has, c1, c2, e9]
    · intro S2 hI
      obtain ⟨i0, i1, i2⟩ := hI
      have er := plE_row (p := p) (a := a) (n := 12) (by decide) (fun i hi => tb_hi hp hi)
      refine ⟨S2, vI (nI 12), ?_, i1, ?_⟩
      · show run 239 0 15 _ _ _ = _
        rw [s239_15, er]
        simp (disch := omega) only [s239_0, s239_1, s239_2, s239_3, s239_5, s239_7, s239_10, s239_11, s239_12, s239_13, s239_17, s239_19, s239_22, s239_23, s239_24, s239_27, s239_30, s239_31, s239_33, s239_36, s239_39, s239_40, s239_43, s239_44, s239_45, s239_46, s239_47, s239_50, s239_51, s239_53, s239_54, s239_57, s239_60, s239_63, s239_66, s239_69, s239_70, q_0, q_1, q_2, q_3, q_4, q_5, q_6, q_7, q_8, q_9, q_10, q_11, q_12, q_13, q_14, q_16, q_20, q_23, q_24, q_32, q_42, q_43, q_45, q_47, q_48, q_50, q_57, q_59, q_60, q_61, q_62, q_63, q_64, q_66, q_91, q_93, q_97, q_99, q_122, q_144, q_255, q_256, q_300, q_380, q_400, q_620, q_999, q_1000, q_4095, q_4096, q_9999, q_65536, q_99999, q_31, nI_add, pk_mul, nE, nL, nT, nM31, nShl, ib_nI, nI_clamp, bI_n0, bI_n1, bI_nar, uI_r, uI_l, uL_r, uL_i, uL_p, uA_r, uA_l, bV_some, bU_some, nar_n0, nar_n1, and_self, and_true, true_and, and_false, false_and, if_true, if_false, eq_self, Bool.false_eq_true, Bool.true_eq_false, not_true_eq_false, not_false_eq_true, ↓reduceIte, nlT, nlF, ntT, ntF, neT, neF, ieT, ieF, decide_true, decide_false, Bool.not_true, Bool.not_false, Bool.and_true, Bool.true_and, Bool.and_false, Bool.false_and, Bool.or_true, Bool.true_or, Bool.or_false, Bool.false_or]
      · rw [er]
        exact i2
  have ez : plE p (12 * 0 + (0 + 1)) = [] := plE_sk (e := 0) (n := 1) (fun i h1 h2 => by
    have : i = 0 := by omega
    subst this
    rfl)
  refine upS (σ := Sto × av) (I := fun a s => Fr (pL [90, 91]) S s.1 ∧ PmS s.1 (plE p (12 * a + (a + 1)))) (F := fun a s => run 239 0 4 [vR 50 0, vI (nI p), vI (nI (plE p (12 * a + (a + 1))).length), vI (nI a), s.2] [] s.1) (Q := fun w => ∃ S', w = some (some (vI (nI (plL p).length)), S') ∧ Fr (pL [90, 91]) S S' ∧ PmS S' (plL p)) (N := 12) ?_ ?_ 0 (S, vU) (by omega) ⟨Fr.rfl', fun i hi => by rw [ez] at hi; simp at hi⟩
  · intro a s ha hI
    obtain ⟨S1, x⟩ := s
    obtain ⟨i1, i2⟩ := hI
    simp only at i1 i2
    obtain ⟨S2, x', d1, d2, d3⟩ := inner a S1 ha i1 i2
    refine Or.inr ⟨(S2, x'), ⟨d2, d3⟩, ?_⟩
    show run 239 0 4 [vR 50 0, vI (nI p), vI (nI (plE p (12 * a + (a + 1))).length), vI (nI a), x] [] S1 = run 239 0 4 [vR 50 0, vI (nI p), vI (nI (plE p (12 * (a + 1) + (a + 2))).length), vI (nI (a + 1)), x'] [] S2
    rw [← d1, s239_4]
    simp (disch := omega) only [s239_0, s239_1, s239_2, s239_3, s239_5, s239_7, s239_10, s239_11, s239_12, s239_13, s239_17, s239_19, s239_22, s239_23, s239_24, s239_27, s239_30, s239_31, s239_33, s239_36, s239_39, s239_40, s239_43, s239_44, s239_45, s239_46, s239_47, s239_50, s239_51, s239_53, s239_54, s239_57, s239_60, s239_63, s239_66, s239_69, s239_70, q_0, q_1, q_2, q_3, q_4, q_5, q_6, q_7, q_8, q_9, q_10, q_11, q_12, q_13, q_14, q_16, q_20, q_23, q_24, q_32, q_42, q_43, q_45, q_47, q_48, q_50, q_57, q_59, q_60, q_61, q_62, q_63, q_64, q_66, q_91, q_93, q_97, q_99, q_122, q_144, q_255, q_256, q_300, q_380, q_400, q_620, q_999, q_1000, q_4095, q_4096, q_9999, q_65536, q_99999, q_31, nI_add, pk_mul, nE, nL, nT, nM31, nShl, ib_nI, nI_clamp, bI_n0, bI_n1, bI_nar, uI_r, uI_l, uL_r, uL_i, uL_p, uA_r, uA_l, bV_some, bU_some, nar_n0, nar_n1, and_self, and_true, true_and, and_false, false_and, if_true, if_false, eq_self, Bool.false_eq_true, Bool.true_eq_false, not_true_eq_false, not_false_eq_true, ↓reduceIte, nlT, nlF, ntT, ntF, neT, neF, ieT, ieF, decide_true, decide_false, Bool.not_true, Bool.not_false, Bool.and_true, Bool.true_and, Bool.and_false, Bool.false_and, Bool.or_true, Bool.true_or, Bool.or_false, Bool.false_or]
  · intro s hI
    obtain ⟨S1, x⟩ := s
    obtain ⟨i1, i2⟩ := hI
    simp only at i1 i2
    have er : plE p (12 * 12 + (12 + 1)) = plL p := plE_sk (e := 12 * 11 + 12) (n := 13) (fun i h1 h2 => by
      unfold pgB
      have e2 : ¬ i / 12 < i % 12 := by omega
      simp [e2])
    rw [er] at i2
    refine ⟨S1, ?_, i1, i2⟩
    show run 239 0 4 [vR 50 0, vI (nI p), vI (nI (plE p (12 * 12 + (12 + 1))).length), vI (nI 12), x] [] S1 = _
    rw [s239_4, er]
    simp (disch := omega) only [s239_0, s239_1, s239_2, s239_3, s239_5, s239_7, s239_10, s239_11, s239_12, s239_13, s239_17, s239_19, s239_22, s239_23, s239_24, s239_27, s239_30, s239_31, s239_33, s239_36, s239_39, s239_40, s239_43, s239_44, s239_45, s239_46, s239_47, s239_50, s239_51, s239_53, s239_54, s239_57, s239_60, s239_63, s239_66, s239_69, s239_70, q_0, q_1, q_2, q_3, q_4, q_5, q_6, q_7, q_8, q_9, q_10, q_11, q_12, q_13, q_14, q_16, q_20, q_23, q_24, q_32, q_42, q_43, q_45, q_47, q_48, q_50, q_57, q_59, q_60, q_61, q_62, q_63, q_64, q_66, q_91, q_93, q_97, q_99, q_122, q_144, q_255, q_256, q_300, q_380, q_400, q_620, q_999, q_1000, q_4095, q_4096, q_9999, q_65536, q_99999, q_31, nI_add, pk_mul, nE, nL, nT, nM31, nShl, ib_nI, nI_clamp, bI_n0, bI_n1, bI_nar, uI_r, uI_l, uL_r, uL_i, uL_p, uA_r, uA_l, bV_some, bU_some, nar_n0, nar_n1, and_self, and_true, true_and, and_false, false_and, if_true, if_false, eq_self, Bool.false_eq_true, Bool.true_eq_false, not_true_eq_false, not_false_eq_true, ↓reduceIte, nlT, nlF, ntT, ntF, neT, neF, ieT, ieF, decide_true, decide_false, Bool.not_true, Bool.not_false, Bool.and_true, Bool.true_and, Bool.and_false, Bool.false_and, Bool.or_true, Bool.true_or, Bool.or_false, Bool.false_or]
