/-! the row judged -/
theorem FM.p5 {S S' : Sto} {L : List Nat} (h : Fr (pL L) S S') (hL : ∀ t, t ∈ L → (50 ≤ t ∧ t ≤ 66) ∨ (75 ≤ t ∧ t ≤ 96)) (h5 : ∀ k, k ∈ [17, 21, 26] → S'.1 50 0 k = S.1 50 0 k) : FM S S' := ⟨h.mn (fun t i e => by
  cases hq : pL L t i with
  | false => rfl
  | true =>
    have := hL t (by simpa [pL] using hq)
    unfold pmP at e
    simp only [Bool.or_eq_false_iff, Bool.and_eq_false_iff, decide_eq_false_iff_not] at e
    omega), h5⟩
theorem m_copy {S : Sto} {t0 t1 n : Nat} (hk0 : knd t0 = (1, n, [])) (hk1 : knd t1 = (1, n, [])) (hb0 : Nat.beq t0 103 = false) (hb1 : Nat.beq t1 103 = false) (hne : t0 ≠ t1) (hn : n < 2 ^ 31) : ∃ S', call 217 0 [vR t0 0, vR t1 0] S = some (none, S') ∧ Fr (pL [t1]) S S' ∧ ∀ c, c < n → S'.1 t1 0 c = S.1 t0 0 c := by
  have k0 : (knd t0).1 = 1 := by rw [hk0]
  have k1 : (knd t0).2.1 = n := by rw [hk0]
  have k2 : (knd t1).1 = 1 := by rw [hk1]
  have k3 : (knd t1).2.1 = n := by rw [hk1]
  have ha : ∀ S, aln S t1 0 = some n := by intro S; simp [aln, hk1]
  show ∃ S', run 217 0 0 [vR t0 0, vR t1 0, vU] [] S = _ ∧ _
  simp only [s217_0, s217_1]
  have key := upS (σ := Sto) (I := fun i S1 => Fr (pL [t1]) S S1 ∧ ∀ c, c < i → S1.1 t1 0 c = S.1 t0 0 c) (F := fun i S1 => run 217 0 2 [vR t0 0, vR t1 0, vI (nI i)] [] S1) (Q := fun x => ∃ S', x = some (none, S') ∧ Fr (pL [t1]) S S' ∧ ∀ c, c < n → S'.1 t1 0 c = S.1 t0 0 c) (N := n) ?_ ?_ 0 S (by omega) ⟨Fr.rfl', fun c hc => by omega⟩
  · exact key
  · intro i S1 hi hI
    have r0 : S1.1 t0 0 i = S.1 t0 0 i := hI.1.i (by simp [pL, hne]) i
    refine Or.inr ⟨uI S1 t1 0 i (S.1 t0 0 i), ⟨hI.1.uI (by simp [pL]), ?_⟩, ?_⟩
    · intro c hc
      rw [uI_r]
      by_cases e : c = i
      · rw [if_pos ⟨rfl, rfl, e⟩, e]
      · rw [if_neg (by omega)]
        exact hI.2 c (by omega)
    · show run 217 0 2 _ _ _ = run 217 0 2 _ _ _
      rw [s217_2, s217_3 _ _ _ hb1, s217_4 _ _ _ n (ha _)]
      simp (disch := first | omega | assumption) only [s217_0, s217_1, s217_5, s217_8, s217_9, s217_10, s217_11, s217_12, s217_13, s217_14, s217_17, s217_20, k1, k3, ofN, r0, q_0, q_1, q_2, q_3, q_4, q_5, q_6, q_7, q_8, q_9, q_10, q_11, q_12, q_13, q_14, q_16, q_20, q_23, q_24, q_32, q_42, q_43, q_45, q_47, q_48, q_50, q_57, q_59, q_60, q_61, q_62, q_63, q_64, q_66, q_91, q_93, q_97, q_99, q_122, q_144, q_255, q_256, q_300, q_380, q_400, q_620, q_999, q_1000, q_4095, q_4096, q_9999, q_65536, q_99999, q_31, nI_add, pk_mul, nE, nL, nT, nM31, nShl, ib_nI, nI_clamp, bI_n0, bI_n1, bI_nar, uI_r, uI_l, uL_r, uL_i, uL_p, uA_r, uA_l, bV_some, bU_some, nar_n0, nar_n1, and_self, and_true, true_and, and_false, false_and, if_true, if_false, eq_self, Bool.false_eq_true, Bool.true_eq_false, not_true_eq_false, not_false_eq_true, ↓reduceIte, nlT, nlF, ntT, ntF, neT, neF, ieT, ieF, decide_true, decide_false, Bool.not_true, Bool.not_false, Bool.and_true, Bool.true_and, Bool.and_false, Bool.false_and, Bool.or_true, Bool.true_or, Bool.or_false, Bool.false_or]
  · intro S1 hI
    show ∃ S', run 217 0 2 _ _ _ = _ ∧ _
    rw [s217_2, s217_3 _ _ _ hb1, s217_4 _ _ _ n (ha _)]
    simp (disch := first | omega | assumption) only [s217_0, s217_1, s217_5, s217_8, s217_9, s217_10, s217_11, s217_12, s217_13, s217_14, s217_17, s217_20, ofN, q_0, q_1, q_2, q_3, q_4, q_5, q_6, q_7, q_8, q_9, q_10, q_11, q_12, q_13, q_14, q_16, q_20, q_23, q_24, q_32, q_42, q_43, q_45, q_47, q_48, q_50, q_57, q_59, q_60, q_61, q_62, q_63, q_64, q_66, q_91, q_93, q_97, q_99, q_122, q_144, q_255, q_256, q_300, q_380, q_400, q_620, q_999, q_1000, q_4095, q_4096, q_9999, q_65536, q_99999, q_31, nI_add, pk_mul, nE, nL, nT, nM31, nShl, ib_nI, nI_clamp, bI_n0, bI_n1, bI_nar, uI_r, uI_l, uL_r, uL_i, uL_p, uA_r, uA_l, bV_some, bU_some, nar_n0, nar_n1, and_self, and_true, true_and, and_false, false_and, if_true, if_false, eq_self, Bool.false_eq_true, Bool.true_eq_false, not_true_eq_false, not_false_eq_true, ↓reduceIte, nlT, nlF, ntT, ntF, neT, neF, ieT, ieF, decide_true, decide_false, Bool.not_true, Bool.not_false, Bool.and_true, Bool.true_and, Bool.and_false, Bool.false_and, Bool.or_true, Bool.true_or, Bool.or_false, Bool.false_or]
    exact ⟨_, rfl, hI.1, hI.2⟩
/-- what the reference keeps -/
def Kp (S : Sto) (A : Tn) : Prop := (∀ i, i < 12 → S.1 80 0 i = nI (A 1 i)) ∧ (∀ i, i < 144 → S.1 81 0 i = nI (A 6 i)) ∧ (∀ i, i < 144 → S.1 82 0 i = nI (A 5 i)) ∧ (∀ i, i < 12 → S.1 83 0 i = nI (A 14 i)) ∧ (∀ i, i < 6 → S.1 84 0 i = nI (A 0 i))
theorem Kp.pl {S S' : Sto} {A : Tn} {L : List Nat} (h : Kp S A) (hf : Fr (pL L) S S') (hL : ∀ t, t < 85 → 80 ≤ t → L.contains t = false) : Kp S' A := by
  obtain ⟨h1, h2, h3, h4, h5⟩ := h
  refine ⟨fun i hi => ?_, fun i hi => ?_, fun i hi => ?_, fun i hi => ?_, fun i hi => ?_⟩
  · rw [hf.i (hL 80 (by decide) (by decide))]; exact h1 i hi
  · rw [hf.i (hL 81 (by decide) (by decide))]; exact h2 i hi
  · rw [hf.i (hL 82 (by decide) (by decide))]; exact h3 i hi
  · rw [hf.i (hL 83 (by decide) (by decide))]; exact h4 i hi
  · rw [hf.i (hL 84 (by decide) (by decide))]; exact h5 i hi
theorem m_keeps {S : Sto} {A : Tn} (h : RepM S A) : ∃ S', call 216 0 [vR 50 0] S = some (none, S') ∧ Fr (pL [80, 81, 82, 83, 84]) S S' ∧ Kp S' A := by
  obtain ⟨S1, a1, a2, a3⟩ := m_copy (S := S) (t0 := 52) (t1 := 80) (n := 12) rfl rfl rfl rfl (by decide) (by decide)
  obtain ⟨S2, b1, b2, b3⟩ := m_copy (S := S1) (t0 := 57) (t1 := 81) (n := 144) rfl rfl rfl rfl (by decide) (by decide)
  obtain ⟨S3, c1, c2, c3⟩ := m_copy (S := S2) (t0 := 56) (t1 := 82) (n := 144) rfl rfl rfl rfl (by decide) (by decide)
  obtain ⟨S4, d1, d2, d3⟩ := m_copy (S := S3) (t0 := 65) (t1 := 83) (n := 12) rfl rfl rfl rfl (by decide) (by decide)
  obtain ⟨S5, e1, e2, e3⟩ := m_copy (S := S4) (t0 := 51) (t1 := 84) (n := 6) rfl rfl rfl rfl (by decide) (by decide)
  show ∃ S', run 216 0 0 [vR 50 0] [] S = _ ∧ _
  simp only [s216_0, s216_1, s216_4, s216_5, s216_8, s216_11, s216_12, s216_15, s216_16, s216_19, s216_22, s216_23, s216_26, s216_27, s216_30, s216_33, s216_34, s216_37, s216_38, s216_41, s216_44, s216_45, s216_48, s216_49, s216_52, s216_55, a1, b1, c1, d1, e1, bU_some]
  refine ⟨_, rfl, (((((a2.pl (by simp)).tr (b2.pl (by simp))).tr (c2.pl (by simp))).tr (d2.pl (by simp))).tr (e2.pl (by simp))), fun i hi => ?_, fun i hi => ?_, fun i hi => ?_, fun i hi => ?_, fun i hi => ?_⟩
  · rw [e2.i rfl, d2.i rfl, c2.i rfl, b2.i rfl, a3 i hi]; exact h.co hi
  · rw [e2.i rfl, d2.i rfl, c2.i rfl, b3 i hi, a2.i rfl]; exact h.gi hi
  · rw [e2.i rfl, d2.i rfl, c3 i hi, b2.i rfl, a2.i rfl]; exact h.qu hi
  · rw [e2.i rfl, d3 i hi, c2.i rfl, b2.i rfl, a2.i rfl]; exact h.dn hi
  · rw [e3 i hi, d2.i rfl, c2.i rfl, b2.i rfl, a2.i rfl]; exact h.sc hi
theorem m_putsBack {S : Sto} {A B : Tn} (h : RepM S B) (hk : Kp S A) (hs : ∀ f i, f < 16 → f ≠ 0 → f ≠ 1 → f ≠ 5 → f ≠ 6 → f ≠ 14 → i < al f → B f i = A f i) : ∃ S', call 218 0 [vR 50 0] S = some (none, S') ∧ Fr (pL [51, 52, 56, 57, 65]) S S' ∧ RepM S' A := by
  obtain ⟨S1, a1, a2, a3⟩ := m_copy (S := S) (t0 := 80) (t1 := 52) (n := 12) rfl rfl rfl rfl (by decide) (by decide)
  obtain ⟨S2, b1, b2, b3⟩ := m_copy (S := S1) (t0 := 81) (t1 := 57) (n := 144) rfl rfl rfl rfl (by decide) (by decide)
  obtain ⟨S3, c1, c2, c3⟩ := m_copy (S := S2) (t0 := 82) (t1 := 56) (n := 144) rfl rfl rfl rfl (by decide) (by decide)
  obtain ⟨S4, d1, d2, d3⟩ := m_copy (S := S3) (t0 := 83) (t1 := 65) (n := 12) rfl rfl rfl rfl (by decide) (by decide)
  obtain ⟨S5, e1, e2, e3⟩ := m_copy (S := S4) (t0 := 84) (t1 := 51) (n := 6) rfl rfl rfl rfl (by decide) (by decide)
  obtain ⟨k1, k2, k3, k4, k5⟩ := hk
  show ∃ S', run 218 0 0 [vR 50 0] [] S = _ ∧ _
  simp only [s218_0, s218_1, s218_4, s218_5, s218_8, s218_11, s218_12, s218_15, s218_16, s218_19, s218_22, s218_23, s218_26, s218_27, s218_30, s218_33, s218_34, s218_37, s218_38, s218_41, s218_44, s218_45, s218_48, s218_49, s218_52, s218_55, a1, b1, c1, d1, e1, bU_some]
  have fr : Fr (pL [51, 52, 56, 57, 65]) S S5 := ((((a2.pl (by simp)).tr (b2.pl (by simp))).tr (c2.pl (by simp))).tr (d2.pl (by simp))).tr (e2.pl (by simp))
  refine ⟨_, rfl, fr, ?_⟩
  intro f i hf hi
  by_cases f0 : f = 0
  · subst f0
    show S5.1 51 0 i = _
    rw [e3 i hi, d2.i rfl, c2.i rfl, b2.i rfl, a2.i rfl]
    exact k5 i hi
  · by_cases f1 : f = 1
    · subst f1
      show S5.1 52 0 i = _
      rw [e2.i rfl, d2.i rfl, c2.i rfl, b2.i rfl, a3 i hi]
      exact k1 i hi
    · by_cases f5 : f = 5
      · subst f5
        show S5.1 56 0 i = _
        rw [e2.i rfl, d2.i rfl, c3 i hi, b2.i rfl, a2.i rfl]
        exact k3 i hi
      · by_cases f6 : f = 6
        · subst f6
          show S5.1 57 0 i = _
          rw [e2.i rfl, d2.i rfl, c2.i rfl, b3 i hi, a2.i rfl]
          exact k2 i hi
        · by_cases f14 : f = 14
          · subst f14
            show S5.1 65 0 i = _
            rw [e2.i rfl, d3 i hi, c2.i rfl, b2.i rfl, a2.i rfl]
            exact k4 i hi
          · rw [fr.i (by simp [pL]; omega), ← hs f i hf f0 f1 f5 f6 f14 hi]
            exact h f i hf hi
/-- the row done: the first that can't be, the town then, the worth before -/
def jg (A : Tn) (L : Lw) : Nat → Nat → Tn → Nat → Int32 × Tn × Nat
  | 0, _, B, v => (-nI 1, B, v)
  | m + 1, k, B, v => if caB B L (A 15 k) = true then jg A L m (k + 1) (doT B L (A 15 k)) (v + A 12 (A 15 k)) else (nI k, B, v)
def jgR (A : Tn) (L : Lw) : Int32 × Tn × Nat := jg A L (A 0 3) 0 A 0
def SmT (A B : Tn) : Prop := ∀ f i, f ≠ 1 → f ≠ 6 → f ≠ 14 → B f i = A f i
theorem doT_f {A : Tn} {L : Lw} {w f i : Nat} (h1 : f ≠ 1) (h6 : f ≠ 6) (h14 : f ≠ 14) : doT A L w f i = A f i := by
  unfold doT
  rw [uT_r, if_neg (by omega), uT_r, if_neg (by omega), doP_f h1 h6]
theorem SmT.d {A B : Tn} {L : Lw} {w : Nat} (h : SmT A B) : SmT A (doT B L w) := fun f i h1 h6 h14 => by rw [doT_f h1 h6 h14]; exact h f i h1 h6 h14
def pJ : Nat → Nat → Bool := fun t i => pT 1 t i || pL [0, 23, 26, 27, 28, 29] t i
theorem pJ_f {t i : Nat} (h : (1 ≤ t ∧ t ≤ 13 ∧ i ≠ 1) ∨ (14 ≤ t ∧ t ≠ 23 ∧ t ≠ 26 ∧ t ≠ 27 ∧ t ≠ 28 ∧ t ≠ 29)) : pJ t i = false := by
  unfold pJ pT pL
  simp
  omega
theorem pJ_t (i : Nat) : ∀ {t : Nat}, pT 1 t i = true → pJ t i = true := fun h => by unfold pJ; rw [h]; rfl
theorem pJ_l {t i : Nat} (h : pL [0, 23, 26, 27, 28, 29] t i = true) : pJ t i = true := by unfold pJ; rw [h]; simp
theorem Fr.jt {S S' : Sto} (h : Fr (pT 1) S S') : Fr pJ S S' := h.mn (fun t i e => by
  unfold pJ at e
  simp only [Bool.or_eq_false_iff] at e
  exact e.1)
theorem Fr.jl {S S' : Sto} {L : List Nat} (h : Fr (pL L) S S') (hL : ∀ t, t ∈ L → t ∈ [0, 23, 26, 27, 28, 29]) : Fr pJ S S' := (h.pl hL).mn (fun t i e => by
  unfold pJ at e
  simp only [Bool.or_eq_false_iff] at e
  exact e.2)
theorem x_playRow {S : Sto} {A : Tn} {r : Nat} {L : Lw} (h : RepC S 0 A) (hw : WF A) (hL : RepLC S r L) (hl : WFL L) : ∃ S', call 117 0 [vR 0 0, vR 17 r] S = some (some (vI (jgR A L).1), S') ∧ FC S S' ∧ RepC S' 0 A ∧ (∀ p, p < 12 → S'.1 2 1 p = nI ((jgR A L).2.1 1 p)) ∧ S'.1 0 0 12 = nI (jgR A L).2.2 := by
  have hNr := hw.nr
  have hWk := hw.wk
  obtain ⟨S1, a1, a2, a3⟩ := x_copyFrom (q := 1) h (by decide)
  show ∃ S', run 117 0 0 [vR 0 0, vR 17 r, vU, vU] [] S = _ ∧ _
  simp (disch := omega) only [s117_0, s117_1, s117_4, s117_5, s117_8, s117_11, s117_12, s117_13, s117_16, s117_17, s117_19, s117_20, s117_23, s117_26, s117_29, s117_30, s117_33, s117_36, s117_37, s117_38, s117_39, s117_40, s117_43, s117_44, s117_47, s117_48, s117_49, s117_52, s117_55, s117_56, s117_57, s117_58, s117_61, s117_62, s117_65, s117_66, s117_69, s117_70, s117_71, s117_72, s117_75, s117_76, s117_79, s117_82, s117_83, s117_84, s117_85, s117_88, s117_91, s117_94, s117_95, q_0, q_1, q_2, q_3, q_4, q_5, q_6, q_7, q_8, q_9, q_10, q_11, q_12, q_13, q_14, q_16, q_20, q_23, q_24, q_32, q_42, q_43, q_45, q_47, q_48, q_50, q_57, q_59, q_60, q_61, q_62, q_63, q_64, q_66, q_91, q_93, q_97, q_99, q_122, q_144, q_255, q_256, q_300, q_380, q_400, q_620, q_999, q_1000, q_4095, q_4096, q_9999, q_65536, q_99999, q_31, nI_add, pk_mul, nE, nL, nT, nM31, nShl, ib_nI, nI_clamp, bI_n0, bI_n1, bI_nar, uI_r, uI_l, uL_r, uL_i, uL_p, uA_r, uA_l, bV_some, bU_some, nar_n0, nar_n1, and_self, and_true, true_and, and_false, false_and, if_true, if_false, eq_self, Bool.false_eq_true, Bool.true_eq_false, not_true_eq_false, not_false_eq_true, ↓reduceIte, nlT, nlF, ntT, ntF, neT, neF, ieT, ieF, decide_true, decide_false, Bool.not_true, Bool.not_false, Bool.and_true, Bool.true_and, Bool.and_false, Bool.false_and, Bool.or_true, Bool.true_or, Bool.or_false, Bool.false_or, a1]
  have fa : Fr pJ S1 (uI S1 0 0 12 (nI 0)) := Fr.rfl'.uI rfl
  have ha3 : RepC (uI S1 0 0 12 (nI 0)) 1 A := a3.fr (Fr.rfl'.uI (P := pL [0]) rfl) (by intro t h1 h2; simp [pL]; omega)
  have fin : ∀ S' : Sto, Fr pJ S S' → S'.1 0 0 5 = S.1 0 0 5 → FC S S' ∧ RepC S' 0 A := by
    intro S' hf h5
    refine ⟨⟨hf.mn (fun t i e => ?_), h5⟩, h.fr hf (fun t h1 h2 => pJ_f (by omega))⟩
    cases hq : pJ t i with
    | false => rfl
    | true =>
      unfold pJ pT pL at hq
      unfold pcP at e
      simp at hq e
      omega
  have key := upS (σ := (Sto × av) × (Tn × Nat)) (I := fun i s => jg A L (A 0 3 - i) i s.2.1 s.2.2 = jgR A L ∧ Fr pJ S s.1.1 ∧ s.1.1.1 0 0 5 = S.1 0 0 5 ∧ RepC s.1.1 1 s.2.1 ∧ WF s.2.1 ∧ SmT A s.2.1 ∧ s.1.1.1 0 0 12 = nI s.2.2) (F := fun i s => run 117 0 18 [vR 0 0, vR 17 r, vI (nI i), s.1.2] [] s.1.1) (Q := fun x => ∃ S', x = some (some (vI (jgR A L).1), S') ∧ FC S S' ∧ RepC S' 0 A ∧ (∀ p, p < 12 → S'.1 2 1 p = nI ((jgR A L).2.1 1 p)) ∧ S'.1 0 0 12 = nI (jgR A L).2.2) (N := A 0 3) ?_ ?_ 0 ((uI S1 0 0 12 (nI 0), vU), (A, 0)) (by omega) ⟨rfl, a2.jt.tr fa, by show (uI S1 0 0 12 (nI 0)).1 0 0 5 = _; rw [uI_r, if_neg (by decide), a2.i rfl], ha3, hw, fun _ _ _ _ _ => rfl, by show (uI S1 0 0 12 (nI 0)).1 0 0 12 = _; rw [uI_r, if_pos ⟨rfl, rfl, rfl⟩]⟩
  · exact key
  · intro i s hi hI
    obtain ⟨⟨S2, a5⟩, B, v⟩ := s
    obtain ⟨i1, i2, i3, i4, i5, i6, i7⟩ := hI
    simp only at i1 i2 i3 i4 i5 i6 i7
    have hrow := hw.ro hi
    have em : A 0 3 - i = (A 0 3 - (i + 1)) + 1 := by omega
    rw [em] at i1
    unfold jg at i1
    have hL2 : RepLC S2 r L := hL.fr (fun t _ _ => (i2 t r (pJ_f (by omega))).1)
    have b3 : B 0 3 = A 0 3 := i6 0 3 (by decide) (by decide) (by decide)
    have b2 : B 0 2 = A 0 2 := i6 0 2 (by decide) (by decide) (by decide)
    have b15 : B 15 i = A 15 i := i6 15 i (by decide) (by decide) (by decide)
    have b12 : B 12 (A 15 i) = A 12 (A 15 i) := i6 12 _ (by decide) (by decide) (by decide)
    have r1 : S2.1 1 1 16 = nI (A 0 3) := by rw [i4.nr, b3]
    have r2 : S2.1 13 1 i = nI (A 15 i) := by rw [i4.ro (by omega), b15]
    obtain ⟨S3, c1, c2, c3⟩ := x_canBe i4 i5 hL2 hl (w := A 15 i) (by omega)
    have h3 := i4.pl c2 (by decide)
    show (∃ S', run 117 0 18 [vR 0 0, vR 17 r, vI (nI i), a5] [] S2 = _ ∧ _) ∨ ∃ s', _ ∧ run 117 0 18 [vR 0 0, vR 17 r, vI (nI i), a5] [] S2 = _
    rw [s117_18]
    have fr3 : Fr pJ S S3 := i2.tr (c2.jl (by simp))
    have e5 : S3.1 0 0 5 = S.1 0 0 5 := by rw [c2.i rfl]; exact i3
    have e12 : S3.1 0 0 12 = nI v := by rw [c2.i rfl]; exact i7
    cases hc : caB B L (A 15 i) with
    | false =>
      rw [hc] at c1 i1
      simp only [Bool.false_eq_true, if_false] at i1
      refine Or.inl ?_
      rw [← i1]
      simp (disch := omega) only [s117_0, s117_1, s117_4, s117_5, s117_8, s117_11, s117_12, s117_13, s117_16, s117_17, s117_19, s117_20, s117_23, s117_26, s117_29, s117_30, s117_33, s117_36, s117_37, s117_38, s117_39, s117_40, s117_43, s117_44, s117_47, s117_48, s117_49, s117_52, s117_55, s117_56, s117_57, s117_58, s117_61, s117_62, s117_65, s117_66, s117_69, s117_70, s117_71, s117_72, s117_75, s117_76, s117_79, s117_82, s117_83, s117_84, s117_85, s117_88, s117_91, s117_94, s117_95, q_0, q_1, q_2, q_3, q_4, q_5, q_6, q_7, q_8, q_9, q_10, q_11, q_12, q_13, q_14, q_16, q_20, q_23, q_24, q_32, q_42, q_43, q_45, q_47, q_48, q_50, q_57, q_59, q_60, q_61, q_62, q_63, q_64, q_66, q_91, q_93, q_97, q_99, q_122, q_144, q_255, q_256, q_300, q_380, q_400, q_620, q_999, q_1000, q_4095, q_4096, q_9999, q_65536, q_99999, q_31, nI_add, pk_mul, nE, nL, nT, nM31, nShl, ib_nI, nI_clamp, bI_n0, bI_n1, bI_nar, uI_r, uI_l, uL_r, uL_i, uL_p, uA_r, uA_l, bV_some, bU_some, nar_n0, nar_n1, and_self, and_true, true_and, and_false, false_and, if_true, if_false, eq_self, Bool.false_eq_true, Bool.true_eq_false, not_true_eq_false, not_false_eq_true, ↓reduceIte, nlT, nlF, ntT, ntF, neT, neF, ieT, ieF, decide_true, decide_false, Bool.not_true, Bool.not_false, Bool.and_true, Bool.true_and, Bool.and_false, Bool.false_and, Bool.or_true, Bool.true_or, Bool.or_false, Bool.false_or, r1, r2, c1]
      obtain ⟨q1, q2⟩ := fin S3 fr3 e5
      exact ⟨_, rfl, q1, q2, fun p hp => h3.co hp, e12⟩
    | true =>
      obtain ⟨f1, f2⟩ := c3 hc
      rw [hc] at c1
      rw [if_pos hc] at i1
      obtain ⟨S4, d1, d2, d3⟩ := x_carryOut h3 i5 (by omega) hc f1 f2
      have hW := i5.W (w := A 15 i) (by omega)
      have e12' : S4.1 0 0 12 = nI v := by rw [d2.i rfl]; exact e12
      have e13 : S4.1 11 1 (A 15 i) = nI (A 12 (A 15 i)) := by rw [d3.wo (by omega), doT_f (by decide) (by decide) (by decide), b12]
      refine Or.inr ⟨((uI S4 0 0 12 (nI (v + A 12 (A 15 i))), vI (nI (A 15 i))), (doT B L (A 15 i), v + A 12 (A 15 i))), ⟨i1, (fr3.tr d2.jt).tr (Fr.rfl'.uI rfl), ?_, ?_, doT_W i5 (by omega), i6.d, ?_⟩, ?_⟩
      · show (uI S4 0 0 12 _).1 0 0 5 = _
        rw [uI_r, if_neg (by decide), d2.i rfl, e5]
      · exact d3.fr (Fr.rfl'.uI (P := pL [0]) rfl) (by intro t h1 h2; simp [pL]; omega)
      · show (uI S4 0 0 12 _).1 0 0 12 = _
        rw [uI_r, if_pos ⟨rfl, rfl, rfl⟩]
      · simp (disch := omega) only [s117_0, s117_1, s117_4, s117_5, s117_8, s117_11, s117_12, s117_13, s117_16, s117_17, s117_19, s117_20, s117_23, s117_26, s117_29, s117_30, s117_33, s117_36, s117_37, s117_38, s117_39, s117_40, s117_43, s117_44, s117_47, s117_48, s117_49, s117_52, s117_55, s117_56, s117_57, s117_58, s117_61, s117_62, s117_65, s117_66, s117_69, s117_70, s117_71, s117_72, s117_75, s117_76, s117_79, s117_82, s117_83, s117_84, s117_85, s117_88, s117_91, s117_94, s117_95, q_0, q_1, q_2, q_3, q_4, q_5, q_6, q_7, q_8, q_9, q_10, q_11, q_12, q_13, q_14, q_16, q_20, q_23, q_24, q_32, q_42, q_43, q_45, q_47, q_48, q_50, q_57, q_59, q_60, q_61, q_62, q_63, q_64, q_66, q_91, q_93, q_97, q_99, q_122, q_144, q_255, q_256, q_300, q_380, q_400, q_620, q_999, q_1000, q_4095, q_4096, q_9999, q_65536, q_99999, q_31, nI_add, pk_mul, nE, nL, nT, nM31, nShl, ib_nI, nI_clamp, bI_n0, bI_n1, bI_nar, uI_r, uI_l, uL_r, uL_i, uL_p, uA_r, uA_l, bV_some, bU_some, nar_n0, nar_n1, and_self, and_true, true_and, and_false, false_and, if_true, if_false, eq_self, Bool.false_eq_true, Bool.true_eq_false, not_true_eq_false, not_false_eq_true, ↓reduceIte, nlT, nlF, ntT, ntF, neT, neF, ieT, ieF, decide_true, decide_false, Bool.not_true, Bool.not_false, Bool.and_true, Bool.true_and, Bool.and_false, Bool.false_and, Bool.or_true, Bool.true_or, Bool.or_false, Bool.false_or, r1, r2, c1, d1, e12', e13]
  · intro s hI
    obtain ⟨⟨S2, a5⟩, B, v⟩ := s
    obtain ⟨i1, i2, i3, i4, i5, i6, i7⟩ := hI
    simp only at i1 i2 i3 i4 i5 i6 i7
    have b3 : B 0 3 = A 0 3 := i6 0 3 (by decide) (by decide) (by decide)
    have r1 : S2.1 1 1 16 = nI (A 0 3) := by rw [i4.nr, b3]
    rw [Nat.sub_self] at i1
    show ∃ S', run 117 0 18 [vR 0 0, vR 17 r, vI (nI (A 0 3)), a5] [] S2 = _ ∧ _
    rw [s117_18, ← i1]
    simp (disch := omega) only [s117_0, s117_1, s117_4, s117_5, s117_8, s117_11, s117_12, s117_13, s117_16, s117_17, s117_19, s117_20, s117_23, s117_26, s117_29, s117_30, s117_33, s117_36, s117_37, s117_38, s117_39, s117_40, s117_43, s117_44, s117_47, s117_48, s117_49, s117_52, s117_55, s117_56, s117_57, s117_58, s117_61, s117_62, s117_65, s117_66, s117_69, s117_70, s117_71, s117_72, s117_75, s117_76, s117_79, s117_82, s117_83, s117_84, s117_85, s117_88, s117_91, s117_94, s117_95, q_0, q_1, q_2, q_3, q_4, q_5, q_6, q_7, q_8, q_9, q_10, q_11, q_12, q_13, q_14, q_16, q_20, q_23, q_24, q_32, q_42, q_43, q_45, q_47, q_48, q_50, q_57, q_59, q_60, q_61, q_62, q_63, q_64, q_66, q_91, q_93, q_97, q_99, q_122, q_144, q_255, q_256, q_300, q_380, q_400, q_620, q_999, q_1000, q_4095, q_4096, q_9999, q_65536, q_99999, q_31, nI_add, pk_mul, nE, nL, nT, nM31, nShl, ib_nI, nI_clamp, bI_n0, bI_n1, bI_nar, uI_r, uI_l, uL_r, uL_i, uL_p, uA_r, uA_l, bV_some, bU_some, nar_n0, nar_n1, and_self, and_true, true_and, and_false, false_and, if_true, if_false, eq_self, Bool.false_eq_true, Bool.true_eq_false, not_true_eq_false, not_false_eq_true, ↓reduceIte, nlT, nlF, ntT, ntF, neT, neF, ieT, ieF, decide_true, decide_false, Bool.not_true, Bool.not_false, Bool.and_true, Bool.true_and, Bool.and_false, Bool.false_and, Bool.or_true, Bool.true_or, Bool.or_false, Bool.false_or, r1, jg]
    obtain ⟨q1, q2⟩ := fin S2 i2 i3
    exact ⟨_, rfl, q1, q2, fun p hp => i4.co hp, i7⟩
