/-! years -/
def mtI (B : Tn) (L : Lw) (a b : Nat) : Tn := if B 2 a = 1 ∧ B 2 b = 1 then mt B L a b else B
def ybF (L : Lw) (a : Nat) : Nat → Nat → Tn → Tn
  | 0, _, B => B
  | m + 1, b, B => ybF L a m (b + 1) (mtI B L a b)
def yaF (L : Lw) : Nat → Nat → Tn → Tn
  | 0, _, B => B
  | m + 1, a, B => yaF L m (a + 1) (ybF L a (11 - a) (a + 1) B)
def yr (B : Tn) (L : Lw) : Tn := uT (yaF L 12 0 B) 0 4 (yaF L 12 0 B 0 4 + 1)
def ysF (L : Lw) : Nat → Tn → Tn
  | 0, B => B
  | n + 1, B => ysF L n (yr B L)
theorem ybF_s (L : Lw) (a m b : Nat) (B : Tn) : ybF L a (m + 1) b B = ybF L a m (b + 1) (mtI B L a b) := rfl
theorem yaF_s (L : Lw) (m a : Nat) (B : Tn) : yaF L (m + 1) a B = yaF L m (a + 1) (ybF L a (11 - a) (a + 1) B) := rfl
theorem ysF_s (L : Lw) (n : Nat) (B : Tn) : ysF L (n + 1) B = ysF L n (yr B L) := rfl
theorem ybF_id {L : Lw} {a : Nat} {B : Tn} : ∀ m b, (∀ b', b ≤ b' → b' < b + m → B 2 b' ≠ 1) → ybF L a m b B = B
  | 0, _, _ => rfl
  | m + 1, b, h => by
    rw [ybF_s]
    have e : mtI B L a b = B := by
      unfold mtI
      rw [if_neg (fun q => h b (Nat.le_refl _) (by omega) q.2)]
    rw [e]
    exact ybF_id m (b + 1) (fun b' h1 h2 => h b' (by omega) (by omega))
theorem ybF_ia {L : Lw} {a : Nat} {B : Tn} (h : B 2 a ≠ 1) : ∀ m b, ybF L a m b B = B
  | 0, _ => rfl
  | m + 1, b => by
    rw [ybF_s]
    have e : mtI B L a b = B := by
      unfold mtI
      rw [if_neg (fun q => h q.1)]
    rw [e]
    exact ybF_ia h m (b + 1)
theorem yaF_id {L : Lw} {B : Tn} : ∀ m a, (∀ a', a ≤ a' → a' < a + m → B 2 a' ≠ 1) → yaF L m a B = B
  | 0, _, _ => rfl
  | m + 1, a, h => by
    rw [yaF_s, ybF_ia (h a (Nat.le_refl _) (by omega))]
    exact yaF_id m (a + 1) (fun a' h1 h2 => h a' (by omega) (by omega))
def KpY (A B : Tn) : Prop := ∀ f i, f ≠ 5 → ¬ (f = 0 ∧ (i = 5 ∨ i = 4)) → B f i = A f i
theorem KpY.mt {A B : Tn} {L : Lw} {a b : Nat} (h : KpY A B) : KpY A (mt B L a b) := fun f i h5 h0 => by rw [mt_f h5 (by omega)]; exact h f i h5 h0
theorem Ms.k {S S' : Sto} {B B' : Tn} (h : Ms S B) (e5 : ∀ i, S'.1 45 0 i = S.1 45 0 i) (e6 : ∀ i, S'.1 46 0 i = S.1 46 0 i) (k : ∀ f i, f = 7 ∨ f = 8 ∨ (f = 0 ∧ i = 1) → B' f i = B f i) : Ms S' B' := by
  have o : ∀ p t, owB B' p t = owB B p t := fun p t => by unfold owB; rw [k 7 t (by omega), k 8 t (by omega)]
  have e1 : B' 0 1 = B 0 1 := k 0 1 (by omega)
  refine ⟨fun p hp => ?_, fun a b ha hb hne => ?_⟩
  · rw [e5, h.1 p hp]
    unfold ownN
    rw [e1]
    simp only [o]
  · rw [e6, h.2 a b ha hb hne]
    unfold shN
    rw [e1]
    simp only [o]
def JY (S : Sto) (q : Nat) (A : Tn) (S1 : Sto) (B : Tn) : Prop := Fr (pY q) S S1 ∧ RepC S1 q B ∧ WF B ∧ KpY A B ∧ Z44 S1 ∧ Ms S1 B
theorem RepLC.y {S S' : Sto} {r q : Nat} {W : Lw} (h : RepLC S r W) (hf : Fr (pY q) S S') : RepLC S' r W := h.fr (fun t _ _ => (hf t r (pY_f (by omega))).1)
section YR
variable {S : Sto} {q : Nat} {A : Tn} {r : Nat} {L : Lw}
theorem x_inner {S1 : Sto} {B : Tn} {a : Nat} (hL : RepLC S r L) (hl : WFL L) (hJ : JY S q A S1 B) (ha : a < A 0 0) (hP : A 0 0 ≤ 12) : ∃ S2, run 88 0 15 [vR 43 0, vR 1 q, vR 17 r, vI (nI a), vI (nI (a + 1))] [] S1 = run 88 0 2 [vR 43 0, vR 1 q, vR 17 r, vI (nI (a + 1)), vI (nI (A 0 0))] [] S2 ∧ JY S q A S2 (ybF L a (11 - a) (a + 1) B) := by
  refine upS (σ := Sto × Tn) (I := fun b s => (a < b ∧ ybF L a (12 - b) b s.2 = ybF L a (11 - a) (a + 1) B) ∧ JY S q A s.1 s.2) (F := fun b s => run 88 0 15 [vR 43 0, vR 1 q, vR 17 r, vI (nI a), vI (nI b)] [] s.1) (Q := fun x => ∃ S2, x = run 88 0 2 [vR 43 0, vR 1 q, vR 17 r, vI (nI (a + 1)), vI (nI (A 0 0))] [] S2 ∧ JY S q A S2 (ybF L a (11 - a) (a + 1) B)) (N := A 0 0) ?_ ?_ (a + 1) (S1, B) (by omega) ⟨⟨by omega, by rw [show 12 - (a + 1) = 11 - a by omega]⟩, hJ⟩
  · intro b s hb hI
    obtain ⟨S2, B2⟩ := s
    obtain ⟨⟨i0, i1⟩, f1, f2, f3, f4, f5, f6⟩ := hI
    simp only at i1 f1 f2 f3 f4 f5 f6
    have hab : 12 - b = (12 - (b + 1)) + 1 := by omega
    rw [hab, ybF_s] at i1
    have e0 : B2 0 0 = A 0 0 := f4 0 0 (by decide) (by omega)
    have r0 : S2.1 1 q 0 = nI (A 0 0) := by rw [f2.pe, e0]
    have g1 := livB_lt B2
    show (∃ S3, run 88 0 15 _ _ _ = _ ∧ _) ∨ ∃ s', _ ∧ run 88 0 15 _ _ _ = run 88 0 15 _ _ _
    rw [s88_15]
    by_cases c1 : B2 2 a = 1
    · have c1' : (B2 2 a == 1) = true := by simp [c1]
      by_cases c2 : B2 2 b = 1
      · have c2' : (B2 2 b == 1) = true := by simp [c2]
        have hne : a ≠ b := by omega
        obtain ⟨S3, k1, k2, k3, k4, k5, k6⟩ := x_meet f2 f3 (hL.y f1) hl f6 f5 (a := a) (b := b) (by omega) (by omega) hne
        refine Or.inr ⟨(S3, mt B2 L a b), ⟨⟨by omega, ?_⟩, f1.tr k2, k3, mt_W f3 (by omega) (by omega) hne, f4.mt, k4, f6.k k5 k6 (fun f i hf => mt_f (by omega) (by omega))⟩, ?_⟩
        · rw [← i1]
          unfold mtI
          rw [if_pos ⟨c1, c2⟩]
        · simp (disch := omega) only [s88_0, s88_1, s88_3, s88_4, s88_7, s88_10, s88_11, s88_12, s88_13, s88_17, s88_18, s88_21, s88_24, s88_25, s88_28, s88_29, s88_32, s88_35, s88_36, s88_39, s88_41, s88_44, s88_47, s88_48, s88_49, s88_50, s88_51, s88_53, s88_56, s88_59, s88_62, s88_65, s88_68, s88_69, s88_70, s88_73, s88_74, s88_75, s88_78, q_0, q_1, q_2, q_3, q_4, q_5, q_6, q_7, q_8, q_9, q_10, q_11, q_12, q_13, q_14, q_16, q_20, q_23, q_24, q_32, q_42, q_43, q_45, q_47, q_48, q_50, q_57, q_59, q_60, q_61, q_62, q_63, q_64, q_66, q_91, q_93, q_97, q_99, q_122, q_144, q_255, q_256, q_300, q_380, q_400, q_620, q_999, q_1000, q_4095, q_4096, q_9999, q_65536, q_99999, q_31, nI_add, pk_mul, nE, nL, nT, nM31, nShl, ib_nI, nI_clamp, bI_n0, bI_n1, bI_nar, uI_r, uI_l, uL_r, uL_i, uL_p, uA_r, uA_l, bV_some, bU_some, nar_n0, nar_n1, and_self, and_true, true_and, and_false, false_and, if_true, if_false, eq_self, Bool.false_eq_true, Bool.true_eq_false, not_true_eq_false, not_false_eq_true, ↓reduceIte, nlT, nlF, ntT, ntF, neT, neF, ieT, ieF, decide_true, decide_false, Bool.not_true, Bool.not_false, Bool.and_true, Bool.true_and, Bool.and_false, Bool.false_and, Bool.or_true, Bool.true_or, Bool.or_false, Bool.false_or, r0, f2.lvb, x_has, livB_bit, c1', c2', k1]
      · have c2' : (B2 2 b == 1) = false := by simp [c2]
        refine Or.inr ⟨(S2, B2), ⟨⟨by omega, ?_⟩, f1, f2, f3, f4, f5, f6⟩, ?_⟩
        · rw [← i1]
          unfold mtI
          rw [if_neg (fun q => c2 q.2)]
        · simp (disch := omega) only [s88_0, s88_1, s88_3, s88_4, s88_7, s88_10, s88_11, s88_12, s88_13, s88_17, s88_18, s88_21, s88_24, s88_25, s88_28, s88_29, s88_32, s88_35, s88_36, s88_39, s88_41, s88_44, s88_47, s88_48, s88_49, s88_50, s88_51, s88_53, s88_56, s88_59, s88_62, s88_65, s88_68, s88_69, s88_70, s88_73, s88_74, s88_75, s88_78, q_0, q_1, q_2, q_3, q_4, q_5, q_6, q_7, q_8, q_9, q_10, q_11, q_12, q_13, q_14, q_16, q_20, q_23, q_24, q_32, q_42, q_43, q_45, q_47, q_48, q_50, q_57, q_59, q_60, q_61, q_62, q_63, q_64, q_66, q_91, q_93, q_97, q_99, q_122, q_144, q_255, q_256, q_300, q_380, q_400, q_620, q_999, q_1000, q_4095, q_4096, q_9999, q_65536, q_99999, q_31, nI_add, pk_mul, nE, nL, nT, nM31, nShl, ib_nI, nI_clamp, bI_n0, bI_n1, bI_nar, uI_r, uI_l, uL_r, uL_i, uL_p, uA_r, uA_l, bV_some, bU_some, nar_n0, nar_n1, and_self, and_true, true_and, and_false, false_and, if_true, if_false, eq_self, Bool.false_eq_true, Bool.true_eq_false, not_true_eq_false, not_false_eq_true, ↓reduceIte, nlT, nlF, ntT, ntF, neT, neF, ieT, ieF, decide_true, decide_false, Bool.not_true, Bool.not_false, Bool.and_true, Bool.true_and, Bool.and_false, Bool.false_and, Bool.or_true, Bool.true_or, Bool.or_false, Bool.false_or, r0, f2.lvb, x_has, livB_bit, c1', c2']
    · have c1' : (B2 2 a == 1) = false := by simp [c1]
      refine Or.inr ⟨(S2, B2), ⟨⟨by omega, ?_⟩, f1, f2, f3, f4, f5, f6⟩, ?_⟩
      · rw [← i1]
        unfold mtI
        rw [if_neg (fun q => c1 q.1)]
      · simp (disch := omega) only [s88_0, s88_1, s88_3, s88_4, s88_7, s88_10, s88_11, s88_12, s88_13, s88_17, s88_18, s88_21, s88_24, s88_25, s88_28, s88_29, s88_32, s88_35, s88_36, s88_39, s88_41, s88_44, s88_47, s88_48, s88_49, s88_50, s88_51, s88_53, s88_56, s88_59, s88_62, s88_65, s88_68, s88_69, s88_70, s88_73, s88_74, s88_75, s88_78, q_0, q_1, q_2, q_3, q_4, q_5, q_6, q_7, q_8, q_9, q_10, q_11, q_12, q_13, q_14, q_16, q_20, q_23, q_24, q_32, q_42, q_43, q_45, q_47, q_48, q_50, q_57, q_59, q_60, q_61, q_62, q_63, q_64, q_66, q_91, q_93, q_97, q_99, q_122, q_144, q_255, q_256, q_300, q_380, q_400, q_620, q_999, q_1000, q_4095, q_4096, q_9999, q_65536, q_99999, q_31, nI_add, pk_mul, nE, nL, nT, nM31, nShl, ib_nI, nI_clamp, bI_n0, bI_n1, bI_nar, uI_r, uI_l, uL_r, uL_i, uL_p, uA_r, uA_l, bV_some, bU_some, nar_n0, nar_n1, and_self, and_true, true_and, and_false, false_and, if_true, if_false, eq_self, Bool.false_eq_true, Bool.true_eq_false, not_true_eq_false, not_false_eq_true, ↓reduceIte, nlT, nlF, ntT, ntF, neT, neF, ieT, ieF, decide_true, decide_false, Bool.not_true, Bool.not_false, Bool.and_true, Bool.true_and, Bool.and_false, Bool.false_and, Bool.or_true, Bool.true_or, Bool.or_false, Bool.false_or, r0, f2.lvb, x_has, livB_bit, c1']
  · intro s hI
    obtain ⟨S2, B2⟩ := s
    obtain ⟨⟨i0, i1⟩, f1, f2, f3, f4, f5, f6⟩ := hI
    simp only at i1 f1 f2 f3 f4 f5 f6
    have e0 : B2 0 0 = A 0 0 := f4 0 0 (by decide) (by omega)
    have r0 : S2.1 1 q 0 = nI (A 0 0) := by rw [f2.pe, e0]
    have e : ybF L a (12 - A 0 0) (A 0 0) B2 = B2 := ybF_id _ _ (fun b' h1 h2 h3 => by have := f3.lvp (p := b') (by omega) h3; omega)
    rw [e] at i1
    rw [← i1]
    show ∃ S3, run 88 0 15 _ _ _ = _ ∧ _
    rw [s88_15]
    simp (disch := omega) only [s88_0, s88_1, s88_3, s88_4, s88_7, s88_10, s88_11, s88_12, s88_13, s88_17, s88_18, s88_21, s88_24, s88_25, s88_28, s88_29, s88_32, s88_35, s88_36, s88_39, s88_41, s88_44, s88_47, s88_48, s88_49, s88_50, s88_51, s88_53, s88_56, s88_59, s88_62, s88_65, s88_68, s88_69, s88_70, s88_73, s88_74, s88_75, s88_78, q_0, q_1, q_2, q_3, q_4, q_5, q_6, q_7, q_8, q_9, q_10, q_11, q_12, q_13, q_14, q_16, q_20, q_23, q_24, q_32, q_42, q_43, q_45, q_47, q_48, q_50, q_57, q_59, q_60, q_61, q_62, q_63, q_64, q_66, q_91, q_93, q_97, q_99, q_122, q_144, q_255, q_256, q_300, q_380, q_400, q_620, q_999, q_1000, q_4095, q_4096, q_9999, q_65536, q_99999, q_31, nI_add, pk_mul, nE, nL, nT, nM31, nShl, ib_nI, nI_clamp, bI_n0, bI_n1, bI_nar, uI_r, uI_l, uL_r, uL_i, uL_p, uA_r, uA_l, bV_some, bU_some, nar_n0, nar_n1, and_self, and_true, true_and, and_false, false_and, if_true, if_false, eq_self, Bool.false_eq_true, Bool.true_eq_false, not_true_eq_false, not_false_eq_true, ↓reduceIte, nlT, nlF, ntT, ntF, neT, neF, ieT, ieF, decide_true, decide_false, Bool.not_true, Bool.not_false, Bool.and_true, Bool.true_and, Bool.and_false, Bool.false_and, Bool.or_true, Bool.true_or, Bool.or_false, Bool.false_or, r0]
    exact ⟨S2, rfl, f1, f2, f3, f4, f5, f6⟩
theorem x_passOne {S1 : Sto} {B : Tn} (hL : RepLC S r L) (hl : WFL L) (hJ : JY S q A S1 B) (hP : A 0 0 ≤ 12) : ∃ S2, call 88 0 [vR 43 0, vR 1 q, vR 17 r] S1 = some (none, S2) ∧ JY S q A S2 (yr B L) := by
  show ∃ S2, run 88 0 0 [vR 43 0, vR 1 q, vR 17 r, vU, vU] [] S1 = _ ∧ _
  simp only [s88_0, s88_1]
  have key := upS (σ := (Sto × av) × Tn) (I := fun a s => yaF L (12 - a) a s.2 = yaF L 12 0 B ∧ JY S q A s.1.1 s.2) (F := fun a s => run 88 0 2 [vR 43 0, vR 1 q, vR 17 r, vI (nI a), s.1.2] [] s.1.1) (Q := fun x => ∃ S2, x = some (none, S2) ∧ JY S q A S2 (yr B L)) (N := A 0 0) ?_ ?_ 0 ((S1, vU), B) (by omega) ⟨rfl, hJ⟩
  · exact key
  · intro a s ha hI
    obtain ⟨⟨S2, x4⟩, B2⟩ := s
    obtain ⟨i1, hJ2⟩ := hI
    simp only at i1 hJ2
    obtain ⟨f1, f2, f3, f4, f5, f6⟩ := id hJ2
    have hab : 12 - a = (12 - (a + 1)) + 1 := by omega
    rw [hab, yaF_s] at i1
    have e0 : B2 0 0 = A 0 0 := f4 0 0 (by decide) (by omega)
    have r0 : S2.1 1 q 0 = nI (A 0 0) := by rw [f2.pe, e0]
    obtain ⟨S3, k1, k2⟩ := x_inner hL hl hJ2 ha hP
    refine Or.inr ⟨((S3, vI (nI (A 0 0))), ybF L a (11 - a) (a + 1) B2), ⟨i1, k2⟩, ?_⟩
    show run 88 0 2 _ _ _ = run 88 0 2 _ _ _
    rw [s88_2]
    simp (disch := omega) only [s88_0, s88_1, s88_3, s88_4, s88_7, s88_10, s88_11, s88_12, s88_13, s88_17, s88_18, s88_21, s88_24, s88_25, s88_28, s88_29, s88_32, s88_35, s88_36, s88_39, s88_41, s88_44, s88_47, s88_48, s88_49, s88_50, s88_51, s88_53, s88_56, s88_59, s88_62, s88_65, s88_68, s88_69, s88_70, s88_73, s88_74, s88_75, s88_78, q_0, q_1, q_2, q_3, q_4, q_5, q_6, q_7, q_8, q_9, q_10, q_11, q_12, q_13, q_14, q_16, q_20, q_23, q_24, q_32, q_42, q_43, q_45, q_47, q_48, q_50, q_57, q_59, q_60, q_61, q_62, q_63, q_64, q_66, q_91, q_93, q_97, q_99, q_122, q_144, q_255, q_256, q_300, q_380, q_400, q_620, q_999, q_1000, q_4095, q_4096, q_9999, q_65536, q_99999, q_31, nI_add, pk_mul, nE, nL, nT, nM31, nShl, ib_nI, nI_clamp, bI_n0, bI_n1, bI_nar, uI_r, uI_l, uL_r, uL_i, uL_p, uA_r, uA_l, bV_some, bU_some, nar_n0, nar_n1, and_self, and_true, true_and, and_false, false_and, if_true, if_false, eq_self, Bool.false_eq_true, Bool.true_eq_false, not_true_eq_false, not_false_eq_true, ↓reduceIte, nlT, nlF, ntT, ntF, neT, neF, ieT, ieF, decide_true, decide_false, Bool.not_true, Bool.not_false, Bool.and_true, Bool.true_and, Bool.and_false, Bool.false_and, Bool.or_true, Bool.true_or, Bool.or_false, Bool.false_or, r0]
    exact k1
  · intro s hI
    obtain ⟨⟨S2, x4⟩, B2⟩ := s
    obtain ⟨i1, f1, f2, f3, f4, f5, f6⟩ := hI
    simp only at i1 f1 f2 f3 f4 f5 f6
    have e0 : B2 0 0 = A 0 0 := f4 0 0 (by decide) (by omega)
    have r0 : S2.1 1 q 0 = nI (A 0 0) := by rw [f2.pe, e0]
    have e : yaF L (12 - A 0 0) (A 0 0) B2 = B2 := yaF_id _ _ (fun b' h1 h2 h3 => by have := f3.lvp (p := b') (by omega) h3; omega)
    rw [e] at i1
    unfold yr
    rw [← i1]
    show ∃ S3, run 88 0 2 [vR 43 0, vR 1 q, vR 17 r, vI (nI (A 0 0)), x4] [] S2 = _ ∧ _
    rw [s88_2]
    simp (disch := omega) only [s88_0, s88_1, s88_3, s88_4, s88_7, s88_10, s88_11, s88_12, s88_13, s88_17, s88_18, s88_21, s88_24, s88_25, s88_28, s88_29, s88_32, s88_35, s88_36, s88_39, s88_41, s88_44, s88_47, s88_48, s88_49, s88_50, s88_51, s88_53, s88_56, s88_59, s88_62, s88_65, s88_68, s88_69, s88_70, s88_73, s88_74, s88_75, s88_78, q_0, q_1, q_2, q_3, q_4, q_5, q_6, q_7, q_8, q_9, q_10, q_11, q_12, q_13, q_14, q_16, q_20, q_23, q_24, q_32, q_42, q_43, q_45, q_47, q_48, q_50, q_57, q_59, q_60, q_61, q_62, q_63, q_64, q_66, q_91, q_93, q_97, q_99, q_122, q_144, q_255, q_256, q_300, q_380, q_400, q_620, q_999, q_1000, q_4095, q_4096, q_9999, q_65536, q_99999, q_31, nI_add, pk_mul, nE, nL, nT, nM31, nShl, ib_nI, nI_clamp, bI_n0, bI_n1, bI_nar, uI_r, uI_l, uL_r, uL_i, uL_p, uA_r, uA_l, bV_some, bU_some, nar_n0, nar_n1, and_self, and_true, true_and, and_false, false_and, if_true, if_false, eq_self, Bool.false_eq_true, Bool.true_eq_false, not_true_eq_false, not_false_eq_true, ↓reduceIte, nlT, nlF, ntT, ntF, neT, neF, ieT, ieF, decide_true, decide_false, Bool.not_true, Bool.not_false, Bool.and_true, Bool.true_and, Bool.and_false, Bool.false_and, Bool.or_true, Bool.true_or, Bool.or_false, Bool.false_or, r0, f2.ye]
    have fu : Fr (pT q) S2 (uI S2 1 q 18 (nI (B2 0 4 + 1))) := Fr.rfl'.uI (pT_t (by decide) (by decide))
    refine ⟨_, rfl, f1.tr fu.yt, f2.s_ye _ rfl, f3.s_ye, ?_, ?_, ?_⟩
    · intro f i h5 h0
      rw [uT_r, if_neg (by omega)]
      exact f4 f i h5 h0
    · intro k hk
      rw [fu.l (pT_f (by omega))]
      exact f5 k hk
    · exact f6.k (fun i => fu.i (pT_f (by omega)) i) (fun i => fu.i (pT_f (by omega)) i) (fun f i hf => by rw [uT_r, if_neg (by omega)])
theorem x_measure (h : RepC S q A) (hw : WF A) : ∃ S2, call 87 0 [vR 43 0, vR 1 q] S = some (none, S2) ∧ Fr (pL [45, 46]) S S2 ∧ Ms S2 A := by
  have hT := hw.th
  obtain ⟨S1, a1, a2, a3⟩ := x_fillI (S := S) (t := 45) (n := 12) (nI 0) rfl rfl (by decide)
  obtain ⟨S2, b1, b2, b3⟩ := x_fillI (S := S1) (t := 46) (n := 144) (nI 0) rfl rfl (by decide)
  have f0 : Fr (pL [45, 46]) S S2 := (a2.pl (by simp)).tr (b2.pl (by simp))
  show ∃ S2, run 87 0 0 [vR 43 0, vR 1 q, vU] [] S = _ ∧ _
  simp (disch := omega) only [s87_0, s87_1, s87_4, s87_5, s87_8, s87_9, s87_12, s87_13, s87_16, s87_17, s87_19, s87_20, s87_21, s87_24, s87_25, s87_28, s87_29, s87_32, s87_33, s87_36, s87_37, s87_38, s87_39, s87_40, s87_41, s87_42, s87_43, s87_44, s87_47, s87_49, s87_50, s87_53, s87_54, s87_55, s87_56, s87_57, s87_60, s87_61, s87_62, s87_63, s87_64, s87_65, s87_66, s87_67, s87_68, s87_69, s87_70, s87_73, s87_76, q_0, q_1, q_2, q_3, q_4, q_5, q_6, q_7, q_8, q_9, q_10, q_11, q_12, q_13, q_14, q_16, q_20, q_23, q_24, q_32, q_42, q_43, q_45, q_47, q_48, q_50, q_57, q_59, q_60, q_61, q_62, q_63, q_64, q_66, q_91, q_93, q_97, q_99, q_122, q_144, q_255, q_256, q_300, q_380, q_400, q_620, q_999, q_1000, q_4095, q_4096, q_9999, q_65536, q_99999, q_31, nI_add, pk_mul, nE, nL, nT, nM31, nShl, ib_nI, nI_clamp, bI_n0, bI_n1, bI_nar, uI_r, uI_l, uL_r, uL_i, uL_p, uA_r, uA_l, bV_some, bU_some, nar_n0, nar_n1, and_self, and_true, true_and, and_false, false_and, if_true, if_false, eq_self, Bool.false_eq_true, Bool.true_eq_false, not_true_eq_false, not_false_eq_true, ↓reduceIte, nlT, nlF, ntT, ntF, neT, neF, ieT, ieF, decide_true, decide_false, Bool.not_true, Bool.not_false, Bool.and_true, Bool.true_and, Bool.and_false, Bool.false_and, Bool.or_true, Bool.true_or, Bool.or_false, Bool.false_or, a1, b1]
  have key := upS (σ := Sto) (I := fun i S3 => Fr (pL [45, 46]) S S3 ∧ (∀ p, p < 12 → S3.1 45 0 p = nI (ct (fun j => ow A j == p) i)) ∧ ∀ a b, a < 12 → b < 12 → S3.1 46 0 (12 * a + b) = nI (ct (fun j => ow A j == a && ow A (j ^^^ 1) == b) i)) (F := fun i S3 => run 87 0 18 [vR 43 0, vR 1 q, vI (nI i)] [] S3) (Q := fun x => ∃ S2, x = some (none, S2) ∧ Fr (pL [45, 46]) S S2 ∧ Ms S2 A) (N := 2 * A 0 1) ?_ ?_ 0 S2 (by omega) ⟨f0, fun p hp => by rw [b2.i rfl]; exact a3 p hp, fun a b ha hb => b3 _ (by omega)⟩
  · exact key
  · intro i S3 hi hI
    obtain ⟨i1, i2, i3⟩ := hI
    have h3 := h.pl i1 (by decide)
    have hx := x1_lt (i := i) (n := A 0 1) hi
    have o1 := hw.ow12 (i := i) (by omega)
    have o2 := hw.ow12 (i := i ^^^ 1) (by omega)
    have w1 := h3.own (i := i) (by omega)
    have w2 := h3.own (i := i ^^^ 1) (by omega)
    have v1 := i2 (ow A i) o1
    have v2 := i3 (ow A i) (ow A (i ^^^ 1)) o1 o2
    have xe : nI i ^^^ nI 1 = nI (i ^^^ 1) := nI_x1 i
    refine Or.inr ⟨uI (uI S3 45 0 (ow A i) (nI (ct (fun j => ow A j == ow A i) i + 1))) 46 0 (12 * ow A i + ow A (i ^^^ 1)) (nI (ct (fun j => ow A j == ow A i && ow A (j ^^^ 1) == ow A (i ^^^ 1)) i + 1)), ⟨(i1.uI rfl).uI rfl, ?_, ?_⟩, ?_⟩
    · intro p hp
      rw [uI_r, if_neg (by omega), uI_r]
      by_cases e : p = ow A i
      · rw [if_pos ⟨rfl, rfl, e⟩, e]
        show _ = nI (ct (fun j => ow A j == ow A i) i + if (ow A i == ow A i) = true then 1 else 0)
        simp
      · rw [if_neg (by omega), i2 p hp]
        show _ = nI (ct (fun j => ow A j == p) i + if (ow A i == p) = true then 1 else 0)
        simp [Ne.symm e]
    · intro a b ha hb
      rw [uI_r]
      by_cases e : a = ow A i ∧ b = ow A (i ^^^ 1)
      · rw [if_pos ⟨rfl, rfl, by rw [e.1, e.2]⟩, e.1, e.2]
        show _ = nI (ct (fun j => ow A j == ow A i && ow A (j ^^^ 1) == ow A (i ^^^ 1)) i + if (ow A i == ow A i && ow A (i ^^^ 1) == ow A (i ^^^ 1)) = true then 1 else 0)
        simp
      · rw [if_neg (by omega), uI_r, if_neg (by omega), i3 a b ha hb]
        show _ = nI (ct (fun j => ow A j == a && ow A (j ^^^ 1) == b) i + if (ow A i == a && ow A (i ^^^ 1) == b) = true then 1 else 0)
        rw [if_neg (fun q => by simp at q; exact e ⟨q.1.symm, q.2.symm⟩)]
        rfl
    · show run 87 0 18 _ _ _ = run 87 0 18 _ _ _
      rw [s87_18]
      simp (disch := omega) only [s87_0, s87_1, s87_4, s87_5, s87_8, s87_9, s87_12, s87_13, s87_16, s87_17, s87_19, s87_20, s87_21, s87_24, s87_25, s87_28, s87_29, s87_32, s87_33, s87_36, s87_37, s87_38, s87_39, s87_40, s87_41, s87_42, s87_43, s87_44, s87_47, s87_49, s87_50, s87_53, s87_54, s87_55, s87_56, s87_57, s87_60, s87_61, s87_62, s87_63, s87_64, s87_65, s87_66, s87_67, s87_68, s87_69, s87_70, s87_73, s87_76, q_0, q_1, q_2, q_3, q_4, q_5, q_6, q_7, q_8, q_9, q_10, q_11, q_12, q_13, q_14, q_16, q_20, q_23, q_24, q_32, q_42, q_43, q_45, q_47, q_48, q_50, q_57, q_59, q_60, q_61, q_62, q_63, q_64, q_66, q_91, q_93, q_97, q_99, q_122, q_144, q_255, q_256, q_300, q_380, q_400, q_620, q_999, q_1000, q_4095, q_4096, q_9999, q_65536, q_99999, q_31, nI_add, pk_mul, nE, nL, nT, nM31, nShl, ib_nI, nI_clamp, bI_n0, bI_n1, bI_nar, uI_r, uI_l, uL_r, uL_i, uL_p, uA_r, uA_l, bV_some, bU_some, nar_n0, nar_n1, and_self, and_true, true_and, and_false, false_and, if_true, if_false, eq_self, Bool.false_eq_true, Bool.true_eq_false, not_true_eq_false, not_false_eq_true, ↓reduceIte, nlT, nlF, ntT, ntF, neT, neF, ieT, ieF, decide_true, decide_false, Bool.not_true, Bool.not_false, Bool.and_true, Bool.true_and, Bool.and_false, Bool.false_and, Bool.or_true, Bool.true_or, Bool.or_false, Bool.false_or, h3.th, xe, w1, w2, v1, v2]
  · intro S3 hI
    obtain ⟨i1, i2, i3⟩ := hI
    have h3 := h.pl i1 (by decide)
    show ∃ S2, run 87 0 18 _ _ _ = _ ∧ _
    rw [s87_18]
    simp (disch := omega) only [s87_0, s87_1, s87_4, s87_5, s87_8, s87_9, s87_12, s87_13, s87_16, s87_17, s87_19, s87_20, s87_21, s87_24, s87_25, s87_28, s87_29, s87_32, s87_33, s87_36, s87_37, s87_38, s87_39, s87_40, s87_41, s87_42, s87_43, s87_44, s87_47, s87_49, s87_50, s87_53, s87_54, s87_55, s87_56, s87_57, s87_60, s87_61, s87_62, s87_63, s87_64, s87_65, s87_66, s87_67, s87_68, s87_69, s87_70, s87_73, s87_76, q_0, q_1, q_2, q_3, q_4, q_5, q_6, q_7, q_8, q_9, q_10, q_11, q_12, q_13, q_14, q_16, q_20, q_23, q_24, q_32, q_42, q_43, q_45, q_47, q_48, q_50, q_57, q_59, q_60, q_61, q_62, q_63, q_64, q_66, q_91, q_93, q_97, q_99, q_122, q_144, q_255, q_256, q_300, q_380, q_400, q_620, q_999, q_1000, q_4095, q_4096, q_9999, q_65536, q_99999, q_31, nI_add, pk_mul, nE, nL, nT, nM31, nShl, ib_nI, nI_clamp, bI_n0, bI_n1, bI_nar, uI_r, uI_l, uL_r, uL_i, uL_p, uA_r, uA_l, bV_some, bU_some, nar_n0, nar_n1, and_self, and_true, true_and, and_false, false_and, if_true, if_false, eq_self, Bool.false_eq_true, Bool.true_eq_false, not_true_eq_false, not_false_eq_true, ↓reduceIte, nlT, nlF, ntT, ntF, neT, neF, ieT, ieF, decide_true, decide_false, Bool.not_true, Bool.not_false, Bool.and_true, Bool.true_and, Bool.and_false, Bool.false_and, Bool.or_true, Bool.true_or, Bool.or_false, Bool.false_or, h3.th]
    refine ⟨_, rfl, i1, fun p hp => ?_, fun a b ha hb hne => ?_⟩
    · rw [i2 p hp, br_own hw]
      rfl
    · rw [i3 a b ha hb, br_shared hw hne]
      rfl
theorem x_pass {n : Nat} (h : RepC S q A) (hw : WF A) (hL : RepLC S r L) (hl : WFL L) (hz : Z44 S) (hn : n < 2 ^ 31) : ∃ S', call 86 0 [vR 43 0, vR 1 q, vR 17 r, vI (nI n)] S = some (none, S') ∧ Fr (pY q) S S' ∧ RepC S' q (ysF L n A) ∧ WF (ysF L n A) ∧ Z44 S' ∧ KpY A (ysF L n A) := by
  obtain ⟨S1, a1, a2, a3⟩ := x_measure h hw
  have hJ : JY S q A S1 A := ⟨a2.yl (by simp), h.pl a2 (by decide), hw, fun _ _ _ _ => rfl, fun k hk => by rw [a2.l rfl]; exact hz k hk, a3⟩
  show ∃ S2, run 86 0 0 [vR 43 0, vR 1 q, vR 17 r, vI (nI n), vU] [] S = _ ∧ _
  simp (disch := omega) only [s86_0, s86_1, s86_2, s86_5, s86_6, s86_10, s86_11, s86_14, s86_15, s86_16, s86_17, s86_20, s86_23, s86_26, q_0, q_1, q_2, q_3, q_4, q_5, q_6, q_7, q_8, q_9, q_10, q_11, q_12, q_13, q_14, q_16, q_20, q_23, q_24, q_32, q_42, q_43, q_45, q_47, q_48, q_50, q_57, q_59, q_60, q_61, q_62, q_63, q_64, q_66, q_91, q_93, q_97, q_99, q_122, q_144, q_255, q_256, q_300, q_380, q_400, q_620, q_999, q_1000, q_4095, q_4096, q_9999, q_65536, q_99999, q_31, nI_add, pk_mul, nE, nL, nT, nM31, nShl, ib_nI, nI_clamp, bI_n0, bI_n1, bI_nar, uI_r, uI_l, uL_r, uL_i, uL_p, uA_r, uA_l, bV_some, bU_some, nar_n0, nar_n1, and_self, and_true, true_and, and_false, false_and, if_true, if_false, eq_self, Bool.false_eq_true, Bool.true_eq_false, not_true_eq_false, not_false_eq_true, ↓reduceIte, nlT, nlF, ntT, ntF, neT, neF, ieT, ieF, decide_true, decide_false, Bool.not_true, Bool.not_false, Bool.and_true, Bool.true_and, Bool.and_false, Bool.false_and, Bool.or_true, Bool.true_or, Bool.or_false, Bool.false_or, a1]
  have key := upS (σ := Sto × Tn) (I := fun i s => ysF L (n - i) s.2 = ysF L n A ∧ JY S q A s.1 s.2) (F := fun i s => run 86 0 8 [vR 43 0, vR 1 q, vR 17 r, vI (nI n), vI (nI i)] [] s.1) (Q := fun x => ∃ S', x = some (none, S') ∧ Fr (pY q) S S' ∧ RepC S' q (ysF L n A) ∧ WF (ysF L n A) ∧ Z44 S' ∧ KpY A (ysF L n A)) (N := n) ?_ ?_ 0 (S1, A) (by omega) ⟨rfl, hJ⟩
  · exact key
  · intro i s hi hI
    obtain ⟨S2, B⟩ := s
    obtain ⟨i1, hJ2⟩ := hI
    simp only at i1 hJ2
    obtain ⟨S3, k1, k2⟩ := x_passOne hL hl hJ2 hw.pe
    have hab : n - i = (n - (i + 1)) + 1 := by omega
    rw [hab, ysF_s] at i1
    refine Or.inr ⟨(S3, yr B L), ⟨i1, k2⟩, ?_⟩
    show run 86 0 8 _ _ _ = run 86 0 8 _ _ _
    rw [s86_8]
    simp (disch := omega) only [s86_0, s86_1, s86_2, s86_5, s86_6, s86_10, s86_11, s86_14, s86_15, s86_16, s86_17, s86_20, s86_23, s86_26, q_0, q_1, q_2, q_3, q_4, q_5, q_6, q_7, q_8, q_9, q_10, q_11, q_12, q_13, q_14, q_16, q_20, q_23, q_24, q_32, q_42, q_43, q_45, q_47, q_48, q_50, q_57, q_59, q_60, q_61, q_62, q_63, q_64, q_66, q_91, q_93, q_97, q_99, q_122, q_144, q_255, q_256, q_300, q_380, q_400, q_620, q_999, q_1000, q_4095, q_4096, q_9999, q_65536, q_99999, q_31, nI_add, pk_mul, nE, nL, nT, nM31, nShl, ib_nI, nI_clamp, bI_n0, bI_n1, bI_nar, uI_r, uI_l, uL_r, uL_i, uL_p, uA_r, uA_l, bV_some, bU_some, nar_n0, nar_n1, and_self, and_true, true_and, and_false, false_and, if_true, if_false, eq_self, Bool.false_eq_true, Bool.true_eq_false, not_true_eq_false, not_false_eq_true, ↓reduceIte, nlT, nlF, ntT, ntF, neT, neF, ieT, ieF, decide_true, decide_false, Bool.not_true, Bool.not_false, Bool.and_true, Bool.true_and, Bool.and_false, Bool.false_and, Bool.or_true, Bool.true_or, Bool.or_false, Bool.false_or, k1]
  · intro s hI
    obtain ⟨S2, B⟩ := s
    obtain ⟨i1, f1, f2, f3, f4, f5, f6⟩ := hI
    simp only at i1 f1 f2 f3 f4 f5 f6
    rw [Nat.sub_self] at i1
    have i1' : B = ysF L n A := i1
    rw [← i1']
    show ∃ S3, run 86 0 8 _ _ _ = _ ∧ _
    rw [s86_8]
    simp (disch := omega) only [s86_0, s86_1, s86_2, s86_5, s86_6, s86_10, s86_11, s86_14, s86_15, s86_16, s86_17, s86_20, s86_23, s86_26, q_0, q_1, q_2, q_3, q_4, q_5, q_6, q_7, q_8, q_9, q_10, q_11, q_12, q_13, q_14, q_16, q_20, q_23, q_24, q_32, q_42, q_43, q_45, q_47, q_48, q_50, q_57, q_59, q_60, q_61, q_62, q_63, q_64, q_66, q_91, q_93, q_97, q_99, q_122, q_144, q_255, q_256, q_300, q_380, q_400, q_620, q_999, q_1000, q_4095, q_4096, q_9999, q_65536, q_99999, q_31, nI_add, pk_mul, nE, nL, nT, nM31, nShl, ib_nI, nI_clamp, bI_n0, bI_n1, bI_nar, uI_r, uI_l, uL_r, uL_i, uL_p, uA_r, uA_l, bV_some, bU_some, nar_n0, nar_n1, and_self, and_true, true_and, and_false, false_and, if_true, if_false, eq_self, Bool.false_eq_true, Bool.true_eq_false, not_true_eq_false, not_false_eq_true, ↓reduceIte, nlT, nlF, ntT, ntF, neT, neF, ieT, ieF, decide_true, decide_false, Bool.not_true, Bool.not_false, Bool.and_true, Bool.true_and, Bool.and_false, Bool.false_and, Bool.or_true, Bool.true_or, Bool.or_false, Bool.false_or]
    exact ⟨_, rfl, f1, f2, f3, f5, f4⟩
def JM (S : Sto) (A : Tn) (S1 : Sto) (B : Tn) : Prop := Fr (pL [51, 56, 76, 77]) S S1 ∧ RepM S1 B ∧ WF B ∧ KpY A B
theorem m_inner {S1 : Sto} {B : Tn} {a : Nat} (hr : r < 6) (hL : RepLM S r L) (hl : WFL L) (hJ : JM S A S1 B) (ha : a < 12) : ∃ S2, run 256 0 12 [vR 50 0, vI (nI r), vI (nI a), vI (nI (a + 1))] [] S1 = run 256 0 2 [vR 50 0, vI (nI r), vI (nI (a + 1)), vI (nI 12)] [] S2 ∧ JM S A S2 (ybF L a (11 - a) (a + 1) B) := by
  refine upS (σ := Sto × Tn) (I := fun b s => (a < b ∧ ybF L a (12 - b) b s.2 = ybF L a (11 - a) (a + 1) B) ∧ JM S A s.1 s.2) (F := fun b s => run 256 0 12 [vR 50 0, vI (nI r), vI (nI a), vI (nI b)] [] s.1) (Q := fun x => ∃ S2, x = run 256 0 2 [vR 50 0, vI (nI r), vI (nI (a + 1)), vI (nI 12)] [] S2 ∧ JM S A S2 (ybF L a (11 - a) (a + 1) B)) (N := 12) ?_ ?_ (a + 1) (S1, B) (by omega) ⟨⟨by omega, by rw [show 12 - (a + 1) = 11 - a by omega]⟩, hJ⟩
  · intro b s hb hI
    obtain ⟨S2, B2⟩ := s
    obtain ⟨⟨i0, i1⟩, f1, f2, f3, f4⟩ := hI
    simp only at i1 f1 f2 f3 f4
    have hab : 12 - b = (12 - (b + 1)) + 1 := by omega
    rw [hab, ybF_s] at i1
    have l1 := f3.lv ha
    have l2 := f3.lv hb
    show (∃ S3, run 256 0 12 _ _ _ = _ ∧ _) ∨ ∃ s', _ ∧ run 256 0 12 _ _ _ = run 256 0 12 _ _ _
    rw [s256_12]
    by_cases c1 : B2 2 a = 1
    · by_cases c2 : B2 2 b = 1
      · have hne : a ≠ b := by omega
        obtain ⟨S3, k1, k2, k3⟩ := m_passes f2 f3 hr (hL.pq f1 (by decide)) hl (a := a) (b := b) (by omega) (by omega) hne
        refine Or.inr ⟨(S3, mt B2 L a b), ⟨⟨by omega, ?_⟩, f1.tr k2, k3, mt_W f3 (f3.lvp ha c1) (f3.lvp hb c2) hne, f4.mt⟩, ?_⟩
        · rw [← i1]
          unfold mtI
          rw [if_pos ⟨c1, c2⟩]
        · simp (disch := omega) only [s256_0, s256_1, s256_3, s256_5, s256_8, s256_9, s256_10, s256_11, s256_13, s256_15, s256_18, s256_19, s256_22, s256_23, s256_24, s256_25, s256_28, s256_29, s256_32, s256_33, s256_34, s256_35, s256_38, s256_39, s256_40, s256_41, s256_42, s256_45, s256_48, s256_51, s256_54, s256_57, s256_58, s256_61, s256_62, s256_63, s256_64, s256_65, s256_66, s256_67, q_0, q_1, q_2, q_3, q_4, q_5, q_6, q_7, q_8, q_9, q_10, q_11, q_12, q_13, q_14, q_16, q_20, q_23, q_24, q_32, q_42, q_43, q_45, q_47, q_48, q_50, q_57, q_59, q_60, q_61, q_62, q_63, q_64, q_66, q_91, q_93, q_97, q_99, q_122, q_144, q_255, q_256, q_300, q_380, q_400, q_620, q_999, q_1000, q_4095, q_4096, q_9999, q_65536, q_99999, q_31, nI_add, pk_mul, nE, nL, nT, nM31, nShl, ib_nI, nI_clamp, bI_n0, bI_n1, bI_nar, uI_r, uI_l, uL_r, uL_i, uL_p, uA_r, uA_l, bV_some, bU_some, nar_n0, nar_n1, and_self, and_true, true_and, and_false, false_and, if_true, if_false, eq_self, Bool.false_eq_true, Bool.true_eq_false, not_true_eq_false, not_false_eq_true, ↓reduceIte, nlT, nlF, ntT, ntF, neT, neF, ieT, ieF, decide_true, decide_false, Bool.not_true, Bool.not_false, Bool.and_true, Bool.true_and, Bool.and_false, Bool.false_and, Bool.or_true, Bool.true_or, Bool.or_false, Bool.false_or, f2.lv, c1, c2, k1]
      · refine Or.inr ⟨(S2, B2), ⟨⟨by omega, ?_⟩, f1, f2, f3, f4⟩, ?_⟩
        · rw [← i1]
          unfold mtI
          rw [if_neg (fun q => c2 q.2)]
        · simp (disch := omega) only [s256_0, s256_1, s256_3, s256_5, s256_8, s256_9, s256_10, s256_11, s256_13, s256_15, s256_18, s256_19, s256_22, s256_23, s256_24, s256_25, s256_28, s256_29, s256_32, s256_33, s256_34, s256_35, s256_38, s256_39, s256_40, s256_41, s256_42, s256_45, s256_48, s256_51, s256_54, s256_57, s256_58, s256_61, s256_62, s256_63, s256_64, s256_65, s256_66, s256_67, q_0, q_1, q_2, q_3, q_4, q_5, q_6, q_7, q_8, q_9, q_10, q_11, q_12, q_13, q_14, q_16, q_20, q_23, q_24, q_32, q_42, q_43, q_45, q_47, q_48, q_50, q_57, q_59, q_60, q_61, q_62, q_63, q_64, q_66, q_91, q_93, q_97, q_99, q_122, q_144, q_255, q_256, q_300, q_380, q_400, q_620, q_999, q_1000, q_4095, q_4096, q_9999, q_65536, q_99999, q_31, nI_add, pk_mul, nE, nL, nT, nM31, nShl, ib_nI, nI_clamp, bI_n0, bI_n1, bI_nar, uI_r, uI_l, uL_r, uL_i, uL_p, uA_r, uA_l, bV_some, bU_some, nar_n0, nar_n1, and_self, and_true, true_and, and_false, false_and, if_true, if_false, eq_self, Bool.false_eq_true, Bool.true_eq_false, not_true_eq_false, not_false_eq_true, ↓reduceIte, nlT, nlF, ntT, ntF, neT, neF, ieT, ieF, decide_true, decide_false, Bool.not_true, Bool.not_false, Bool.and_true, Bool.true_and, Bool.and_false, Bool.false_and, Bool.or_true, Bool.true_or, Bool.or_false, Bool.false_or, f2.lv, c1, c2]
    · refine Or.inr ⟨(S2, B2), ⟨⟨by omega, ?_⟩, f1, f2, f3, f4⟩, ?_⟩
      · rw [← i1]
        unfold mtI
        rw [if_neg (fun q => c1 q.1)]
      · simp (disch := omega) only [s256_0, s256_1, s256_3, s256_5, s256_8, s256_9, s256_10, s256_11, s256_13, s256_15, s256_18, s256_19, s256_22, s256_23, s256_24, s256_25, s256_28, s256_29, s256_32, s256_33, s256_34, s256_35, s256_38, s256_39, s256_40, s256_41, s256_42, s256_45, s256_48, s256_51, s256_54, s256_57, s256_58, s256_61, s256_62, s256_63, s256_64, s256_65, s256_66, s256_67, q_0, q_1, q_2, q_3, q_4, q_5, q_6, q_7, q_8, q_9, q_10, q_11, q_12, q_13, q_14, q_16, q_20, q_23, q_24, q_32, q_42, q_43, q_45, q_47, q_48, q_50, q_57, q_59, q_60, q_61, q_62, q_63, q_64, q_66, q_91, q_93, q_97, q_99, q_122, q_144, q_255, q_256, q_300, q_380, q_400, q_620, q_999, q_1000, q_4095, q_4096, q_9999, q_65536, q_99999, q_31, nI_add, pk_mul, nE, nL, nT, nM31, nShl, ib_nI, nI_clamp, bI_n0, bI_n1, bI_nar, uI_r, uI_l, uL_r, uL_i, uL_p, uA_r, uA_l, bV_some, bU_some, nar_n0, nar_n1, and_self, and_true, true_and, and_false, false_and, if_true, if_false, eq_self, Bool.false_eq_true, Bool.true_eq_false, not_true_eq_false, not_false_eq_true, ↓reduceIte, nlT, nlF, ntT, ntF, neT, neF, ieT, ieF, decide_true, decide_false, Bool.not_true, Bool.not_false, Bool.and_true, Bool.true_and, Bool.and_false, Bool.false_and, Bool.or_true, Bool.true_or, Bool.or_false, Bool.false_or, f2.lv, c1]
  · intro s hI
    obtain ⟨S2, B2⟩ := s
    obtain ⟨⟨i0, i1⟩, hJ2⟩ := hI
    simp only [Nat.sub_self] at i1 hJ2
    have i1' : B2 = ybF L a (11 - a) (a + 1) B := i1
    rw [← i1']
    show ∃ S3, run 256 0 12 [vR 50 0, vI (nI r), vI (nI a), vI (nI 12)] [] S2 = _ ∧ _
    rw [s256_12]
    simp (disch := omega) only [s256_0, s256_1, s256_3, s256_5, s256_8, s256_9, s256_10, s256_11, s256_13, s256_15, s256_18, s256_19, s256_22, s256_23, s256_24, s256_25, s256_28, s256_29, s256_32, s256_33, s256_34, s256_35, s256_38, s256_39, s256_40, s256_41, s256_42, s256_45, s256_48, s256_51, s256_54, s256_57, s256_58, s256_61, s256_62, s256_63, s256_64, s256_65, s256_66, s256_67, q_0, q_1, q_2, q_3, q_4, q_5, q_6, q_7, q_8, q_9, q_10, q_11, q_12, q_13, q_14, q_16, q_20, q_23, q_24, q_32, q_42, q_43, q_45, q_47, q_48, q_50, q_57, q_59, q_60, q_61, q_62, q_63, q_64, q_66, q_91, q_93, q_97, q_99, q_122, q_144, q_255, q_256, q_300, q_380, q_400, q_620, q_999, q_1000, q_4095, q_4096, q_9999, q_65536, q_99999, q_31, nI_add, pk_mul, nE, nL, nT, nM31, nShl, ib_nI, nI_clamp, bI_n0, bI_n1, bI_nar, uI_r, uI_l, uL_r, uL_i, uL_p, uA_r, uA_l, bV_some, bU_some, nar_n0, nar_n1, and_self, and_true, true_and, and_false, false_and, if_true, if_false, eq_self, Bool.false_eq_true, Bool.true_eq_false, not_true_eq_false, not_false_eq_true, ↓reduceIte, nlT, nlF, ntT, ntF, neT, neF, ieT, ieF, decide_true, decide_false, Bool.not_true, Bool.not_false, Bool.and_true, Bool.true_and, Bool.and_false, Bool.false_and, Bool.or_true, Bool.true_or, Bool.or_false, Bool.false_or]
    exact ⟨S2, rfl, hJ2⟩
theorem m_year {S1 : Sto} {B : Tn} (hr : r < 6) (hL : RepLM S r L) (hl : WFL L) (hJ : JM S A S1 B) : ∃ S2, call 256 0 [vR 50 0, vI (nI r)] S1 = some (none, S2) ∧ JM S A S2 (yr B L) := by
  show ∃ S2, run 256 0 0 [vR 50 0, vI (nI r), vU, vU] [] S1 = _ ∧ _
  simp only [s256_0, s256_1]
  have key := upS (σ := (Sto × av) × Tn) (I := fun a s => yaF L (12 - a) a s.2 = yaF L 12 0 B ∧ JM S A s.1.1 s.2) (F := fun a s => run 256 0 2 [vR 50 0, vI (nI r), vI (nI a), s.1.2] [] s.1.1) (Q := fun x => ∃ S2, x = some (none, S2) ∧ JM S A S2 (yr B L)) (N := 12) ?_ ?_ 0 ((S1, vU), B) (by omega) ⟨rfl, hJ⟩
  · exact key
  · intro a s ha hI
    obtain ⟨⟨S2, x4⟩, B2⟩ := s
    obtain ⟨i1, hJ2⟩ := hI
    simp only at i1 hJ2
    have hab : 12 - a = (12 - (a + 1)) + 1 := by omega
    rw [hab, yaF_s] at i1
    obtain ⟨S3, k1, k2⟩ := m_inner hr hL hl hJ2 ha
    refine Or.inr ⟨((S3, vI (nI 12)), ybF L a (11 - a) (a + 1) B2), ⟨i1, k2⟩, ?_⟩
    show run 256 0 2 _ _ _ = run 256 0 2 _ _ _
    rw [s256_2]
    simp (disch := omega) only [s256_0, s256_1, s256_3, s256_5, s256_8, s256_9, s256_10, s256_11, s256_13, s256_15, s256_18, s256_19, s256_22, s256_23, s256_24, s256_25, s256_28, s256_29, s256_32, s256_33, s256_34, s256_35, s256_38, s256_39, s256_40, s256_41, s256_42, s256_45, s256_48, s256_51, s256_54, s256_57, s256_58, s256_61, s256_62, s256_63, s256_64, s256_65, s256_66, s256_67, q_0, q_1, q_2, q_3, q_4, q_5, q_6, q_7, q_8, q_9, q_10, q_11, q_12, q_13, q_14, q_16, q_20, q_23, q_24, q_32, q_42, q_43, q_45, q_47, q_48, q_50, q_57, q_59, q_60, q_61, q_62, q_63, q_64, q_66, q_91, q_93, q_97, q_99, q_122, q_144, q_255, q_256, q_300, q_380, q_400, q_620, q_999, q_1000, q_4095, q_4096, q_9999, q_65536, q_99999, q_31, nI_add, pk_mul, nE, nL, nT, nM31, nShl, ib_nI, nI_clamp, bI_n0, bI_n1, bI_nar, uI_r, uI_l, uL_r, uL_i, uL_p, uA_r, uA_l, bV_some, bU_some, nar_n0, nar_n1, and_self, and_true, true_and, and_false, false_and, if_true, if_false, eq_self, Bool.false_eq_true, Bool.true_eq_false, not_true_eq_false, not_false_eq_true, ↓reduceIte, nlT, nlF, ntT, ntF, neT, neF, ieT, ieF, decide_true, decide_false, Bool.not_true, Bool.not_false, Bool.and_true, Bool.true_and, Bool.and_false, Bool.false_and, Bool.or_true, Bool.true_or, Bool.or_false, Bool.false_or]
    exact k1
  · intro s hI
    obtain ⟨⟨S2, x4⟩, B2⟩ := s
    obtain ⟨i1, f1, f2, f3, f4⟩ := hI
    simp only [Nat.sub_self] at i1 f1 f2 f3 f4
    have i1' : B2 = yaF L 12 0 B := i1
    unfold yr
    rw [← i1']
    show ∃ S3, run 256 0 2 [vR 50 0, vI (nI r), vI (nI 12), x4] [] S2 = _ ∧ _
    rw [s256_2]
    simp (disch := omega) only [s256_0, s256_1, s256_3, s256_5, s256_8, s256_9, s256_10, s256_11, s256_13, s256_15, s256_18, s256_19, s256_22, s256_23, s256_24, s256_25, s256_28, s256_29, s256_32, s256_33, s256_34, s256_35, s256_38, s256_39, s256_40, s256_41, s256_42, s256_45, s256_48, s256_51, s256_54, s256_57, s256_58, s256_61, s256_62, s256_63, s256_64, s256_65, s256_66, s256_67, q_0, q_1, q_2, q_3, q_4, q_5, q_6, q_7, q_8, q_9, q_10, q_11, q_12, q_13, q_14, q_16, q_20, q_23, q_24, q_32, q_42, q_43, q_45, q_47, q_48, q_50, q_57, q_59, q_60, q_61, q_62, q_63, q_64, q_66, q_91, q_93, q_97, q_99, q_122, q_144, q_255, q_256, q_300, q_380, q_400, q_620, q_999, q_1000, q_4095, q_4096, q_9999, q_65536, q_99999, q_31, nI_add, pk_mul, nE, nL, nT, nM31, nShl, ib_nI, nI_clamp, bI_n0, bI_n1, bI_nar, uI_r, uI_l, uL_r, uL_i, uL_p, uA_r, uA_l, bV_some, bU_some, nar_n0, nar_n1, and_self, and_true, true_and, and_false, false_and, if_true, if_false, eq_self, Bool.false_eq_true, Bool.true_eq_false, not_true_eq_false, not_false_eq_true, ↓reduceIte, nlT, nlF, ntT, ntF, neT, neF, ieT, ieF, decide_true, decide_false, Bool.not_true, Bool.not_false, Bool.and_true, Bool.true_and, Bool.and_false, Bool.false_and, Bool.or_true, Bool.true_or, Bool.or_false, Bool.false_or, f2.sc]
    refine ⟨_, rfl, f1.uI rfl, f2.set (f := 0) _ rfl rfl, f3.s_ye, ?_⟩
    intro f i h5 h0
    rw [uT_r, if_neg (by omega)]
    exact f4 f i h5 h0
end YR
