/-! works done -/
theorem ifN {c : Prop} [Decidable c] (a b : Nat) : (if c then nI a else nI b) = nI (if c then a else b) := by
  by_cases h : c <;> simp [h]
def rc (n : Nat) : Nat := if n < 99999 then n else 99999
theorem rc_le (n : Nat) : rc n ≤ 99999 := by unfold rc; split <;> omega
theorem rc_id {n : Nat} (h : n ≤ 99999) : rc n = n := by unfold rc; split <;> omega
theorem uT_self (A : Tn) (f i : Nat) : uT A f i (A f i) = A := by
  funext g j
  rw [uT_r]
  by_cases e : g = f ∧ j = i
  · obtain ⟨rfl, rfl⟩ := e
    rw [if_pos ⟨rfl, rfl⟩]
  · rw [if_neg e]
def doP (A : Tn) (L : Lw) (w : Nat) : Nat → Tn
  | 0 => A
  | n + 1 => if n = A 10 w then doP A L w n else uT (uT (doP A L w n) 1 n (rc (A 1 n + pdF A L w n (A 0 1)))) 6 (12 * n + A 10 w) (A 6 (12 * n + A 10 w) + nnF A L w n (A 0 1))
theorem doP_s (A : Tn) (L : Lw) (w n : Nat) : doP A L w (n + 1) = if n = A 10 w then doP A L w n else uT (uT (doP A L w n) 1 n (rc (A 1 n + pdF A L w n (A 0 1)))) 6 (12 * n + A 10 w) (A 6 (12 * n + A 10 w) + nnF A L w n (A 0 1)) := rfl
section DP
variable {A : Tn} {L : Lw} {w : Nat}
theorem doP_f {f i : Nat} (h1 : f ≠ 1) (h6 : f ≠ 6) : ∀ n, doP A L w n f i = A f i
  | 0 => rfl
  | n + 1 => by
    unfold doP
    split
    · exact doP_f h1 h6 n
    · rw [uT_r, if_neg (by omega), uT_r, if_neg (by omega)]
      exact doP_f h1 h6 n
theorem doP_1 {i : Nat} : ∀ n, n ≤ i ∨ i = A 10 w → doP A L w n 1 i = A 1 i
  | 0, _ => rfl
  | n + 1, h => by
    unfold doP
    split
    · exact doP_1 n (by omega)
    · rw [uT_r, if_neg (by omega), uT_r, if_neg (by omega)]
      exact doP_1 n (by omega)
theorem doP_6 {i : Nat} (ha : A 10 w < 12) : ∀ n, n ≤ i → doP A L w n 6 (12 * i + A 10 w) = A 6 (12 * i + A 10 w)
  | 0, _ => rfl
  | n + 1, h => by
    unfold doP
    split
    · exact doP_6 ha n (by omega)
    · rw [uT_r, if_neg (by omega), uT_r, if_neg (by omega)]
      exact doP_6 ha n (by omega)
theorem doP_W (hw : WF A) : ∀ n, WF (doP A L w n)
  | 0 => hw
  | n + 1 => by
    unfold doP
    split
    · exact doP_W hw n
    · exact ((doP_W hw n).s_co (rc_le _)).s_gi
theorem pdF_0 {p : Nat} : ∀ n, (∀ t, t < n → A 7 t ≠ p ∧ A 8 t ≠ p) → pdF A L w p n = 0 ∧ nnF A L w p n = 0
  | 0, _ => ⟨rfl, rfl⟩
  | n + 1, h => by
    have ih := pdF_0 n (fun t ht => h t (by omega))
    have h1 := h n (by omega)
    unfold pdF nnF
    rw [ih.1, ih.2, if_neg h1.1, if_neg h1.2, if_neg h1.1, if_neg h1.2]
    simp
theorem doP_ex (hw : WF A) (hv : w < A 0 2) : ∀ n, A 0 0 + n ≤ 12 → doP A L w (A 0 0 + n) = doP A L w (A 0 0)
  | 0, _ => rfl
  | n + 1, h => by
    have ih := doP_ex hw hv n (by omega)
    have ha := (hw.w hv).1
    have hz := pdF_0 (A := A) (L := L) (w := w) (p := A 0 0 + n) (A 0 1) (fun t ht => by have := hw.t ht; omega)
    show doP A L w (A 0 0 + n + 1) = _
    rw [doP_s]
    rw [if_neg (by omega), hz.1, hz.2, Nat.add_zero, Nat.add_zero, rc_id (hw.co (by omega))]
    have q6 := doP_6 (A := A) (L := L) (w := w) (i := A 0 0 + n) (by have := hw.pe; omega) (A 0 0 + n) (Nat.le_refl _)
    have q1 := doP_1 (A := A) (L := L) (w := w) (i := A 0 0 + n) (A 0 0 + n) (Or.inl (Nat.le_refl _))
    have e1 := uT_self (doP A L w (A 0 0 + n)) 1 (A 0 0 + n)
    have e6 := uT_self (doP A L w (A 0 0 + n)) 6 (12 * (A 0 0 + n) + A 10 w)
    rw [q1] at e1
    rw [q6] at e6
    rw [e1, e6]
    exact ih
end DP
def doT (A : Tn) (L : Lw) (w : Nat) : Tn := uT (uT (doP A L w 12) 1 (A 10 w) (rc (A 1 (A 10 w) - (psF A L w (A 0 1)).getD 0 + A 12 w))) 14 w 1
theorem doT_W {A : Tn} {L : Lw} {w : Nat} (hw : WF A) (hv : w < A 0 2) : WF (doT A L w) := by
  unfold doT
  refine WF.s_dn ((doP_W hw 12).s_co (rc_le _)) ?_
  rw [uT_r, if_neg (by omega), doP_f (by decide) (by decide)]
  exact hv
theorem caB_t {A : Tn} {L : Lw} {w : Nat} (h : caB A L w = true) : ∃ s, psF A L w (A 0 1) = some s ∧ s ≤ A 1 (A 10 w) ∧ frB A w = true := by
  unfold caB at h
  simp only [Bool.and_eq_true] at h
  cases hp : psF A L w (A 0 1) with
  | none => rw [hp] at h; simp [lpB] at h
  | some s =>
    rw [hp] at h
    exact ⟨s, rfl, by simpa [lpB] using h.2, h.1⟩
theorem pdF_le {A : Tn} {L : Lw} {w p : Nat} : ∀ n, pdF A L w p n ≤ 19998 * n
  | 0 => Nat.le_refl _
  | n + 1 => by
    have ih := pdF_le (A := A) (L := L) (w := w) (p := p) n
    have h1 : (k1O A L w n).getD 0 ≤ 9999 := by
      cases h : k1O A L w n with
      | none => simp
      | some x => exact k1O_le h
    have h2 : (k2O A L w n).getD 0 ≤ 9999 := by
      cases h : k2O A L w n with
      | none => simp
      | some x => exact k2O_le h
    unfold pdF
    split
    · split <;> split <;> omega
    · omega
theorem x_carryOut {S : Sto} {q : Nat} {A : Tn} {L : Lw} {w : Nat} (h : RepC S q A) (hw : WF A) (hv : w < A 0 2) (hc : caB A L w = true) (h3 : S.1 26 0 3 = nI ((psF A L w (A 0 1)).getD 0)) (hp : ∀ p, p < 12 → S.1 28 0 p = nI (pdF A L w p (A 0 1)) ∧ S.1 29 0 p = nI (nnF A L w p (A 0 1))) : ∃ S', call 25 0 [vR 26 0, vR 1 q, vI (nI w)] S = some (some (vI (nI ((psF A L w (A 0 1)).getD 0))), S') ∧ Fr (pT q) S S' ∧ RepC S' q (doT A L w) := by
  have hP := hw.pe
  have hT := hw.th
  have hWk := hw.wk
  have hW := hw.W (w := w) (by omega)
  have ha := (hw.w hv).1
  obtain ⟨s, s1, s2, s3⟩ := caB_t hc
  rw [s1] at h3
  have hco := hw.co (p := A 10 w) (by omega)
  show ∃ S', run 25 0 0 [vR 26 0, vR 1 q, vI (nI w), vU, vU] [] S = _ ∧ _
  simp (disch := omega) only [s25_0, s25_1, s25_4, s25_5, s25_6, s25_7, s25_8, s25_12, s25_13, s25_16, s25_19, s25_21, s25_22, s25_25, s25_26, s25_29, s25_31, s25_33, s25_34, s25_37, s25_39, s25_40, s25_41, s25_44, s25_46, s25_47, s25_48, s25_51, s25_52, s25_53, s25_56, s25_58, s25_60, s25_61, s25_62, s25_63, s25_64, s25_65, s25_66, s25_69, s25_71, s25_72, s25_73, s25_74, s25_77, s25_80, s25_81, s25_84, s25_85, s25_87, s25_88, s25_91, s25_92, s25_93, s25_94, s25_97, s25_98, s25_99, s25_102, s25_103, s25_104, s25_105, s25_108, s25_109, s25_110, s25_111, s25_114, s25_115, s25_116, s25_117, s25_118, s25_121, s25_122, s25_125, q_0, q_1, q_2, q_3, q_4, q_5, q_6, q_7, q_8, q_9, q_10, q_11, q_12, q_13, q_14, q_16, q_20, q_23, q_24, q_32, q_42, q_43, q_45, q_47, q_48, q_50, q_57, q_59, q_60, q_61, q_62, q_63, q_64, q_66, q_91, q_93, q_97, q_99, q_122, q_144, q_255, q_256, q_300, q_380, q_400, q_620, q_999, q_1000, q_4095, q_4096, q_9999, q_65536, q_99999, q_31, nI_add, pk_mul, nE, nL, nT, nM31, nShl, ib_nI, nI_clamp, bI_n0, bI_n1, bI_nar, uI_r, uI_l, uL_r, uL_i, uL_p, uA_r, uA_l, bV_some, bU_some, nar_n0, nar_n1, and_self, and_true, true_and, and_false, false_and, if_true, if_false, eq_self, Bool.false_eq_true, Bool.true_eq_false, not_true_eq_false, not_false_eq_true, ↓reduceIte, nlT, nlF, ntT, ntF, neT, neF, ieT, ieF, decide_true, decide_false, Bool.not_true, Bool.not_false, Bool.and_true, Bool.true_and, Bool.and_false, Bool.false_and, Bool.or_true, Bool.true_or, Bool.or_false, Bool.false_or, h.ak]
  have key := upS (σ := Sto) (I := fun i S1 => Fr (pT q) S S1 ∧ RepC S1 q (doP A L w i)) (F := fun i S1 => run 25 0 10 [vR 26 0, vR 1 q, vI (nI w), vI (nI (A 10 w)), vI (nI i)] [] S1) (Q := fun x => ∃ S', x = some (some (vI (nI ((psF A L w (A 0 1)).getD 0))), S') ∧ Fr (pT q) S S' ∧ RepC S' q (doT A L w)) (N := A 0 0) ?_ ?_ 0 S (by omega) ⟨Fr.rfl', h⟩
  · exact key
  · intro i S1 hi hI
    obtain ⟨i1, i2⟩ := hI
    have hq := hp i (by omega)
    have r1 : S1.1 28 0 i = nI (pdF A L w i (A 0 1)) := by rw [i1.i (pT_f (by omega))]; exact hq.1
    have r2 : S1.1 29 0 i = nI (nnF A L w i (A 0 1)) := by rw [i1.i (pT_f (by omega))]; exact hq.2
    have r3 : S1.1 2 q i = nI (A 1 i) := by rw [i2.co (by omega), doP_1 i (Or.inl (Nat.le_refl _))]
    have r4 : S1.1 6 q (12 * i + A 10 w) = nI (A 6 (12 * i + A 10 w)) := by rw [i2.gi (by omega), doP_6 (by omega) i (Nat.le_refl _)]
    have r5 : S1.1 1 q 0 = nI (A 0 0) := by rw [i2.pe, doP_f (by decide) (by decide)]
    have b1 := hw.co (p := i) (by omega)
    have b2 := pdF_le (A := A) (L := L) (w := w) (p := i) (A 0 1)
    show (∃ S', run 25 0 10 _ _ _ = _ ∧ _) ∨ ∃ s', _ ∧ run 25 0 10 _ _ _ = run 25 0 10 _ _ _
    rw [s25_10]
    by_cases e : i = A 10 w
    · refine Or.inr ⟨S1, ⟨i1, ?_⟩, ?_⟩
      · rw [doP_s, if_pos e]; exact i2
      · simp (disch := omega) only [s25_0, s25_1, s25_4, s25_5, s25_6, s25_7, s25_8, s25_12, s25_13, s25_16, s25_19, s25_21, s25_22, s25_25, s25_26, s25_29, s25_31, s25_33, s25_34, s25_37, s25_39, s25_40, s25_41, s25_44, s25_46, s25_47, s25_48, s25_51, s25_52, s25_53, s25_56, s25_58, s25_60, s25_61, s25_62, s25_63, s25_64, s25_65, s25_66, s25_69, s25_71, s25_72, s25_73, s25_74, s25_77, s25_80, s25_81, s25_84, s25_85, s25_87, s25_88, s25_91, s25_92, s25_93, s25_94, s25_97, s25_98, s25_99, s25_102, s25_103, s25_104, s25_105, s25_108, s25_109, s25_110, s25_111, s25_114, s25_115, s25_116, s25_117, s25_118, s25_121, s25_122, s25_125, q_0, q_1, q_2, q_3, q_4, q_5, q_6, q_7, q_8, q_9, q_10, q_11, q_12, q_13, q_14, q_16, q_20, q_23, q_24, q_32, q_42, q_43, q_45, q_47, q_48, q_50, q_57, q_59, q_60, q_61, q_62, q_63, q_64, q_66, q_91, q_93, q_97, q_99, q_122, q_144, q_255, q_256, q_300, q_380, q_400, q_620, q_999, q_1000, q_4095, q_4096, q_9999, q_65536, q_99999, q_31, nI_add, pk_mul, nE, nL, nT, nM31, nShl, ib_nI, nI_clamp, bI_n0, bI_n1, bI_nar, uI_r, uI_l, uL_r, uL_i, uL_p, uA_r, uA_l, bV_some, bU_some, nar_n0, nar_n1, and_self, and_true, true_and, and_false, false_and, if_true, if_false, eq_self, Bool.false_eq_true, Bool.true_eq_false, not_true_eq_false, not_false_eq_true, ↓reduceIte, nlT, nlF, ntT, ntF, neT, neF, ieT, ieF, decide_true, decide_false, Bool.not_true, Bool.not_false, Bool.and_true, Bool.true_and, Bool.and_false, Bool.false_and, Bool.or_true, Bool.true_or, Bool.or_false, Bool.false_or, r5, e]
    · refine Or.inr ⟨uI (uI S1 2 q i (nI (rc (A 1 i + pdF A L w i (A 0 1))))) 6 q (12 * i + A 10 w) (nI (A 6 (12 * i + A 10 w) + nnF A L w i (A 0 1))), ⟨(i1.uI (pT_t (by decide) (by decide))).uI (pT_t (by decide) (by decide)), ?_⟩, ?_⟩
      · rw [doP_s, if_neg e]
        exact (i2.s_co _ _ rfl).s_gi _ _ rfl
      · simp (disch := omega) only [s25_0, s25_1, s25_4, s25_5, s25_6, s25_7, s25_8, s25_12, s25_13, s25_16, s25_19, s25_21, s25_22, s25_25, s25_26, s25_29, s25_31, s25_33, s25_34, s25_37, s25_39, s25_40, s25_41, s25_44, s25_46, s25_47, s25_48, s25_51, s25_52, s25_53, s25_56, s25_58, s25_60, s25_61, s25_62, s25_63, s25_64, s25_65, s25_66, s25_69, s25_71, s25_72, s25_73, s25_74, s25_77, s25_80, s25_81, s25_84, s25_85, s25_87, s25_88, s25_91, s25_92, s25_93, s25_94, s25_97, s25_98, s25_99, s25_102, s25_103, s25_104, s25_105, s25_108, s25_109, s25_110, s25_111, s25_114, s25_115, s25_116, s25_117, s25_118, s25_121, s25_122, s25_125, q_0, q_1, q_2, q_3, q_4, q_5, q_6, q_7, q_8, q_9, q_10, q_11, q_12, q_13, q_14, q_16, q_20, q_23, q_24, q_32, q_42, q_43, q_45, q_47, q_48, q_50, q_57, q_59, q_60, q_61, q_62, q_63, q_64, q_66, q_91, q_93, q_97, q_99, q_122, q_144, q_255, q_256, q_300, q_380, q_400, q_620, q_999, q_1000, q_4095, q_4096, q_9999, q_65536, q_99999, q_31, nI_add, pk_mul, nE, nL, nT, nM31, nShl, ib_nI, nI_clamp, bI_n0, bI_n1, bI_nar, uI_r, uI_l, uL_r, uL_i, uL_p, uA_r, uA_l, bV_some, bU_some, nar_n0, nar_n1, and_self, and_true, true_and, and_false, false_and, if_true, if_false, eq_self, Bool.false_eq_true, Bool.true_eq_false, not_true_eq_false, not_false_eq_true, ↓reduceIte, nlT, nlF, ntT, ntF, neT, neF, ieT, ieF, decide_true, decide_false, Bool.not_true, Bool.not_false, Bool.and_true, Bool.true_and, Bool.and_false, Bool.false_and, Bool.or_true, Bool.true_or, Bool.or_false, Bool.false_or, r5, e, r1, r2, r3, r4, ifN, Nat.mul_comm i 12, rc]
  · intro S1 hI
    obtain ⟨i1, i2⟩ := hI
    have e12 := doP_ex (L := L) hw hv (12 - A 0 0) (by omega)
    rw [show A 0 0 + (12 - A 0 0) = 12 by omega] at e12
    rw [← e12] at i2
    have r3 : S1.1 2 q (A 10 w) = nI (A 1 (A 10 w)) := by rw [i2.co (by omega), doP_1 12 (Or.inr rfl)]
    have r5 : S1.1 1 q 0 = nI (A 0 0) := by rw [i2.pe, doP_f (by decide) (by decide)]
    have r6 : S1.1 11 q w = nI (A 12 w) := by rw [i2.wo (by omega), doP_f (by decide) (by decide)]
    have r7 : S1.1 26 0 3 = nI s := by rw [i1.i (pT_f (by omega))]; exact h3
    have r8 := i2.dnb
    have r9 := donB_1 (doP A L w 12) (i := w) (by omega)
    show ∃ S', run 25 0 10 _ _ _ = _ ∧ _
    rw [s25_10, s1]
    simp (disch := omega) only [s25_0, s25_1, s25_4, s25_5, s25_6, s25_7, s25_8, s25_12, s25_13, s25_16, s25_19, s25_21, s25_22, s25_25, s25_26, s25_29, s25_31, s25_33, s25_34, s25_37, s25_39, s25_40, s25_41, s25_44, s25_46, s25_47, s25_48, s25_51, s25_52, s25_53, s25_56, s25_58, s25_60, s25_61, s25_62, s25_63, s25_64, s25_65, s25_66, s25_69, s25_71, s25_72, s25_73, s25_74, s25_77, s25_80, s25_81, s25_84, s25_85, s25_87, s25_88, s25_91, s25_92, s25_93, s25_94, s25_97, s25_98, s25_99, s25_102, s25_103, s25_104, s25_105, s25_108, s25_109, s25_110, s25_111, s25_114, s25_115, s25_116, s25_117, s25_118, s25_121, s25_122, s25_125, q_0, q_1, q_2, q_3, q_4, q_5, q_6, q_7, q_8, q_9, q_10, q_11, q_12, q_13, q_14, q_16, q_20, q_23, q_24, q_32, q_42, q_43, q_45, q_47, q_48, q_50, q_57, q_59, q_60, q_61, q_62, q_63, q_64, q_66, q_91, q_93, q_97, q_99, q_122, q_144, q_255, q_256, q_300, q_380, q_400, q_620, q_999, q_1000, q_4095, q_4096, q_9999, q_65536, q_99999, q_31, nI_add, pk_mul, nE, nL, nT, nM31, nShl, ib_nI, nI_clamp, bI_n0, bI_n1, bI_nar, uI_r, uI_l, uL_r, uL_i, uL_p, uA_r, uA_l, bV_some, bU_some, nar_n0, nar_n1, and_self, and_true, true_and, and_false, false_and, if_true, if_false, eq_self, Bool.false_eq_true, Bool.true_eq_false, not_true_eq_false, not_false_eq_true, ↓reduceIte, nlT, nlF, ntT, ntF, neT, neF, ieT, ieF, decide_true, decide_false, Bool.not_true, Bool.not_false, Bool.and_true, Bool.true_and, Bool.and_false, Bool.false_and, Bool.or_true, Bool.true_or, Bool.or_false, Bool.false_or, r5, r3, r6, r7, r8, r9, nSub, ifN, Option.getD_some]
    refine ⟨_, rfl, (i1.uI (pT_t (by decide) (by decide))).uI (pT_t (by decide) (by decide)), ?_⟩
    unfold doT
    rw [s1]
    refine RepC.s_dn (i2.s_co _ _ ?_) _ _ ?_
    · rfl
    · congr 1
theorem m_counts {S : Sto} {o p : Nat} (ho : o < 12) : ∃ S', call 212 0 [vR 50 0, vI (nI o), vI (nI p)] S = some (none, S') ∧ Fr (pL [78, 79]) S S' ∧ ∀ c, S'.1 78 0 c = S.1 78 0 c + nI (if o = c then p else 0) ∧ S'.1 79 0 c = S.1 79 0 c + nI (if o = c then 1 else 0) := by
  have z : ∀ y : Int32, y + nI 0 = y := fun y => by show y + 0 = y; simp
  show ∃ S', run 212 0 0 [vR 50 0, vI (nI o), vI (nI p)] [] S = _ ∧ _
  simp (disch := omega) only [s212_0, s212_1, s212_4, s212_5, s212_6, s212_7, s212_8, s212_9, s212_10, s212_11, s212_14, s212_15, s212_16, s212_17, s212_18, s212_19, s212_20, q_0, q_1, q_2, q_3, q_4, q_5, q_6, q_7, q_8, q_9, q_10, q_11, q_12, q_13, q_14, q_16, q_20, q_23, q_24, q_32, q_42, q_43, q_45, q_47, q_48, q_50, q_57, q_59, q_60, q_61, q_62, q_63, q_64, q_66, q_91, q_93, q_97, q_99, q_122, q_144, q_255, q_256, q_300, q_380, q_400, q_620, q_999, q_1000, q_4095, q_4096, q_9999, q_65536, q_99999, q_31, nI_add, pk_mul, nE, nL, nT, nM31, nShl, ib_nI, nI_clamp, bI_n0, bI_n1, bI_nar, uI_r, uI_l, uL_r, uL_i, uL_p, uA_r, uA_l, bV_some, bU_some, nar_n0, nar_n1, and_self, and_true, true_and, and_false, false_and, if_true, if_false, eq_self, Bool.false_eq_true, Bool.true_eq_false, not_true_eq_false, not_false_eq_true, ↓reduceIte, nlT, nlF, ntT, ntF, neT, neF, ieT, ieF, decide_true, decide_false, Bool.not_true, Bool.not_false, Bool.and_true, Bool.true_and, Bool.and_false, Bool.false_and, Bool.or_true, Bool.true_or, Bool.or_false, Bool.false_or]
  refine ⟨_, rfl, (Fr.rfl'.uI rfl).uI rfl, fun c => ⟨?_, ?_⟩⟩
  · rw [uI_r, uI_r]
    rw [if_neg (by omega)]
    by_cases e : c = o
    · rw [if_pos ⟨rfl, rfl, e⟩, if_pos e.symm, e]
    · rw [if_neg (by omega), if_neg (fun q => e q.symm), z]
  · rw [uI_r, uI_r]
    by_cases e : c = o
    · rw [if_pos ⟨rfl, rfl, e⟩, if_pos e.symm, e]
    · rw [if_neg (by omega), if_neg (by omega), if_neg (fun q => e q.symm), z]
theorem m_countsOf {S : Sto} {A : Tn} {r : Nat} {L : Lw} {w t s : Nat} (h : RepM S A) (hw : WF A) (hr : r < 6) (hL : RepLM S r L) (hl : WFL L) (hv : w < 12) (ht : t < 24) (hs : haO A L w t = some s) : ∃ S', call 211 0 [vR 50 0, vI (nI r), vI (nI w), vI (nI t)] S = some (none, S') ∧ Fr (pL [76, 77, 78, 79]) S S' ∧ ∀ c, S'.1 78 0 c = S.1 78 0 c + nI ((if A 7 t = c then (k1O A L w t).getD 0 else 0) + (if A 8 t = c then (k2O A L w t).getD 0 else 0)) ∧ S'.1 79 0 c = S.1 79 0 c + nI ((if A 7 t = c then (if (k1O A L w t).isSome then 1 else 0) else 0) + (if A 8 t = c then (if (k2O A L w t).isSome then 1 else 0) else 0)) := by
  have hO := hw.o ht
  obtain ⟨S1, a1, a2⟩ := m_nodOf h hw hr hL hl hv ht hO.1
  have h1 := h.pl a2 (by decide)
  have hL1 := hL.pl a2 (by decide)
  obtain ⟨S2, b1, b2⟩ := m_nodOf h1 hw hr hL1 hl hv ht hO.2
  have h2 := h1.pl b2 (by decide)
  have hL2 := hL1.pl b2 (by decide)
  obtain ⟨S3, d1, d2⟩ := m_must h2 hw hr hL2 hl hv ht
  have h3 := h2.pl d2 (by decide)
  have fr : Fr (pL [76, 77]) S S3 := (a2.tr b2).tr d2
  have fr' : Fr (pL [76, 77, 78, 79]) S S3 := fr.pl (by simp)
  show ∃ S', run 211 0 0 [vR 50 0, vI (nI r), vI (nI w), vI (nI t), vU, vU] [] S = _ ∧ _
  unfold haO at hs
  unfold k1O k2O
  generalize hx : ndO A L w t (A 7 t) = x at a1 hs ⊢
  generalize hy : ndO A L w t (A 8 t) = y at b1 hs ⊢
  have hmu := hd_le (v := sumL L (W1 A w t) 2 2) (lo := 1) (hi := 2) (by decide)
  have hmu' : muN A L w t ≤ 2 := hmu.2
  generalize muN A L w t = mu at d1 hmu' hs ⊢
  unfold hdO at hs
  unfold kp1 kp2
  by_cases c1 : mu = 2
  · subst c1
    cases x with
    | none => simp at hs
    | some a =>
      have ha := ndO_le hx
      cases y with
      | none => simp at hs
      | some b =>
        have hb := ndO_le hy
        obtain ⟨S4, f1, f2, f3⟩ := m_counts (S := S3) (o := A 7 t) (p := a) hO.1
        have h4 := h3.pl f2 (by decide)
        obtain ⟨S5, g1, g2, g3⟩ := m_counts (S := S4) (o := A 8 t) (p := b) hO.2
        simp only [nV] at a1 b1
        simp (disch := omega) only [s211_0, s211_1, s211_2, s211_3, s211_4, s211_5, s211_8, s211_9, s211_10, s211_13, s211_15, s211_16, s211_17, s211_18, s211_19, s211_20, s211_23, s211_24, s211_25, s211_28, s211_30, s211_31, s211_32, s211_33, s211_34, s211_37, s211_38, s211_41, s211_42, s211_43, s211_46, s211_47, s211_48, s211_50, s211_53, s211_54, s211_55, s211_58, s211_59, s211_60, s211_62, s211_65, s211_68, s211_70, s211_73, s211_75, s211_78, s211_80, s211_82, s211_85, s211_86, s211_87, s211_90, s211_91, s211_92, s211_94, s211_97, s211_100, s211_101, s211_102, s211_105, s211_106, s211_107, s211_109, s211_112, q_0, q_1, q_2, q_3, q_4, q_5, q_6, q_7, q_8, q_9, q_10, q_11, q_12, q_13, q_14, q_16, q_20, q_23, q_24, q_32, q_42, q_43, q_45, q_47, q_48, q_50, q_57, q_59, q_60, q_61, q_62, q_63, q_64, q_66, q_91, q_93, q_97, q_99, q_122, q_144, q_255, q_256, q_300, q_380, q_400, q_620, q_999, q_1000, q_4095, q_4096, q_9999, q_65536, q_99999, q_31, nI_add, pk_mul, nE, nL, nT, nM31, nShl, ib_nI, nI_clamp, bI_n0, bI_n1, bI_nar, uI_r, uI_l, uL_r, uL_i, uL_p, uA_r, uA_l, bV_some, bU_some, nar_n0, nar_n1, and_self, and_true, true_and, and_false, false_and, if_true, if_false, eq_self, Bool.false_eq_true, Bool.true_eq_false, not_true_eq_false, not_false_eq_true, ↓reduceIte, nlT, nlF, ntT, ntF, neT, neF, ieT, ieF, decide_true, decide_false, Bool.not_true, Bool.not_false, Bool.and_true, Bool.true_and, Bool.and_false, Bool.false_and, Bool.or_true, Bool.true_or, Bool.or_false, Bool.false_or, h.o1, h1.o2, h3.o1, h4.o2, a1, b1, d1, f1, g1]
        refine ⟨_, rfl, (fr'.tr (f2.pl (by simp))).tr (g2.pl (by simp)), fun c => ?_⟩
        rw [(g3 c).1, (g3 c).2, (f3 c).1, (f3 c).2, fr.i rfl, fr.i rfl]
        simp only [Int32.add_assoc, nI_add]
        exact ⟨rfl, rfl⟩
  · rw [if_neg c1] at hs
    cases x with
    | none =>
      cases y with
      | none => simp at hs
      | some b =>
        have hb := ndO_le hy
        obtain ⟨S5, g1, g2, g3⟩ := m_counts (S := S3) (o := A 8 t) (p := b) hO.2
        simp only [nV] at a1 b1
        simp (disch := omega) only [s211_0, s211_1, s211_2, s211_3, s211_4, s211_5, s211_8, s211_9, s211_10, s211_13, s211_15, s211_16, s211_17, s211_18, s211_19, s211_20, s211_23, s211_24, s211_25, s211_28, s211_30, s211_31, s211_32, s211_33, s211_34, s211_37, s211_38, s211_41, s211_42, s211_43, s211_46, s211_47, s211_48, s211_50, s211_53, s211_54, s211_55, s211_58, s211_59, s211_60, s211_62, s211_65, s211_68, s211_70, s211_73, s211_75, s211_78, s211_80, s211_82, s211_85, s211_86, s211_87, s211_90, s211_91, s211_92, s211_94, s211_97, s211_100, s211_101, s211_102, s211_105, s211_106, s211_107, s211_109, s211_112, q_0, q_1, q_2, q_3, q_4, q_5, q_6, q_7, q_8, q_9, q_10, q_11, q_12, q_13, q_14, q_16, q_20, q_23, q_24, q_32, q_42, q_43, q_45, q_47, q_48, q_50, q_57, q_59, q_60, q_61, q_62, q_63, q_64, q_66, q_91, q_93, q_97, q_99, q_122, q_144, q_255, q_256, q_300, q_380, q_400, q_620, q_999, q_1000, q_4095, q_4096, q_9999, q_65536, q_99999, q_31, nI_add, pk_mul, nE, nL, nT, nM31, nShl, ib_nI, nI_clamp, bI_n0, bI_n1, bI_nar, uI_r, uI_l, uL_r, uL_i, uL_p, uA_r, uA_l, bV_some, bU_some, nar_n0, nar_n1, and_self, and_true, true_and, and_false, false_and, if_true, if_false, eq_self, Bool.false_eq_true, Bool.true_eq_false, not_true_eq_false, not_false_eq_true, ↓reduceIte, nlT, nlF, ntT, ntF, neT, neF, ieT, ieF, decide_true, decide_false, Bool.not_true, Bool.not_false, Bool.and_true, Bool.true_and, Bool.and_false, Bool.false_and, Bool.or_true, Bool.true_or, Bool.or_false, Bool.false_or, h.o1, h1.o2, h3.o1, h3.o2, a1, b1, d1, g1, n2_lt, n2_ge, c1]
        refine ⟨_, rfl, fr'.tr (g2.pl (by simp)), fun c => ?_⟩
        rw [(g3 c).1, (g3 c).2, fr.i rfl, fr.i rfl]
        simp
    | some a =>
      have ha := ndO_le hx
      cases y with
      | none =>
        obtain ⟨S5, g1, g2, g3⟩ := m_counts (S := S3) (o := A 7 t) (p := a) hO.1
        simp only [nV] at a1 b1
        simp (disch := omega) only [s211_0, s211_1, s211_2, s211_3, s211_4, s211_5, s211_8, s211_9, s211_10, s211_13, s211_15, s211_16, s211_17, s211_18, s211_19, s211_20, s211_23, s211_24, s211_25, s211_28, s211_30, s211_31, s211_32, s211_33, s211_34, s211_37, s211_38, s211_41, s211_42, s211_43, s211_46, s211_47, s211_48, s211_50, s211_53, s211_54, s211_55, s211_58, s211_59, s211_60, s211_62, s211_65, s211_68, s211_70, s211_73, s211_75, s211_78, s211_80, s211_82, s211_85, s211_86, s211_87, s211_90, s211_91, s211_92, s211_94, s211_97, s211_100, s211_101, s211_102, s211_105, s211_106, s211_107, s211_109, s211_112, q_0, q_1, q_2, q_3, q_4, q_5, q_6, q_7, q_8, q_9, q_10, q_11, q_12, q_13, q_14, q_16, q_20, q_23, q_24, q_32, q_42, q_43, q_45, q_47, q_48, q_50, q_57, q_59, q_60, q_61, q_62, q_63, q_64, q_66, q_91, q_93, q_97, q_99, q_122, q_144, q_255, q_256, q_300, q_380, q_400, q_620, q_999, q_1000, q_4095, q_4096, q_9999, q_65536, q_99999, q_31, nI_add, pk_mul, nE, nL, nT, nM31, nShl, ib_nI, nI_clamp, bI_n0, bI_n1, bI_nar, uI_r, uI_l, uL_r, uL_i, uL_p, uA_r, uA_l, bV_some, bU_some, nar_n0, nar_n1, and_self, and_true, true_and, and_false, false_and, if_true, if_false, eq_self, Bool.false_eq_true, Bool.true_eq_false, not_true_eq_false, not_false_eq_true, ↓reduceIte, nlT, nlF, ntT, ntF, neT, neF, ieT, ieF, decide_true, decide_false, Bool.not_true, Bool.not_false, Bool.and_true, Bool.true_and, Bool.and_false, Bool.false_and, Bool.or_true, Bool.true_or, Bool.or_false, Bool.false_or, h.o1, h1.o2, h3.o1, h3.o2, a1, b1, d1, g1, n2_lt, n2_ge, c1]
        refine ⟨_, rfl, fr'.tr (g2.pl (by simp)), fun c => ?_⟩
        rw [(g3 c).1, (g3 c).2, fr.i rfl, fr.i rfl]
        simp
      | some b =>
        have hb := ndO_le hy
        simp only [nV] at a1 b1
        by_cases c2 : a ≤ b
        · obtain ⟨S5, g1, g2, g3⟩ := m_counts (S := S3) (o := A 7 t) (p := a) hO.1
          simp (disch := omega) only [s211_0, s211_1, s211_2, s211_3, s211_4, s211_5, s211_8, s211_9, s211_10, s211_13, s211_15, s211_16, s211_17, s211_18, s211_19, s211_20, s211_23, s211_24, s211_25, s211_28, s211_30, s211_31, s211_32, s211_33, s211_34, s211_37, s211_38, s211_41, s211_42, s211_43, s211_46, s211_47, s211_48, s211_50, s211_53, s211_54, s211_55, s211_58, s211_59, s211_60, s211_62, s211_65, s211_68, s211_70, s211_73, s211_75, s211_78, s211_80, s211_82, s211_85, s211_86, s211_87, s211_90, s211_91, s211_92, s211_94, s211_97, s211_100, s211_101, s211_102, s211_105, s211_106, s211_107, s211_109, s211_112, q_0, q_1, q_2, q_3, q_4, q_5, q_6, q_7, q_8, q_9, q_10, q_11, q_12, q_13, q_14, q_16, q_20, q_23, q_24, q_32, q_42, q_43, q_45, q_47, q_48, q_50, q_57, q_59, q_60, q_61, q_62, q_63, q_64, q_66, q_91, q_93, q_97, q_99, q_122, q_144, q_255, q_256, q_300, q_380, q_400, q_620, q_999, q_1000, q_4095, q_4096, q_9999, q_65536, q_99999, q_31, nI_add, pk_mul, nE, nL, nT, nM31, nShl, ib_nI, nI_clamp, bI_n0, bI_n1, bI_nar, uI_r, uI_l, uL_r, uL_i, uL_p, uA_r, uA_l, bV_some, bU_some, nar_n0, nar_n1, and_self, and_true, true_and, and_false, false_and, if_true, if_false, eq_self, Bool.false_eq_true, Bool.true_eq_false, not_true_eq_false, not_false_eq_true, ↓reduceIte, nlT, nlF, ntT, ntF, neT, neF, ieT, ieF, decide_true, decide_false, Bool.not_true, Bool.not_false, Bool.and_true, Bool.true_and, Bool.and_false, Bool.false_and, Bool.or_true, Bool.true_or, Bool.or_false, Bool.false_or, h.o1, h1.o2, h3.o1, h3.o2, a1, b1, d1, g1, c1, c2]
          refine ⟨_, rfl, fr'.tr (g2.pl (by simp)), fun c => ?_⟩
          rw [(g3 c).1, (g3 c).2, fr.i rfl, fr.i rfl]
          simp
        · obtain ⟨S5, g1, g2, g3⟩ := m_counts (S := S3) (o := A 8 t) (p := b) hO.2
          simp (disch := omega) only [s211_0, s211_1, s211_2, s211_3, s211_4, s211_5, s211_8, s211_9, s211_10, s211_13, s211_15, s211_16, s211_17, s211_18, s211_19, s211_20, s211_23, s211_24, s211_25, s211_28, s211_30, s211_31, s211_32, s211_33, s211_34, s211_37, s211_38, s211_41, s211_42, s211_43, s211_46, s211_47, s211_48, s211_50, s211_53, s211_54, s211_55, s211_58, s211_59, s211_60, s211_62, s211_65, s211_68, s211_70, s211_73, s211_75, s211_78, s211_80, s211_82, s211_85, s211_86, s211_87, s211_90, s211_91, s211_92, s211_94, s211_97, s211_100, s211_101, s211_102, s211_105, s211_106, s211_107, s211_109, s211_112, q_0, q_1, q_2, q_3, q_4, q_5, q_6, q_7, q_8, q_9, q_10, q_11, q_12, q_13, q_14, q_16, q_20, q_23, q_24, q_32, q_42, q_43, q_45, q_47, q_48, q_50, q_57, q_59, q_60, q_61, q_62, q_63, q_64, q_66, q_91, q_93, q_97, q_99, q_122, q_144, q_255, q_256, q_300, q_380, q_400, q_620, q_999, q_1000, q_4095, q_4096, q_9999, q_65536, q_99999, q_31, nI_add, pk_mul, nE, nL, nT, nM31, nShl, ib_nI, nI_clamp, bI_n0, bI_n1, bI_nar, uI_r, uI_l, uL_r, uL_i, uL_p, uA_r, uA_l, bV_some, bU_some, nar_n0, nar_n1, and_self, and_true, true_and, and_false, false_and, if_true, if_false, eq_self, Bool.false_eq_true, Bool.true_eq_false, not_true_eq_false, not_false_eq_true, ↓reduceIte, nlT, nlF, ntT, ntF, neT, neF, ieT, ieF, decide_true, decide_false, Bool.not_true, Bool.not_false, Bool.and_true, Bool.true_and, Bool.and_false, Bool.false_and, Bool.or_true, Bool.true_or, Bool.or_false, Bool.false_or, h.o1, h1.o2, h3.o1, h3.o2, a1, b1, d1, g1, c1, c2]
          refine ⟨_, rfl, fr'.tr (g2.pl (by simp)), fun c => ?_⟩
          rw [(g3 c).1, (g3 c).2, fr.i rfl, fr.i rfl]
          simp
theorem psF_bit {A : Tn} {L : Lw} {w n s t : Nat} (h : psF A L w n = some s) (ht : t < n) (hb : (A 11 w).testBit t = true) : ∃ p, haO A L w t = some p := by
  cases hp : haO A L w t with
  | some p => exact ⟨p, rfl⟩
  | none =>
    have e : psF A L w (t + 1) = none := by
      unfold psF
      cases psF A L w t with
      | none => rfl
      | some s => simp [hb, hp]
    rw [psF_no e (by omega)] at h
    cases h
theorem m_isDone {S : Sto} {A : Tn} {r : Nat} {L : Lw} {w : Nat} (h : RepM S A) (hw : WF A) (hr : r < 6) (hL : RepLM S r L) (hl : WFL L) (hv : w < A 0 2) (hc : caB A L w = true) : ∃ S', call 210 0 [vR 50 0, vI (nI r), vI (nI w)] S = some (some (vI (nI ((psF A L w (A 0 1)).getD 0))), S') ∧ Fr (pL [52, 57, 65, 76, 77, 78, 79]) S S' ∧ RepM S' (doT A L w) := by
  have hP := hw.pe
  have hT := hw.th
  have hWk := hw.wk
  have hW := hw.W (w := w) (by omega)
  have ha := (hw.w hv).1
  obtain ⟨s, s1, s2, s3⟩ := caB_t hc
  have hco := hw.co (p := A 10 w) (by omega)
  obtain ⟨S1, a1, a2⟩ := m_pricesOf h hw hr hL hl (w := w) (by omega)
  have h1 := h.pl a2 (by decide)
  have hL1 := hL.pl a2 (by decide)
  rw [s1] at a1 ⊢
  simp only [nV] at a1
  show ∃ S', run 210 0 0 [vR 50 0, vI (nI r), vI (nI w), vU, vU, vU] [] S = _ ∧ _
  simp (disch := omega) only [s210_0, s210_1, s210_2, s210_3, s210_6, s210_7, s210_8, s210_11, s210_12, s210_13, s210_15, s210_16, s210_20, s210_22, s210_25, s210_26, s210_29, s210_31, s210_32, s210_33, s210_34, s210_37, s210_39, s210_40, s210_41, s210_44, s210_47, s210_48, s210_52, s210_53, s210_56, s210_57, s210_58, s210_61, s210_62, s210_65, s210_66, s210_67, s210_69, s210_72, s210_75, s210_76, s210_77, s210_78, s210_80, s210_83, s210_86, s210_89, s210_90, s210_94, s210_96, s210_99, s210_101, s210_103, s210_106, s210_107, s210_110, s210_112, s210_113, s210_116, s210_118, s210_119, s210_120, s210_123, s210_125, s210_126, s210_127, s210_130, s210_133, s210_136, s210_139, s210_140, s210_143, s210_145, s210_146, s210_147, s210_150, s210_152, s210_153, s210_154, s210_155, s210_156, s210_159, s210_161, s210_163, s210_164, s210_166, s210_167, s210_168, s210_169, s210_170, s210_173, s210_175, s210_176, s210_177, s210_178, s210_181, s210_184, s210_185, s210_188, s210_190, s210_191, s210_192, s210_193, s210_194, s210_195, s210_196, s210_199, s210_201, s210_202, s210_205, s210_207, s210_208, s210_209, s210_212, s210_213, s210_214, s210_215, s210_218, s210_221, s210_224, s210_227, s210_228, s210_231, s210_233, s210_234, s210_235, s210_238, s210_239, s210_240, s210_241, s210_242, s210_243, s210_246, s210_247, s210_248, s210_249, s210_250, q_0, q_1, q_2, q_3, q_4, q_5, q_6, q_7, q_8, q_9, q_10, q_11, q_12, q_13, q_14, q_16, q_20, q_23, q_24, q_32, q_42, q_43, q_45, q_47, q_48, q_50, q_57, q_59, q_60, q_61, q_62, q_63, q_64, q_66, q_91, q_93, q_97, q_99, q_122, q_144, q_255, q_256, q_300, q_380, q_400, q_620, q_999, q_1000, q_4095, q_4096, q_9999, q_65536, q_99999, q_31, nI_add, pk_mul, nE, nL, nT, nM31, nShl, ib_nI, nI_clamp, bI_n0, bI_n1, bI_nar, uI_r, uI_l, uL_r, uL_i, uL_p, uA_r, uA_l, bV_some, bU_some, nar_n0, nar_n1, and_self, and_true, true_and, and_false, false_and, if_true, if_false, eq_self, Bool.false_eq_true, Bool.true_eq_false, not_true_eq_false, not_false_eq_true, ↓reduceIte, nlT, nlF, ntT, ntF, neT, neF, ieT, ieF, decide_true, decide_false, Bool.not_true, Bool.not_false, Bool.and_true, Bool.true_and, Bool.and_false, Bool.false_and, Bool.or_true, Bool.true_or, Bool.or_false, Bool.false_or, a1, h1.ak]
  have L3 := fun S3 (hI : Fr (pL [52, 57, 65, 76, 77, 78, 79]) S S3 ∧ RepM S3 A ∧ ∀ p, p < 12 → S3.1 78 0 p = nI (pdF A L w p (A 0 1)) ∧ S3.1 79 0 p = nI (nnF A L w p (A 0 1))) => upS (σ := Sto) (I := fun i S1 => Fr (pL [52, 57, 65, 76, 77, 78, 79]) S S1 ∧ RepM S1 (doP A L w i) ∧ ∀ p, p < 12 → S1.1 78 0 p = nI (pdF A L w p (A 0 1)) ∧ S1.1 79 0 p = nI (nnF A L w p (A 0 1))) (F := fun i S1 => run 210 0 92 [vR 50 0, vI (nI r), vI (nI w), vI (nI s), vI (nI (A 10 w)), vI (nI i)] [] S1) (Q := fun x => ∃ S', x = some (some (vI (nI s)), S') ∧ Fr (pL [52, 57, 65, 76, 77, 78, 79]) S S' ∧ RepM S' (doT A L w)) (N := 12) (by
    intro i S1 hi hI
    obtain ⟨i1, i2, i3⟩ := hI
    have hq := i3 i (by omega)
    have r3 : S1.1 52 0 i = nI (A 1 i) := by rw [i2.co (by omega), doP_1 i (Or.inl (Nat.le_refl _))]
    have r4 : S1.1 57 0 (12 * i + A 10 w) = nI (A 6 (12 * i + A 10 w)) := by rw [i2.gi (by omega), doP_6 (by omega) i (Nat.le_refl _)]
    have b1 := hw.co (p := i) (by omega)
    have b2 := pdF_le (A := A) (L := L) (w := w) (p := i) (A 0 1)
    show (∃ S', run 210 0 92 _ _ _ = _ ∧ _) ∨ ∃ s', _ ∧ run 210 0 92 _ _ _ = run 210 0 92 _ _ _
    rw [s210_92]
    by_cases e : i = A 10 w
    · refine Or.inr ⟨S1, ⟨i1, ?_, i3⟩, ?_⟩
      · rw [doP_s, if_pos e]; exact i2
      · simp (disch := omega) only [s210_0, s210_1, s210_2, s210_3, s210_6, s210_7, s210_8, s210_11, s210_12, s210_13, s210_15, s210_16, s210_20, s210_22, s210_25, s210_26, s210_29, s210_31, s210_32, s210_33, s210_34, s210_37, s210_39, s210_40, s210_41, s210_44, s210_47, s210_48, s210_52, s210_53, s210_56, s210_57, s210_58, s210_61, s210_62, s210_65, s210_66, s210_67, s210_69, s210_72, s210_75, s210_76, s210_77, s210_78, s210_80, s210_83, s210_86, s210_89, s210_90, s210_94, s210_96, s210_99, s210_101, s210_103, s210_106, s210_107, s210_110, s210_112, s210_113, s210_116, s210_118, s210_119, s210_120, s210_123, s210_125, s210_126, s210_127, s210_130, s210_133, s210_136, s210_139, s210_140, s210_143, s210_145, s210_146, s210_147, s210_150, s210_152, s210_153, s210_154, s210_155, s210_156, s210_159, s210_161, s210_163, s210_164, s210_166, s210_167, s210_168, s210_169, s210_170, s210_173, s210_175, s210_176, s210_177, s210_178, s210_181, s210_184, s210_185, s210_188, s210_190, s210_191, s210_192, s210_193, s210_194, s210_195, s210_196, s210_199, s210_201, s210_202, s210_205, s210_207, s210_208, s210_209, s210_212, s210_213, s210_214, s210_215, s210_218, s210_221, s210_224, s210_227, s210_228, s210_231, s210_233, s210_234, s210_235, s210_238, s210_239, s210_240, s210_241, s210_242, s210_243, s210_246, s210_247, s210_248, s210_249, s210_250, q_0, q_1, q_2, q_3, q_4, q_5, q_6, q_7, q_8, q_9, q_10, q_11, q_12, q_13, q_14, q_16, q_20, q_23, q_24, q_32, q_42, q_43, q_45, q_47, q_48, q_50, q_57, q_59, q_60, q_61, q_62, q_63, q_64, q_66, q_91, q_93, q_97, q_99, q_122, q_144, q_255, q_256, q_300, q_380, q_400, q_620, q_999, q_1000, q_4095, q_4096, q_9999, q_65536, q_99999, q_31, nI_add, pk_mul, nE, nL, nT, nM31, nShl, ib_nI, nI_clamp, bI_n0, bI_n1, bI_nar, uI_r, uI_l, uL_r, uL_i, uL_p, uA_r, uA_l, bV_some, bU_some, nar_n0, nar_n1, and_self, and_true, true_and, and_false, false_and, if_true, if_false, eq_self, Bool.false_eq_true, Bool.true_eq_false, not_true_eq_false, not_false_eq_true, ↓reduceIte, nlT, nlF, ntT, ntF, neT, neF, ieT, ieF, decide_true, decide_false, Bool.not_true, Bool.not_false, Bool.and_true, Bool.true_and, Bool.and_false, Bool.false_and, Bool.or_true, Bool.true_or, Bool.or_false, Bool.false_or, e]
    · refine Or.inr ⟨uI (uI S1 52 0 i (nI (rc (A 1 i + pdF A L w i (A 0 1))))) 57 0 (12 * i + A 10 w) (nI (A 6 (12 * i + A 10 w) + nnF A L w i (A 0 1))), ⟨(i1.uI rfl).uI rfl, ?_, ?_⟩, ?_⟩
      · rw [doP_s, if_neg e]
        exact (i2.set (f := 1) _ rfl rfl).set (f := 6) _ rfl rfl
      · exact i3
      · by_cases c1 : 99999 < A 1 i + pdF A L w i (A 0 1)
        · have c2 : rc (A 1 i + pdF A L w i (A 0 1)) = 99999 := by unfold rc; rw [if_neg (by omega)]
          rw [c2]
          simp (disch := omega) only [s210_0, s210_1, s210_2, s210_3, s210_6, s210_7, s210_8, s210_11, s210_12, s210_13, s210_15, s210_16, s210_20, s210_22, s210_25, s210_26, s210_29, s210_31, s210_32, s210_33, s210_34, s210_37, s210_39, s210_40, s210_41, s210_44, s210_47, s210_48, s210_52, s210_53, s210_56, s210_57, s210_58, s210_61, s210_62, s210_65, s210_66, s210_67, s210_69, s210_72, s210_75, s210_76, s210_77, s210_78, s210_80, s210_83, s210_86, s210_89, s210_90, s210_94, s210_96, s210_99, s210_101, s210_103, s210_106, s210_107, s210_110, s210_112, s210_113, s210_116, s210_118, s210_119, s210_120, s210_123, s210_125, s210_126, s210_127, s210_130, s210_133, s210_136, s210_139, s210_140, s210_143, s210_145, s210_146, s210_147, s210_150, s210_152, s210_153, s210_154, s210_155, s210_156, s210_159, s210_161, s210_163, s210_164, s210_166, s210_167, s210_168, s210_169, s210_170, s210_173, s210_175, s210_176, s210_177, s210_178, s210_181, s210_184, s210_185, s210_188, s210_190, s210_191, s210_192, s210_193, s210_194, s210_195, s210_196, s210_199, s210_201, s210_202, s210_205, s210_207, s210_208, s210_209, s210_212, s210_213, s210_214, s210_215, s210_218, s210_221, s210_224, s210_227, s210_228, s210_231, s210_233, s210_234, s210_235, s210_238, s210_239, s210_240, s210_241, s210_242, s210_243, s210_246, s210_247, s210_248, s210_249, s210_250, q_0, q_1, q_2, q_3, q_4, q_5, q_6, q_7, q_8, q_9, q_10, q_11, q_12, q_13, q_14, q_16, q_20, q_23, q_24, q_32, q_42, q_43, q_45, q_47, q_48, q_50, q_57, q_59, q_60, q_61, q_62, q_63, q_64, q_66, q_91, q_93, q_97, q_99, q_122, q_144, q_255, q_256, q_300, q_380, q_400, q_620, q_999, q_1000, q_4095, q_4096, q_9999, q_65536, q_99999, q_31, nI_add, pk_mul, nE, nL, nT, nM31, nShl, ib_nI, nI_clamp, bI_n0, bI_n1, bI_nar, uI_r, uI_l, uL_r, uL_i, uL_p, uA_r, uA_l, bV_some, bU_some, nar_n0, nar_n1, and_self, and_true, true_and, and_false, false_and, if_true, if_false, eq_self, Bool.false_eq_true, Bool.true_eq_false, not_true_eq_false, not_false_eq_true, ↓reduceIte, nlT, nlF, ntT, ntF, neT, neF, ieT, ieF, decide_true, decide_false, Bool.not_true, Bool.not_false, Bool.and_true, Bool.true_and, Bool.and_false, Bool.false_and, Bool.or_true, Bool.true_or, Bool.or_false, Bool.false_or, e, hq.1, hq.2, r3, r4]
        · have c2 : rc (A 1 i + pdF A L w i (A 0 1)) = A 1 i + pdF A L w i (A 0 1) := rc_id (by omega)
          rw [c2]
          simp (disch := omega) only [s210_0, s210_1, s210_2, s210_3, s210_6, s210_7, s210_8, s210_11, s210_12, s210_13, s210_15, s210_16, s210_20, s210_22, s210_25, s210_26, s210_29, s210_31, s210_32, s210_33, s210_34, s210_37, s210_39, s210_40, s210_41, s210_44, s210_47, s210_48, s210_52, s210_53, s210_56, s210_57, s210_58, s210_61, s210_62, s210_65, s210_66, s210_67, s210_69, s210_72, s210_75, s210_76, s210_77, s210_78, s210_80, s210_83, s210_86, s210_89, s210_90, s210_94, s210_96, s210_99, s210_101, s210_103, s210_106, s210_107, s210_110, s210_112, s210_113, s210_116, s210_118, s210_119, s210_120, s210_123, s210_125, s210_126, s210_127, s210_130, s210_133, s210_136, s210_139, s210_140, s210_143, s210_145, s210_146, s210_147, s210_150, s210_152, s210_153, s210_154, s210_155, s210_156, s210_159, s210_161, s210_163, s210_164, s210_166, s210_167, s210_168, s210_169, s210_170, s210_173, s210_175, s210_176, s210_177, s210_178, s210_181, s210_184, s210_185, s210_188, s210_190, s210_191, s210_192, s210_193, s210_194, s210_195, s210_196, s210_199, s210_201, s210_202, s210_205, s210_207, s210_208, s210_209, s210_212, s210_213, s210_214, s210_215, s210_218, s210_221, s210_224, s210_227, s210_228, s210_231, s210_233, s210_234, s210_235, s210_238, s210_239, s210_240, s210_241, s210_242, s210_243, s210_246, s210_247, s210_248, s210_249, s210_250, q_0, q_1, q_2, q_3, q_4, q_5, q_6, q_7, q_8, q_9, q_10, q_11, q_12, q_13, q_14, q_16, q_20, q_23, q_24, q_32, q_42, q_43, q_45, q_47, q_48, q_50, q_57, q_59, q_60, q_61, q_62, q_63, q_64, q_66, q_91, q_93, q_97, q_99, q_122, q_144, q_255, q_256, q_300, q_380, q_400, q_620, q_999, q_1000, q_4095, q_4096, q_9999, q_65536, q_99999, q_31, nI_add, pk_mul, nE, nL, nT, nM31, nShl, ib_nI, nI_clamp, bI_n0, bI_n1, bI_nar, uI_r, uI_l, uL_r, uL_i, uL_p, uA_r, uA_l, bV_some, bU_some, nar_n0, nar_n1, and_self, and_true, true_and, and_false, false_and, if_true, if_false, eq_self, Bool.false_eq_true, Bool.true_eq_false, not_true_eq_false, not_false_eq_true, ↓reduceIte, nlT, nlF, ntT, ntF, neT, neF, ieT, ieF, decide_true, decide_false, Bool.not_true, Bool.not_false, Bool.and_true, Bool.true_and, Bool.and_false, Bool.false_and, Bool.or_true, Bool.true_or, Bool.or_false, Bool.false_or, e, hq.1, hq.2, r3, r4]) (by
    intro S1 hI
    obtain ⟨i1, i2, i3⟩ := hI
    have r3 : S1.1 52 0 (A 10 w) = nI (A 1 (A 10 w)) := by rw [i2.co (by omega), doP_1 12 (Or.inr rfl)]
    have r6 : S1.1 63 0 w = nI (A 12 w) := by rw [i2.wo (by omega), doP_f (by decide) (by decide)]
    have eT : doT A L w = uT (uT (uT (doP A L w 12) 1 (A 10 w) (A 1 (A 10 w) - s)) 1 (A 10 w) (rc (A 1 (A 10 w) - s + A 12 w))) 14 w 1 := by
      unfold doT
      rw [s1]
      funext f i
      simp only [uT_r, Option.getD_some]
      repeat' split
      all_goals first | rfl | omega
    show ∃ S', run 210 0 92 _ _ _ = _ ∧ _
    rw [s210_92, eT]
    by_cases c1 : 99999 < A 1 (A 10 w) - s + A 12 w
    · have c2 : rc (A 1 (A 10 w) - s + A 12 w) = 99999 := by unfold rc; rw [if_neg (by omega)]
      rw [c2]
      simp (disch := omega) only [s210_0, s210_1, s210_2, s210_3, s210_6, s210_7, s210_8, s210_11, s210_12, s210_13, s210_15, s210_16, s210_20, s210_22, s210_25, s210_26, s210_29, s210_31, s210_32, s210_33, s210_34, s210_37, s210_39, s210_40, s210_41, s210_44, s210_47, s210_48, s210_52, s210_53, s210_56, s210_57, s210_58, s210_61, s210_62, s210_65, s210_66, s210_67, s210_69, s210_72, s210_75, s210_76, s210_77, s210_78, s210_80, s210_83, s210_86, s210_89, s210_90, s210_94, s210_96, s210_99, s210_101, s210_103, s210_106, s210_107, s210_110, s210_112, s210_113, s210_116, s210_118, s210_119, s210_120, s210_123, s210_125, s210_126, s210_127, s210_130, s210_133, s210_136, s210_139, s210_140, s210_143, s210_145, s210_146, s210_147, s210_150, s210_152, s210_153, s210_154, s210_155, s210_156, s210_159, s210_161, s210_163, s210_164, s210_166, s210_167, s210_168, s210_169, s210_170, s210_173, s210_175, s210_176, s210_177, s210_178, s210_181, s210_184, s210_185, s210_188, s210_190, s210_191, s210_192, s210_193, s210_194, s210_195, s210_196, s210_199, s210_201, s210_202, s210_205, s210_207, s210_208, s210_209, s210_212, s210_213, s210_214, s210_215, s210_218, s210_221, s210_224, s210_227, s210_228, s210_231, s210_233, s210_234, s210_235, s210_238, s210_239, s210_240, s210_241, s210_242, s210_243, s210_246, s210_247, s210_248, s210_249, s210_250, q_0, q_1, q_2, q_3, q_4, q_5, q_6, q_7, q_8, q_9, q_10, q_11, q_12, q_13, q_14, q_16, q_20, q_23, q_24, q_32, q_42, q_43, q_45, q_47, q_48, q_50, q_57, q_59, q_60, q_61, q_62, q_63, q_64, q_66, q_91, q_93, q_97, q_99, q_122, q_144, q_255, q_256, q_300, q_380, q_400, q_620, q_999, q_1000, q_4095, q_4096, q_9999, q_65536, q_99999, q_31, nI_add, pk_mul, nE, nL, nT, nM31, nShl, ib_nI, nI_clamp, bI_n0, bI_n1, bI_nar, uI_r, uI_l, uL_r, uL_i, uL_p, uA_r, uA_l, bV_some, bU_some, nar_n0, nar_n1, and_self, and_true, true_and, and_false, false_and, if_true, if_false, eq_self, Bool.false_eq_true, Bool.true_eq_false, not_true_eq_false, not_false_eq_true, ↓reduceIte, nlT, nlF, ntT, ntF, neT, neF, ieT, ieF, decide_true, decide_false, Bool.not_true, Bool.not_false, Bool.and_true, Bool.true_and, Bool.and_false, Bool.false_and, Bool.or_true, Bool.true_or, Bool.or_false, Bool.false_or, r3, r6, nSub]
      refine ⟨_, rfl, ((i1.uI rfl).uI rfl).uI rfl, ?_⟩
      exact ((i2.set (f := 1) _ rfl rfl).set (f := 1) _ rfl rfl).set (f := 14) _ rfl rfl
    · have c2 : rc (A 1 (A 10 w) - s + A 12 w) = A 1 (A 10 w) - s + A 12 w := rc_id (by omega)
      rw [c2]
      simp (disch := omega) only [s210_0, s210_1, s210_2, s210_3, s210_6, s210_7, s210_8, s210_11, s210_12, s210_13, s210_15, s210_16, s210_20, s210_22, s210_25, s210_26, s210_29, s210_31, s210_32, s210_33, s210_34, s210_37, s210_39, s210_40, s210_41, s210_44, s210_47, s210_48, s210_52, s210_53, s210_56, s210_57, s210_58, s210_61, s210_62, s210_65, s210_66, s210_67, s210_69, s210_72, s210_75, s210_76, s210_77, s210_78, s210_80, s210_83, s210_86, s210_89, s210_90, s210_94, s210_96, s210_99, s210_101, s210_103, s210_106, s210_107, s210_110, s210_112, s210_113, s210_116, s210_118, s210_119, s210_120, s210_123, s210_125, s210_126, s210_127, s210_130, s210_133, s210_136, s210_139, s210_140, s210_143, s210_145, s210_146, s210_147, s210_150, s210_152, s210_153, s210_154, s210_155, s210_156, s210_159, s210_161, s210_163, s210_164, s210_166, s210_167, s210_168, s210_169, s210_170, s210_173, s210_175, s210_176, s210_177, s210_178, s210_181, s210_184, s210_185, s210_188, s210_190, s210_191, s210_192, s210_193, s210_194, s210_195, s210_196, s210_199, s210_201, s210_202, s210_205, s210_207, s210_208, s210_209, s210_212, s210_213, s210_214, s210_215, s210_218, s210_221, s210_224, s210_227, s210_228, s210_231, s210_233, s210_234, s210_235, s210_238, s210_239, s210_240, s210_241, s210_242, s210_243, s210_246, s210_247, s210_248, s210_249, s210_250, q_0, q_1, q_2, q_3, q_4, q_5, q_6, q_7, q_8, q_9, q_10, q_11, q_12, q_13, q_14, q_16, q_20, q_23, q_24, q_32, q_42, q_43, q_45, q_47, q_48, q_50, q_57, q_59, q_60, q_61, q_62, q_63, q_64, q_66, q_91, q_93, q_97, q_99, q_122, q_144, q_255, q_256, q_300, q_380, q_400, q_620, q_999, q_1000, q_4095, q_4096, q_9999, q_65536, q_99999, q_31, nI_add, pk_mul, nE, nL, nT, nM31, nShl, ib_nI, nI_clamp, bI_n0, bI_n1, bI_nar, uI_r, uI_l, uL_r, uL_i, uL_p, uA_r, uA_l, bV_some, bU_some, nar_n0, nar_n1, and_self, and_true, true_and, and_false, false_and, if_true, if_false, eq_self, Bool.false_eq_true, Bool.true_eq_false, not_true_eq_false, not_false_eq_true, ↓reduceIte, nlT, nlF, ntT, ntF, neT, neF, ieT, ieF, decide_true, decide_false, Bool.not_true, Bool.not_false, Bool.and_true, Bool.true_and, Bool.and_false, Bool.false_and, Bool.or_true, Bool.true_or, Bool.or_false, Bool.false_or, r3, r6, nSub]
      refine ⟨_, rfl, ((i1.uI rfl).uI rfl).uI rfl, ?_⟩
      exact ((i2.set (f := 1) _ rfl rfl).set (f := 1) _ rfl rfl).set (f := 14) _ rfl rfl) 0 S3 (by omega) hI
  have L2 := fun S3 (hI : Fr (pL [52, 57, 65, 76, 77, 78, 79]) S S3 ∧ RepM S3 A ∧ RepLM S3 r L ∧ ∀ p, p < 12 → S3.1 78 0 p = nI 0 ∧ S3.1 79 0 p = nI 0) => upS (σ := Sto) (I := fun i S1 => Fr (pL [52, 57, 65, 76, 77, 78, 79]) S S1 ∧ RepM S1 A ∧ RepLM S1 r L ∧ ∀ p, p < 12 → S1.1 78 0 p = nI (pdF A L w p i) ∧ S1.1 79 0 p = nI (nnF A L w p i)) (F := fun i S1 => run 210 0 50 [vR 50 0, vI (nI r), vI (nI w), vI (nI s), vI (nI (A 10 w)), vI (nI i)] [] S1) (Q := fun x => ∃ S', x = some (some (vI (nI s)), S') ∧ Fr (pL [52, 57, 65, 76, 77, 78, 79]) S S' ∧ RepM S' (doT A L w)) (N := A 0 1) (by
    intro i S1 hi hI
    obtain ⟨i1, i2, i3, i4⟩ := hI
    show (∃ S', run 210 0 50 _ _ _ = _ ∧ _) ∨ ∃ s', _ ∧ run 210 0 50 _ _ _ = run 210 0 50 _ _ _
    rw [s210_50]
    cases c1 : (A 11 w).testBit i with
    | false =>
      refine Or.inr ⟨S1, ⟨i1, i2, i3, ?_⟩, ?_⟩
      · intro p hp
        rw [pdF_s, nnF_s]
        simp only [c1, Bool.false_eq_true, if_false, Nat.add_zero]
        exact i4 p hp
      · simp (disch := omega) only [s210_0, s210_1, s210_2, s210_3, s210_6, s210_7, s210_8, s210_11, s210_12, s210_13, s210_15, s210_16, s210_20, s210_22, s210_25, s210_26, s210_29, s210_31, s210_32, s210_33, s210_34, s210_37, s210_39, s210_40, s210_41, s210_44, s210_47, s210_48, s210_52, s210_53, s210_56, s210_57, s210_58, s210_61, s210_62, s210_65, s210_66, s210_67, s210_69, s210_72, s210_75, s210_76, s210_77, s210_78, s210_80, s210_83, s210_86, s210_89, s210_90, s210_94, s210_96, s210_99, s210_101, s210_103, s210_106, s210_107, s210_110, s210_112, s210_113, s210_116, s210_118, s210_119, s210_120, s210_123, s210_125, s210_126, s210_127, s210_130, s210_133, s210_136, s210_139, s210_140, s210_143, s210_145, s210_146, s210_147, s210_150, s210_152, s210_153, s210_154, s210_155, s210_156, s210_159, s210_161, s210_163, s210_164, s210_166, s210_167, s210_168, s210_169, s210_170, s210_173, s210_175, s210_176, s210_177, s210_178, s210_181, s210_184, s210_185, s210_188, s210_190, s210_191, s210_192, s210_193, s210_194, s210_195, s210_196, s210_199, s210_201, s210_202, s210_205, s210_207, s210_208, s210_209, s210_212, s210_213, s210_214, s210_215, s210_218, s210_221, s210_224, s210_227, s210_228, s210_231, s210_233, s210_234, s210_235, s210_238, s210_239, s210_240, s210_241, s210_242, s210_243, s210_246, s210_247, s210_248, s210_249, s210_250, q_0, q_1, q_2, q_3, q_4, q_5, q_6, q_7, q_8, q_9, q_10, q_11, q_12, q_13, q_14, q_16, q_20, q_23, q_24, q_32, q_42, q_43, q_45, q_47, q_48, q_50, q_57, q_59, q_60, q_61, q_62, q_63, q_64, q_66, q_91, q_93, q_97, q_99, q_122, q_144, q_255, q_256, q_300, q_380, q_400, q_620, q_999, q_1000, q_4095, q_4096, q_9999, q_65536, q_99999, q_31, nI_add, pk_mul, nE, nL, nT, nM31, nShl, ib_nI, nI_clamp, bI_n0, bI_n1, bI_nar, uI_r, uI_l, uL_r, uL_i, uL_p, uA_r, uA_l, bV_some, bU_some, nar_n0, nar_n1, and_self, and_true, true_and, and_false, false_and, if_true, if_false, eq_self, Bool.false_eq_true, Bool.true_eq_false, not_true_eq_false, not_false_eq_true, ↓reduceIte, nlT, nlF, ntT, ntF, neT, neF, ieT, ieF, decide_true, decide_false, Bool.not_true, Bool.not_false, Bool.and_true, Bool.true_and, Bool.and_false, Bool.false_and, Bool.or_true, Bool.true_or, Bool.or_false, Bool.false_or, i2.sc, i2.se, m_has, c1]
    | true =>
      obtain ⟨p, hp⟩ := psF_bit s1 hi c1
      obtain ⟨S2, b1, b2, b3⟩ := m_countsOf i2 hw hr i3 hl (w := w) (t := i) (by omega) (by omega) hp
      refine Or.inr ⟨S2, ⟨i1.tr (b2.pl (by simp)), i2.pl b2 (by decide), i3.pl b2 (by decide), ?_⟩, ?_⟩
      · intro p' hp'
        rw [(b3 p').1, (b3 p').2, (i4 p' hp').1, (i4 p' hp').2]
        rw [pdF_s, nnF_s]
        simp only [c1, if_true, nI_add]
        exact ⟨trivial, trivial⟩
      · simp (disch := omega) only [s210_0, s210_1, s210_2, s210_3, s210_6, s210_7, s210_8, s210_11, s210_12, s210_13, s210_15, s210_16, s210_20, s210_22, s210_25, s210_26, s210_29, s210_31, s210_32, s210_33, s210_34, s210_37, s210_39, s210_40, s210_41, s210_44, s210_47, s210_48, s210_52, s210_53, s210_56, s210_57, s210_58, s210_61, s210_62, s210_65, s210_66, s210_67, s210_69, s210_72, s210_75, s210_76, s210_77, s210_78, s210_80, s210_83, s210_86, s210_89, s210_90, s210_94, s210_96, s210_99, s210_101, s210_103, s210_106, s210_107, s210_110, s210_112, s210_113, s210_116, s210_118, s210_119, s210_120, s210_123, s210_125, s210_126, s210_127, s210_130, s210_133, s210_136, s210_139, s210_140, s210_143, s210_145, s210_146, s210_147, s210_150, s210_152, s210_153, s210_154, s210_155, s210_156, s210_159, s210_161, s210_163, s210_164, s210_166, s210_167, s210_168, s210_169, s210_170, s210_173, s210_175, s210_176, s210_177, s210_178, s210_181, s210_184, s210_185, s210_188, s210_190, s210_191, s210_192, s210_193, s210_194, s210_195, s210_196, s210_199, s210_201, s210_202, s210_205, s210_207, s210_208, s210_209, s210_212, s210_213, s210_214, s210_215, s210_218, s210_221, s210_224, s210_227, s210_228, s210_231, s210_233, s210_234, s210_235, s210_238, s210_239, s210_240, s210_241, s210_242, s210_243, s210_246, s210_247, s210_248, s210_249, s210_250, q_0, q_1, q_2, q_3, q_4, q_5, q_6, q_7, q_8, q_9, q_10, q_11, q_12, q_13, q_14, q_16, q_20, q_23, q_24, q_32, q_42, q_43, q_45, q_47, q_48, q_50, q_57, q_59, q_60, q_61, q_62, q_63, q_64, q_66, q_91, q_93, q_97, q_99, q_122, q_144, q_255, q_256, q_300, q_380, q_400, q_620, q_999, q_1000, q_4095, q_4096, q_9999, q_65536, q_99999, q_31, nI_add, pk_mul, nE, nL, nT, nM31, nShl, ib_nI, nI_clamp, bI_n0, bI_n1, bI_nar, uI_r, uI_l, uL_r, uL_i, uL_p, uA_r, uA_l, bV_some, bU_some, nar_n0, nar_n1, and_self, and_true, true_and, and_false, false_and, if_true, if_false, eq_self, Bool.false_eq_true, Bool.true_eq_false, not_true_eq_false, not_false_eq_true, ↓reduceIte, nlT, nlF, ntT, ntF, neT, neF, ieT, ieF, decide_true, decide_false, Bool.not_true, Bool.not_false, Bool.and_true, Bool.true_and, Bool.and_false, Bool.false_and, Bool.or_true, Bool.true_or, Bool.or_false, Bool.false_or, i2.sc, i2.se, m_has, c1, b1]) (by
    intro S1 hI
    obtain ⟨i1, i2, i3, i4⟩ := hI
    show ∃ S', run 210 0 50 _ _ _ = _ ∧ _
    rw [s210_50]
    simp (disch := omega) only [s210_0, s210_1, s210_2, s210_3, s210_6, s210_7, s210_8, s210_11, s210_12, s210_13, s210_15, s210_16, s210_20, s210_22, s210_25, s210_26, s210_29, s210_31, s210_32, s210_33, s210_34, s210_37, s210_39, s210_40, s210_41, s210_44, s210_47, s210_48, s210_52, s210_53, s210_56, s210_57, s210_58, s210_61, s210_62, s210_65, s210_66, s210_67, s210_69, s210_72, s210_75, s210_76, s210_77, s210_78, s210_80, s210_83, s210_86, s210_89, s210_90, s210_94, s210_96, s210_99, s210_101, s210_103, s210_106, s210_107, s210_110, s210_112, s210_113, s210_116, s210_118, s210_119, s210_120, s210_123, s210_125, s210_126, s210_127, s210_130, s210_133, s210_136, s210_139, s210_140, s210_143, s210_145, s210_146, s210_147, s210_150, s210_152, s210_153, s210_154, s210_155, s210_156, s210_159, s210_161, s210_163, s210_164, s210_166, s210_167, s210_168, s210_169, s210_170, s210_173, s210_175, s210_176, s210_177, s210_178, s210_181, s210_184, s210_185, s210_188, s210_190, s210_191, s210_192, s210_193, s210_194, s210_195, s210_196, s210_199, s210_201, s210_202, s210_205, s210_207, s210_208, s210_209, s210_212, s210_213, s210_214, s210_215, s210_218, s210_221, s210_224, s210_227, s210_228, s210_231, s210_233, s210_234, s210_235, s210_238, s210_239, s210_240, s210_241, s210_242, s210_243, s210_246, s210_247, s210_248, s210_249, s210_250, q_0, q_1, q_2, q_3, q_4, q_5, q_6, q_7, q_8, q_9, q_10, q_11, q_12, q_13, q_14, q_16, q_20, q_23, q_24, q_32, q_42, q_43, q_45, q_47, q_48, q_50, q_57, q_59, q_60, q_61, q_62, q_63, q_64, q_66, q_91, q_93, q_97, q_99, q_122, q_144, q_255, q_256, q_300, q_380, q_400, q_620, q_999, q_1000, q_4095, q_4096, q_9999, q_65536, q_99999, q_31, nI_add, pk_mul, nE, nL, nT, nM31, nShl, ib_nI, nI_clamp, bI_n0, bI_n1, bI_nar, uI_r, uI_l, uL_r, uL_i, uL_p, uA_r, uA_l, bV_some, bU_some, nar_n0, nar_n1, and_self, and_true, true_and, and_false, false_and, if_true, if_false, eq_self, Bool.false_eq_true, Bool.true_eq_false, not_true_eq_false, not_false_eq_true, ↓reduceIte, nlT, nlF, ntT, ntF, neT, neF, ieT, ieF, decide_true, decide_false, Bool.not_true, Bool.not_false, Bool.and_true, Bool.true_and, Bool.and_false, Bool.false_and, Bool.or_true, Bool.true_or, Bool.or_false, Bool.false_or, i2.sc]
    exact L3 S1 ⟨i1, i2, i4⟩) 0 S3 (by omega) hI
  have key := upS (σ := Sto) (I := fun i S2 => Fr (pL [78, 79]) S1 S2 ∧ ∀ p, p < i → S2.1 78 0 p = nI 0 ∧ S2.1 79 0 p = nI 0) (F := fun i S1 => run 210 0 18 [vR 50 0, vI (nI r), vI (nI w), vI (nI s), vI (nI (A 10 w)), vI (nI i)] [] S1) (Q := fun x => ∃ S', x = some (some (vI (nI s)), S') ∧ Fr (pL [52, 57, 65, 76, 77, 78, 79]) S S' ∧ RepM S' (doT A L w)) (N := 12) ?_ ?_ 0 S1 (by omega) ⟨Fr.rfl', fun p hp => by omega⟩
  · exact key
  · intro i S2 hi hI
    refine Or.inr ⟨uI (uI S2 78 0 i (nI 0)) 79 0 i (nI 0), ⟨(hI.1.uI rfl).uI rfl, ?_⟩, ?_⟩
    · intro p hp
      simp only [uI_r]
      by_cases e : p = i
      · subst e
        simp
      · have := hI.2 p (by omega)
        simp [e, this]
    · show run 210 0 18 _ _ _ = run 210 0 18 _ _ _
      rw [s210_18]
      simp (disch := omega) only [s210_0, s210_1, s210_2, s210_3, s210_6, s210_7, s210_8, s210_11, s210_12, s210_13, s210_15, s210_16, s210_20, s210_22, s210_25, s210_26, s210_29, s210_31, s210_32, s210_33, s210_34, s210_37, s210_39, s210_40, s210_41, s210_44, s210_47, s210_48, s210_52, s210_53, s210_56, s210_57, s210_58, s210_61, s210_62, s210_65, s210_66, s210_67, s210_69, s210_72, s210_75, s210_76, s210_77, s210_78, s210_80, s210_83, s210_86, s210_89, s210_90, s210_94, s210_96, s210_99, s210_101, s210_103, s210_106, s210_107, s210_110, s210_112, s210_113, s210_116, s210_118, s210_119, s210_120, s210_123, s210_125, s210_126, s210_127, s210_130, s210_133, s210_136, s210_139, s210_140, s210_143, s210_145, s210_146, s210_147, s210_150, s210_152, s210_153, s210_154, s210_155, s210_156, s210_159, s210_161, s210_163, s210_164, s210_166, s210_167, s210_168, s210_169, s210_170, s210_173, s210_175, s210_176, s210_177, s210_178, s210_181, s210_184, s210_185, s210_188, s210_190, s210_191, s210_192, s210_193, s210_194, s210_195, s210_196, s210_199, s210_201, s210_202, s210_205, s210_207, s210_208, s210_209, s210_212, s210_213, s210_214, s210_215, s210_218, s210_221, s210_224, s210_227, s210_228, s210_231, s210_233, s210_234, s210_235, s210_238, s210_239, s210_240, s210_241, s210_242, s210_243, s210_246, s210_247, s210_248, s210_249, s210_250, q_0, q_1, q_2, q_3, q_4, q_5, q_6, q_7, q_8, q_9, q_10, q_11, q_12, q_13, q_14, q_16, q_20, q_23, q_24, q_32, q_42, q_43, q_45, q_47, q_48, q_50, q_57, q_59, q_60, q_61, q_62, q_63, q_64, q_66, q_91, q_93, q_97, q_99, q_122, q_144, q_255, q_256, q_300, q_380, q_400, q_620, q_999, q_1000, q_4095, q_4096, q_9999, q_65536, q_99999, q_31, nI_add, pk_mul, nE, nL, nT, nM31, nShl, ib_nI, nI_clamp, bI_n0, bI_n1, bI_nar, uI_r, uI_l, uL_r, uL_i, uL_p, uA_r, uA_l, bV_some, bU_some, nar_n0, nar_n1, and_self, and_true, true_and, and_false, false_and, if_true, if_false, eq_self, Bool.false_eq_true, Bool.true_eq_false, not_true_eq_false, not_false_eq_true, ↓reduceIte, nlT, nlF, ntT, ntF, neT, neF, ieT, ieF, decide_true, decide_false, Bool.not_true, Bool.not_false, Bool.and_true, Bool.true_and, Bool.and_false, Bool.false_and, Bool.or_true, Bool.true_or, Bool.or_false, Bool.false_or]
  · intro S2 hI
    show ∃ S', run 210 0 18 [vR 50 0, vI (nI r), vI (nI w), vI (nI s), vI (nI (A 10 w)), vI (nI 12)] [] S2 = _ ∧ _
    rw [s210_18]
    simp (disch := omega) only [s210_0, s210_1, s210_2, s210_3, s210_6, s210_7, s210_8, s210_11, s210_12, s210_13, s210_15, s210_16, s210_20, s210_22, s210_25, s210_26, s210_29, s210_31, s210_32, s210_33, s210_34, s210_37, s210_39, s210_40, s210_41, s210_44, s210_47, s210_48, s210_52, s210_53, s210_56, s210_57, s210_58, s210_61, s210_62, s210_65, s210_66, s210_67, s210_69, s210_72, s210_75, s210_76, s210_77, s210_78, s210_80, s210_83, s210_86, s210_89, s210_90, s210_94, s210_96, s210_99, s210_101, s210_103, s210_106, s210_107, s210_110, s210_112, s210_113, s210_116, s210_118, s210_119, s210_120, s210_123, s210_125, s210_126, s210_127, s210_130, s210_133, s210_136, s210_139, s210_140, s210_143, s210_145, s210_146, s210_147, s210_150, s210_152, s210_153, s210_154, s210_155, s210_156, s210_159, s210_161, s210_163, s210_164, s210_166, s210_167, s210_168, s210_169, s210_170, s210_173, s210_175, s210_176, s210_177, s210_178, s210_181, s210_184, s210_185, s210_188, s210_190, s210_191, s210_192, s210_193, s210_194, s210_195, s210_196, s210_199, s210_201, s210_202, s210_205, s210_207, s210_208, s210_209, s210_212, s210_213, s210_214, s210_215, s210_218, s210_221, s210_224, s210_227, s210_228, s210_231, s210_233, s210_234, s210_235, s210_238, s210_239, s210_240, s210_241, s210_242, s210_243, s210_246, s210_247, s210_248, s210_249, s210_250, q_0, q_1, q_2, q_3, q_4, q_5, q_6, q_7, q_8, q_9, q_10, q_11, q_12, q_13, q_14, q_16, q_20, q_23, q_24, q_32, q_42, q_43, q_45, q_47, q_48, q_50, q_57, q_59, q_60, q_61, q_62, q_63, q_64, q_66, q_91, q_93, q_97, q_99, q_122, q_144, q_255, q_256, q_300, q_380, q_400, q_620, q_999, q_1000, q_4095, q_4096, q_9999, q_65536, q_99999, q_31, nI_add, pk_mul, nE, nL, nT, nM31, nShl, ib_nI, nI_clamp, bI_n0, bI_n1, bI_nar, uI_r, uI_l, uL_r, uL_i, uL_p, uA_r, uA_l, bV_some, bU_some, nar_n0, nar_n1, and_self, and_true, true_and, and_false, false_and, if_true, if_false, eq_self, Bool.false_eq_true, Bool.true_eq_false, not_true_eq_false, not_false_eq_true, ↓reduceIte, nlT, nlF, ntT, ntF, neT, neF, ieT, ieF, decide_true, decide_false, Bool.not_true, Bool.not_false, Bool.and_true, Bool.true_and, Bool.and_false, Bool.false_and, Bool.or_true, Bool.true_or, Bool.or_false, Bool.false_or]
    exact L2 S2 ⟨(a2.pl (by simp)).tr (hI.1.pl (by simp)), h1.pl hI.1 (by decide), hL1.pl hI.1 (by decide), hI.2⟩
