/-! one dies -/
theorem find_cg {l : List Nat} {P Q : Nat → Bool} (h : ∀ p, p ∈ l → P p = Q p) : l.find? P = l.find? Q := by
  induction l with
  | nil => rfl
  | cons a l ih =>
    rw [List.find?_cons, List.find?_cons, h a (List.mem_cons_self ..), ih (fun p hp => h p (List.mem_cons_of_mem _ hp))]
theorem mlF_cg {B C : Tn} {m : Nat} (h2 : B 2 = C 2) (h4 : B 4 = C 4) : ∀ n, mlF B m n = mlF C m n
  | 0 => rfl
  | n + 1 => by rw [mlF_s, mlF_s, mlF_cg h2 h4 n, h2, h4]
theorem flF_ex {B : Tn} {k : Nat} : ∀ n, (∀ p, k ≤ p → p < k + n → B 2 p ≠ 1) → flF B (k + n) = flF B k
  | 0, _ => rfl
  | n + 1, h => by
    show flF B (k + n + 1) = _
    have ih := flF_ex n (fun p h1 h2 => h p h1 (by omega))
    have h1 := h (k + n) (by omega) (by omega)
    rw [flF_s, ih]
    cases flF B k with
    | none => simp [h1]
    | some b => rfl
theorem tkO_cg {B C : Tn} {l : List Nat} {m : Nat} (h2 : B 2 = C 2) (h4 : B 4 = C 4) : tkO B l m = tkO C l m := by
  unfold tkO
  rw [h2, mlF_cg h2 h4]
def clF (A : Tn) (o : Nat) : Nat → Tn
  | 0 => A
  | n + 1 => uQ (clF A o n) o n 0
theorem clF_s (A : Tn) (o n : Nat) : clF A o (n + 1) = uQ (clF A o n) o n 0 := rfl
theorem clF_f {A : Tn} {o f : Nat} (h : f ≠ 5) : ∀ n, clF A o n f = A f
  | 0 => rfl
  | n + 1 => by
    rw [clF_s]
    funext i
    rw [uQ_r, if_neg (by omega), if_neg (by omega), clF_f h n]
theorem clF_5 {A C : Tn} {o : Nat} (h : C 5 = A 5) : ∀ n, clF C o n 5 = clF A o n 5
  | 0 => h
  | n + 1 => by
    rw [clF_s, clF_s]
    funext i
    rw [uQ_r, uQ_r, clF_5 h n]
theorem clF_z {A : Tn} {o i : Nat} (h : A 5 i = 0) : ∀ n, clF A o n 5 i = 0
  | 0 => h
  | n + 1 => by
    rw [clF_s, uQ_r]
    split
    · rfl
    · split
      · rfl
      · exact clF_z h n
theorem uQ_z {A : Tn} {a b : Nat} (h1 : A 5 (12 * a + b) = 0) (h2 : A 5 (12 * b + a) = 0) : uQ A a b 0 = A := by
  funext f i
  rw [uQ_r]
  split
  · rename_i e
    rw [e.1, e.2, h2]
  · split
    · rename_i e
      rw [e.1, e.2, h1]
    · rfl
theorem clF_ex {A : Tn} {o : Nat} (hw : WF A) (ho : o < 12) : ∀ n, A 0 0 + n ≤ 12 → ∀ C : Tn, C 5 = A 5 → clF C o (A 0 0 + n) = clF C o (A 0 0)
  | 0, _, _, _ => rfl
  | n + 1, h, C, hC => by
    have ih := clF_ex hw ho n (by omega) C hC
    show clF C o (A 0 0 + n + 1) = _
    have z : ∀ a b, a < 12 → b < 12 → (A 0 0 ≤ a ∨ A 0 0 ≤ b) → C 5 (12 * a + b) = 0 := by
      intro a b ha hb hc
      rw [hC]
      have h1 := hw.qu (i := 12 * a + b) (by omega)
      by_cases q : A 5 (12 * a + b) = 1
      · have := hw.qp ha hb q
        omega
      · omega
    rw [clF_s, uQ_z (clF_z (z _ _ ho (by omega) (by omega)) _) (clF_z (z _ _ (by omega) ho (by omega)) _)]
    exact ih
theorem clF_W {A : Tn} {o : Nat} (hw : WF A) (ho : o < A 0 0) : ∀ n, n ≤ A 0 0 → WF (clF A o n)
  | 0, _ => hw
  | n + 1, h => by
    have ih := clF_W hw ho n (by omega)
    have hP := hw.pe
    rw [clF_s]
    by_cases e : o = n
    · subst e
      rw [uQ_z (clF_z (hw.qd (by omega)) _) (clF_z (hw.qd (by omega)) _)]
      exact ih
    · have e0 : clF A o n 0 = A 0 := clF_f (by decide) n
      exact ih.s_qu (by rw [e0]; exact ho) (by rw [e0]; omega) e (by decide)
def hoF (C : Tn) (l : List Nat) (o : Nat) : Nat → Nat → Tn → Nat → Tn × Nat
  | 0, _, B, c => (B, c)
  | m + 1, i, B, c => if ow B i = o then hoF C l o m (i + 1) (uO B i ((tkO C l (ow B (i ^^^ 1))).getD 0)) (c + 1) else hoF C l o m (i + 1) B c
theorem hoF_s (C : Tn) (l : List Nat) (o m i : Nat) (B : Tn) (c : Nat) : hoF C l o (m + 1) i B c = if ow B i = o then hoF C l o m (i + 1) (uO B i ((tkO C l (ow B (i ^^^ 1))).getD 0)) (c + 1) else hoF C l o m (i + 1) B c := rfl
def HO (C : Tn) (o i : Nat) (B : Tn) : Prop := (∀ f, f ≠ 7 → f ≠ 8 → B f = C f) ∧ (∀ k, k < 48 → ow B k < 12) ∧ ∀ k, k < 2 * C 0 1 → ow B k < C 0 0 ∧ ow B k ≠ ow B (k ^^^ 1) ∧ (C 2 (ow B k) = 1 ∨ ow B k = o) ∧ (k < i → ow B k ≠ o)
/-- whom the dead one's halves go to -/
def TK (C : Tn) (l : List Nat) (o : Nat) : Prop := ∀ m, ∃ p, tkO C l m = some p ∧ p < 12 ∧ p < C 0 0 ∧ C 2 p = 1 ∧ p ≠ m ∧ p ≠ o
theorem HO.step {C : Tn} {l : List Nat} {o i : Nat} {B : Tn} (h : HO C o i B) (hT : C 0 1 ≤ 24) (ht : TK C l o) (hi : i < 2 * C 0 1) : (ow B i = o → HO C o (i + 1) (uO B i ((tkO C l (ow B (i ^^^ 1))).getD 0))) ∧ (ow B i ≠ o → HO C o (i + 1) B) := by
  obtain ⟨h1, h2, h3⟩ := h
  refine ⟨fun e => ?_, fun e => ⟨h1, h2, fun k hk => ?_⟩⟩
  · obtain ⟨p, p1, p2, p3, p4, p5, p6⟩ := ht (ow B (i ^^^ 1))
    rw [p1, Option.getD_some]
    have hx := x1_2 i
    refine ⟨fun f h7 h8 => ?_, fun k hk => ?_, fun k hk => ?_⟩
    · rw [← h1 f h7 h8]
      funext j
      exact uO_f h7 h8
    · rw [ow_uO]
      split
      · exact p2
      · exact h2 k hk
    · have h4 := h3 k hk
      have hy := x1_2 k
      rw [ow_uO, ow_uO]
      by_cases e1 : k = i
      · subst e1
        rw [if_pos rfl, if_neg (by omega)]
        exact ⟨p3, p5, Or.inl p4, fun _ => p6⟩
      · rw [if_neg e1]
        by_cases e2 : k ^^^ 1 = i
        · have e3 : i ^^^ 1 = k := by
            rw [← e2, Nat.xor_assoc, Nat.xor_self, Nat.xor_zero]
          rw [if_pos e2]
          rw [e3] at p5
          exact ⟨h4.1, Ne.symm p5, h4.2.2.1, fun q => h4.2.2.2 (by omega)⟩
        · rw [if_neg e2]
          exact ⟨h4.1, h4.2.1, h4.2.2.1, fun q => h4.2.2.2 (by omega)⟩
  · have h4 := h3 k hk
    refine ⟨h4.1, h4.2.1, h4.2.2.1, fun q => ?_⟩
    by_cases e1 : k = i
    · subst e1; exact e
    · exact h4.2.2.2 (by omega)
theorem hoF_H {C : Tn} {l : List Nat} {o : Nat} (hT : C 0 1 ≤ 24) (ht : TK C l o) : ∀ {m i : Nat} {B : Tn} {c : Nat}, i + m = 2 * C 0 1 → HO C o i B → HO C o (2 * C 0 1) (hoF C l o m i B c).1
  | 0, i, B, c, he, h => by
    have : i = 2 * C 0 1 := by omega
    subst this
    exact h
  | m + 1, i, B, c, he, h => by
    have hs := h.step hT ht (by omega)
    rw [hoF_s]
    split
    · rename_i e
      exact hoF_H hT ht (by omega) (hs.1 e)
    · rename_i e
      exact hoF_H hT ht (by omega) (hs.2 e)
theorem find_m {l : List Nat} {m : Nat} {C : Tn} (hw : LW l) (hm : m < 12) : l.find? (fiP C (nI m)) = l.find? (fun p => C 2 p == 1 && !(p == m)) := by
  apply find_cg
  intro p hp
  have := hw.1 p hp
  unfold fiP
  congr 2
  rw [Bool.eq_iff_iff]
  simp [nI_eq (show p < 2 ^ 31 by omega) (show m < 2 ^ 31 by omega)]
theorem find_0 {l : List Nat} {C : Tn} (hw : LW l) : l.find? (fiP C (-nI 1)) = l.find? (fun p => C 2 p == 1) := by
  apply find_cg
  intro p hp
  have := hw.1 p hp
  unfold fiP
  simp only [nN1 (show p < 2 ^ 31 by omega), decide_false, Bool.not_false, Bool.and_true]
theorem x_handOn {S : Sto} {q : Nat} {C : Tn} {l : List Nat} {o : Nat} (h : RepC S q C) (hl : LnC S l) (hw : LW l) (hP : C 0 0 ≤ 12) (hT : C 0 1 ≤ 24) (h4 : ∀ i, i < 144 → C 4 i ≤ 18) (hlv : ∀ p, p < 12 → C 2 p = 1 → p < C 0 0) (ht : TK C l o) (hH : HO C o 0 C) (ho : o < 12) : ∃ S', call 9 0 [vR 41 0, vR 1 q, vI (nI o)] S = some (some (vI (nI (hoF C l o (2 * C 0 1) 0 C 0).2)), S') ∧ Fr (pT q) S S' ∧ RepC S' q (hoF C l o (2 * C 0 1) 0 C 0).1 := by
  show ∃ S', run 9 0 0 [vR 41 0, vR 1 q, vI (nI o), vU, vU, vU, vU] [] S = _ ∧ _
  simp only [s9_0, s9_1, s9_2, s9_3]
  have key := upS (σ := ((Sto × av) × av) × Tn × Nat) (I := fun i s => hoF C l o (2 * C 0 1 - i) i s.2.1 s.2.2 = hoF C l o (2 * C 0 1) 0 C 0 ∧ Fr (pT q) S s.1.1.1 ∧ RepC s.1.1.1 q s.2.1 ∧ HO C o i s.2.1) (F := fun i s => run 9 0 5 [vR 41 0, vR 1 q, vI (nI o), vI (nI s.2.2), vI (nI i), s.1.1.2, s.1.2] [] s.1.1.1) (Q := fun z => ∃ S', z = some (some (vI (nI (hoF C l o (2 * C 0 1) 0 C 0).2)), S') ∧ Fr (pT q) S S' ∧ RepC S' q (hoF C l o (2 * C 0 1) 0 C 0).1) (N := 2 * C 0 1) ?_ ?_ 0 (((S, vU), vU), C, 0) (by omega) ⟨rfl, Fr.rfl', h, hH⟩
  · exact key
  · intro i s hi hI
    obtain ⟨⟨⟨S1, x5⟩, x6⟩, B, c⟩ := s
    obtain ⟨i1, i2, i3, i4⟩ := hI
    simp only at i1 i2 i3 i4
    have em : 2 * C 0 1 - i = (2 * C 0 1 - (i + 1)) + 1 := by omega
    rw [em, hoF_s] at i1
    have b0 : B 0 = C 0 := i4.1 0 (by decide) (by decide)
    have b2 : B 2 = C 2 := i4.1 2 (by decide) (by decide)
    have b4 : B 4 = C 4 := i4.1 4 (by decide) (by decide)
    have r0 : S1.1 1 q 7 = nI (C 0 1) := by rw [i3.th, b0]
    have hx := x1_lt (i := i) (n := C 0 1) hi
    have o1 := i4.2.1 i (by omega)
    have o2 := i4.2.1 (i ^^^ 1) (by omega)
    have w1 := i3.own (i := i) (by omega)
    have w2 := i3.own (i := i ^^^ 1) (by omega)
    have hs := i4.step hT ht hi
    show (∃ S', run 9 0 5 [vR 41 0, vR 1 q, vI (nI o), vI (nI c), vI (nI i), x5, x6] [] S1 = _ ∧ _) ∨ ∃ s', _ ∧ run 9 0 5 [vR 41 0, vR 1 q, vI (nI o), vI (nI c), vI (nI i), x5, x6] [] S1 = _
    rw [s9_5]
    by_cases c1 : ow B i = o
    · rw [if_pos c1] at i1
      obtain ⟨p, p1, p2, p3, p4, p5, p6⟩ := ht (ow B (i ^^^ 1))
      have hs1 := hs.1 c1
      rw [p1, Option.getD_some] at i1 hs1
      have l1 : LnC S1 l := ⟨by rw [i2.i (pT_f (by omega))]; exact hl.1, fun k hk => by rw [i2.i (pT_f (by omega))]; exact hl.2 k hk⟩
      have e1 := x_firstIn i3 l1 hw (nI (ow B (i ^^^ 1)))
      rw [find_m hw o2] at e1
      simp only [b2] at e1
      have e2 := x_mostLiked i3 (by rw [b0]; exact hP) (by rw [b4]; exact h4) o2
      have e3 : mlF B (ow B (i ^^^ 1)) (B 0 0) = mlF C (ow B (i ^^^ 1)) 12 := by
        rw [mlF_cg b2 b4, b0]
        have := mlF_ex (B := C) (m := ow B (i ^^^ 1)) (k := C 0 0) (12 - C 0 0) (fun p h1 h2 h3 => by have := hlv p (by omega) h3; omega)
        rw [show C 0 0 + (12 - C 0 0) = 12 by omega] at this
        exact this.symm
      rw [e3] at e2
      refine Or.inr ⟨(((uI S1 7 q i (nI p), vI (nI (ow B (i ^^^ 1)))), vI (nI p)), uO B i p, c + 1), ⟨i1, i2.uI (pT_t (by decide) (by decide)), i3.s_ow i p rfl, hs1⟩, ?_⟩
      unfold tkO at p1
      cases hf : l.find? (fun p => C 2 p == 1 && !(p == ow B (i ^^^ 1))) with
      | some p' =>
        rw [hf] at p1 e1
        have : p' = p := Option.some.inj p1
        subst this
        simp only [oV] at e1
        simp (disch := omega) only [s9_0, s9_1, s9_2, s9_3, s9_7, s9_8, s9_9, s9_12, s9_13, s9_16, s9_17, s9_20, s9_22, s9_23, s9_24, s9_27, s9_28, s9_31, s9_33, s9_34, s9_35, s9_36, s9_38, s9_39, s9_40, s9_42, s9_45, s9_47, s9_49, s9_50, s9_53, s9_54, s9_56, s9_59, s9_61, s9_63, s9_64, s9_67, s9_68, s9_71, s9_73, s9_75, s9_76, s9_79, s9_82, s9_85, s9_86, q_0, q_1, q_2, q_3, q_4, q_5, q_6, q_7, q_8, q_9, q_10, q_11, q_12, q_13, q_14, q_16, q_20, q_23, q_24, q_32, q_42, q_43, q_45, q_47, q_48, q_50, q_57, q_59, q_60, q_61, q_62, q_63, q_64, q_66, q_91, q_93, q_97, q_99, q_122, q_144, q_255, q_256, q_300, q_380, q_400, q_620, q_999, q_1000, q_4095, q_4096, q_9999, q_65536, q_99999, q_31, nI_add, pk_mul, nE, nL, nT, nM31, nShl, ib_nI, nI_clamp, bI_n0, bI_n1, bI_nar, uI_r, uI_l, uL_r, uL_i, uL_p, uA_r, uA_l, bV_some, bU_some, nar_n0, nar_n1, and_self, and_true, true_and, and_false, false_and, if_true, if_false, eq_self, Bool.false_eq_true, Bool.true_eq_false, not_true_eq_false, not_false_eq_true, ↓reduceIte, nlT, nlF, ntT, ntF, neT, neF, ieT, ieF, decide_true, decide_false, Bool.not_true, Bool.not_false, Bool.and_true, Bool.true_and, Bool.and_false, Bool.false_and, Bool.or_true, Bool.true_or, Bool.or_false, Bool.false_or, r0, w1, w2, nx1, c1, e1, nN1]
      | none =>
        rw [hf] at p1 e1
        dsimp only at p1
        rw [p1] at e2
        simp only [oV] at e1 e2
        simp (disch := omega) only [s9_0, s9_1, s9_2, s9_3, s9_7, s9_8, s9_9, s9_12, s9_13, s9_16, s9_17, s9_20, s9_22, s9_23, s9_24, s9_27, s9_28, s9_31, s9_33, s9_34, s9_35, s9_36, s9_38, s9_39, s9_40, s9_42, s9_45, s9_47, s9_49, s9_50, s9_53, s9_54, s9_56, s9_59, s9_61, s9_63, s9_64, s9_67, s9_68, s9_71, s9_73, s9_75, s9_76, s9_79, s9_82, s9_85, s9_86, q_0, q_1, q_2, q_3, q_4, q_5, q_6, q_7, q_8, q_9, q_10, q_11, q_12, q_13, q_14, q_16, q_20, q_23, q_24, q_32, q_42, q_43, q_45, q_47, q_48, q_50, q_57, q_59, q_60, q_61, q_62, q_63, q_64, q_66, q_91, q_93, q_97, q_99, q_122, q_144, q_255, q_256, q_300, q_380, q_400, q_620, q_999, q_1000, q_4095, q_4096, q_9999, q_65536, q_99999, q_31, nI_add, pk_mul, nE, nL, nT, nM31, nShl, ib_nI, nI_clamp, bI_n0, bI_n1, bI_nar, uI_r, uI_l, uL_r, uL_i, uL_p, uA_r, uA_l, bV_some, bU_some, nar_n0, nar_n1, and_self, and_true, true_and, and_false, false_and, if_true, if_false, eq_self, Bool.false_eq_true, Bool.true_eq_false, not_true_eq_false, not_false_eq_true, ↓reduceIte, nlT, nlF, ntT, ntF, neT, neF, ieT, ieF, decide_true, decide_false, Bool.not_true, Bool.not_false, Bool.and_true, Bool.true_and, Bool.and_false, Bool.false_and, Bool.or_true, Bool.true_or, Bool.or_false, Bool.false_or, r0, w1, w2, nx1, c1, e1, e2, nN1]
    · rw [if_neg c1] at i1
      refine Or.inr ⟨(((S1, x5), x6), B, c), ⟨i1, i2, i3, hs.2 c1⟩, ?_⟩
      simp (disch := omega) only [s9_0, s9_1, s9_2, s9_3, s9_7, s9_8, s9_9, s9_12, s9_13, s9_16, s9_17, s9_20, s9_22, s9_23, s9_24, s9_27, s9_28, s9_31, s9_33, s9_34, s9_35, s9_36, s9_38, s9_39, s9_40, s9_42, s9_45, s9_47, s9_49, s9_50, s9_53, s9_54, s9_56, s9_59, s9_61, s9_63, s9_64, s9_67, s9_68, s9_71, s9_73, s9_75, s9_76, s9_79, s9_82, s9_85, s9_86, q_0, q_1, q_2, q_3, q_4, q_5, q_6, q_7, q_8, q_9, q_10, q_11, q_12, q_13, q_14, q_16, q_20, q_23, q_24, q_32, q_42, q_43, q_45, q_47, q_48, q_50, q_57, q_59, q_60, q_61, q_62, q_63, q_64, q_66, q_91, q_93, q_97, q_99, q_122, q_144, q_255, q_256, q_300, q_380, q_400, q_620, q_999, q_1000, q_4095, q_4096, q_9999, q_65536, q_99999, q_31, nI_add, pk_mul, nE, nL, nT, nM31, nShl, ib_nI, nI_clamp, bI_n0, bI_n1, bI_nar, uI_r, uI_l, uL_r, uL_i, uL_p, uA_r, uA_l, bV_some, bU_some, nar_n0, nar_n1, and_self, and_true, true_and, and_false, false_and, if_true, if_false, eq_self, Bool.false_eq_true, Bool.true_eq_false, not_true_eq_false, not_false_eq_true, ↓reduceIte, nlT, nlF, ntT, ntF, neT, neF, ieT, ieF, decide_true, decide_false, Bool.not_true, Bool.not_false, Bool.and_true, Bool.true_and, Bool.and_false, Bool.false_and, Bool.or_true, Bool.true_or, Bool.or_false, Bool.false_or, r0, w1, c1]
  · intro s hI
    obtain ⟨⟨⟨S1, x5⟩, x6⟩, B, c⟩ := s
    obtain ⟨i1, i2, i3, i4⟩ := hI
    simp only [Nat.sub_self] at i1 i2 i3 i4
    have i1' : (B, c) = hoF C l o (2 * C 0 1) 0 C 0 := i1
    have b0 : B 0 = C 0 := i4.1 0 (by decide) (by decide)
    have r0 : S1.1 1 q 7 = nI (C 0 1) := by rw [i3.th, b0]
    rw [← i1']
    show ∃ S', run 9 0 5 [vR 41 0, vR 1 q, vI (nI o), vI (nI c), vI (nI (2 * C 0 1)), x5, x6] [] S1 = _ ∧ _
    rw [s9_5]
    simp (disch := omega) only [s9_0, s9_1, s9_2, s9_3, s9_7, s9_8, s9_9, s9_12, s9_13, s9_16, s9_17, s9_20, s9_22, s9_23, s9_24, s9_27, s9_28, s9_31, s9_33, s9_34, s9_35, s9_36, s9_38, s9_39, s9_40, s9_42, s9_45, s9_47, s9_49, s9_50, s9_53, s9_54, s9_56, s9_59, s9_61, s9_63, s9_64, s9_67, s9_68, s9_71, s9_73, s9_75, s9_76, s9_79, s9_82, s9_85, s9_86, q_0, q_1, q_2, q_3, q_4, q_5, q_6, q_7, q_8, q_9, q_10, q_11, q_12, q_13, q_14, q_16, q_20, q_23, q_24, q_32, q_42, q_43, q_45, q_47, q_48, q_50, q_57, q_59, q_60, q_61, q_62, q_63, q_64, q_66, q_91, q_93, q_97, q_99, q_122, q_144, q_255, q_256, q_300, q_380, q_400, q_620, q_999, q_1000, q_4095, q_4096, q_9999, q_65536, q_99999, q_31, nI_add, pk_mul, nE, nL, nT, nM31, nShl, ib_nI, nI_clamp, bI_n0, bI_n1, bI_nar, uI_r, uI_l, uL_r, uL_i, uL_p, uA_r, uA_l, bV_some, bU_some, nar_n0, nar_n1, and_self, and_true, true_and, and_false, false_and, if_true, if_false, eq_self, Bool.false_eq_true, Bool.true_eq_false, not_true_eq_false, not_false_eq_true, ↓reduceIte, nlT, nlF, ntT, ntF, neT, neF, ieT, ieF, decide_true, decide_false, Bool.not_true, Bool.not_false, Bool.and_true, Bool.true_and, Bool.and_false, Bool.false_and, Bool.or_true, Bool.true_or, Bool.or_false, Bool.false_or, r0]
    exact ⟨_, rfl, i2, i3⟩
