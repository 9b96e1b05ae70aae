/-! heirs in line, the most liked -/
theorem ct_ins {P P' : Nat → Bool} {n x : Nat} (hx : x < n) (h0 : P x = false) (h1 : P' x = true) (hk : ∀ k, k < n → k ≠ x → P' k = P k) : ct P' n = ct P n + 1 := by
  have := fsN_1 (f := fun i => if P i then 1 else 0) (f' := fun i => if P' i then 1 else 0) hx (fun k h2 h3 => by
    show (if P' k = true then 1 else 0) = (if P k = true then 1 else 0)
    rw [hk k h2 h3])
  rw [ct_fs, ct_fs]
  simp only [h0, h1, if_true, Bool.false_eq_true, if_false] at this
  omega
def hlF (B : Tn) : Nat → List Nat → Nat → List Nat
  | 0, l, _ => l
  | m + 1, l, x => if (x == 0 || l.contains (x - 1)) = true then l else hlF B m (l ++ [x - 1]) (B 3 (x - 1))
theorem hlF_s (B : Tn) (m : Nat) (l : List Nat) (x : Nat) : hlF B (m + 1) l x = if (x == 0 || l.contains (x - 1)) = true then l else hlF B m (l ++ [x - 1]) (B 3 (x - 1)) := rfl
def LW (l : List Nat) : Prop := (∀ p, p ∈ l → p < 12) ∧ ct (fun p => l.contains p) 12 = l.length
theorem LW.nil : LW [] := ⟨(fun p h => by simp at h), by decide⟩
theorem cont_app (l : List Nat) (x p : Nat) : (l ++ [x]).contains p = (l.contains p || p == x) := by
  rw [Bool.eq_iff_iff]
  simp
theorem LW.push {l : List Nat} (h : LW l) {x : Nat} (hx : x < 12) (hn : l.contains x = false) : LW (l ++ [x]) := by
  refine ⟨fun p hp => ?_, ?_⟩
  · simp only [List.mem_append, List.mem_singleton] at hp
    rcases hp with hp | rfl
    · exact h.1 p hp
    · exact hx
  · rw [ct_ins (P := fun p => l.contains p) hx hn (by show (l ++ [x]).contains x = true; rw [cont_app]; simp) (fun k _ hk => by show (l ++ [x]).contains k = l.contains k; rw [cont_app]; simp [hk]), h.2, List.length_append]
    rfl
theorem LW.le {l : List Nat} (h : LW l) : l.length ≤ 12 := by rw [← h.2]; exact ct_le _ _
theorem hlF_W {B : Tn} (hP : B 0 0 ≤ 12) (h3 : ∀ p, p < B 0 0 → B 3 p ≤ B 0 0) : ∀ {m : Nat} {l : List Nat} {x : Nat}, LW l → x ≤ B 0 0 → (∀ p, p ∈ l → p < B 0 0) → LW (hlF B m l x) ∧ ∀ p, p ∈ hlF B m l x → p < B 0 0
  | 0, _, _, h, _, hl => ⟨h, hl⟩
  | m + 1, l, x, h, hx, hl => by
    rw [hlF_s]
    split
    · exact ⟨h, hl⟩
    · rename_i e
      simp only [Bool.or_eq_true, beq_iff_eq, not_or, Bool.not_eq_true] at e
      refine hlF_W hP h3 (h.push (by omega) e.2) (h3 _ (by omega)) (fun p hp => ?_)
      simp only [List.mem_append, List.mem_singleton] at hp
      rcases hp with hp | rfl
      · exact hl p hp
      · omega
def LnC (S : Sto) (l : List Nat) : Prop := S.1 41 0 1 = nI l.length ∧ ∀ i, i < l.length → S.1 42 0 i = nI (l.getD i 0)
theorem getD_app {l : List Nat} {x i : Nat} (hi : i < l.length + 1) : (l ++ [x]).getD i 0 = if i = l.length then x else l.getD i 0 := by
  by_cases e : i = l.length
  · subst e
    simp
  · have h2 : i < l.length := by omega
    simp [e, List.getElem?_append_left h2]
theorem x_findLine {S : Sto} {q : Nat} {B : Tn} {o : Nat} (h : RepC S q B) (hP : B 0 0 ≤ 12) (h3 : ∀ p, p < B 0 0 → B 3 p ≤ B 0 0) (ho : o < B 0 0) : ∃ S', call 6 0 [vR 41 0, vR 1 q, vI (nI o)] S = some (none, S') ∧ Fr (pL [41, 42]) S S' ∧ LnC S' (hlF B 12 [] (B 3 o)) := by
  show ∃ S', run 6 0 0 [vR 41 0, vR 1 q, vI (nI o), vU, vU] [] S = _ ∧ _
  simp (disch := omega) only [s6_0, s6_1, s6_2, s6_5, s6_6, s6_7, s6_8, s6_11, s6_12, s6_13, s6_16, s6_19, s6_21, s6_24, s6_25, s6_27, s6_30, s6_33, s6_34, s6_36, s6_39, s6_42, s6_43, s6_46, s6_47, s6_48, s6_51, s6_52, s6_53, s6_54, s6_57, s6_59, s6_60, s6_61, s6_62, s6_64, s6_65, s6_66, s6_67, s6_68, s6_71, s6_73, s6_74, s6_76, s6_79, q_0, q_1, q_2, q_3, q_4, q_5, q_6, q_7, q_8, q_9, q_10, q_11, q_12, q_13, q_14, q_16, q_20, q_23, q_24, q_32, q_42, q_43, q_45, q_47, q_48, q_50, q_57, q_59, q_60, q_61, q_62, q_63, q_64, q_66, q_91, q_93, q_97, q_99, q_122, q_144, q_255, q_256, q_300, q_380, q_400, q_620, q_999, q_1000, q_4095, q_4096, q_9999, q_65536, q_99999, q_31, nI_add, pk_mul, nE, nL, nT, nM31, nShl, ib_nI, nI_clamp, bI_n0, bI_n1, bI_nar, uI_r, uI_l, uL_r, uL_i, uL_p, uA_r, uA_l, bV_some, bU_some, nar_n0, nar_n1, and_self, and_true, true_and, and_false, false_and, if_true, if_false, eq_self, Bool.false_eq_true, Bool.true_eq_false, not_true_eq_false, not_false_eq_true, ↓reduceIte, nlT, nlF, ntT, ntF, neT, neF, ieT, ieF, decide_true, decide_false, Bool.not_true, Bool.not_false, Bool.and_true, Bool.true_and, Bool.and_false, Bool.false_and, Bool.or_true, Bool.true_or, Bool.or_false, Bool.false_or, h.he]
  have fu : Fr (pL [41, 42]) S (uI S 41 0 1 (nI 0)) := Fr.rfl'.uI rfl
  have key := upS (σ := Sto × List Nat × Nat) (I := fun i s => (s.2.1.length = i ∧ LW s.2.1 ∧ s.2.2 ≤ B 0 0) ∧ LnC s.1 s.2.1 ∧ Fr (pL [41, 42]) S s.1 ∧ hlF B (12 - i) s.2.1 s.2.2 = hlF B 12 [] (B 3 o)) (F := fun i s => run 6 0 15 [vR 41 0, vR 1 q, vI (nI o), vI (nI (bN (fun p => s.2.1.contains p) 12)), vI (nI s.2.2 - nI 1)] [] s.1) (Q := fun z => ∃ S', z = some (none, S') ∧ Fr (pL [41, 42]) S S' ∧ LnC S' (hlF B 12 [] (B 3 o))) (N := 12) ?_ ?_ 0 (uI S 41 0 1 (nI 0), [], B 3 o) (by omega) ⟨⟨rfl, LW.nil, h3 o ho⟩, ⟨by show (uI S 41 0 1 (nI 0)).1 41 0 1 = _; rw [uI_r, if_pos ⟨rfl, rfl, rfl⟩]; rfl, fun i hi => by simp at hi⟩, fu, rfl⟩
  · exact key
  · intro i s hi hI
    obtain ⟨S1, l, x⟩ := s
    obtain ⟨⟨i1, i2, i3⟩, i4, i5, i6⟩ := hI
    simp only at i1 i2 i3 i4 i5 i6
    have h1 := h.pl i5 (by decide)
    have em : 12 - i = (12 - (i + 1)) + 1 := by omega
    rw [em, hlF_s] at i6
    have r1 := i4.1
    rw [i1] at r1
    have hb := bN_lt (fun p => l.contains p) 12
    show (∃ S', run 6 0 15 [vR 41 0, vR 1 q, vI (nI o), vI (nI (bN (fun p => l.contains p) 12)), vI (nI x - nI 1)] [] S1 = _ ∧ _) ∨ ∃ s', _ ∧ run 6 0 15 [vR 41 0, vR 1 q, vI (nI o), vI (nI (bN (fun p => l.contains p) 12)), vI (nI x - nI 1)] [] S1 = _
    rw [s6_15]
    by_cases c1 : x = 0
    · subst c1
      have e1 : lsB (nI 0 - nI 1) (B 0 0) = false := by
        unfold lsB
        have : (nI 0 - nI 1 : Int32) < 0 := by decide
        simp [this]
      simp only [beq_self_eq_true, Bool.true_or, if_true] at i6
      refine Or.inl ?_
      rw [← i6]
      simp (disch := omega) only [s6_0, s6_1, s6_2, s6_5, s6_6, s6_7, s6_8, s6_11, s6_12, s6_13, s6_16, s6_19, s6_21, s6_24, s6_25, s6_27, s6_30, s6_33, s6_34, s6_36, s6_39, s6_42, s6_43, s6_46, s6_47, s6_48, s6_51, s6_52, s6_53, s6_54, s6_57, s6_59, s6_60, s6_61, s6_62, s6_64, s6_65, s6_66, s6_67, s6_68, s6_71, s6_73, s6_74, s6_76, s6_79, q_0, q_1, q_2, q_3, q_4, q_5, q_6, q_7, q_8, q_9, q_10, q_11, q_12, q_13, q_14, q_16, q_20, q_23, q_24, q_32, q_42, q_43, q_45, q_47, q_48, q_50, q_57, q_59, q_60, q_61, q_62, q_63, q_64, q_66, q_91, q_93, q_97, q_99, q_122, q_144, q_255, q_256, q_300, q_380, q_400, q_620, q_999, q_1000, q_4095, q_4096, q_9999, q_65536, q_99999, q_31, nI_add, pk_mul, nE, nL, nT, nM31, nShl, ib_nI, nI_clamp, bI_n0, bI_n1, bI_nar, uI_r, uI_l, uL_r, uL_i, uL_p, uA_r, uA_l, bV_some, bU_some, nar_n0, nar_n1, and_self, and_true, true_and, and_false, false_and, if_true, if_false, eq_self, Bool.false_eq_true, Bool.true_eq_false, not_true_eq_false, not_false_eq_true, ↓reduceIte, nlT, nlF, ntT, ntF, neT, neF, ieT, ieF, decide_true, decide_false, Bool.not_true, Bool.not_false, Bool.and_true, Bool.true_and, Bool.and_false, Bool.false_and, Bool.or_true, Bool.true_or, Bool.or_false, Bool.false_or, r1, x_isP h1, e1]
      exact ⟨_, rfl, i5, i4⟩
    · have e1 : lsB (nI (x - 1)) (B 0 0) = true := by rw [lsB_n (by omega) (by omega)]; simp; omega
      have e2 : (bN (fun p => l.contains p) 12).testBit (x - 1) = l.contains (x - 1) := by
        rw [bN_bit]
        simp
        omega
      cases c2 : l.contains (x - 1) with
      | true =>
        rw [c2] at e2 i6
        simp only [Bool.or_true, if_true] at i6
        refine Or.inl ?_
        rw [← i6]
        simp (disch := omega) only [s6_0, s6_1, s6_2, s6_5, s6_6, s6_7, s6_8, s6_11, s6_12, s6_13, s6_16, s6_19, s6_21, s6_24, s6_25, s6_27, s6_30, s6_33, s6_34, s6_36, s6_39, s6_42, s6_43, s6_46, s6_47, s6_48, s6_51, s6_52, s6_53, s6_54, s6_57, s6_59, s6_60, s6_61, s6_62, s6_64, s6_65, s6_66, s6_67, s6_68, s6_71, s6_73, s6_74, s6_76, s6_79, q_0, q_1, q_2, q_3, q_4, q_5, q_6, q_7, q_8, q_9, q_10, q_11, q_12, q_13, q_14, q_16, q_20, q_23, q_24, q_32, q_42, q_43, q_45, q_47, q_48, q_50, q_57, q_59, q_60, q_61, q_62, q_63, q_64, q_66, q_91, q_93, q_97, q_99, q_122, q_144, q_255, q_256, q_300, q_380, q_400, q_620, q_999, q_1000, q_4095, q_4096, q_9999, q_65536, q_99999, q_31, nI_add, pk_mul, nE, nL, nT, nM31, nShl, ib_nI, nI_clamp, bI_n0, bI_n1, bI_nar, uI_r, uI_l, uL_r, uL_i, uL_p, uA_r, uA_l, bV_some, bU_some, nar_n0, nar_n1, and_self, and_true, true_and, and_false, false_and, if_true, if_false, eq_self, Bool.false_eq_true, Bool.true_eq_false, not_true_eq_false, not_false_eq_true, ↓reduceIte, nlT, nlF, ntT, ntF, neT, neF, ieT, ieF, decide_true, decide_false, Bool.not_true, Bool.not_false, Bool.and_true, Bool.true_and, Bool.and_false, Bool.false_and, Bool.or_true, Bool.true_or, Bool.or_false, Bool.false_or, r1, nSub, x_isP h1, e1, x_has, e2]
        exact ⟨_, rfl, i5, i4⟩
      | false =>
        rw [c2] at e2 i6
        have c1' : (x == 0) = false := by simp [c1]
        simp only [c1', Bool.or_false, Bool.false_eq_true, if_false] at i6
        have e3 : bN (fun p => l.contains p) 12 ||| 2 ^ (x - 1) = bN (fun p => (l ++ [x - 1]).contains p) 12 := by
          rw [bN_or _ (by omega)]
          apply bN_congr
          intro j _
          exact (cont_app l (x - 1) j).symm
        refine Or.inr ⟨(uI (uI S1 41 0 1 (nI (i + 1))) 42 0 i (nI (x - 1)), l ++ [x - 1], B 3 (x - 1)), ⟨⟨by simp [i1], i2.push (by omega) c2, h3 _ (by omega)⟩, ⟨?_, ?_⟩, (i5.uI rfl).uI rfl, i6⟩, ?_⟩
        · show (uI (uI S1 41 0 1 (nI (i + 1))) 42 0 i (nI (x - 1))).1 41 0 1 = _
          rw [uI_r, if_neg (by omega), uI_r, if_pos ⟨rfl, rfl, rfl⟩]
          simp [i1]
        · intro k hk
          show (uI (uI S1 41 0 1 (nI (i + 1))) 42 0 i (nI (x - 1))).1 42 0 k = nI ((l ++ [x - 1]).getD k 0)
          simp only [List.length_append, List.length_cons, List.length_nil] at hk
          rw [getD_app (by omega), i1, uI_r]
          by_cases e : k = i
          · rw [if_pos ⟨rfl, rfl, e⟩, if_pos e]
          · rw [if_neg (by omega), if_neg e, uI_r, if_neg (by omega)]
            exact i4.2 k (by omega)
        · simp (disch := omega) only [s6_0, s6_1, s6_2, s6_5, s6_6, s6_7, s6_8, s6_11, s6_12, s6_13, s6_16, s6_19, s6_21, s6_24, s6_25, s6_27, s6_30, s6_33, s6_34, s6_36, s6_39, s6_42, s6_43, s6_46, s6_47, s6_48, s6_51, s6_52, s6_53, s6_54, s6_57, s6_59, s6_60, s6_61, s6_62, s6_64, s6_65, s6_66, s6_67, s6_68, s6_71, s6_73, s6_74, s6_76, s6_79, q_0, q_1, q_2, q_3, q_4, q_5, q_6, q_7, q_8, q_9, q_10, q_11, q_12, q_13, q_14, q_16, q_20, q_23, q_24, q_32, q_42, q_43, q_45, q_47, q_48, q_50, q_57, q_59, q_60, q_61, q_62, q_63, q_64, q_66, q_91, q_93, q_97, q_99, q_122, q_144, q_255, q_256, q_300, q_380, q_400, q_620, q_999, q_1000, q_4095, q_4096, q_9999, q_65536, q_99999, q_31, nI_add, pk_mul, nE, nL, nT, nM31, nShl, ib_nI, nI_clamp, bI_n0, bI_n1, bI_nar, uI_r, uI_l, uL_r, uL_i, uL_p, uA_r, uA_l, bV_some, bU_some, nar_n0, nar_n1, and_self, and_true, true_and, and_false, false_and, if_true, if_false, eq_self, Bool.false_eq_true, Bool.true_eq_false, not_true_eq_false, not_false_eq_true, ↓reduceIte, nlT, nlF, ntT, ntF, neT, neF, ieT, ieF, decide_true, decide_false, Bool.not_true, Bool.not_false, Bool.and_true, Bool.true_and, Bool.and_false, Bool.false_and, Bool.or_true, Bool.true_or, Bool.or_false, Bool.false_or, r1, nSub, x_isP h1, e1, x_has, e2, nx_or, e3, h1.he]
  · intro s hI
    obtain ⟨S1, l, x⟩ := s
    obtain ⟨⟨i1, i2, i3⟩, i4, i5, i6⟩ := hI
    simp only [Nat.sub_self] at i1 i2 i3 i4 i5 i6
    have i6' : l = hlF B 12 [] (B 3 o) := i6
    have r1 := i4.1
    rw [i1] at r1
    rw [← i6']
    show ∃ S', run 6 0 15 [vR 41 0, vR 1 q, vI (nI o), vI (nI (bN (fun p => l.contains p) 12)), vI (nI x - nI 1)] [] S1 = _ ∧ _
    rw [s6_15]
    simp (disch := omega) only [s6_0, s6_1, s6_2, s6_5, s6_6, s6_7, s6_8, s6_11, s6_12, s6_13, s6_16, s6_19, s6_21, s6_24, s6_25, s6_27, s6_30, s6_33, s6_34, s6_36, s6_39, s6_42, s6_43, s6_46, s6_47, s6_48, s6_51, s6_52, s6_53, s6_54, s6_57, s6_59, s6_60, s6_61, s6_62, s6_64, s6_65, s6_66, s6_67, s6_68, s6_71, s6_73, s6_74, s6_76, s6_79, q_0, q_1, q_2, q_3, q_4, q_5, q_6, q_7, q_8, q_9, q_10, q_11, q_12, q_13, q_14, q_16, q_20, q_23, q_24, q_32, q_42, q_43, q_45, q_47, q_48, q_50, q_57, q_59, q_60, q_61, q_62, q_63, q_64, q_66, q_91, q_93, q_97, q_99, q_122, q_144, q_255, q_256, q_300, q_380, q_400, q_620, q_999, q_1000, q_4095, q_4096, q_9999, q_65536, q_99999, q_31, nI_add, pk_mul, nE, nL, nT, nM31, nShl, ib_nI, nI_clamp, bI_n0, bI_n1, bI_nar, uI_r, uI_l, uL_r, uL_i, uL_p, uA_r, uA_l, bV_some, bU_some, nar_n0, nar_n1, and_self, and_true, true_and, and_false, false_and, if_true, if_false, eq_self, Bool.false_eq_true, Bool.true_eq_false, not_true_eq_false, not_false_eq_true, ↓reduceIte, nlT, nlF, ntT, ntF, neT, neF, ieT, ieF, decide_true, decide_false, Bool.not_true, Bool.not_false, Bool.and_true, Bool.true_and, Bool.and_false, Bool.false_and, Bool.or_true, Bool.true_or, Bool.or_false, Bool.false_or, r1]
    exact ⟨_, rfl, i5, i4⟩
theorem nar_f : vp_nar .boolean (nI 0) = nI 0 := by decide
theorem m_heirsOf {S : Sto} {B : Tn} {o : Nat} (h : RepM S B) (hP : B 0 0 ≤ 12) (h3 : ∀ p, p < B 0 0 → B 3 p ≤ B 0 0) (ho : o < B 0 0) : ∃ S', call 251 0 [vR 50 0, vI (nI o)] S = some (some (vI (nI (hlF B 12 [] (B 3 o)).length)), S') ∧ Fr (pL [94, 95]) S S' ∧ ∀ i, i < (hlF B 12 [] (B 3 o)).length → S'.1 94 0 i = nI ((hlF B 12 [] (B 3 o)).getD i 0) := by
  have L2 : ∀ S0, Fr (pL [94, 95]) S S0 → (∀ p, p < 12 → S0.1 95 0 p = nI 0) → ∃ S', run 251 0 30 [vR 50 0, vI (nI o), vI (nI 0), vI (nI (B 3 o) - nI 1)] [] S0 = some (some (vI (nI (hlF B 12 [] (B 3 o)).length)), S') ∧ Fr (pL [94, 95]) S S' ∧ ∀ i, i < (hlF B 12 [] (B 3 o)).length → S'.1 94 0 i = nI ((hlF B 12 [] (B 3 o)).getD i 0) := by
    intro S0 hf0 hz
    refine upS (σ := Sto × List Nat × Nat) (I := fun i s => (s.2.1.length = i ∧ LW s.2.1 ∧ s.2.2 ≤ B 0 0) ∧ ((∀ k, k < i → s.1.1 94 0 k = nI (s.2.1.getD k 0)) ∧ ∀ p, p < 12 → s.1.1 95 0 p = bI (s.2.1.contains p)) ∧ Fr (pL [94, 95]) S s.1 ∧ hlF B (12 - i) s.2.1 s.2.2 = hlF B 12 [] (B 3 o)) (F := fun i s => run 251 0 30 [vR 50 0, vI (nI o), vI (nI i), vI (nI s.2.2 - nI 1)] [] s.1) (Q := fun z => ∃ S', z = some (some (vI (nI (hlF B 12 [] (B 3 o)).length)), S') ∧ Fr (pL [94, 95]) S S' ∧ ∀ i, i < (hlF B 12 [] (B 3 o)).length → S'.1 94 0 i = nI ((hlF B 12 [] (B 3 o)).getD i 0)) (N := 12) ?_ ?_ 0 (S0, [], B 3 o) (by omega) ⟨⟨rfl, LW.nil, h3 o ho⟩, ⟨fun k hk => by omega, fun p hp => by show S0.1 95 0 p = _; rw [hz p hp]; rfl⟩, hf0, rfl⟩
    · intro i s hi hI
      obtain ⟨S1, l, x⟩ := s
      obtain ⟨⟨i1, i2, i3⟩, ⟨i4, i4'⟩, i5, i6⟩ := hI
      simp only at i1 i2 i3 i4 i4' i5 i6
      have h1 := h.pl i5 (by decide)
      have em : 12 - i = (12 - (i + 1)) + 1 := by omega
      rw [em, hlF_s] at i6
      show (∃ S', run 251 0 30 [vR 50 0, vI (nI o), vI (nI i), vI (nI x - nI 1)] [] S1 = _ ∧ _) ∨ ∃ s', _ ∧ run 251 0 30 [vR 50 0, vI (nI o), vI (nI i), vI (nI x - nI 1)] [] S1 = _
      rw [s251_30]
      by_cases c1 : x = 0
      · subst c1
        have e1 : (nI 0 - nI 1 : Int32) = -nI 1 := by decide
        simp only [beq_self_eq_true, Bool.true_or, if_true] at i6
        refine Or.inl ?_
        rw [← i6, i1, e1]
        simp (disch := omega) only [s251_0, s251_1, s251_3, s251_5, s251_8, s251_9, s251_12, s251_13, s251_14, s251_15, s251_18, s251_21, s251_22, s251_23, s251_24, s251_27, s251_28, s251_29, s251_31, s251_32, s251_35, s251_36, s251_39, s251_40, s251_41, s251_44, s251_45, s251_48, s251_49, s251_50, s251_51, s251_52, s251_55, s251_56, s251_57, s251_58, s251_61, s251_62, s251_65, s251_66, s251_67, s251_68, s251_71, s251_72, q_0, q_1, q_2, q_3, q_4, q_5, q_6, q_7, q_8, q_9, q_10, q_11, q_12, q_13, q_14, q_16, q_20, q_23, q_24, q_32, q_42, q_43, q_45, q_47, q_48, q_50, q_57, q_59, q_60, q_61, q_62, q_63, q_64, q_66, q_91, q_93, q_97, q_99, q_122, q_144, q_255, q_256, q_300, q_380, q_400, q_620, q_999, q_1000, q_4095, q_4096, q_9999, q_65536, q_99999, q_31, nI_add, pk_mul, nE, nL, nT, nM31, nShl, ib_nI, nI_clamp, bI_n0, bI_n1, bI_nar, uI_r, uI_l, uL_r, uL_i, uL_p, uA_r, uA_l, bV_some, bU_some, nar_n0, nar_n1, and_self, and_true, true_and, and_false, false_and, if_true, if_false, eq_self, Bool.false_eq_true, Bool.true_eq_false, not_true_eq_false, not_false_eq_true, ↓reduceIte, nlT, nlF, ntT, ntF, neT, neF, ieT, ieF, decide_true, decide_false, Bool.not_true, Bool.not_false, Bool.and_true, Bool.true_and, Bool.and_false, Bool.false_and, Bool.or_true, Bool.true_or, Bool.or_false, Bool.false_or]
        exact ⟨_, rfl, i5, i4⟩
      · have e2 := i4' (x - 1) (by omega)
        cases c2 : l.contains (x - 1) with
        | true =>
          rw [c2] at e2 i6
          simp only [Bool.or_true, if_true] at i6
          refine Or.inl ?_
          rw [← i6, i1]
          simp (disch := omega) only [s251_0, s251_1, s251_3, s251_5, s251_8, s251_9, s251_12, s251_13, s251_14, s251_15, s251_18, s251_21, s251_22, s251_23, s251_24, s251_27, s251_28, s251_29, s251_31, s251_32, s251_35, s251_36, s251_39, s251_40, s251_41, s251_44, s251_45, s251_48, s251_49, s251_50, s251_51, s251_52, s251_55, s251_56, s251_57, s251_58, s251_61, s251_62, s251_65, s251_66, s251_67, s251_68, s251_71, s251_72, q_0, q_1, q_2, q_3, q_4, q_5, q_6, q_7, q_8, q_9, q_10, q_11, q_12, q_13, q_14, q_16, q_20, q_23, q_24, q_32, q_42, q_43, q_45, q_47, q_48, q_50, q_57, q_59, q_60, q_61, q_62, q_63, q_64, q_66, q_91, q_93, q_97, q_99, q_122, q_144, q_255, q_256, q_300, q_380, q_400, q_620, q_999, q_1000, q_4095, q_4096, q_9999, q_65536, q_99999, q_31, nI_add, pk_mul, nE, nL, nT, nM31, nShl, ib_nI, nI_clamp, bI_n0, bI_n1, bI_nar, uI_r, uI_l, uL_r, uL_i, uL_p, uA_r, uA_l, bV_some, bU_some, nar_n0, nar_n1, and_self, and_true, true_and, and_false, false_and, if_true, if_false, eq_self, Bool.false_eq_true, Bool.true_eq_false, not_true_eq_false, not_false_eq_true, ↓reduceIte, nlT, nlF, ntT, ntF, neT, neF, ieT, ieF, decide_true, decide_false, Bool.not_true, Bool.not_false, Bool.and_true, Bool.true_and, Bool.and_false, Bool.false_and, Bool.or_true, Bool.true_or, Bool.or_false, Bool.false_or, nSub, nN1, e2]
          exact ⟨_, rfl, i5, i4⟩
        | false =>
          rw [c2] at e2 i6
          have c1' : (x == 0) = false := by simp [c1]
          simp only [c1', Bool.or_false, Bool.false_eq_true, if_false] at i6
          refine Or.inr ⟨(uI (uI S1 95 0 (x - 1) (nI 1)) 94 0 i (nI (x - 1)), l ++ [x - 1], B 3 (x - 1)), ⟨⟨by simp [i1], i2.push (by omega) c2, h3 _ (by omega)⟩, ⟨?_, ?_⟩, (i5.uI rfl).uI rfl, i6⟩, ?_⟩
          · intro k hk
            show (uI (uI S1 95 0 (x - 1) (nI 1)) 94 0 i (nI (x - 1))).1 94 0 k = nI ((l ++ [x - 1]).getD k 0)
            rw [getD_app (by omega), i1, uI_r]
            by_cases e : k = i
            · rw [if_pos ⟨rfl, rfl, e⟩, if_pos e]
            · rw [if_neg (by omega), if_neg e, uI_r, if_neg (by omega)]
              exact i4 k (by omega)
          · intro p hp
            show (uI (uI S1 95 0 (x - 1) (nI 1)) 94 0 i (nI (x - 1))).1 95 0 p = bI ((l ++ [x - 1]).contains p)
            rw [cont_app, uI_r, if_neg (by omega), uI_r]
            by_cases e : p = x - 1
            · rw [if_pos ⟨rfl, rfl, e⟩]
              simp [e]
              rfl
            · have e' : (p == x - 1) = false := by simp [e]
              rw [if_neg (by omega), i4' p hp, e', Bool.or_false]
          · simp (disch := omega) only [s251_0, s251_1, s251_3, s251_5, s251_8, s251_9, s251_12, s251_13, s251_14, s251_15, s251_18, s251_21, s251_22, s251_23, s251_24, s251_27, s251_28, s251_29, s251_31, s251_32, s251_35, s251_36, s251_39, s251_40, s251_41, s251_44, s251_45, s251_48, s251_49, s251_50, s251_51, s251_52, s251_55, s251_56, s251_57, s251_58, s251_61, s251_62, s251_65, s251_66, s251_67, s251_68, s251_71, s251_72, q_0, q_1, q_2, q_3, q_4, q_5, q_6, q_7, q_8, q_9, q_10, q_11, q_12, q_13, q_14, q_16, q_20, q_23, q_24, q_32, q_42, q_43, q_45, q_47, q_48, q_50, q_57, q_59, q_60, q_61, q_62, q_63, q_64, q_66, q_91, q_93, q_97, q_99, q_122, q_144, q_255, q_256, q_300, q_380, q_400, q_620, q_999, q_1000, q_4095, q_4096, q_9999, q_65536, q_99999, q_31, nI_add, pk_mul, nE, nL, nT, nM31, nShl, ib_nI, nI_clamp, bI_n0, bI_n1, bI_nar, uI_r, uI_l, uL_r, uL_i, uL_p, uA_r, uA_l, bV_some, bU_some, nar_n0, nar_n1, and_self, and_true, true_and, and_false, false_and, if_true, if_false, eq_self, Bool.false_eq_true, Bool.true_eq_false, not_true_eq_false, not_false_eq_true, ↓reduceIte, nlT, nlF, ntT, ntF, neT, neF, ieT, ieF, decide_true, decide_false, Bool.not_true, Bool.not_false, Bool.and_true, Bool.true_and, Bool.and_false, Bool.false_and, Bool.or_true, Bool.true_or, Bool.or_false, Bool.false_or, nSub, nN1, e2, nar_t, h1.he]
    · intro s hI
      obtain ⟨S1, l, x⟩ := s
      obtain ⟨⟨i1, i2, i3⟩, ⟨i4, i4'⟩, i5, i6⟩ := hI
      simp only [Nat.sub_self] at i1 i2 i3 i4 i4' i5 i6
      have i6' : l = hlF B 12 [] (B 3 o) := i6
      rw [← i6', i1]
      show ∃ S', run 251 0 30 [vR 50 0, vI (nI o), vI (nI 12), vI (nI x - nI 1)] [] S1 = _ ∧ _
      rw [s251_30]
      by_cases c1 : x = 0
      · subst c1
        have e1 : (nI 0 - nI 1 : Int32) = -nI 1 := by decide
        rw [e1]
        simp (disch := omega) only [s251_0, s251_1, s251_3, s251_5, s251_8, s251_9, s251_12, s251_13, s251_14, s251_15, s251_18, s251_21, s251_22, s251_23, s251_24, s251_27, s251_28, s251_29, s251_31, s251_32, s251_35, s251_36, s251_39, s251_40, s251_41, s251_44, s251_45, s251_48, s251_49, s251_50, s251_51, s251_52, s251_55, s251_56, s251_57, s251_58, s251_61, s251_62, s251_65, s251_66, s251_67, s251_68, s251_71, s251_72, q_0, q_1, q_2, q_3, q_4, q_5, q_6, q_7, q_8, q_9, q_10, q_11, q_12, q_13, q_14, q_16, q_20, q_23, q_24, q_32, q_42, q_43, q_45, q_47, q_48, q_50, q_57, q_59, q_60, q_61, q_62, q_63, q_64, q_66, q_91, q_93, q_97, q_99, q_122, q_144, q_255, q_256, q_300, q_380, q_400, q_620, q_999, q_1000, q_4095, q_4096, q_9999, q_65536, q_99999, q_31, nI_add, pk_mul, nE, nL, nT, nM31, nShl, ib_nI, nI_clamp, bI_n0, bI_n1, bI_nar, uI_r, uI_l, uL_r, uL_i, uL_p, uA_r, uA_l, bV_some, bU_some, nar_n0, nar_n1, and_self, and_true, true_and, and_false, false_and, if_true, if_false, eq_self, Bool.false_eq_true, Bool.true_eq_false, not_true_eq_false, not_false_eq_true, ↓reduceIte, nlT, nlF, ntT, ntF, neT, neF, ieT, ieF, decide_true, decide_false, Bool.not_true, Bool.not_false, Bool.and_true, Bool.true_and, Bool.and_false, Bool.false_and, Bool.or_true, Bool.true_or, Bool.or_false, Bool.false_or]
        exact ⟨_, rfl, i5, i4⟩
      · have e2 := i4' (x - 1) (by omega)
        cases c2 : l.contains (x - 1) with
        | true =>
          rw [c2] at e2
          simp (disch := omega) only [s251_0, s251_1, s251_3, s251_5, s251_8, s251_9, s251_12, s251_13, s251_14, s251_15, s251_18, s251_21, s251_22, s251_23, s251_24, s251_27, s251_28, s251_29, s251_31, s251_32, s251_35, s251_36, s251_39, s251_40, s251_41, s251_44, s251_45, s251_48, s251_49, s251_50, s251_51, s251_52, s251_55, s251_56, s251_57, s251_58, s251_61, s251_62, s251_65, s251_66, s251_67, s251_68, s251_71, s251_72, q_0, q_1, q_2, q_3, q_4, q_5, q_6, q_7, q_8, q_9, q_10, q_11, q_12, q_13, q_14, q_16, q_20, q_23, q_24, q_32, q_42, q_43, q_45, q_47, q_48, q_50, q_57, q_59, q_60, q_61, q_62, q_63, q_64, q_66, q_91, q_93, q_97, q_99, q_122, q_144, q_255, q_256, q_300, q_380, q_400, q_620, q_999, q_1000, q_4095, q_4096, q_9999, q_65536, q_99999, q_31, nI_add, pk_mul, nE, nL, nT, nM31, nShl, ib_nI, nI_clamp, bI_n0, bI_n1, bI_nar, uI_r, uI_l, uL_r, uL_i, uL_p, uA_r, uA_l, bV_some, bU_some, nar_n0, nar_n1, and_self, and_true, true_and, and_false, false_and, if_true, if_false, eq_self, Bool.false_eq_true, Bool.true_eq_false, not_true_eq_false, not_false_eq_true, ↓reduceIte, nlT, nlF, ntT, ntF, neT, neF, ieT, ieF, decide_true, decide_false, Bool.not_true, Bool.not_false, Bool.and_true, Bool.true_and, Bool.and_false, Bool.false_and, Bool.or_true, Bool.true_or, Bool.or_false, Bool.false_or, nSub, nN1, e2]
          exact ⟨_, rfl, i5, i4⟩
        | false =>
          have := (i2.push (x := x - 1) (by omega) c2).le
          simp [i1] at this
  show ∃ S', run 251 0 0 [vR 50 0, vI (nI o), vU, vU] [] S = _ ∧ _
  simp only [s251_0, s251_1]
  have key := upS (σ := Sto) (I := fun i S1 => Fr (pL [94, 95]) S S1 ∧ ∀ p, p < i → S1.1 95 0 p = nI 0) (F := fun i S1 => run 251 0 2 [vR 50 0, vI (nI o), vI (nI i), vU] [] S1) (Q := fun z => ∃ S', z = some (some (vI (nI (hlF B 12 [] (B 3 o)).length)), S') ∧ Fr (pL [94, 95]) S S' ∧ ∀ i, i < (hlF B 12 [] (B 3 o)).length → S'.1 94 0 i = nI ((hlF B 12 [] (B 3 o)).getD i 0)) (N := 12) ?_ ?_ 0 S (by omega) ⟨Fr.rfl', fun p hp => by omega⟩
  · exact key
  · intro i S1 hi hI
    refine Or.inr ⟨uI S1 95 0 i (nI 0), ⟨hI.1.uI rfl, fun p hp => ?_⟩, ?_⟩
    · rw [uI_r]
      by_cases e : p = i
      · rw [if_pos ⟨rfl, rfl, e⟩]
      · rw [if_neg (by omega)]
        exact hI.2 p (by omega)
    · show run 251 0 2 _ _ _ = run 251 0 2 _ _ _
      rw [s251_2]
      simp (disch := omega) only [s251_0, s251_1, s251_3, s251_5, s251_8, s251_9, s251_12, s251_13, s251_14, s251_15, s251_18, s251_21, s251_22, s251_23, s251_24, s251_27, s251_28, s251_29, s251_31, s251_32, s251_35, s251_36, s251_39, s251_40, s251_41, s251_44, s251_45, s251_48, s251_49, s251_50, s251_51, s251_52, s251_55, s251_56, s251_57, s251_58, s251_61, s251_62, s251_65, s251_66, s251_67, s251_68, s251_71, s251_72, q_0, q_1, q_2, q_3, q_4, q_5, q_6, q_7, q_8, q_9, q_10, q_11, q_12, q_13, q_14, q_16, q_20, q_23, q_24, q_32, q_42, q_43, q_45, q_47, q_48, q_50, q_57, q_59, q_60, q_61, q_62, q_63, q_64, q_66, q_91, q_93, q_97, q_99, q_122, q_144, q_255, q_256, q_300, q_380, q_400, q_620, q_999, q_1000, q_4095, q_4096, q_9999, q_65536, q_99999, q_31, nI_add, pk_mul, nE, nL, nT, nM31, nShl, ib_nI, nI_clamp, bI_n0, bI_n1, bI_nar, uI_r, uI_l, uL_r, uL_i, uL_p, uA_r, uA_l, bV_some, bU_some, nar_n0, nar_n1, and_self, and_true, true_and, and_false, false_and, if_true, if_false, eq_self, Bool.false_eq_true, Bool.true_eq_false, not_true_eq_false, not_false_eq_true, ↓reduceIte, nlT, nlF, ntT, ntF, neT, neF, ieT, ieF, decide_true, decide_false, Bool.not_true, Bool.not_false, Bool.and_true, Bool.true_and, Bool.and_false, Bool.false_and, Bool.or_true, Bool.true_or, Bool.or_false, Bool.false_or, nar_f]
  · intro S1 hI
    have h1 := h.pl hI.1 (by decide)
    show ∃ S', run 251 0 2 [vR 50 0, vI (nI o), vI (nI 12), vU] [] S1 = _ ∧ _
    rw [s251_2]
    simp (disch := omega) only [s251_0, s251_1, s251_3, s251_5, s251_8, s251_9, s251_12, s251_13, s251_14, s251_15, s251_18, s251_21, s251_22, s251_23, s251_24, s251_27, s251_28, s251_29, s251_31, s251_32, s251_35, s251_36, s251_39, s251_40, s251_41, s251_44, s251_45, s251_48, s251_49, s251_50, s251_51, s251_52, s251_55, s251_56, s251_57, s251_58, s251_61, s251_62, s251_65, s251_66, s251_67, s251_68, s251_71, s251_72, q_0, q_1, q_2, q_3, q_4, q_5, q_6, q_7, q_8, q_9, q_10, q_11, q_12, q_13, q_14, q_16, q_20, q_23, q_24, q_32, q_42, q_43, q_45, q_47, q_48, q_50, q_57, q_59, q_60, q_61, q_62, q_63, q_64, q_66, q_91, q_93, q_97, q_99, q_122, q_144, q_255, q_256, q_300, q_380, q_400, q_620, q_999, q_1000, q_4095, q_4096, q_9999, q_65536, q_99999, q_31, nI_add, pk_mul, nE, nL, nT, nM31, nShl, ib_nI, nI_clamp, bI_n0, bI_n1, bI_nar, uI_r, uI_l, uL_r, uL_i, uL_p, uA_r, uA_l, bV_some, bU_some, nar_n0, nar_n1, and_self, and_true, true_and, and_false, false_and, if_true, if_false, eq_self, Bool.false_eq_true, Bool.true_eq_false, not_true_eq_false, not_false_eq_true, ↓reduceIte, nlT, nlF, ntT, ntF, neT, neF, ieT, ieF, decide_true, decide_false, Bool.not_true, Bool.not_false, Bool.and_true, Bool.true_and, Bool.and_false, Bool.false_and, Bool.or_true, Bool.true_or, Bool.or_false, Bool.false_or, h1.he]
    exact L2 S1 hI.1 hI.2
