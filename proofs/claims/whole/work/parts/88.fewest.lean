/-! the fewest twos (class) -/
theorem x_range (S : Sto) {n a b : Nat} (ha : a ≤ b) (hb : b ≤ n) (hn : n < 2 ^ 31) : call 285 0 [vI (nI n), vI (nI a), vI (nI b)] S = some (none, S) := by
  show run 285 0 0 [vI (nI n), vI (nI a), vI (nI b)] [] S = _
  simp (disch := omega) only [s285_0, s285_1, s285_2, s285_46, s285_47, s285_59, s285_60, s285_61, s285_73, q_0, q_1, q_2, q_3, q_4, q_5, q_6, q_7, q_8, q_9, q_10, q_11, q_12, q_13, q_14, q_16, q_20, q_23, q_24, q_32, q_42, q_43, q_45, q_47, q_48, q_50, q_57, q_59, q_60, q_61, q_62, q_63, q_64, q_66, q_91, q_93, q_97, q_99, q_122, q_144, q_255, q_256, q_300, q_380, q_400, q_620, q_999, q_1000, q_4095, q_4096, q_9999, q_65536, q_99999, q_31, nI_add, pk_mul, nE, nL, nT, nM31, nShl, ib_nI, nI_clamp, bI_n0, bI_n1, bI_nar, uI_r, uI_l, uL_r, uL_i, uL_p, uA_r, uA_l, bV_some, bU_some, nar_n0, nar_n1, and_self, and_true, true_and, and_false, false_and, if_true, if_false, eq_self, Bool.false_eq_true, Bool.true_eq_false, not_true_eq_false, not_false_eq_true, ↓reduceIte, nlT, nlF, ntT, ntF, neT, neF, ieT, ieF, decide_true, decide_false, Bool.not_true, Bool.not_false, Bool.and_true, Bool.true_and, Bool.and_false, Bool.false_and, Bool.or_true, Bool.true_or, Bool.or_false, Bool.false_or]
theorem byt1 {v : Nat} (h : v < 128) : vp_nar .byte (nI v) = nI v := by
  have : ∀ v, v < 128 → vp_nar .byte (nI v) = nI v := by decide +kernel
  exact this v h
theorem byt2 {v : Nat} (h : v < 128) : (nI v).toInt8.toInt32 = nI v := by
  have : ∀ v, v < 128 → (nI v).toInt8.toInt32 = nI v := by decide +kernel
  exact this v h
theorem x_fillB {S : Sto} {n v : Nat} (hn : n ≤ 4096) (hv : v < 128) : ∃ S', call 286 0 [vR 38 0, vI (nI 0), vI (nI n), vI (nI v)] S = some (none, S') ∧ Fr (pL [38]) S S' ∧ ∀ c, c < n → S'.1 38 0 c = nI v := by
  have hk1 : (knd 38).1 = 3 := rfl
  have hk2 : (knd 38).2.1 = 4096 := rfl
  have hb : Nat.beq 38 103 = false := rfl
  have ha : ∀ S, aln S 38 0 = some 4096 := fun S => rfl
  have er := x_range S (n := 4096) (a := 0) (b := n) (by omega) hn (by decide)
  show ∃ S', run 286 0 0 [vR 38 0, vI (nI 0), vI (nI n), vI (nI v), vU] [] S = _ ∧ _
  rw [s286_0 _ _ _ hb, s286_1 _ _ _ 4096 (ha _)]
  simp (disch := first | omega | assumption) only [s286_0, s286_2, s286_3, s286_4, s286_7, s286_8, s286_12, s286_13, s286_16, s286_17, s286_19, s286_20, s286_21, s286_24, s286_27, q_0, q_1, q_2, q_3, q_4, q_5, q_6, q_7, q_8, q_9, q_10, q_11, q_12, q_13, q_14, q_16, q_20, q_23, q_24, q_32, q_42, q_43, q_45, q_47, q_48, q_50, q_57, q_59, q_60, q_61, q_62, q_63, q_64, q_66, q_91, q_93, q_97, q_99, q_122, q_144, q_255, q_256, q_300, q_380, q_400, q_620, q_999, q_1000, q_4095, q_4096, q_9999, q_65536, q_99999, q_31, nI_add, pk_mul, nE, nL, nT, nM31, nShl, ib_nI, nI_clamp, bI_n0, bI_n1, bI_nar, uI_r, uI_l, uL_r, uL_i, uL_p, uA_r, uA_l, bV_some, bU_some, nar_n0, nar_n1, and_self, and_true, true_and, and_false, false_and, if_true, if_false, eq_self, Bool.false_eq_true, Bool.true_eq_false, not_true_eq_false, not_false_eq_true, ↓reduceIte, nlT, nlF, ntT, ntF, neT, neF, ieT, ieF, decide_true, decide_false, Bool.not_true, Bool.not_false, Bool.and_true, Bool.true_and, Bool.and_false, Bool.false_and, Bool.or_true, Bool.true_or, Bool.or_false, Bool.false_or, ofN, er]
  refine upS (σ := Sto) (I := fun i S1 => Fr (pL [38]) S S1 ∧ ∀ c, c < i → S1.1 38 0 c = nI v) (F := fun i S1 => run 286 0 10 [vR 38 0, vI (nI 0), vI (nI n), vI (nI v), vI (nI i)] [] S1) (Q := fun x => ∃ S', x = some (none, S') ∧ Fr (pL [38]) S S' ∧ ∀ c, c < n → S'.1 38 0 c = nI v) (N := n) ?_ ?_ 0 S (by omega) ⟨Fr.rfl', fun c hc => by omega⟩
  · intro i S1 hi hI
    refine Or.inr ⟨uI S1 38 0 i (nI v), ⟨hI.1.uI (by simp [pL]), ?_⟩, ?_⟩
    · intro c hc
      rw [uI_r]
      by_cases e : c = i
      · rw [if_pos ⟨rfl, rfl, e⟩]
      · rw [if_neg (by omega)]
        exact hI.2 c (by omega)
    · show run 286 0 10 _ _ _ = run 286 0 10 _ _ _
      rw [s286_10]
      simp (disch := first | omega | assumption) only [s286_0, s286_2, s286_3, s286_4, s286_7, s286_8, s286_12, s286_13, s286_16, s286_17, s286_19, s286_20, s286_21, s286_24, s286_27, hk2, q_0, q_1, q_2, q_3, q_4, q_5, q_6, q_7, q_8, q_9, q_10, q_11, q_12, q_13, q_14, q_16, q_20, q_23, q_24, q_32, q_42, q_43, q_45, q_47, q_48, q_50, q_57, q_59, q_60, q_61, q_62, q_63, q_64, q_66, q_91, q_93, q_97, q_99, q_122, q_144, q_255, q_256, q_300, q_380, q_400, q_620, q_999, q_1000, q_4095, q_4096, q_9999, q_65536, q_99999, q_31, nI_add, pk_mul, nE, nL, nT, nM31, nShl, ib_nI, nI_clamp, bI_n0, bI_n1, bI_nar, uI_r, uI_l, uL_r, uL_i, uL_p, uA_r, uA_l, bV_some, bU_some, nar_n0, nar_n1, and_self, and_true, true_and, and_false, false_and, if_true, if_false, eq_self, Bool.false_eq_true, Bool.true_eq_false, not_true_eq_false, not_false_eq_true, ↓reduceIte, nlT, nlF, ntT, ntF, neT, neF, ieT, ieF, decide_true, decide_false, Bool.not_true, Bool.not_false, Bool.and_true, Bool.true_and, Bool.and_false, Bool.false_and, Bool.or_true, Bool.true_or, Bool.or_false, Bool.false_or, byt1]
  · intro S1 hI
    show ∃ S', run 286 0 10 _ _ _ = _ ∧ _
    rw [s286_10]
    simp (disch := omega) only [s286_2, s286_3, s286_4, s286_7, s286_8, s286_12, s286_13, s286_17, s286_19, s286_21, s286_24, s286_27, q_0, q_1, q_2, q_3, q_4, q_5, q_6, q_7, q_8, q_9, q_10, q_11, q_12, q_13, q_14, q_16, q_20, q_23, q_24, q_32, q_42, q_43, q_45, q_47, q_48, q_50, q_57, q_59, q_60, q_61, q_62, q_63, q_64, q_66, q_91, q_93, q_97, q_99, q_122, q_144, q_255, q_256, q_300, q_380, q_400, q_620, q_999, q_1000, q_4095, q_4096, q_9999, q_65536, q_99999, q_31, nI_add, pk_mul, nE, nL, nT, nM31, nShl, ib_nI, nI_clamp, bI_n0, bI_n1, bI_nar, uI_r, uI_l, uL_r, uL_i, uL_p, uA_r, uA_l, bV_some, bU_some, nar_n0, nar_n1, and_self, and_true, true_and, and_false, false_and, if_true, if_false, eq_self, Bool.false_eq_true, Bool.true_eq_false, not_true_eq_false, not_false_eq_true, ↓reduceIte, nlT, nlF, ntT, ntF, neT, neF, ieT, ieF, decide_true, decide_false, Bool.not_true, Bool.not_false, Bool.and_true, Bool.true_and, Bool.and_false, Bool.false_and, Bool.or_true, Bool.true_or, Bool.or_false, Bool.false_or]
    exact ⟨_, rfl, hI.1, hI.2⟩
def upN (g : Nat → Nat) (t v : Nat) : Nat → Nat := fun c => if c = t then v else g c
theorem upN_r (g : Nat → Nat) (t v c : Nat) : upN g t v c = if c = t then v else g c := rfl
def DpI (A : Tn) (S S1 : Sto) (F : List Nat) (g : Nat → Nat) (c : Nat) : Prop := Fr (pL [37, 38]) S S1 ∧ FmS S1 F ∧ (∀ c, c < 2 ^ A 0 2 → S1.1 38 0 c = nI (g c)) ∧ (∀ c, c < 2 ^ A 0 2 → g c ≤ 99) ∧ g (donB A) = 0 ∧ dSnd F g (donB A) (A 0 2) ∧ ∀ s, s < c → dRel F g s
theorem FmS.uI {S : Sto} {F : List Nat} (h : FmS S F) {t k : Nat} {v : Int32} (ht : t ≠ 37) : FmS (uI S t 0 k v) F := by
  intro i hi
  rw [uI_r, if_neg (by omega)]
  exact h i hi
theorem DpI.step {A : Tn} {S S1 : Sto} {F : List Nat} {g : Nat → Nat} {c x : Nat} (hw : WF A) (h : DpI A S S1 F g c) (hx : x ∈ F) (hxl : x < 2 ^ A 0 2) (hc : c + 1 < 2 ^ A 0 2) (hf : x &&& dif (c + 1) c ≠ 0) (hg : g c + 1 < g (c ||| x)) : DpI A S (uI S1 38 0 (c ||| x) (nI (g c + 1))) F (upN g (c ||| x) (g c + 1)) c ∧ c < c ||| x ∧ upN g (c ||| x) (g c + 1) c = g c := by
  obtain ⟨h1, h2, h3, h4, h5, h6, h7⟩ := h
  have hWk := hw.wk
  obtain ⟨k, k1, k2, k3⟩ := fz hc (by omega)
  have hxk : x.testBit k = true := by
    rw [k3] at hf
    obtain ⟨i, i1, i2⟩ := and_t.mp hf
    rw [Nat.testBit_two_pow] at i2
    simp only [decide_eq_true_eq] at i2
    rw [i2]
    exact i1
  have hle : c ≤ c ||| x := Nat.left_le_or
  have hne : c ≠ c ||| x := by
    intro e
    have := Nat.testBit_or c x k
    rw [← e, k2, hxk] at this
    cases this
  have hlt : c < c ||| x := by omega
  have ht : c ||| x < 2 ^ A 0 2 := Nat.or_lt_two_pow (by omega) hxl
  have hgt := h4 _ ht
  have gle : ∀ d, upN g (c ||| x) (g c + 1) d ≤ g d := by
    intro d
    rw [upN_r]
    split
    · rename_i e
      rw [e]
      omega
    · omega
  refine ⟨⟨h1.uI rfl, h2.uI (by decide), fun d hd => ?_, fun d hd => ?_, ?_, ?_, ?_⟩, hlt, ?_⟩
  · rw [uI_r, upN_r]
    by_cases e : d = c ||| x
    · rw [if_pos ⟨rfl, rfl, e⟩, if_pos e]
    · rw [if_neg (by omega), if_neg e]
      exact h3 d hd
  · have := gle d
    have := h4 d hd
    omega
  · rw [upN_r, if_neg]
    · exact h5
    · intro e
      rw [← e, h5] at hg
      omega
  · intro d hd hgd
    rw [upN_r] at hgd ⊢
    by_cases e : d = c ||| x
    · rw [if_pos e]
      obtain ⟨l, l1, l2, l3⟩ := h6 c (by omega) (by omega)
      refine ⟨x :: l, fun y hy => ?_, by simp [l2], ?_⟩
      · simp only [List.mem_cons] at hy
        rcases hy with rfl | hy
        · exact hx
        · exact l1 y hy
      · rw [e]
        show c ||| x = donB A ||| (x ||| orL l)
        rw [Nat.or_comm x, ← Nat.or_assoc, ← l3]
    · rw [if_neg e] at hgd ⊢
      exact h6 d hd hgd
  · intro s hs hgs y hy hyf
    have es : upN g (c ||| x) (g c + 1) s = g s := by rw [upN_r, if_neg (by omega)]
    rw [es] at hgs ⊢
    have := h7 s hs hgs y hy hyf
    have := gle (s ||| y)
    omega
  · rw [upN_r, if_neg hne]
theorem x_fwIn {S S1 : Sto} {q : Nat} {A : Tn} {F : List Nat} {g : Nat → Nat} {c : Nat} {x7 : av} (hw : WF A) (hF : Fam A F) (hl : F.length ≤ 66) (hI0 : DpI A S S1 F g c) (hc : c + 1 < 2 ^ A 0 2) (hgc : g c < 99) : ∃ S2 g2 x y z, run 45 0 75 [vR 36 0, vR 1 q, vI (nI F.length), vI (nI (2 ^ A 0 2 - 1)), vI (nI c), vI (nI (dif (c + 1) c)), vI (nI 0), x7] [] S1 = run 45 0 43 [vR 36 0, vR 1 q, vI (nI F.length), vI (nI (2 ^ A 0 2 - 1)), vI (nI (c + 1)), x, y, z] [] S2 ∧ DpI A S S2 F g2 (c + 1) := by
  have hWk := hw.wk
  have hM12 : 2 ^ A 0 2 ≤ 2 ^ 12 := Nat.pow_le_pow_right (by decide) hWk
  have hFl : ∀ x, x ∈ F → x < 2 ^ A 0 2 := by
    intro x hx
    obtain ⟨_, a, b, _, _, _, e⟩ := hF.1 x hx
    rw [e]
    exact bN_lt _ _
  have hmem : ∀ j, j < F.length → F.getD j 0 ∈ F := by
    intro j hj
    rw [List.getD_eq_getElem?_getD, List.getElem?_eq_getElem hj]
    exact List.getElem_mem hj
  have l1 := dif_lt (c + 1) c
  refine upS (σ := (Sto × (Nat → Nat)) × av) (I := fun i s => DpI A S s.1.1 F s.1.2 c ∧ s.1.2 c < 99 ∧ ∀ j, j < i → F.getD j 0 &&& dif (c + 1) c ≠ 0 → s.1.2 (c ||| F.getD j 0) ≤ s.1.2 c + 1) (F := fun i s => run 45 0 75 [vR 36 0, vR 1 q, vI (nI F.length), vI (nI (2 ^ A 0 2 - 1)), vI (nI c), vI (nI (dif (c + 1) c)), vI (nI i), s.2] [] s.1.1) (Q := fun w => ∃ S2 g2 x y z, w = run 45 0 43 [vR 36 0, vR 1 q, vI (nI F.length), vI (nI (2 ^ A 0 2 - 1)), vI (nI (c + 1)), x, y, z] [] S2 ∧ DpI A S S2 F g2 (c + 1)) (N := F.length) ?_ ?_ 0 ((S1, g), x7) (by omega) ⟨hI0, hgc, fun j hj => by omega⟩
  · intro i s hi hI
    obtain ⟨⟨S2, g2⟩, x⟩ := s
    obtain ⟨i1, i2, i3⟩ := hI
    simp only at i1 i2 i3
    have hxF := hmem i hi
    have hxl := hFl _ hxF
    have r1 := i1.2.1 i hi
    have r2 := i1.2.2.1 c (by omega)
    have ht : c ||| F.getD i 0 < 2 ^ A 0 2 := Nat.or_lt_two_pow (by omega) hxl
    have r3 := i1.2.2.1 _ ht
    have g3 := i1.2.2.2.1 _ ht
    have ea : F.getD i 0 &&& (2 ^ A 0 2 - 1) = F.getD i 0 := by
      rw [Nat.and_two_pow_sub_one_eq_mod, Nat.mod_eq_of_lt hxl]
    have la : F.getD i 0 &&& dif (c + 1) c < 2 ^ 31 := Nat.lt_of_le_of_lt Nat.and_le_right l1
    refine Or.inr ?_
    show ∃ s', _ ∧ run 45 0 75 [vR 36 0, vR 1 q, vI (nI F.length), vI (nI (2 ^ A 0 2 - 1)), vI (nI c), vI (nI (dif (c + 1) c)), vI (nI i), x] [] S2 = _
    rw [s45_75]
    by_cases c1 : F.getD i 0 &&& dif (c + 1) c = 0
    · refine ⟨((S2, g2), vI (nI (c ||| F.getD i 0))), ⟨i1, i2, fun j hj hf => ?_⟩, ?_⟩
      · by_cases e : j = i
        · subst e; exact absurd c1 hf
        · exact i3 j (by omega) hf
      · simp (disch := omega) only [s45_0, s45_1, s45_2, s45_5, s45_6, s45_7, s45_8, s45_11, s45_12, s45_13, s45_14, s45_15, s45_16, s45_19, s45_20, s45_21, s45_22, s45_23, s45_25, s45_28, s45_29, s45_32, s45_33, s45_36, s45_37, s45_38, s45_39, s45_40, s45_41, s45_45, s45_46, s45_49, s45_50, s45_53, s45_55, s45_56, s45_58, s45_61, s45_63, s45_64, s45_65, s45_67, s45_68, s45_69, s45_70, s45_72, s45_73, s45_77, s45_78, s45_81, s45_83, s45_84, s45_87, s45_89, s45_90, s45_91, s45_92, s45_93, s45_95, s45_96, s45_99, s45_101, s45_102, s45_104, s45_105, s45_108, s45_109, s45_112, s45_114, s45_115, s45_116, s45_117, s45_118, s45_121, s45_123, s45_124, s45_127, s45_128, s45_131, s45_133, s45_134, s45_137, s45_139, s45_140, s45_141, s45_142, s45_143, s45_144, s45_147, s45_150, s45_153, s45_156, s45_157, s45_160, s45_161, s45_162, q_0, q_1, q_2, q_3, q_4, q_5, q_6, q_7, q_8, q_9, q_10, q_11, q_12, q_13, q_14, q_16, q_20, q_23, q_24, q_32, q_42, q_43, q_45, q_47, q_48, q_50, q_57, q_59, q_60, q_61, q_62, q_63, q_64, q_66, q_91, q_93, q_97, q_99, q_122, q_144, q_255, q_256, q_300, q_380, q_400, q_620, q_999, q_1000, q_4095, q_4096, q_9999, q_65536, q_99999, q_31, nI_add, pk_mul, nE, nL, nT, nM31, nShl, ib_nI, nI_clamp, bI_n0, bI_n1, bI_nar, uI_r, uI_l, uL_r, uL_i, uL_p, uA_r, uA_l, bV_some, bU_some, nar_n0, nar_n1, and_self, and_true, true_and, and_false, false_and, if_true, if_false, eq_self, Bool.false_eq_true, Bool.true_eq_false, not_true_eq_false, not_false_eq_true, ↓reduceIte, nlT, nlF, ntT, ntF, neT, neF, ieT, ieF, decide_true, decide_false, Bool.not_true, Bool.not_false, Bool.and_true, Bool.true_and, Bool.and_false, Bool.false_and, Bool.or_true, Bool.true_or, Bool.or_false, Bool.false_or, r1, nx_and, nA31, nx_or, ea, c1]
    · by_cases c2 : g2 c + 1 < g2 (c ||| F.getD i 0)
      · obtain ⟨d1, d2, d3⟩ := i1.step hw hxF hxl hc c1 c2
        refine ⟨((uI S2 38 0 (c ||| F.getD i 0) (nI (g2 c + 1)), upN g2 (c ||| F.getD i 0) (g2 c + 1)), vI (nI (c ||| F.getD i 0))), ⟨d1, by show upN _ _ _ c < 99; rw [d3]; exact i2, fun j hj hf => ?_⟩, ?_⟩
        · show upN g2 (c ||| F.getD i 0) (g2 c + 1) (c ||| F.getD j 0) ≤ upN g2 (c ||| F.getD i 0) (g2 c + 1) c + 1
          rw [d3, upN_r]
          by_cases e : c ||| F.getD j 0 = c ||| F.getD i 0
          · rw [if_pos e]
            omega
          · rw [if_neg e]
            by_cases e2 : j = i
            · subst e2; exact absurd rfl e
            · exact i3 j (by omega) hf
        · simp (disch := omega) only [s45_0, s45_1, s45_2, s45_5, s45_6, s45_7, s45_8, s45_11, s45_12, s45_13, s45_14, s45_15, s45_16, s45_19, s45_20, s45_21, s45_22, s45_23, s45_25, s45_28, s45_29, s45_32, s45_33, s45_36, s45_37, s45_38, s45_39, s45_40, s45_41, s45_45, s45_46, s45_49, s45_50, s45_53, s45_55, s45_56, s45_58, s45_61, s45_63, s45_64, s45_65, s45_67, s45_68, s45_69, s45_70, s45_72, s45_73, s45_77, s45_78, s45_81, s45_83, s45_84, s45_87, s45_89, s45_90, s45_91, s45_92, s45_93, s45_95, s45_96, s45_99, s45_101, s45_102, s45_104, s45_105, s45_108, s45_109, s45_112, s45_114, s45_115, s45_116, s45_117, s45_118, s45_121, s45_123, s45_124, s45_127, s45_128, s45_131, s45_133, s45_134, s45_137, s45_139, s45_140, s45_141, s45_142, s45_143, s45_144, s45_147, s45_150, s45_153, s45_156, s45_157, s45_160, s45_161, s45_162, q_0, q_1, q_2, q_3, q_4, q_5, q_6, q_7, q_8, q_9, q_10, q_11, q_12, q_13, q_14, q_16, q_20, q_23, q_24, q_32, q_42, q_43, q_45, q_47, q_48, q_50, q_57, q_59, q_60, q_61, q_62, q_63, q_64, q_66, q_91, q_93, q_97, q_99, q_122, q_144, q_255, q_256, q_300, q_380, q_400, q_620, q_999, q_1000, q_4095, q_4096, q_9999, q_65536, q_99999, q_31, nI_add, pk_mul, nE, nL, nT, nM31, nShl, ib_nI, nI_clamp, bI_n0, bI_n1, bI_nar, uI_r, uI_l, uL_r, uL_i, uL_p, uA_r, uA_l, bV_some, bU_some, nar_n0, nar_n1, and_self, and_true, true_and, and_false, false_and, if_true, if_false, eq_self, Bool.false_eq_true, Bool.true_eq_false, not_true_eq_false, not_false_eq_true, ↓reduceIte, nlT, nlF, ntT, ntF, neT, neF, ieT, ieF, decide_true, decide_false, Bool.not_true, Bool.not_false, Bool.and_true, Bool.true_and, Bool.and_false, Bool.false_and, Bool.or_true, Bool.true_or, Bool.or_false, Bool.false_or, r1, r2, r3, nx_and, nA31, nx_or, ea, c1, byt1, byt2]
      · refine ⟨((S2, g2), vI (nI (c ||| F.getD i 0))), ⟨i1, i2, fun j hj hf => ?_⟩, ?_⟩
        · by_cases e : j = i
          · subst e; show g2 _ ≤ g2 c + 1; omega
          · exact i3 j (by omega) hf
        · simp (disch := omega) only [s45_0, s45_1, s45_2, s45_5, s45_6, s45_7, s45_8, s45_11, s45_12, s45_13, s45_14, s45_15, s45_16, s45_19, s45_20, s45_21, s45_22, s45_23, s45_25, s45_28, s45_29, s45_32, s45_33, s45_36, s45_37, s45_38, s45_39, s45_40, s45_41, s45_45, s45_46, s45_49, s45_50, s45_53, s45_55, s45_56, s45_58, s45_61, s45_63, s45_64, s45_65, s45_67, s45_68, s45_69, s45_70, s45_72, s45_73, s45_77, s45_78, s45_81, s45_83, s45_84, s45_87, s45_89, s45_90, s45_91, s45_92, s45_93, s45_95, s45_96, s45_99, s45_101, s45_102, s45_104, s45_105, s45_108, s45_109, s45_112, s45_114, s45_115, s45_116, s45_117, s45_118, s45_121, s45_123, s45_124, s45_127, s45_128, s45_131, s45_133, s45_134, s45_137, s45_139, s45_140, s45_141, s45_142, s45_143, s45_144, s45_147, s45_150, s45_153, s45_156, s45_157, s45_160, s45_161, s45_162, q_0, q_1, q_2, q_3, q_4, q_5, q_6, q_7, q_8, q_9, q_10, q_11, q_12, q_13, q_14, q_16, q_20, q_23, q_24, q_32, q_42, q_43, q_45, q_47, q_48, q_50, q_57, q_59, q_60, q_61, q_62, q_63, q_64, q_66, q_91, q_93, q_97, q_99, q_122, q_144, q_255, q_256, q_300, q_380, q_400, q_620, q_999, q_1000, q_4095, q_4096, q_9999, q_65536, q_99999, q_31, nI_add, pk_mul, nE, nL, nT, nM31, nShl, ib_nI, nI_clamp, bI_n0, bI_n1, bI_nar, uI_r, uI_l, uL_r, uL_i, uL_p, uA_r, uA_l, bV_some, bU_some, nar_n0, nar_n1, and_self, and_true, true_and, and_false, false_and, if_true, if_false, eq_self, Bool.false_eq_true, Bool.true_eq_false, not_true_eq_false, not_false_eq_true, ↓reduceIte, nlT, nlF, ntT, ntF, neT, neF, ieT, ieF, decide_true, decide_false, Bool.not_true, Bool.not_false, Bool.and_true, Bool.true_and, Bool.and_false, Bool.false_and, Bool.or_true, Bool.true_or, Bool.or_false, Bool.false_or, r1, r2, r3, nx_and, nA31, nx_or, ea, c1]
  · intro s hI
    obtain ⟨⟨S2, g2⟩, x⟩ := s
    obtain ⟨i1, i2, i3⟩ := hI
    simp only at i1 i2 i3
    refine ⟨S2, g2, vI (nI (dif (c + 1) c)), vI (nI F.length), x, ?_, i1.1, i1.2.1, i1.2.2.1, i1.2.2.2.1, i1.2.2.2.2.1, i1.2.2.2.2.2.1, fun s hs => ?_⟩
    · show run 45 0 75 [vR 36 0, vR 1 q, vI (nI F.length), vI (nI (2 ^ A 0 2 - 1)), vI (nI c), vI (nI (dif (c + 1) c)), vI (nI F.length), x] [] S2 = _
      rw [s45_75]
      simp (disch := omega) only [s45_0, s45_1, s45_2, s45_5, s45_6, s45_7, s45_8, s45_11, s45_12, s45_13, s45_14, s45_15, s45_16, s45_19, s45_20, s45_21, s45_22, s45_23, s45_25, s45_28, s45_29, s45_32, s45_33, s45_36, s45_37, s45_38, s45_39, s45_40, s45_41, s45_45, s45_46, s45_49, s45_50, s45_53, s45_55, s45_56, s45_58, s45_61, s45_63, s45_64, s45_65, s45_67, s45_68, s45_69, s45_70, s45_72, s45_73, s45_77, s45_78, s45_81, s45_83, s45_84, s45_87, s45_89, s45_90, s45_91, s45_92, s45_93, s45_95, s45_96, s45_99, s45_101, s45_102, s45_104, s45_105, s45_108, s45_109, s45_112, s45_114, s45_115, s45_116, s45_117, s45_118, s45_121, s45_123, s45_124, s45_127, s45_128, s45_131, s45_133, s45_134, s45_137, s45_139, s45_140, s45_141, s45_142, s45_143, s45_144, s45_147, s45_150, s45_153, s45_156, s45_157, s45_160, s45_161, s45_162, q_0, q_1, q_2, q_3, q_4, q_5, q_6, q_7, q_8, q_9, q_10, q_11, q_12, q_13, q_14, q_16, q_20, q_23, q_24, q_32, q_42, q_43, q_45, q_47, q_48, q_50, q_57, q_59, q_60, q_61, q_62, q_63, q_64, q_66, q_91, q_93, q_97, q_99, q_122, q_144, q_255, q_256, q_300, q_380, q_400, q_620, q_999, q_1000, q_4095, q_4096, q_9999, q_65536, q_99999, q_31, nI_add, pk_mul, nE, nL, nT, nM31, nShl, ib_nI, nI_clamp, bI_n0, bI_n1, bI_nar, uI_r, uI_l, uL_r, uL_i, uL_p, uA_r, uA_l, bV_some, bU_some, nar_n0, nar_n1, and_self, and_true, true_and, and_false, false_and, if_true, if_false, eq_self, Bool.false_eq_true, Bool.true_eq_false, not_true_eq_false, not_false_eq_true, ↓reduceIte, nlT, nlF, ntT, ntF, neT, neF, ieT, ieF, decide_true, decide_false, Bool.not_true, Bool.not_false, Bool.and_true, Bool.true_and, Bool.and_false, Bool.false_and, Bool.or_true, Bool.true_or, Bool.or_false, Bool.false_or]
    · by_cases e : s = c
      · subst e
        intro _ y hy hf
        obtain ⟨j, hj, ej⟩ := List.getElem_of_mem hy
        have e2 : F.getD j 0 = y := by
          rw [List.getD_eq_getElem?_getD, List.getElem?_eq_getElem hj]
          exact ej
        have := i3 j hj (by rw [e2]; exact hf)
        rw [e2] at this
        exact this
      · exact i1.2.2.2.2.2.2 s (by omega)
theorem x_fewest {S : Sto} {q : Nat} {A : Tn} (h : RepC S q A) (hw : WF A) : ∃ S' u, call 45 0 [vR 36 0, vR 1 q] S = some (some (vI (nI u)), S') ∧ Fr (pL [37, 38]) S S' ∧ LstP A u := by
  have hWk := hw.wk
  have hM1 := Nat.two_pow_pos (A 0 2)
  have hM12 : 2 ^ A 0 2 ≤ 2 ^ 12 := Nat.pow_le_pow_right (by decide) hWk
  obtain ⟨S1, F, a1, a2, a3, a4, a5⟩ := x_findTwos h hw
  have h1 := h.pl a2 (by decide)
  obtain ⟨S2, b1, b2, b3⟩ := x_fillB (S := S1) (n := 2 ^ A 0 2) (v := 99) (by omega) (by decide)
  have h2 := h1.pl b2 (by decide)
  have hdl : donB A < 2 ^ A 0 2 := by
    apply lt_tb
    intro i hi
    by_cases c : i < 12
    · rw [donB_bit A c]
      have : A 14 i ≠ 1 := fun e => by have := hw.dnw c e; omega
      simp [this]
    · exact tb_hi (show donB A < 2 ^ 12 from bN_lt _ 12) (by omega)
  have ed : donB A &&& (2 ^ A 0 2 - 1) = donB A := by
    rw [Nat.and_two_pow_sub_one_eq_mod, Nat.mod_eq_of_lt hdl]
  have e0 : 2 ^ A 0 2 - 1 + 1 = 2 ^ A 0 2 := by omega
  show ∃ S' u, run 45 0 0 [vR 36 0, vR 1 q, vU, vU, vU, vU, vU, vU] [] S = _ ∧ _
  simp (disch := omega) only [s45_0, s45_1, s45_2, s45_5, s45_6, s45_7, s45_8, s45_11, s45_12, s45_13, s45_14, s45_15, s45_16, s45_19, s45_20, s45_21, s45_22, s45_23, s45_25, s45_28, s45_29, s45_32, s45_33, s45_36, s45_37, s45_38, s45_39, s45_40, s45_41, s45_45, s45_46, s45_49, s45_50, s45_53, s45_55, s45_56, s45_58, s45_61, s45_63, s45_64, s45_65, s45_67, s45_68, s45_69, s45_70, s45_72, s45_73, s45_77, s45_78, s45_81, s45_83, s45_84, s45_87, s45_89, s45_90, s45_91, s45_92, s45_93, s45_95, s45_96, s45_99, s45_101, s45_102, s45_104, s45_105, s45_108, s45_109, s45_112, s45_114, s45_115, s45_116, s45_117, s45_118, s45_121, s45_123, s45_124, s45_127, s45_128, s45_131, s45_133, s45_134, s45_137, s45_139, s45_140, s45_141, s45_142, s45_143, s45_144, s45_147, s45_150, s45_153, s45_156, s45_157, s45_160, s45_161, s45_162, q_0, q_1, q_2, q_3, q_4, q_5, q_6, q_7, q_8, q_9, q_10, q_11, q_12, q_13, q_14, q_16, q_20, q_23, q_24, q_32, q_42, q_43, q_45, q_47, q_48, q_50, q_57, q_59, q_60, q_61, q_62, q_63, q_64, q_66, q_91, q_93, q_97, q_99, q_122, q_144, q_255, q_256, q_300, q_380, q_400, q_620, q_999, q_1000, q_4095, q_4096, q_9999, q_65536, q_99999, q_31, nI_add, pk_mul, nE, nL, nT, nM31, nShl, ib_nI, nI_clamp, bI_n0, bI_n1, bI_nar, uI_r, uI_l, uL_r, uL_i, uL_p, uA_r, uA_l, bV_some, bU_some, nar_n0, nar_n1, and_self, and_true, true_and, and_false, false_and, if_true, if_false, eq_self, Bool.false_eq_true, Bool.true_eq_false, not_true_eq_false, not_false_eq_true, ↓reduceIte, nlT, nlF, ntT, ntF, neT, neF, ieT, ieF, decide_true, decide_false, Bool.not_true, Bool.not_false, Bool.and_true, Bool.true_and, Bool.and_false, Bool.false_and, Bool.or_true, Bool.true_or, Bool.or_false, Bool.false_or, a1, h1.wk, h2.dnb, nSub, e0, b1, nx_and, nA31, ed, byt1]
  refine upS (σ := (Sto × (Nat → Nat)) × av × av × av) (I := fun c s => DpI A S s.1.1 F s.1.2 c) (F := fun c s => run 45 0 43 [vR 36 0, vR 1 q, vI (nI F.length), vI (nI (2 ^ A 0 2 - 1)), vI (nI c), s.2.1, s.2.2.1, s.2.2.2] [] s.1.1) (Q := fun w => ∃ S' u, w = some (some (vI (nI u)), S') ∧ Fr (pL [37, 38]) S S' ∧ LstP A u) (N := 2 ^ A 0 2 - 1) ?_ ?_ 0 ((uI S2 38 0 (donB A) (nI 0), upN (fun _ => 99) (donB A) 0), vU, vU, vU) (by omega) ?_
  · intro c s hc hI
    obtain ⟨⟨S3, g⟩, x, y, z⟩ := s
    simp only at hI
    have r2 := hI.2.2.1 c (by omega)
    have g2 := hI.2.2.2.1 c (by omega)
    have ef : (nI c ^^^ (-nI 1)) &&& nI (c + 1) = nI (dif (c + 1) c) := by
      rw [Int32.and_comm]
      exact nI_dif (by omega)
    refine Or.inr ?_
    show ∃ s', _ ∧ run 45 0 43 [vR 36 0, vR 1 q, vI (nI F.length), vI (nI (2 ^ A 0 2 - 1)), vI (nI c), x, y, z] [] S3 = _
    rw [s45_43]
    by_cases c1 : g c < 99
    · obtain ⟨S4, g4, x', y', z', d1, d2⟩ := x_fwIn (q := q) (x7 := z) hw a5 a4 hI (by omega) c1
      refine ⟨((S4, g4), x', y', z'), d2, ?_⟩
      simp (disch := omega) only [s45_0, s45_1, s45_2, s45_5, s45_6, s45_7, s45_8, s45_11, s45_12, s45_13, s45_14, s45_15, s45_16, s45_19, s45_20, s45_21, s45_22, s45_23, s45_25, s45_28, s45_29, s45_32, s45_33, s45_36, s45_37, s45_38, s45_39, s45_40, s45_41, s45_45, s45_46, s45_49, s45_50, s45_53, s45_55, s45_56, s45_58, s45_61, s45_63, s45_64, s45_65, s45_67, s45_68, s45_69, s45_70, s45_72, s45_73, s45_77, s45_78, s45_81, s45_83, s45_84, s45_87, s45_89, s45_90, s45_91, s45_92, s45_93, s45_95, s45_96, s45_99, s45_101, s45_102, s45_104, s45_105, s45_108, s45_109, s45_112, s45_114, s45_115, s45_116, s45_117, s45_118, s45_121, s45_123, s45_124, s45_127, s45_128, s45_131, s45_133, s45_134, s45_137, s45_139, s45_140, s45_141, s45_142, s45_143, s45_144, s45_147, s45_150, s45_153, s45_156, s45_157, s45_160, s45_161, s45_162, q_0, q_1, q_2, q_3, q_4, q_5, q_6, q_7, q_8, q_9, q_10, q_11, q_12, q_13, q_14, q_16, q_20, q_23, q_24, q_32, q_42, q_43, q_45, q_47, q_48, q_50, q_57, q_59, q_60, q_61, q_62, q_63, q_64, q_66, q_91, q_93, q_97, q_99, q_122, q_144, q_255, q_256, q_300, q_380, q_400, q_620, q_999, q_1000, q_4095, q_4096, q_9999, q_65536, q_99999, q_31, nI_add, pk_mul, nE, nL, nT, nM31, nShl, ib_nI, nI_clamp, bI_n0, bI_n1, bI_nar, uI_r, uI_l, uL_r, uL_i, uL_p, uA_r, uA_l, bV_some, bU_some, nar_n0, nar_n1, and_self, and_true, true_and, and_false, false_and, if_true, if_false, eq_self, Bool.false_eq_true, Bool.true_eq_false, not_true_eq_false, not_false_eq_true, ↓reduceIte, nlT, nlF, ntT, ntF, neT, neF, ieT, ieF, decide_true, decide_false, Bool.not_true, Bool.not_false, Bool.and_true, Bool.true_and, Bool.and_false, Bool.false_and, Bool.or_true, Bool.true_or, Bool.or_false, Bool.false_or, r2, ef]
      exact d1
    · refine ⟨((S3, g), x, y, z), ⟨hI.1, hI.2.1, hI.2.2.1, hI.2.2.2.1, hI.2.2.2.2.1, hI.2.2.2.2.2.1, fun s hs => ?_⟩, ?_⟩
      · by_cases e : s = c
        · subst e
          intro hg
          exact absurd hg c1
        · exact hI.2.2.2.2.2.2 s (by omega)
      · simp (disch := omega) only [s45_0, s45_1, s45_2, s45_5, s45_6, s45_7, s45_8, s45_11, s45_12, s45_13, s45_14, s45_15, s45_16, s45_19, s45_20, s45_21, s45_22, s45_23, s45_25, s45_28, s45_29, s45_32, s45_33, s45_36, s45_37, s45_38, s45_39, s45_40, s45_41, s45_45, s45_46, s45_49, s45_50, s45_53, s45_55, s45_56, s45_58, s45_61, s45_63, s45_64, s45_65, s45_67, s45_68, s45_69, s45_70, s45_72, s45_73, s45_77, s45_78, s45_81, s45_83, s45_84, s45_87, s45_89, s45_90, s45_91, s45_92, s45_93, s45_95, s45_96, s45_99, s45_101, s45_102, s45_104, s45_105, s45_108, s45_109, s45_112, s45_114, s45_115, s45_116, s45_117, s45_118, s45_121, s45_123, s45_124, s45_127, s45_128, s45_131, s45_133, s45_134, s45_137, s45_139, s45_140, s45_141, s45_142, s45_143, s45_144, s45_147, s45_150, s45_153, s45_156, s45_157, s45_160, s45_161, s45_162, q_0, q_1, q_2, q_3, q_4, q_5, q_6, q_7, q_8, q_9, q_10, q_11, q_12, q_13, q_14, q_16, q_20, q_23, q_24, q_32, q_42, q_43, q_45, q_47, q_48, q_50, q_57, q_59, q_60, q_61, q_62, q_63, q_64, q_66, q_91, q_93, q_97, q_99, q_122, q_144, q_255, q_256, q_300, q_380, q_400, q_620, q_999, q_1000, q_4095, q_4096, q_9999, q_65536, q_99999, q_31, nI_add, pk_mul, nE, nL, nT, nM31, nShl, ib_nI, nI_clamp, bI_n0, bI_n1, bI_nar, uI_r, uI_l, uL_r, uL_i, uL_p, uA_r, uA_l, bV_some, bU_some, nar_n0, nar_n1, and_self, and_true, true_and, and_false, false_and, if_true, if_false, eq_self, Bool.false_eq_true, Bool.true_eq_false, not_true_eq_false, not_false_eq_true, ↓reduceIte, nlT, nlF, ntT, ntF, neT, neF, ieT, ieF, decide_true, decide_false, Bool.not_true, Bool.not_false, Bool.and_true, Bool.true_and, Bool.and_false, Bool.false_and, Bool.or_true, Bool.true_or, Bool.or_false, Bool.false_or, r2]
  · intro s hI
    obtain ⟨⟨S3, g⟩, x, y, z⟩ := s
    simp only at hI
    have r2 := hI.2.2.1 (2 ^ A 0 2 - 1) (by omega)
    refine ⟨S3, g (2 ^ A 0 2 - 1), ?_, hI.1, dp_fin hw a5 hI.2.2.2.1 hI.2.2.2.2.1 hI.2.2.2.2.2.1 (fun s hs => hI.2.2.2.2.2.2 s (by omega))⟩
    show run 45 0 43 [vR 36 0, vR 1 q, vI (nI F.length), vI (nI (2 ^ A 0 2 - 1)), vI (nI (2 ^ A 0 2 - 1)), x, y, z] [] S3 = _
    rw [s45_43]
    simp (disch := omega) only [s45_0, s45_1, s45_2, s45_5, s45_6, s45_7, s45_8, s45_11, s45_12, s45_13, s45_14, s45_15, s45_16, s45_19, s45_20, s45_21, s45_22, s45_23, s45_25, s45_28, s45_29, s45_32, s45_33, s45_36, s45_37, s45_38, s45_39, s45_40, s45_41, s45_45, s45_46, s45_49, s45_50, s45_53, s45_55, s45_56, s45_58, s45_61, s45_63, s45_64, s45_65, s45_67, s45_68, s45_69, s45_70, s45_72, s45_73, s45_77, s45_78, s45_81, s45_83, s45_84, s45_87, s45_89, s45_90, s45_91, s45_92, s45_93, s45_95, s45_96, s45_99, s45_101, s45_102, s45_104, s45_105, s45_108, s45_109, s45_112, s45_114, s45_115, s45_116, s45_117, s45_118, s45_121, s45_123, s45_124, s45_127, s45_128, s45_131, s45_133, s45_134, s45_137, s45_139, s45_140, s45_141, s45_142, s45_143, s45_144, s45_147, s45_150, s45_153, s45_156, s45_157, s45_160, s45_161, s45_162, q_0, q_1, q_2, q_3, q_4, q_5, q_6, q_7, q_8, q_9, q_10, q_11, q_12, q_13, q_14, q_16, q_20, q_23, q_24, q_32, q_42, q_43, q_45, q_47, q_48, q_50, q_57, q_59, q_60, q_61, q_62, q_63, q_64, q_66, q_91, q_93, q_97, q_99, q_122, q_144, q_255, q_256, q_300, q_380, q_400, q_620, q_999, q_1000, q_4095, q_4096, q_9999, q_65536, q_99999, q_31, nI_add, pk_mul, nE, nL, nT, nM31, nShl, ib_nI, nI_clamp, bI_n0, bI_n1, bI_nar, uI_r, uI_l, uL_r, uL_i, uL_p, uA_r, uA_l, bV_some, bU_some, nar_n0, nar_n1, and_self, and_true, true_and, and_false, false_and, if_true, if_false, eq_self, Bool.false_eq_true, Bool.true_eq_false, not_true_eq_false, not_false_eq_true, ↓reduceIte, nlT, nlF, ntT, ntF, neT, neF, ieT, ieF, decide_true, decide_false, Bool.not_true, Bool.not_false, Bool.and_true, Bool.true_and, Bool.and_false, Bool.false_and, Bool.or_true, Bool.true_or, Bool.or_false, Bool.false_or, r2]
  · refine ⟨((a2.pl (by simp)).tr (b2.pl (by simp))).uI rfl, ?_, fun c hc => ?_, fun c hc => ?_, ?_, ?_, fun s hs => by omega⟩
    · refine FmS.uI (fun i hi => ?_) (by decide)
      rw [b2.i rfl]
      exact a3 i hi
    · show (uI S2 38 0 (donB A) (nI 0)).1 38 0 c = nI (upN (fun _ => 99) (donB A) 0 c)
      rw [uI_r, upN_r]
      by_cases e : c = donB A
      · rw [if_pos ⟨rfl, rfl, e⟩, if_pos e]
      · rw [if_neg (by omega), if_neg e]
        exact b3 c hc
    · show upN (fun _ => 99) (donB A) 0 c ≤ 99
      rw [upN_r]
      split <;> omega
    · show upN (fun _ => 99) (donB A) 0 (donB A) = 0
      rw [upN_r, if_pos rfl]
    · intro c hc hg
      simp only [upN_r] at hg ⊢
      by_cases e : c = donB A
      · rw [if_pos e]
        exact ⟨[], by simp, rfl, by rw [e]; simp [orL]⟩
      · rw [if_neg e] at hg
        omega
theorem c_least {S : Sto} {A : Tn} (h : RepC S 0 A) (hw : WF A) : ∃ S1 u, call 124 0 [vR 0 0] S = some (some (vI (nI u)), S1) ∧ FC S S1 ∧ RepC S1 0 A ∧ LstP A u := by
  obtain ⟨S1, u, a1, a2, a3⟩ := x_fewest h hw
  show ∃ S1 u, run 124 0 0 [vR 0 0] [] S = _ ∧ _
  simp (disch := omega) only [s124_0, s124_1, s124_4, s124_5, s124_8, s124_11, q_0, q_1, q_2, q_3, q_4, q_5, q_6, q_7, q_8, q_9, q_10, q_11, q_12, q_13, q_14, q_16, q_20, q_23, q_24, q_32, q_42, q_43, q_45, q_47, q_48, q_50, q_57, q_59, q_60, q_61, q_62, q_63, q_64, q_66, q_91, q_93, q_97, q_99, q_122, q_144, q_255, q_256, q_300, q_380, q_400, q_620, q_999, q_1000, q_4095, q_4096, q_9999, q_65536, q_99999, q_31, nI_add, pk_mul, nE, nL, nT, nM31, nShl, ib_nI, nI_clamp, bI_n0, bI_n1, bI_nar, uI_r, uI_l, uL_r, uL_i, uL_p, uA_r, uA_l, bV_some, bU_some, nar_n0, nar_n1, and_self, and_true, true_and, and_false, false_and, if_true, if_false, eq_self, Bool.false_eq_true, Bool.true_eq_false, not_true_eq_false, not_false_eq_true, ↓reduceIte, nlT, nlF, ntT, ntF, neT, neF, ieT, ieF, decide_true, decide_false, Bool.not_true, Bool.not_false, Bool.and_true, Bool.true_and, Bool.and_false, Bool.false_and, Bool.or_true, Bool.true_or, Bool.or_false, Bool.false_or, a1]
  exact ⟨_, u, rfl, FC.pl a2 (by decide), h.pl a2 (by decide), a3⟩
