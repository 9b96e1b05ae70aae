/-! the fewest twos (reference) -/
def MdI (A : Tn) (S S1 : Sto) (g : Nat → Nat) (R : Nat → Prop) : Prop := Fr (pL [87]) S S1 ∧ (∀ c, c < 4096 → S1.1 87 0 c = nI (g c)) ∧ (∀ c, c < 4096 → g c ≤ 4096) ∧ (∀ c, c < 4096 → g c < 4096 → ∃ l : List Nat, (∀ x, x ∈ l → PrA A x) ∧ l.length = g c ∧ orL l = c) ∧ ∀ l : List Nat, (∀ x, x ∈ l → PrA A x ∧ R x) → g (orL l) ≤ l.length
theorem orL_er {x : Nat} : ∀ {l : List Nat}, x ∈ l → orL l = x ||| orL (l.erase x) := by
  intro l hx
  apply Nat.eq_of_testBit_eq
  intro i
  rw [Nat.testBit_or, Bool.eq_iff_iff, Bool.or_eq_true, orL_bit, orL_bit]
  constructor
  · rintro ⟨y, y1, y2⟩
    by_cases e : y = x
    · subst e; exact Or.inl y2
    · exact Or.inr ⟨y, (List.mem_erase_of_ne e).mpr y1, y2⟩
  · rintro (h | ⟨y, y1, y2⟩)
    · exact ⟨x, hx, h⟩
    · exact ⟨y, List.mem_of_mem_erase y1, y2⟩
theorem md_new {A : Tn} {g0 g : Nat → Nat} {R : Nat → Prop} {by' : Nat} (hw : WF A) (h0 : ∀ l : List Nat, (∀ x, x ∈ l → PrA A x ∧ R x) → g0 (orL l) ≤ l.length) (hle : ∀ c, c < 4096 → g c ≤ g0 c) (hn : ∀ s, s < 4096 → g (s ||| by') ≤ g0 s + 1) : ∀ n (l : List Nat), l.length = n → (∀ x, x ∈ l → PrA A x ∧ (R x ∨ x = by')) → g (orL l) ≤ l.length := by
  have hlt : ∀ l : List Nat, (∀ x, x ∈ l → PrA A x) → orL l < 4096 := by
    intro l hl
    refine orL_lt (n := 12) (fun x hx => ?_)
    obtain ⟨_, a, b, _, _, _, e⟩ := hl x hx
    rw [e]
    exact ndS_lt hw a b
  intro n
  induction n using Nat.strongRecOn with
  | _ n ih =>
    intro l hl hx
    by_cases c : by' ∈ l
    · have e1 := orL_er c
      have e2 := List.length_erase_of_mem c
      have e3 := List.length_pos_of_mem c
      have hx' : ∀ x, x ∈ l.erase by' → PrA A x ∧ (R x ∨ x = by') := fun x h => hx x (List.mem_of_mem_erase h)
      by_cases c2 : by' ∈ l.erase by'
      · have e4 : orL l = orL (l.erase by') := by
          rw [e1, orL_er c2, ← Nat.or_assoc, Nat.or_self]
        have := ih (l.erase by').length (by omega) (l.erase by') rfl hx'
        rw [e4]
        omega
      · have hR : ∀ x, x ∈ l.erase by' → PrA A x ∧ R x := by
          intro x h
          have h1 := hx' x h
          rcases h1.2 with h2 | h2
          · exact ⟨h1.1, h2⟩
          · rw [h2] at h; exact absurd h c2
        have h1 := h0 _ hR
        have h2 := hn _ (hlt _ (fun x h => (hR x h).1))
        rw [e1, Nat.or_comm]
        omega
    · have hR : ∀ x, x ∈ l → PrA A x ∧ R x := by
        intro x h
        have h1 := hx x h
        rcases h1.2 with h2 | h2
        · exact ⟨h1.1, h2⟩
        · rw [h2] at h; exact absurd h c
      have h1 := h0 _ hR
      have h2 := hle _ (hlt _ (fun x h => (hR x h).1))
      omega
theorem m_pass {S S1 : Sto} {A : Tn} {g0 : Nat → Nat} {R : Nat → Prop} {by' a b o : Nat} {x6 : av} (hw : WF A) (hI0 : MdI A S S1 g0 R) (hb : PrA A by') (hbl : by' < 4096) (ha : a < 12) (hb2 : b < 12) : ∃ S2 g x y z, run 236 0 152 [vR 50 0, vI (nI o), vI (nI a), vI (nI b), vI (nI by'), vI (nI 4096 - nI 1), x6] [] S1 = run 236 0 85 [vR 50 0, vI (nI o), vI (nI a), vI (nI (b + 1)), x, y, z] [] S2 ∧ MdI A S S2 g (fun x => R x ∨ x = by') := by
  have hb0 : 0 < by' := Nat.pos_of_ne_zero hb.1
  refine upS (σ := (Sto × (Nat → Nat)) × av) (I := fun i s => Fr (pL [87]) S s.1.1 ∧ (∀ c, c < 4096 → s.1.1.1 87 0 c = nI (s.1.2 c)) ∧ (∀ c, c < 4096 → s.1.2 c ≤ g0 c) ∧ (∀ c, c < 4096 → s.1.2 c < 4096 → ∃ l : List Nat, (∀ x, x ∈ l → PrA A x) ∧ l.length = s.1.2 c ∧ orL l = c) ∧ ∀ t, t < 4096 → 4096 - i ≤ t → s.1.2 (t ||| by') ≤ g0 t + 1) (F := fun i s => run 236 0 152 [vR 50 0, vI (nI o), vI (nI a), vI (nI b), vI (nI by'), vI (nI (4096 - i) - nI 1), s.2] [] s.1.1) (Q := fun w => ∃ S2 g x y z, w = run 236 0 85 [vR 50 0, vI (nI o), vI (nI a), vI (nI (b + 1)), x, y, z] [] S2 ∧ MdI A S S2 g (fun x => R x ∨ x = by')) (N := 4096) ?_ ?_ 0 ((S1, g0), x6) (by omega) ⟨hI0.1, hI0.2.1, fun c _ => Nat.le_refl _, hI0.2.2.2.1, fun t h1 h2 => by omega⟩
  · intro i s hi hI
    obtain ⟨⟨S2, g⟩, x⟩ := s
    obtain ⟨i1, i2, i3, i4, i5⟩ := hI
    simp only at i1 i2 i3 i4 i5
    have e1 : nI (4096 - i) - nI 1 = nI (4095 - i) := by
      rw [nSub (by omega)]
      congr 1
      omega
    have e2 : nI (4095 - i) + (-nI 1) = nI (4096 - (i + 1)) - nI 1 := by
      rw [show 4096 - (i + 1) = 4095 - i by omega, Int32.sub_eq_add_neg]
    have hs : 4095 - i < 4096 := by omega
    have ht : (4095 - i) ||| by' < 4096 := Nat.or_lt_two_pow (n := 12) hs hbl
    have r1 := i2 _ hs
    have r2 := i2 _ ht
    have q1 := i3 _ hs
    have q2 := i3 _ ht
    have q3 := hI0.2.2.1 _ hs
    have q4 := hI0.2.2.1 _ ht
    refine Or.inr ?_
    show ∃ s', _ ∧ run 236 0 152 [vR 50 0, vI (nI o), vI (nI a), vI (nI b), vI (nI by'), vI (nI (4096 - i) - nI 1), x] [] S2 = _
    rw [s236_152, e1]
    have hup : (∀ c, c < 4096 → (uI S2 87 0 ((4095 - i) ||| by') (nI (if g (4095 - i) + 1 < g ((4095 - i) ||| by') then g (4095 - i) + 1 else g ((4095 - i) ||| by')))).1 87 0 c = nI (upN g ((4095 - i) ||| by') (if g (4095 - i) + 1 < g ((4095 - i) ||| by') then g (4095 - i) + 1 else g ((4095 - i) ||| by')) c)) := by
      intro c hc
      rw [uI_r, upN_r]
      by_cases e : c = (4095 - i) ||| by'
      · rw [if_pos ⟨rfl, rfl, e⟩, if_pos e]
      · rw [if_neg (by omega), if_neg e]
        exact i2 c hc
    have hle : ∀ c, upN g ((4095 - i) ||| by') (if g (4095 - i) + 1 < g ((4095 - i) ||| by') then g (4095 - i) + 1 else g ((4095 - i) ||| by')) c ≤ g c := by
      intro c
      rw [upN_r]
      by_cases e : c = (4095 - i) ||| by'
      · rw [if_pos e, e]
        split <;> omega
      · rw [if_neg e]
        exact Nat.le_refl _
    refine ⟨((uI S2 87 0 ((4095 - i) ||| by') (nI (if g (4095 - i) + 1 < g ((4095 - i) ||| by') then g (4095 - i) + 1 else g ((4095 - i) ||| by'))), upN g ((4095 - i) ||| by') (if g (4095 - i) + 1 < g ((4095 - i) ||| by') then g (4095 - i) + 1 else g ((4095 - i) ||| by'))), vI (nI ((4095 - i) ||| by'))), ⟨i1.uI rfl, hup, fun c hc => Nat.le_trans (hle c) (i3 c hc), ?_, ?_⟩, ?_⟩
    · intro c hc hg
      simp only [upN_r] at hg ⊢
      by_cases e : c = (4095 - i) ||| by'
      · rw [if_pos e] at hg ⊢
        by_cases c2 : g (4095 - i) + 1 < g ((4095 - i) ||| by')
        · rw [if_pos c2]
          obtain ⟨l, l1, l2, l3⟩ := i4 _ hs (by omega)
          refine ⟨by' :: l, fun y hy => ?_, by simp [l2], ?_⟩
          · simp only [List.mem_cons] at hy
            rcases hy with rfl | hy
            · exact hb
            · exact l1 y hy
          · show by' ||| orL l = c
            rw [l3, e, Nat.or_comm]
        · rw [if_neg c2] at hg ⊢
          rw [e]
          exact i4 _ ht hg
      · rw [if_neg e] at hg ⊢
        exact i4 c hc hg
    · intro t h1 h2
      show upN g ((4095 - i) ||| by') _ (t ||| by') ≤ g0 t + 1
      by_cases c : t = 4095 - i
      · rw [c, upN_r, if_pos rfl]
        split <;> omega
      · have := hle (t ||| by')
        have := i5 t h1 (by omega)
        omega
    · by_cases c2 : g (4095 - i) + 1 < g ((4095 - i) ||| by')
      · simp (disch := omega) only [s236_0, s236_1, s236_2, s236_3, s236_5, s236_6, s236_9, s236_10, s236_11, s236_14, s236_15, s236_16, s236_19, s236_20, s236_21, s236_24, s236_25, s236_26, s236_27, s236_30, s236_31, s236_32, s236_33, s236_36, s236_39, s236_40, s236_42, s236_45, s236_48, s236_49, s236_52, s236_53, s236_54, s236_57, s236_58, s236_61, s236_64, s236_65, s236_68, s236_71, s236_72, s236_74, s236_75, s236_78, s236_79, s236_80, s236_83, s236_84, s236_86, s236_87, s236_90, s236_91, s236_93, s236_94, s236_98, s236_99, s236_102, s236_103, s236_104, s236_107, s236_109, s236_110, s236_113, s236_115, s236_116, s236_119, s236_120, s236_122, s236_123, s236_124, s236_127, s236_130, s236_131, s236_133, s236_134, s236_137, s236_138, s236_139, s236_141, s236_144, s236_147, s236_150, s236_154, s236_157, s236_159, s236_162, s236_164, s236_166, s236_167, s236_169, s236_170, s236_173, s236_175, s236_176, s236_179, s236_181, s236_182, s236_183, s236_184, s236_185, s236_188, s236_190, s236_191, s236_194, s236_195, s236_198, s236_200, s236_201, s236_202, s236_203, s236_206, s236_207, s236_210, s236_212, s236_213, s236_214, s236_217, s236_220, s236_223, s236_226, s236_229, s236_232, s236_233, s236_236, s236_237, s236_238, q_0, q_1, q_2, q_3, q_4, q_5, q_6, q_7, q_8, q_9, q_10, q_11, q_12, q_13, q_14, q_16, q_20, q_23, q_24, q_32, q_42, q_43, q_45, q_47, q_48, q_50, q_57, q_59, q_60, q_61, q_62, q_63, q_64, q_66, q_91, q_93, q_97, q_99, q_122, q_144, q_255, q_256, q_300, q_380, q_400, q_620, q_999, q_1000, q_4095, q_4096, q_9999, q_65536, q_99999, q_31, nI_add, pk_mul, nE, nL, nT, nM31, nShl, ib_nI, nI_clamp, bI_n0, bI_n1, bI_nar, uI_r, uI_l, uL_r, uL_i, uL_p, uA_r, uA_l, bV_some, bU_some, nar_n0, nar_n1, and_self, and_true, true_and, and_false, false_and, if_true, if_false, eq_self, Bool.false_eq_true, Bool.true_eq_false, not_true_eq_false, not_false_eq_true, ↓reduceIte, nlT, nlF, ntT, ntF, neT, neF, ieT, ieF, decide_true, decide_false, Bool.not_true, Bool.not_false, Bool.and_true, Bool.true_and, Bool.and_false, Bool.false_and, Bool.or_true, Bool.true_or, Bool.or_false, Bool.false_or, r1, r2, nx_or, c2, e2]
      · simp (disch := omega) only [s236_0, s236_1, s236_2, s236_3, s236_5, s236_6, s236_9, s236_10, s236_11, s236_14, s236_15, s236_16, s236_19, s236_20, s236_21, s236_24, s236_25, s236_26, s236_27, s236_30, s236_31, s236_32, s236_33, s236_36, s236_39, s236_40, s236_42, s236_45, s236_48, s236_49, s236_52, s236_53, s236_54, s236_57, s236_58, s236_61, s236_64, s236_65, s236_68, s236_71, s236_72, s236_74, s236_75, s236_78, s236_79, s236_80, s236_83, s236_84, s236_86, s236_87, s236_90, s236_91, s236_93, s236_94, s236_98, s236_99, s236_102, s236_103, s236_104, s236_107, s236_109, s236_110, s236_113, s236_115, s236_116, s236_119, s236_120, s236_122, s236_123, s236_124, s236_127, s236_130, s236_131, s236_133, s236_134, s236_137, s236_138, s236_139, s236_141, s236_144, s236_147, s236_150, s236_154, s236_157, s236_159, s236_162, s236_164, s236_166, s236_167, s236_169, s236_170, s236_173, s236_175, s236_176, s236_179, s236_181, s236_182, s236_183, s236_184, s236_185, s236_188, s236_190, s236_191, s236_194, s236_195, s236_198, s236_200, s236_201, s236_202, s236_203, s236_206, s236_207, s236_210, s236_212, s236_213, s236_214, s236_217, s236_220, s236_223, s236_226, s236_229, s236_232, s236_233, s236_236, s236_237, s236_238, q_0, q_1, q_2, q_3, q_4, q_5, q_6, q_7, q_8, q_9, q_10, q_11, q_12, q_13, q_14, q_16, q_20, q_23, q_24, q_32, q_42, q_43, q_45, q_47, q_48, q_50, q_57, q_59, q_60, q_61, q_62, q_63, q_64, q_66, q_91, q_93, q_97, q_99, q_122, q_144, q_255, q_256, q_300, q_380, q_400, q_620, q_999, q_1000, q_4095, q_4096, q_9999, q_65536, q_99999, q_31, nI_add, pk_mul, nE, nL, nT, nM31, nShl, ib_nI, nI_clamp, bI_n0, bI_n1, bI_nar, uI_r, uI_l, uL_r, uL_i, uL_p, uA_r, uA_l, bV_some, bU_some, nar_n0, nar_n1, and_self, and_true, true_and, and_false, false_and, if_true, if_false, eq_self, Bool.false_eq_true, Bool.true_eq_false, not_true_eq_false, not_false_eq_true, ↓reduceIte, nlT, nlF, ntT, ntF, neT, neF, ieT, ieF, decide_true, decide_false, Bool.not_true, Bool.not_false, Bool.and_true, Bool.true_and, Bool.and_false, Bool.false_and, Bool.or_true, Bool.true_or, Bool.or_false, Bool.false_or, r1, r2, nx_or, c2, e2]
  · intro s hI
    obtain ⟨⟨S2, g⟩, x⟩ := s
    obtain ⟨i1, i2, i3, i4, i5⟩ := hI
    simp only at i1 i2 i3 i4 i5
    have e1 : (nI (4096 - 4096) - nI 1 : Int32) = -nI 1 := by decide
    have e2 : (-nI 1 < nI 0) = True := by decide
    refine ⟨S2, g, vI (nI by'), vI (-nI 1), x, ?_, i1, i2, fun c hc => Nat.le_trans (i3 c hc) (hI0.2.2.1 c hc), i4, fun l hl => ?_⟩
    · show run 236 0 152 [vR 50 0, vI (nI o), vI (nI a), vI (nI b), vI (nI by'), vI (nI (4096 - 4096) - nI 1), x] [] S2 = _
      rw [s236_152, e1]
      simp (disch := omega) only [s236_0, s236_1, s236_2, s236_3, s236_5, s236_6, s236_9, s236_10, s236_11, s236_14, s236_15, s236_16, s236_19, s236_20, s236_21, s236_24, s236_25, s236_26, s236_27, s236_30, s236_31, s236_32, s236_33, s236_36, s236_39, s236_40, s236_42, s236_45, s236_48, s236_49, s236_52, s236_53, s236_54, s236_57, s236_58, s236_61, s236_64, s236_65, s236_68, s236_71, s236_72, s236_74, s236_75, s236_78, s236_79, s236_80, s236_83, s236_84, s236_86, s236_87, s236_90, s236_91, s236_93, s236_94, s236_98, s236_99, s236_102, s236_103, s236_104, s236_107, s236_109, s236_110, s236_113, s236_115, s236_116, s236_119, s236_120, s236_122, s236_123, s236_124, s236_127, s236_130, s236_131, s236_133, s236_134, s236_137, s236_138, s236_139, s236_141, s236_144, s236_147, s236_150, s236_154, s236_157, s236_159, s236_162, s236_164, s236_166, s236_167, s236_169, s236_170, s236_173, s236_175, s236_176, s236_179, s236_181, s236_182, s236_183, s236_184, s236_185, s236_188, s236_190, s236_191, s236_194, s236_195, s236_198, s236_200, s236_201, s236_202, s236_203, s236_206, s236_207, s236_210, s236_212, s236_213, s236_214, s236_217, s236_220, s236_223, s236_226, s236_229, s236_232, s236_233, s236_236, s236_237, s236_238, q_0, q_1, q_2, q_3, q_4, q_5, q_6, q_7, q_8, q_9, q_10, q_11, q_12, q_13, q_14, q_16, q_20, q_23, q_24, q_32, q_42, q_43, q_45, q_47, q_48, q_50, q_57, q_59, q_60, q_61, q_62, q_63, q_64, q_66, q_91, q_93, q_97, q_99, q_122, q_144, q_255, q_256, q_300, q_380, q_400, q_620, q_999, q_1000, q_4095, q_4096, q_9999, q_65536, q_99999, q_31, nI_add, pk_mul, nE, nL, nT, nM31, nShl, ib_nI, nI_clamp, bI_n0, bI_n1, bI_nar, uI_r, uI_l, uL_r, uL_i, uL_p, uA_r, uA_l, bV_some, bU_some, nar_n0, nar_n1, and_self, and_true, true_and, and_false, false_and, if_true, if_false, eq_self, Bool.false_eq_true, Bool.true_eq_false, not_true_eq_false, not_false_eq_true, ↓reduceIte, nlT, nlF, ntT, ntF, neT, neF, ieT, ieF, decide_true, decide_false, Bool.not_true, Bool.not_false, Bool.and_true, Bool.true_and, Bool.and_false, Bool.false_and, Bool.or_true, Bool.true_or, Bool.or_false, Bool.false_or, e2]
    · exact md_new hw hI0.2.2.2.2 i3 (fun s hs => i5 s hs (by omega)) l.length l rfl hl
theorem m_by {S1 : Sto} {A : Tn} {a b o : Nat} {x5 x6 : av} (h : RepM S1 A) (hw : WF A) (ha : a < 12) (hb : b < 12) : run 236 0 96 [vR 50 0, vI (nI o), vI (nI a), vI (nI b), vI (nI 0), vI (nI 0), x6] [] S1 = run 236 0 152 [vR 50 0, vI (nI o), vI (nI a), vI (nI b), vI (nI (ndS A a b)), vI (nI 4096 - nI 1), x6] [] S1 := by
  have hWk := hw.wk
  refine up_ (F := fun i => run 236 0 96 [vR 50 0, vI (nI o), vI (nI a), vI (nI b), vI (nI (bN (ndW A a b) i)), vI (nI i), x6] [] S1) (N := A 0 2) ?_ ?_ 0 (by omega)
  · intro i hi
    have hd := hw.dn (w := i) (by omega)
    have e1 := m_needs h hw (w := i) (by omega) ha hb
    show run 236 0 96 _ _ _ = run 236 0 96 _ _ _
    rw [s236_96]
    by_cases c1 : A 14 i = 0
    · cases c2 : ndB A i a b with
      | false =>
        have e := bN_f (P := ndW A a b) (i := i) (by simp [ndW, c2])
        rw [c2] at e1
        simp (disch := omega) only [s236_0, s236_1, s236_2, s236_3, s236_5, s236_6, s236_9, s236_10, s236_11, s236_14, s236_15, s236_16, s236_19, s236_20, s236_21, s236_24, s236_25, s236_26, s236_27, s236_30, s236_31, s236_32, s236_33, s236_36, s236_39, s236_40, s236_42, s236_45, s236_48, s236_49, s236_52, s236_53, s236_54, s236_57, s236_58, s236_61, s236_64, s236_65, s236_68, s236_71, s236_72, s236_74, s236_75, s236_78, s236_79, s236_80, s236_83, s236_84, s236_86, s236_87, s236_90, s236_91, s236_93, s236_94, s236_98, s236_99, s236_102, s236_103, s236_104, s236_107, s236_109, s236_110, s236_113, s236_115, s236_116, s236_119, s236_120, s236_122, s236_123, s236_124, s236_127, s236_130, s236_131, s236_133, s236_134, s236_137, s236_138, s236_139, s236_141, s236_144, s236_147, s236_150, s236_154, s236_157, s236_159, s236_162, s236_164, s236_166, s236_167, s236_169, s236_170, s236_173, s236_175, s236_176, s236_179, s236_181, s236_182, s236_183, s236_184, s236_185, s236_188, s236_190, s236_191, s236_194, s236_195, s236_198, s236_200, s236_201, s236_202, s236_203, s236_206, s236_207, s236_210, s236_212, s236_213, s236_214, s236_217, s236_220, s236_223, s236_226, s236_229, s236_232, s236_233, s236_236, s236_237, s236_238, q_0, q_1, q_2, q_3, q_4, q_5, q_6, q_7, q_8, q_9, q_10, q_11, q_12, q_13, q_14, q_16, q_20, q_23, q_24, q_32, q_42, q_43, q_45, q_47, q_48, q_50, q_57, q_59, q_60, q_61, q_62, q_63, q_64, q_66, q_91, q_93, q_97, q_99, q_122, q_144, q_255, q_256, q_300, q_380, q_400, q_620, q_999, q_1000, q_4095, q_4096, q_9999, q_65536, q_99999, q_31, nI_add, pk_mul, nE, nL, nT, nM31, nShl, ib_nI, nI_clamp, bI_n0, bI_n1, bI_nar, uI_r, uI_l, uL_r, uL_i, uL_p, uA_r, uA_l, bV_some, bU_some, nar_n0, nar_n1, and_self, and_true, true_and, and_false, false_and, if_true, if_false, eq_self, Bool.false_eq_true, Bool.true_eq_false, not_true_eq_false, not_false_eq_true, ↓reduceIte, nlT, nlF, ntT, ntF, neT, neF, ieT, ieF, decide_true, decide_false, Bool.not_true, Bool.not_false, Bool.and_true, Bool.true_and, Bool.and_false, Bool.false_and, Bool.or_true, Bool.true_or, Bool.or_false, Bool.false_or, h.sc, h.dn, c1, e1, e, nx_or, Nat.or_zero]
      | true =>
        have e := bN_t (P := ndW A a b) (i := i) (by simp [ndW, c2, c1])
        rw [c2] at e1
        simp (disch := omega) only [s236_0, s236_1, s236_2, s236_3, s236_5, s236_6, s236_9, s236_10, s236_11, s236_14, s236_15, s236_16, s236_19, s236_20, s236_21, s236_24, s236_25, s236_26, s236_27, s236_30, s236_31, s236_32, s236_33, s236_36, s236_39, s236_40, s236_42, s236_45, s236_48, s236_49, s236_52, s236_53, s236_54, s236_57, s236_58, s236_61, s236_64, s236_65, s236_68, s236_71, s236_72, s236_74, s236_75, s236_78, s236_79, s236_80, s236_83, s236_84, s236_86, s236_87, s236_90, s236_91, s236_93, s236_94, s236_98, s236_99, s236_102, s236_103, s236_104, s236_107, s236_109, s236_110, s236_113, s236_115, s236_116, s236_119, s236_120, s236_122, s236_123, s236_124, s236_127, s236_130, s236_131, s236_133, s236_134, s236_137, s236_138, s236_139, s236_141, s236_144, s236_147, s236_150, s236_154, s236_157, s236_159, s236_162, s236_164, s236_166, s236_167, s236_169, s236_170, s236_173, s236_175, s236_176, s236_179, s236_181, s236_182, s236_183, s236_184, s236_185, s236_188, s236_190, s236_191, s236_194, s236_195, s236_198, s236_200, s236_201, s236_202, s236_203, s236_206, s236_207, s236_210, s236_212, s236_213, s236_214, s236_217, s236_220, s236_223, s236_226, s236_229, s236_232, s236_233, s236_236, s236_237, s236_238, q_0, q_1, q_2, q_3, q_4, q_5, q_6, q_7, q_8, q_9, q_10, q_11, q_12, q_13, q_14, q_16, q_20, q_23, q_24, q_32, q_42, q_43, q_45, q_47, q_48, q_50, q_57, q_59, q_60, q_61, q_62, q_63, q_64, q_66, q_91, q_93, q_97, q_99, q_122, q_144, q_255, q_256, q_300, q_380, q_400, q_620, q_999, q_1000, q_4095, q_4096, q_9999, q_65536, q_99999, q_31, nI_add, pk_mul, nE, nL, nT, nM31, nShl, ib_nI, nI_clamp, bI_n0, bI_n1, bI_nar, uI_r, uI_l, uL_r, uL_i, uL_p, uA_r, uA_l, bV_some, bU_some, nar_n0, nar_n1, and_self, and_true, true_and, and_false, false_and, if_true, if_false, eq_self, Bool.false_eq_true, Bool.true_eq_false, not_true_eq_false, not_false_eq_true, ↓reduceIte, nlT, nlF, ntT, ntF, neT, neF, ieT, ieF, decide_true, decide_false, Bool.not_true, Bool.not_false, Bool.and_true, Bool.true_and, Bool.and_false, Bool.false_and, Bool.or_true, Bool.true_or, Bool.or_false, Bool.false_or, h.sc, h.dn, c1, e1, e, nx_or]
    · have e := bN_f (P := ndW A a b) (i := i) (by simp [ndW, c1])
      simp (disch := omega) only [s236_0, s236_1, s236_2, s236_3, s236_5, s236_6, s236_9, s236_10, s236_11, s236_14, s236_15, s236_16, s236_19, s236_20, s236_21, s236_24, s236_25, s236_26, s236_27, s236_30, s236_31, s236_32, s236_33, s236_36, s236_39, s236_40, s236_42, s236_45, s236_48, s236_49, s236_52, s236_53, s236_54, s236_57, s236_58, s236_61, s236_64, s236_65, s236_68, s236_71, s236_72, s236_74, s236_75, s236_78, s236_79, s236_80, s236_83, s236_84, s236_86, s236_87, s236_90, s236_91, s236_93, s236_94, s236_98, s236_99, s236_102, s236_103, s236_104, s236_107, s236_109, s236_110, s236_113, s236_115, s236_116, s236_119, s236_120, s236_122, s236_123, s236_124, s236_127, s236_130, s236_131, s236_133, s236_134, s236_137, s236_138, s236_139, s236_141, s236_144, s236_147, s236_150, s236_154, s236_157, s236_159, s236_162, s236_164, s236_166, s236_167, s236_169, s236_170, s236_173, s236_175, s236_176, s236_179, s236_181, s236_182, s236_183, s236_184, s236_185, s236_188, s236_190, s236_191, s236_194, s236_195, s236_198, s236_200, s236_201, s236_202, s236_203, s236_206, s236_207, s236_210, s236_212, s236_213, s236_214, s236_217, s236_220, s236_223, s236_226, s236_229, s236_232, s236_233, s236_236, s236_237, s236_238, q_0, q_1, q_2, q_3, q_4, q_5, q_6, q_7, q_8, q_9, q_10, q_11, q_12, q_13, q_14, q_16, q_20, q_23, q_24, q_32, q_42, q_43, q_45, q_47, q_48, q_50, q_57, q_59, q_60, q_61, q_62, q_63, q_64, q_66, q_91, q_93, q_97, q_99, q_122, q_144, q_255, q_256, q_300, q_380, q_400, q_620, q_999, q_1000, q_4095, q_4096, q_9999, q_65536, q_99999, q_31, nI_add, pk_mul, nE, nL, nT, nM31, nShl, ib_nI, nI_clamp, bI_n0, bI_n1, bI_nar, uI_r, uI_l, uL_r, uL_i, uL_p, uA_r, uA_l, bV_some, bU_some, nar_n0, nar_n1, and_self, and_true, true_and, and_false, false_and, if_true, if_false, eq_self, Bool.false_eq_true, Bool.true_eq_false, not_true_eq_false, not_false_eq_true, ↓reduceIte, nlT, nlF, ntT, ntF, neT, neF, ieT, ieF, decide_true, decide_false, Bool.not_true, Bool.not_false, Bool.and_true, Bool.true_and, Bool.and_false, Bool.false_and, Bool.or_true, Bool.true_or, Bool.or_false, Bool.false_or, h.sc, h.dn, c1, e, nx_or, Nat.or_zero]
  · have e4 : (nI 4096 - nI 1 : Int32) = nI 4095 := by decide
    show run 236 0 96 _ _ _ = _
    rw [s236_96, e4]
    simp (disch := omega) only [s236_0, s236_1, s236_2, s236_3, s236_5, s236_6, s236_9, s236_10, s236_11, s236_14, s236_15, s236_16, s236_19, s236_20, s236_21, s236_24, s236_25, s236_26, s236_27, s236_30, s236_31, s236_32, s236_33, s236_36, s236_39, s236_40, s236_42, s236_45, s236_48, s236_49, s236_52, s236_53, s236_54, s236_57, s236_58, s236_61, s236_64, s236_65, s236_68, s236_71, s236_72, s236_74, s236_75, s236_78, s236_79, s236_80, s236_83, s236_84, s236_86, s236_87, s236_90, s236_91, s236_93, s236_94, s236_98, s236_99, s236_102, s236_103, s236_104, s236_107, s236_109, s236_110, s236_113, s236_115, s236_116, s236_119, s236_120, s236_122, s236_123, s236_124, s236_127, s236_130, s236_131, s236_133, s236_134, s236_137, s236_138, s236_139, s236_141, s236_144, s236_147, s236_150, s236_154, s236_157, s236_159, s236_162, s236_164, s236_166, s236_167, s236_169, s236_170, s236_173, s236_175, s236_176, s236_179, s236_181, s236_182, s236_183, s236_184, s236_185, s236_188, s236_190, s236_191, s236_194, s236_195, s236_198, s236_200, s236_201, s236_202, s236_203, s236_206, s236_207, s236_210, s236_212, s236_213, s236_214, s236_217, s236_220, s236_223, s236_226, s236_229, s236_232, s236_233, s236_236, s236_237, s236_238, q_0, q_1, q_2, q_3, q_4, q_5, q_6, q_7, q_8, q_9, q_10, q_11, q_12, q_13, q_14, q_16, q_20, q_23, q_24, q_32, q_42, q_43, q_45, q_47, q_48, q_50, q_57, q_59, q_60, q_61, q_62, q_63, q_64, q_66, q_91, q_93, q_97, q_99, q_122, q_144, q_255, q_256, q_300, q_380, q_400, q_620, q_999, q_1000, q_4095, q_4096, q_9999, q_65536, q_99999, q_31, nI_add, pk_mul, nE, nL, nT, nM31, nShl, ib_nI, nI_clamp, bI_n0, bI_n1, bI_nar, uI_r, uI_l, uL_r, uL_i, uL_p, uA_r, uA_l, bV_some, bU_some, nar_n0, nar_n1, and_self, and_true, true_and, and_false, false_and, if_true, if_false, eq_self, Bool.false_eq_true, Bool.true_eq_false, not_true_eq_false, not_false_eq_true, ↓reduceIte, nlT, nlF, ntT, ntF, neT, neF, ieT, ieF, decide_true, decide_false, Bool.not_true, Bool.not_false, Bool.and_true, Bool.true_and, Bool.and_false, Bool.false_and, Bool.or_true, Bool.true_or, Bool.or_false, Bool.false_or, h.sc]
    rfl
def mdR (A : Tn) (a b : Nat) (x : Nat) : Prop := ∃ a' b', b' < a' ∧ (a' < a ∨ (a' = a ∧ b' < b)) ∧ x = ndS A a' b'
theorem MdI.mn {A : Tn} {S S1 : Sto} {g : Nat → Nat} {R R' : Nat → Prop} (h : MdI A S S1 g R) (hR : ∀ x, PrA A x → R' x → R x) : MdI A S S1 g R' := ⟨h.1, h.2.1, h.2.2.1, h.2.2.2.1, fun l hl => h.2.2.2.2 l (fun x hx => ⟨(hl x hx).1, hR x (hl x hx).1 (hl x hx).2⟩)⟩
theorem m_lIn {S S1 : Sto} {A : Tn} {g : Nat → Nat} {a o : Nat} {x4 x5 x6 : av} (h : RepM S A) (hw : WF A) (ha : a < A 0 0) (hI0 : MdI A S S1 g (mdR A a 0)) : ∃ S2 g2 u x y z, run 236 0 85 [vR 50 0, vI (nI o), vI (nI a), vI (nI 0), x4, x5, x6] [] S1 = run 236 0 73 [vR 50 0, vI (nI o), vI (nI (a + 1)), u, x, y, z] [] S2 ∧ MdI A S S2 g2 (mdR A (a + 1) 0) := by
  have hP := hw.pe
  refine upS (σ := (Sto × (Nat → Nat)) × av × av × av) (I := fun b s => MdI A S s.1.1 s.1.2 (mdR A a b)) (F := fun b s => run 236 0 85 [vR 50 0, vI (nI o), vI (nI a), vI (nI b), s.2.1, s.2.2.1, s.2.2.2] [] s.1.1) (Q := fun w => ∃ S2 g2 u x y z, w = run 236 0 73 [vR 50 0, vI (nI o), vI (nI (a + 1)), u, x, y, z] [] S2 ∧ MdI A S S2 g2 (mdR A (a + 1) 0)) (N := a) ?_ ?_ 0 ((S1, g), x4, x5, x6) (by omega) hI0
  · intro b s hb hI
    obtain ⟨⟨S2, g2⟩, x, y, z⟩ := s
    simp only at hI
    have h2 := h.pl hI.1 (by decide)
    have e1 := m_by (o := o) (x5 := x) (x6 := z) h2 hw (a := a) (b := b) (by omega) (by omega)
    have l1 := ndS_lt hw a b
    refine Or.inr ?_
    show ∃ s', _ ∧ run 236 0 85 [vR 50 0, vI (nI o), vI (nI a), vI (nI b), x, y, z] [] S2 = _
    rw [s236_85]
    by_cases c : ndS A a b = 0
    · refine ⟨((S2, g2), vI (nI 0), vI (nI 4096 - nI 1), z), hI.mn (fun x hx hR => ?_), ?_⟩
      · obtain ⟨a', b', h1, h3, h4⟩ := hR
        rcases h3 with h3 | ⟨h3, h5⟩
        · exact ⟨a', b', h1, Or.inl h3, h4⟩
        · by_cases e : b' = b
          · subst e h3
            exact absurd (h4.trans c) hx.1
          · exact ⟨a', b', h1, Or.inr ⟨h3, by omega⟩, h4⟩
      · have e4 : (nI 4096 - nI 1 : Int32) = nI 4095 := by decide
        simp (disch := omega) only [s236_0, s236_1, s236_2, s236_3, s236_5, s236_6, s236_9, s236_10, s236_11, s236_14, s236_15, s236_16, s236_19, s236_20, s236_21, s236_24, s236_25, s236_26, s236_27, s236_30, s236_31, s236_32, s236_33, s236_36, s236_39, s236_40, s236_42, s236_45, s236_48, s236_49, s236_52, s236_53, s236_54, s236_57, s236_58, s236_61, s236_64, s236_65, s236_68, s236_71, s236_72, s236_74, s236_75, s236_78, s236_79, s236_80, s236_83, s236_84, s236_86, s236_87, s236_90, s236_91, s236_93, s236_94, s236_98, s236_99, s236_102, s236_103, s236_104, s236_107, s236_109, s236_110, s236_113, s236_115, s236_116, s236_119, s236_120, s236_122, s236_123, s236_124, s236_127, s236_130, s236_131, s236_133, s236_134, s236_137, s236_138, s236_139, s236_141, s236_144, s236_147, s236_150, s236_154, s236_157, s236_159, s236_162, s236_164, s236_166, s236_167, s236_169, s236_170, s236_173, s236_175, s236_176, s236_179, s236_181, s236_182, s236_183, s236_184, s236_185, s236_188, s236_190, s236_191, s236_194, s236_195, s236_198, s236_200, s236_201, s236_202, s236_203, s236_206, s236_207, s236_210, s236_212, s236_213, s236_214, s236_217, s236_220, s236_223, s236_226, s236_229, s236_232, s236_233, s236_236, s236_237, s236_238, q_0, q_1, q_2, q_3, q_4, q_5, q_6, q_7, q_8, q_9, q_10, q_11, q_12, q_13, q_14, q_16, q_20, q_23, q_24, q_32, q_42, q_43, q_45, q_47, q_48, q_50, q_57, q_59, q_60, q_61, q_62, q_63, q_64, q_66, q_91, q_93, q_97, q_99, q_122, q_144, q_255, q_256, q_300, q_380, q_400, q_620, q_999, q_1000, q_4095, q_4096, q_9999, q_65536, q_99999, q_31, nI_add, pk_mul, nE, nL, nT, nM31, nShl, ib_nI, nI_clamp, bI_n0, bI_n1, bI_nar, uI_r, uI_l, uL_r, uL_i, uL_p, uA_r, uA_l, bV_some, bU_some, nar_n0, nar_n1, and_self, and_true, true_and, and_false, false_and, if_true, if_false, eq_self, Bool.false_eq_true, Bool.true_eq_false, not_true_eq_false, not_false_eq_true, ↓reduceIte, nlT, nlF, ntT, ntF, neT, neF, ieT, ieF, decide_true, decide_false, Bool.not_true, Bool.not_false, Bool.and_true, Bool.true_and, Bool.and_false, Bool.false_and, Bool.or_true, Bool.true_or, Bool.or_false, Bool.false_or]
        rw [e1, s236_152, c, e4]
        simp (disch := omega) only [s236_0, s236_1, s236_2, s236_3, s236_5, s236_6, s236_9, s236_10, s236_11, s236_14, s236_15, s236_16, s236_19, s236_20, s236_21, s236_24, s236_25, s236_26, s236_27, s236_30, s236_31, s236_32, s236_33, s236_36, s236_39, s236_40, s236_42, s236_45, s236_48, s236_49, s236_52, s236_53, s236_54, s236_57, s236_58, s236_61, s236_64, s236_65, s236_68, s236_71, s236_72, s236_74, s236_75, s236_78, s236_79, s236_80, s236_83, s236_84, s236_86, s236_87, s236_90, s236_91, s236_93, s236_94, s236_98, s236_99, s236_102, s236_103, s236_104, s236_107, s236_109, s236_110, s236_113, s236_115, s236_116, s236_119, s236_120, s236_122, s236_123, s236_124, s236_127, s236_130, s236_131, s236_133, s236_134, s236_137, s236_138, s236_139, s236_141, s236_144, s236_147, s236_150, s236_154, s236_157, s236_159, s236_162, s236_164, s236_166, s236_167, s236_169, s236_170, s236_173, s236_175, s236_176, s236_179, s236_181, s236_182, s236_183, s236_184, s236_185, s236_188, s236_190, s236_191, s236_194, s236_195, s236_198, s236_200, s236_201, s236_202, s236_203, s236_206, s236_207, s236_210, s236_212, s236_213, s236_214, s236_217, s236_220, s236_223, s236_226, s236_229, s236_232, s236_233, s236_236, s236_237, s236_238, q_0, q_1, q_2, q_3, q_4, q_5, q_6, q_7, q_8, q_9, q_10, q_11, q_12, q_13, q_14, q_16, q_20, q_23, q_24, q_32, q_42, q_43, q_45, q_47, q_48, q_50, q_57, q_59, q_60, q_61, q_62, q_63, q_64, q_66, q_91, q_93, q_97, q_99, q_122, q_144, q_255, q_256, q_300, q_380, q_400, q_620, q_999, q_1000, q_4095, q_4096, q_9999, q_65536, q_99999, q_31, nI_add, pk_mul, nE, nL, nT, nM31, nShl, ib_nI, nI_clamp, bI_n0, bI_n1, bI_nar, uI_r, uI_l, uL_r, uL_i, uL_p, uA_r, uA_l, bV_some, bU_some, nar_n0, nar_n1, and_self, and_true, true_and, and_false, false_and, if_true, if_false, eq_self, Bool.false_eq_true, Bool.true_eq_false, not_true_eq_false, not_false_eq_true, ↓reduceIte, nlT, nlF, ntT, ntF, neT, neF, ieT, ieF, decide_true, decide_false, Bool.not_true, Bool.not_false, Bool.and_true, Bool.true_and, Bool.and_false, Bool.false_and, Bool.or_true, Bool.true_or, Bool.or_false, Bool.false_or]
    · have hp : PrA A (ndS A a b) := ⟨c, a, b, ha, by omega, by omega, rfl⟩
      obtain ⟨S3, g3, x', y', z', d1, d2⟩ := m_pass (o := o) (x6 := z) hw hI hp l1 (a := a) (b := b) (by omega) (by omega)
      refine ⟨((S3, g3), x', y', z'), d2.mn (fun x hx hR => ?_), ?_⟩
      · obtain ⟨a', b', h1, h3, h4⟩ := hR
        rcases h3 with h3 | ⟨h3, h5⟩
        · exact Or.inl ⟨a', b', h1, Or.inl h3, h4⟩
        · by_cases e : b' = b
          · subst e h3
            exact Or.inr h4
          · exact Or.inl ⟨a', b', h1, Or.inr ⟨h3, by omega⟩, h4⟩
      · simp (disch := omega) only [s236_0, s236_1, s236_2, s236_3, s236_5, s236_6, s236_9, s236_10, s236_11, s236_14, s236_15, s236_16, s236_19, s236_20, s236_21, s236_24, s236_25, s236_26, s236_27, s236_30, s236_31, s236_32, s236_33, s236_36, s236_39, s236_40, s236_42, s236_45, s236_48, s236_49, s236_52, s236_53, s236_54, s236_57, s236_58, s236_61, s236_64, s236_65, s236_68, s236_71, s236_72, s236_74, s236_75, s236_78, s236_79, s236_80, s236_83, s236_84, s236_86, s236_87, s236_90, s236_91, s236_93, s236_94, s236_98, s236_99, s236_102, s236_103, s236_104, s236_107, s236_109, s236_110, s236_113, s236_115, s236_116, s236_119, s236_120, s236_122, s236_123, s236_124, s236_127, s236_130, s236_131, s236_133, s236_134, s236_137, s236_138, s236_139, s236_141, s236_144, s236_147, s236_150, s236_154, s236_157, s236_159, s236_162, s236_164, s236_166, s236_167, s236_169, s236_170, s236_173, s236_175, s236_176, s236_179, s236_181, s236_182, s236_183, s236_184, s236_185, s236_188, s236_190, s236_191, s236_194, s236_195, s236_198, s236_200, s236_201, s236_202, s236_203, s236_206, s236_207, s236_210, s236_212, s236_213, s236_214, s236_217, s236_220, s236_223, s236_226, s236_229, s236_232, s236_233, s236_236, s236_237, s236_238, q_0, q_1, q_2, q_3, q_4, q_5, q_6, q_7, q_8, q_9, q_10, q_11, q_12, q_13, q_14, q_16, q_20, q_23, q_24, q_32, q_42, q_43, q_45, q_47, q_48, q_50, q_57, q_59, q_60, q_61, q_62, q_63, q_64, q_66, q_91, q_93, q_97, q_99, q_122, q_144, q_255, q_256, q_300, q_380, q_400, q_620, q_999, q_1000, q_4095, q_4096, q_9999, q_65536, q_99999, q_31, nI_add, pk_mul, nE, nL, nT, nM31, nShl, ib_nI, nI_clamp, bI_n0, bI_n1, bI_nar, uI_r, uI_l, uL_r, uL_i, uL_p, uA_r, uA_l, bV_some, bU_some, nar_n0, nar_n1, and_self, and_true, true_and, and_false, false_and, if_true, if_false, eq_self, Bool.false_eq_true, Bool.true_eq_false, not_true_eq_false, not_false_eq_true, ↓reduceIte, nlT, nlF, ntT, ntF, neT, neF, ieT, ieF, decide_true, decide_false, Bool.not_true, Bool.not_false, Bool.and_true, Bool.true_and, Bool.and_false, Bool.false_and, Bool.or_true, Bool.true_or, Bool.or_false, Bool.false_or]
        rw [e1]
        exact d1
  · intro s hI
    obtain ⟨⟨S2, g2⟩, x, y, z⟩ := s
    simp only at hI
    refine ⟨S2, g2, vI (nI a), x, y, z, ?_, hI.mn (fun x hx hR => ?_)⟩
    · show run 236 0 85 [vR 50 0, vI (nI o), vI (nI a), vI (nI a), x, y, z] [] S2 = _
      rw [s236_85]
      simp (disch := omega) only [s236_0, s236_1, s236_2, s236_3, s236_5, s236_6, s236_9, s236_10, s236_11, s236_14, s236_15, s236_16, s236_19, s236_20, s236_21, s236_24, s236_25, s236_26, s236_27, s236_30, s236_31, s236_32, s236_33, s236_36, s236_39, s236_40, s236_42, s236_45, s236_48, s236_49, s236_52, s236_53, s236_54, s236_57, s236_58, s236_61, s236_64, s236_65, s236_68, s236_71, s236_72, s236_74, s236_75, s236_78, s236_79, s236_80, s236_83, s236_84, s236_86, s236_87, s236_90, s236_91, s236_93, s236_94, s236_98, s236_99, s236_102, s236_103, s236_104, s236_107, s236_109, s236_110, s236_113, s236_115, s236_116, s236_119, s236_120, s236_122, s236_123, s236_124, s236_127, s236_130, s236_131, s236_133, s236_134, s236_137, s236_138, s236_139, s236_141, s236_144, s236_147, s236_150, s236_154, s236_157, s236_159, s236_162, s236_164, s236_166, s236_167, s236_169, s236_170, s236_173, s236_175, s236_176, s236_179, s236_181, s236_182, s236_183, s236_184, s236_185, s236_188, s236_190, s236_191, s236_194, s236_195, s236_198, s236_200, s236_201, s236_202, s236_203, s236_206, s236_207, s236_210, s236_212, s236_213, s236_214, s236_217, s236_220, s236_223, s236_226, s236_229, s236_232, s236_233, s236_236, s236_237, s236_238, q_0, q_1, q_2, q_3, q_4, q_5, q_6, q_7, q_8, q_9, q_10, q_11, q_12, q_13, q_14, q_16, q_20, q_23, q_24, q_32, q_42, q_43, q_45, q_47, q_48, q_50, q_57, q_59, q_60, q_61, q_62, q_63, q_64, q_66, q_91, q_93, q_97, q_99, q_122, q_144, q_255, q_256, q_300, q_380, q_400, q_620, q_999, q_1000, q_4095, q_4096, q_9999, q_65536, q_99999, q_31, nI_add, pk_mul, nE, nL, nT, nM31, nShl, ib_nI, nI_clamp, bI_n0, bI_n1, bI_nar, uI_r, uI_l, uL_r, uL_i, uL_p, uA_r, uA_l, bV_some, bU_some, nar_n0, nar_n1, and_self, and_true, true_and, and_false, false_and, if_true, if_false, eq_self, Bool.false_eq_true, Bool.true_eq_false, not_true_eq_false, not_false_eq_true, ↓reduceIte, nlT, nlF, ntT, ntF, neT, neF, ieT, ieF, decide_true, decide_false, Bool.not_true, Bool.not_false, Bool.and_true, Bool.true_and, Bool.and_false, Bool.false_and, Bool.or_true, Bool.true_or, Bool.or_false, Bool.false_or]
    · obtain ⟨a', b', h1, h3, h4⟩ := hR
      exact ⟨a', b', h1, by omega, h4⟩
theorem r_least {S : Sto} {A : Tn} (h : RepM S A) (hw : WF A) : ∃ S1 u, call 236 0 [vR 50 0] S = some (some (vI (nI u)), S1) ∧ Fr (pL [87]) S S1 ∧ LstP A u := by
  have hWk := hw.wk
  have hP := hw.pe
  have L3 : ∀ S0 g0, MdI A S S0 g0 (mdR A 0 0) → ∀ x3 x4 x5 x6, ∃ S1 u, run 236 0 73 [vR 50 0, vI (nI (opB A)), vI (nI 0), x3, x4, x5, x6] [] S0 = some (some (vI (nI u)), S1) ∧ Fr (pL [87]) S S1 ∧ LstP A u := by
    intro S0 g0 hI0 x3 x4 x5 x6
    refine upS (σ := (Sto × (Nat → Nat)) × av × av × av × av) (I := fun a s => MdI A S s.1.1 s.1.2 (mdR A a 0)) (F := fun a s => run 236 0 73 [vR 50 0, vI (nI (opB A)), vI (nI a), s.2.1, s.2.2.1, s.2.2.2.1, s.2.2.2.2] [] s.1.1) (Q := fun w => ∃ S1 u, w = some (some (vI (nI u)), S1) ∧ Fr (pL [87]) S S1 ∧ LstP A u) (N := A 0 0) ?_ ?_ 0 ((S0, g0), x3, x4, x5, x6) (by omega) hI0
    · intro a s ha hI
      obtain ⟨⟨S2, g2⟩, u, x, y, z⟩ := s
      simp only at hI
      have h2 := h.pl hI.1 (by decide)
      obtain ⟨S3, g3, u', x', y', z', d1, d2⟩ := m_lIn (o := opB A) (x4 := x) (x5 := y) (x6 := z) h hw ha hI
      refine Or.inr ⟨((S3, g3), u', x', y', z'), d2, ?_⟩
      show run 236 0 73 [vR 50 0, vI (nI (opB A)), vI (nI a), u, x, y, z] [] S2 = _
      rw [s236_73]
      simp (disch := omega) only [s236_0, s236_1, s236_2, s236_3, s236_5, s236_6, s236_9, s236_10, s236_11, s236_14, s236_15, s236_16, s236_19, s236_20, s236_21, s236_24, s236_25, s236_26, s236_27, s236_30, s236_31, s236_32, s236_33, s236_36, s236_39, s236_40, s236_42, s236_45, s236_48, s236_49, s236_52, s236_53, s236_54, s236_57, s236_58, s236_61, s236_64, s236_65, s236_68, s236_71, s236_72, s236_74, s236_75, s236_78, s236_79, s236_80, s236_83, s236_84, s236_86, s236_87, s236_90, s236_91, s236_93, s236_94, s236_98, s236_99, s236_102, s236_103, s236_104, s236_107, s236_109, s236_110, s236_113, s236_115, s236_116, s236_119, s236_120, s236_122, s236_123, s236_124, s236_127, s236_130, s236_131, s236_133, s236_134, s236_137, s236_138, s236_139, s236_141, s236_144, s236_147, s236_150, s236_154, s236_157, s236_159, s236_162, s236_164, s236_166, s236_167, s236_169, s236_170, s236_173, s236_175, s236_176, s236_179, s236_181, s236_182, s236_183, s236_184, s236_185, s236_188, s236_190, s236_191, s236_194, s236_195, s236_198, s236_200, s236_201, s236_202, s236_203, s236_206, s236_207, s236_210, s236_212, s236_213, s236_214, s236_217, s236_220, s236_223, s236_226, s236_229, s236_232, s236_233, s236_236, s236_237, s236_238, q_0, q_1, q_2, q_3, q_4, q_5, q_6, q_7, q_8, q_9, q_10, q_11, q_12, q_13, q_14, q_16, q_20, q_23, q_24, q_32, q_42, q_43, q_45, q_47, q_48, q_50, q_57, q_59, q_60, q_61, q_62, q_63, q_64, q_66, q_91, q_93, q_97, q_99, q_122, q_144, q_255, q_256, q_300, q_380, q_400, q_620, q_999, q_1000, q_4095, q_4096, q_9999, q_65536, q_99999, q_31, nI_add, pk_mul, nE, nL, nT, nM31, nShl, ib_nI, nI_clamp, bI_n0, bI_n1, bI_nar, uI_r, uI_l, uL_r, uL_i, uL_p, uA_r, uA_l, bV_some, bU_some, nar_n0, nar_n1, and_self, and_true, true_and, and_false, false_and, if_true, if_false, eq_self, Bool.false_eq_true, Bool.true_eq_false, not_true_eq_false, not_false_eq_true, ↓reduceIte, nlT, nlF, ntT, ntF, neT, neF, ieT, ieF, decide_true, decide_false, Bool.not_true, Bool.not_false, Bool.and_true, Bool.true_and, Bool.and_false, Bool.false_and, Bool.or_true, Bool.true_or, Bool.or_false, Bool.false_or, h2.sc]
      exact d1
    · intro s hI
      obtain ⟨⟨S2, g2⟩, u, x, y, z⟩ := s
      simp only at hI
      have h2 := h.pl hI.1 (by decide)
      have lo : opB A < 4096 := Nat.lt_of_lt_of_le (bN_lt _ _) (show 2 ^ A 0 2 ≤ 2 ^ 12 from Nat.pow_le_pow_right (by decide) hWk)
      have r1 := hI.2.1 _ lo
      have hR : ∀ x, PrA A x → mdR A (A 0 0) 0 x := by
        rintro x ⟨_, a, b, ha, hb, hab, e⟩
        by_cases c : b < a
        · exact ⟨a, b, c, Or.inl ha, e⟩
        · exact ⟨b, a, by omega, Or.inl hb, by rw [e, ndS_sym]⟩
      obtain ⟨l, b1, b2, b3⟩ := cov_ex hw
      have q1 := hI.2.2.2.2 l (fun x hx => ⟨b1 x hx, hR x (b1 x hx)⟩)
      rw [b2] at q1
      obtain ⟨l', c1, c2, c3⟩ := hI.2.2.2.1 _ lo (by omega)
      refine ⟨S2, g2 (opB A), ?_, hI.1, ⟨l', c1, c3, c2⟩, fun l hl e => ?_⟩
      · show run 236 0 73 [vR 50 0, vI (nI (opB A)), vI (nI (A 0 0)), u, x, y, z] [] S2 = _
        rw [s236_73]
        simp (disch := omega) only [s236_0, s236_1, s236_2, s236_3, s236_5, s236_6, s236_9, s236_10, s236_11, s236_14, s236_15, s236_16, s236_19, s236_20, s236_21, s236_24, s236_25, s236_26, s236_27, s236_30, s236_31, s236_32, s236_33, s236_36, s236_39, s236_40, s236_42, s236_45, s236_48, s236_49, s236_52, s236_53, s236_54, s236_57, s236_58, s236_61, s236_64, s236_65, s236_68, s236_71, s236_72, s236_74, s236_75, s236_78, s236_79, s236_80, s236_83, s236_84, s236_86, s236_87, s236_90, s236_91, s236_93, s236_94, s236_98, s236_99, s236_102, s236_103, s236_104, s236_107, s236_109, s236_110, s236_113, s236_115, s236_116, s236_119, s236_120, s236_122, s236_123, s236_124, s236_127, s236_130, s236_131, s236_133, s236_134, s236_137, s236_138, s236_139, s236_141, s236_144, s236_147, s236_150, s236_154, s236_157, s236_159, s236_162, s236_164, s236_166, s236_167, s236_169, s236_170, s236_173, s236_175, s236_176, s236_179, s236_181, s236_182, s236_183, s236_184, s236_185, s236_188, s236_190, s236_191, s236_194, s236_195, s236_198, s236_200, s236_201, s236_202, s236_203, s236_206, s236_207, s236_210, s236_212, s236_213, s236_214, s236_217, s236_220, s236_223, s236_226, s236_229, s236_232, s236_233, s236_236, s236_237, s236_238, q_0, q_1, q_2, q_3, q_4, q_5, q_6, q_7, q_8, q_9, q_10, q_11, q_12, q_13, q_14, q_16, q_20, q_23, q_24, q_32, q_42, q_43, q_45, q_47, q_48, q_50, q_57, q_59, q_60, q_61, q_62, q_63, q_64, q_66, q_91, q_93, q_97, q_99, q_122, q_144, q_255, q_256, q_300, q_380, q_400, q_620, q_999, q_1000, q_4095, q_4096, q_9999, q_65536, q_99999, q_31, nI_add, pk_mul, nE, nL, nT, nM31, nShl, ib_nI, nI_clamp, bI_n0, bI_n1, bI_nar, uI_r, uI_l, uL_r, uL_i, uL_p, uA_r, uA_l, bV_some, bU_some, nar_n0, nar_n1, and_self, and_true, true_and, and_false, false_and, if_true, if_false, eq_self, Bool.false_eq_true, Bool.true_eq_false, not_true_eq_false, not_false_eq_true, ↓reduceIte, nlT, nlF, ntT, ntF, neT, neF, ieT, ieF, decide_true, decide_false, Bool.not_true, Bool.not_false, Bool.and_true, Bool.true_and, Bool.and_false, Bool.false_and, Bool.or_true, Bool.true_or, Bool.or_false, Bool.false_or, h2.sc, r1]
      · have := hI.2.2.2.2 l (fun x hx => ⟨hl x hx, hR x (hl x hx)⟩)
        rw [e] at this
        exact this
  have L2 : ∃ S1 u, run 236 0 41 [vR 50 0, vI (nI (opB A)), vI (nI 0), vU, vU, vU, vU] [] S = some (some (vI (nI u)), S1) ∧ Fr (pL [87]) S S1 ∧ LstP A u := by
    refine upS (σ := Sto) (I := fun i S1 => Fr (pL [87]) S S1 ∧ ∀ c, c < i → S1.1 87 0 c = nI (if c = 0 then 0 else 4096)) (F := fun i S1 => run 236 0 41 [vR 50 0, vI (nI (opB A)), vI (nI i), vU, vU, vU, vU] [] S1) (Q := fun w => ∃ S1 u, w = some (some (vI (nI u)), S1) ∧ Fr (pL [87]) S S1 ∧ LstP A u) (N := 4096) ?_ ?_ 0 S (by omega) ⟨Fr.rfl', fun c hc => by omega⟩
    · intro i S1 hi hI
      refine Or.inr ⟨uI S1 87 0 i (nI (if i = 0 then 0 else 4096)), ⟨hI.1.uI rfl, fun c hc => ?_⟩, ?_⟩
      · rw [uI_r]
        by_cases e : c = i
        · rw [if_pos ⟨rfl, rfl, e⟩, e]
        · rw [if_neg (by omega)]
          exact hI.2 c (by omega)
      · show run 236 0 41 _ _ _ = run 236 0 41 _ _ _
        rw [s236_41]
        by_cases c : i = 0
        · simp (disch := omega) only [s236_0, s236_1, s236_2, s236_3, s236_5, s236_6, s236_9, s236_10, s236_11, s236_14, s236_15, s236_16, s236_19, s236_20, s236_21, s236_24, s236_25, s236_26, s236_27, s236_30, s236_31, s236_32, s236_33, s236_36, s236_39, s236_40, s236_42, s236_45, s236_48, s236_49, s236_52, s236_53, s236_54, s236_57, s236_58, s236_61, s236_64, s236_65, s236_68, s236_71, s236_72, s236_74, s236_75, s236_78, s236_79, s236_80, s236_83, s236_84, s236_86, s236_87, s236_90, s236_91, s236_93, s236_94, s236_98, s236_99, s236_102, s236_103, s236_104, s236_107, s236_109, s236_110, s236_113, s236_115, s236_116, s236_119, s236_120, s236_122, s236_123, s236_124, s236_127, s236_130, s236_131, s236_133, s236_134, s236_137, s236_138, s236_139, s236_141, s236_144, s236_147, s236_150, s236_154, s236_157, s236_159, s236_162, s236_164, s236_166, s236_167, s236_169, s236_170, s236_173, s236_175, s236_176, s236_179, s236_181, s236_182, s236_183, s236_184, s236_185, s236_188, s236_190, s236_191, s236_194, s236_195, s236_198, s236_200, s236_201, s236_202, s236_203, s236_206, s236_207, s236_210, s236_212, s236_213, s236_214, s236_217, s236_220, s236_223, s236_226, s236_229, s236_232, s236_233, s236_236, s236_237, s236_238, q_0, q_1, q_2, q_3, q_4, q_5, q_6, q_7, q_8, q_9, q_10, q_11, q_12, q_13, q_14, q_16, q_20, q_23, q_24, q_32, q_42, q_43, q_45, q_47, q_48, q_50, q_57, q_59, q_60, q_61, q_62, q_63, q_64, q_66, q_91, q_93, q_97, q_99, q_122, q_144, q_255, q_256, q_300, q_380, q_400, q_620, q_999, q_1000, q_4095, q_4096, q_9999, q_65536, q_99999, q_31, nI_add, pk_mul, nE, nL, nT, nM31, nShl, ib_nI, nI_clamp, bI_n0, bI_n1, bI_nar, uI_r, uI_l, uL_r, uL_i, uL_p, uA_r, uA_l, bV_some, bU_some, nar_n0, nar_n1, and_self, and_true, true_and, and_false, false_and, if_true, if_false, eq_self, Bool.false_eq_true, Bool.true_eq_false, not_true_eq_false, not_false_eq_true, ↓reduceIte, nlT, nlF, ntT, ntF, neT, neF, ieT, ieF, decide_true, decide_false, Bool.not_true, Bool.not_false, Bool.and_true, Bool.true_and, Bool.and_false, Bool.false_and, Bool.or_true, Bool.true_or, Bool.or_false, Bool.false_or, c]
        · simp (disch := omega) only [s236_0, s236_1, s236_2, s236_3, s236_5, s236_6, s236_9, s236_10, s236_11, s236_14, s236_15, s236_16, s236_19, s236_20, s236_21, s236_24, s236_25, s236_26, s236_27, s236_30, s236_31, s236_32, s236_33, s236_36, s236_39, s236_40, s236_42, s236_45, s236_48, s236_49, s236_52, s236_53, s236_54, s236_57, s236_58, s236_61, s236_64, s236_65, s236_68, s236_71, s236_72, s236_74, s236_75, s236_78, s236_79, s236_80, s236_83, s236_84, s236_86, s236_87, s236_90, s236_91, s236_93, s236_94, s236_98, s236_99, s236_102, s236_103, s236_104, s236_107, s236_109, s236_110, s236_113, s236_115, s236_116, s236_119, s236_120, s236_122, s236_123, s236_124, s236_127, s236_130, s236_131, s236_133, s236_134, s236_137, s236_138, s236_139, s236_141, s236_144, s236_147, s236_150, s236_154, s236_157, s236_159, s236_162, s236_164, s236_166, s236_167, s236_169, s236_170, s236_173, s236_175, s236_176, s236_179, s236_181, s236_182, s236_183, s236_184, s236_185, s236_188, s236_190, s236_191, s236_194, s236_195, s236_198, s236_200, s236_201, s236_202, s236_203, s236_206, s236_207, s236_210, s236_212, s236_213, s236_214, s236_217, s236_220, s236_223, s236_226, s236_229, s236_232, s236_233, s236_236, s236_237, s236_238, q_0, q_1, q_2, q_3, q_4, q_5, q_6, q_7, q_8, q_9, q_10, q_11, q_12, q_13, q_14, q_16, q_20, q_23, q_24, q_32, q_42, q_43, q_45, q_47, q_48, q_50, q_57, q_59, q_60, q_61, q_62, q_63, q_64, q_66, q_91, q_93, q_97, q_99, q_122, q_144, q_255, q_256, q_300, q_380, q_400, q_620, q_999, q_1000, q_4095, q_4096, q_9999, q_65536, q_99999, q_31, nI_add, pk_mul, nE, nL, nT, nM31, nShl, ib_nI, nI_clamp, bI_n0, bI_n1, bI_nar, uI_r, uI_l, uL_r, uL_i, uL_p, uA_r, uA_l, bV_some, bU_some, nar_n0, nar_n1, and_self, and_true, true_and, and_false, false_and, if_true, if_false, eq_self, Bool.false_eq_true, Bool.true_eq_false, not_true_eq_false, not_false_eq_true, ↓reduceIte, nlT, nlF, ntT, ntF, neT, neF, ieT, ieF, decide_true, decide_false, Bool.not_true, Bool.not_false, Bool.and_true, Bool.true_and, Bool.and_false, Bool.false_and, Bool.or_true, Bool.true_or, Bool.or_false, Bool.false_or, c]
    · intro S1 hI
      show ∃ S1' u, run 236 0 41 [vR 50 0, vI (nI (opB A)), vI (nI 4096), vU, vU, vU, vU] [] S1 = _ ∧ _
      rw [s236_41]
      simp (disch := omega) only [s236_0, s236_1, s236_2, s236_3, s236_5, s236_6, s236_9, s236_10, s236_11, s236_14, s236_15, s236_16, s236_19, s236_20, s236_21, s236_24, s236_25, s236_26, s236_27, s236_30, s236_31, s236_32, s236_33, s236_36, s236_39, s236_40, s236_42, s236_45, s236_48, s236_49, s236_52, s236_53, s236_54, s236_57, s236_58, s236_61, s236_64, s236_65, s236_68, s236_71, s236_72, s236_74, s236_75, s236_78, s236_79, s236_80, s236_83, s236_84, s236_86, s236_87, s236_90, s236_91, s236_93, s236_94, s236_98, s236_99, s236_102, s236_103, s236_104, s236_107, s236_109, s236_110, s236_113, s236_115, s236_116, s236_119, s236_120, s236_122, s236_123, s236_124, s236_127, s236_130, s236_131, s236_133, s236_134, s236_137, s236_138, s236_139, s236_141, s236_144, s236_147, s236_150, s236_154, s236_157, s236_159, s236_162, s236_164, s236_166, s236_167, s236_169, s236_170, s236_173, s236_175, s236_176, s236_179, s236_181, s236_182, s236_183, s236_184, s236_185, s236_188, s236_190, s236_191, s236_194, s236_195, s236_198, s236_200, s236_201, s236_202, s236_203, s236_206, s236_207, s236_210, s236_212, s236_213, s236_214, s236_217, s236_220, s236_223, s236_226, s236_229, s236_232, s236_233, s236_236, s236_237, s236_238, q_0, q_1, q_2, q_3, q_4, q_5, q_6, q_7, q_8, q_9, q_10, q_11, q_12, q_13, q_14, q_16, q_20, q_23, q_24, q_32, q_42, q_43, q_45, q_47, q_48, q_50, q_57, q_59, q_60, q_61, q_62, q_63, q_64, q_66, q_91, q_93, q_97, q_99, q_122, q_144, q_255, q_256, q_300, q_380, q_400, q_620, q_999, q_1000, q_4095, q_4096, q_9999, q_65536, q_99999, q_31, nI_add, pk_mul, nE, nL, nT, nM31, nShl, ib_nI, nI_clamp, bI_n0, bI_n1, bI_nar, uI_r, uI_l, uL_r, uL_i, uL_p, uA_r, uA_l, bV_some, bU_some, nar_n0, nar_n1, and_self, and_true, true_and, and_false, false_and, if_true, if_false, eq_self, Bool.false_eq_true, Bool.true_eq_false, not_true_eq_false, not_false_eq_true, ↓reduceIte, nlT, nlF, ntT, ntF, neT, neF, ieT, ieF, decide_true, decide_false, Bool.not_true, Bool.not_false, Bool.and_true, Bool.true_and, Bool.and_false, Bool.false_and, Bool.or_true, Bool.true_or, Bool.or_false, Bool.false_or]
      refine L3 S1 (fun c => if c = 0 then 0 else 4096) ⟨hI.1, hI.2, fun c _ => by show (if c = 0 then 0 else 4096) ≤ 4096; split <;> omega, fun c hc hg => ?_, fun l hl => ?_⟩ _ _ _ _
      · simp only at hg ⊢
        by_cases e : c = 0
        · exact ⟨[], by simp, by simp [e], by rw [e]; rfl⟩
        · rw [if_neg e] at hg
          omega
      · cases l with
        | nil => simp [orL]
        | cons x l =>
          obtain ⟨_, a', b', h1, h3, _⟩ := hl x (by simp)
          omega
  show ∃ S1 u, run 236 0 0 [vR 50 0, vU, vU, vU, vU, vU, vU] [] S = _ ∧ _
  simp only [s236_0, s236_1, s236_2, s236_3]
  have key : run 236 0 4 [vR 50 0, vI 0, vI 0, vU, vU, vU, vU] [] S = run 236 0 41 [vR 50 0, vI (nI (opB A)), vI (nI 0), vU, vU, vU, vU] [] S := by
    refine up_ (F := fun i => run 236 0 4 [vR 50 0, vI (nI (bN (fun w => A 14 w == 0) i)), vI (nI i), vU, vU, vU, vU] [] S) (N := A 0 2) ?_ ?_ 0 (by omega)
    · intro i hi
      have hd := hw.dn (w := i) (by omega)
      show run 236 0 4 _ _ _ = run 236 0 4 _ _ _
      rw [s236_4]
      by_cases c1 : A 14 i = 0
      · have e := bN_t (P := fun w => A 14 w == 0) (i := i) (by simp [c1])
        simp (disch := omega) only [s236_0, s236_1, s236_2, s236_3, s236_5, s236_6, s236_9, s236_10, s236_11, s236_14, s236_15, s236_16, s236_19, s236_20, s236_21, s236_24, s236_25, s236_26, s236_27, s236_30, s236_31, s236_32, s236_33, s236_36, s236_39, s236_40, s236_42, s236_45, s236_48, s236_49, s236_52, s236_53, s236_54, s236_57, s236_58, s236_61, s236_64, s236_65, s236_68, s236_71, s236_72, s236_74, s236_75, s236_78, s236_79, s236_80, s236_83, s236_84, s236_86, s236_87, s236_90, s236_91, s236_93, s236_94, s236_98, s236_99, s236_102, s236_103, s236_104, s236_107, s236_109, s236_110, s236_113, s236_115, s236_116, s236_119, s236_120, s236_122, s236_123, s236_124, s236_127, s236_130, s236_131, s236_133, s236_134, s236_137, s236_138, s236_139, s236_141, s236_144, s236_147, s236_150, s236_154, s236_157, s236_159, s236_162, s236_164, s236_166, s236_167, s236_169, s236_170, s236_173, s236_175, s236_176, s236_179, s236_181, s236_182, s236_183, s236_184, s236_185, s236_188, s236_190, s236_191, s236_194, s236_195, s236_198, s236_200, s236_201, s236_202, s236_203, s236_206, s236_207, s236_210, s236_212, s236_213, s236_214, s236_217, s236_220, s236_223, s236_226, s236_229, s236_232, s236_233, s236_236, s236_237, s236_238, q_0, q_1, q_2, q_3, q_4, q_5, q_6, q_7, q_8, q_9, q_10, q_11, q_12, q_13, q_14, q_16, q_20, q_23, q_24, q_32, q_42, q_43, q_45, q_47, q_48, q_50, q_57, q_59, q_60, q_61, q_62, q_63, q_64, q_66, q_91, q_93, q_97, q_99, q_122, q_144, q_255, q_256, q_300, q_380, q_400, q_620, q_999, q_1000, q_4095, q_4096, q_9999, q_65536, q_99999, q_31, nI_add, pk_mul, nE, nL, nT, nM31, nShl, ib_nI, nI_clamp, bI_n0, bI_n1, bI_nar, uI_r, uI_l, uL_r, uL_i, uL_p, uA_r, uA_l, bV_some, bU_some, nar_n0, nar_n1, and_self, and_true, true_and, and_false, false_and, if_true, if_false, eq_self, Bool.false_eq_true, Bool.true_eq_false, not_true_eq_false, not_false_eq_true, ↓reduceIte, nlT, nlF, ntT, ntF, neT, neF, ieT, ieF, decide_true, decide_false, Bool.not_true, Bool.not_false, Bool.and_true, Bool.true_and, Bool.and_false, Bool.false_and, Bool.or_true, Bool.true_or, Bool.or_false, Bool.false_or, h.sc, h.dn, c1, e, nx_or]
      · have e := bN_f (P := fun w => A 14 w == 0) (i := i) (by simp [c1])
        simp (disch := omega) only [s236_0, s236_1, s236_2, s236_3, s236_5, s236_6, s236_9, s236_10, s236_11, s236_14, s236_15, s236_16, s236_19, s236_20, s236_21, s236_24, s236_25, s236_26, s236_27, s236_30, s236_31, s236_32, s236_33, s236_36, s236_39, s236_40, s236_42, s236_45, s236_48, s236_49, s236_52, s236_53, s236_54, s236_57, s236_58, s236_61, s236_64, s236_65, s236_68, s236_71, s236_72, s236_74, s236_75, s236_78, s236_79, s236_80, s236_83, s236_84, s236_86, s236_87, s236_90, s236_91, s236_93, s236_94, s236_98, s236_99, s236_102, s236_103, s236_104, s236_107, s236_109, s236_110, s236_113, s236_115, s236_116, s236_119, s236_120, s236_122, s236_123, s236_124, s236_127, s236_130, s236_131, s236_133, s236_134, s236_137, s236_138, s236_139, s236_141, s236_144, s236_147, s236_150, s236_154, s236_157, s236_159, s236_162, s236_164, s236_166, s236_167, s236_169, s236_170, s236_173, s236_175, s236_176, s236_179, s236_181, s236_182, s236_183, s236_184, s236_185, s236_188, s236_190, s236_191, s236_194, s236_195, s236_198, s236_200, s236_201, s236_202, s236_203, s236_206, s236_207, s236_210, s236_212, s236_213, s236_214, s236_217, s236_220, s236_223, s236_226, s236_229, s236_232, s236_233, s236_236, s236_237, s236_238, q_0, q_1, q_2, q_3, q_4, q_5, q_6, q_7, q_8, q_9, q_10, q_11, q_12, q_13, q_14, q_16, q_20, q_23, q_24, q_32, q_42, q_43, q_45, q_47, q_48, q_50, q_57, q_59, q_60, q_61, q_62, q_63, q_64, q_66, q_91, q_93, q_97, q_99, q_122, q_144, q_255, q_256, q_300, q_380, q_400, q_620, q_999, q_1000, q_4095, q_4096, q_9999, q_65536, q_99999, q_31, nI_add, pk_mul, nE, nL, nT, nM31, nShl, ib_nI, nI_clamp, bI_n0, bI_n1, bI_nar, uI_r, uI_l, uL_r, uL_i, uL_p, uA_r, uA_l, bV_some, bU_some, nar_n0, nar_n1, and_self, and_true, true_and, and_false, false_and, if_true, if_false, eq_self, Bool.false_eq_true, Bool.true_eq_false, not_true_eq_false, not_false_eq_true, ↓reduceIte, nlT, nlF, ntT, ntF, neT, neF, ieT, ieF, decide_true, decide_false, Bool.not_true, Bool.not_false, Bool.and_true, Bool.true_and, Bool.and_false, Bool.false_and, Bool.or_true, Bool.true_or, Bool.or_false, Bool.false_or, h.sc, h.dn, c1, e, nx_or, Nat.or_zero]
    · show run 236 0 4 _ _ _ = _
      rw [s236_4]
      simp (disch := omega) only [s236_0, s236_1, s236_2, s236_3, s236_5, s236_6, s236_9, s236_10, s236_11, s236_14, s236_15, s236_16, s236_19, s236_20, s236_21, s236_24, s236_25, s236_26, s236_27, s236_30, s236_31, s236_32, s236_33, s236_36, s236_39, s236_40, s236_42, s236_45, s236_48, s236_49, s236_52, s236_53, s236_54, s236_57, s236_58, s236_61, s236_64, s236_65, s236_68, s236_71, s236_72, s236_74, s236_75, s236_78, s236_79, s236_80, s236_83, s236_84, s236_86, s236_87, s236_90, s236_91, s236_93, s236_94, s236_98, s236_99, s236_102, s236_103, s236_104, s236_107, s236_109, s236_110, s236_113, s236_115, s236_116, s236_119, s236_120, s236_122, s236_123, s236_124, s236_127, s236_130, s236_131, s236_133, s236_134, s236_137, s236_138, s236_139, s236_141, s236_144, s236_147, s236_150, s236_154, s236_157, s236_159, s236_162, s236_164, s236_166, s236_167, s236_169, s236_170, s236_173, s236_175, s236_176, s236_179, s236_181, s236_182, s236_183, s236_184, s236_185, s236_188, s236_190, s236_191, s236_194, s236_195, s236_198, s236_200, s236_201, s236_202, s236_203, s236_206, s236_207, s236_210, s236_212, s236_213, s236_214, s236_217, s236_220, s236_223, s236_226, s236_229, s236_232, s236_233, s236_236, s236_237, s236_238, q_0, q_1, q_2, q_3, q_4, q_5, q_6, q_7, q_8, q_9, q_10, q_11, q_12, q_13, q_14, q_16, q_20, q_23, q_24, q_32, q_42, q_43, q_45, q_47, q_48, q_50, q_57, q_59, q_60, q_61, q_62, q_63, q_64, q_66, q_91, q_93, q_97, q_99, q_122, q_144, q_255, q_256, q_300, q_380, q_400, q_620, q_999, q_1000, q_4095, q_4096, q_9999, q_65536, q_99999, q_31, nI_add, pk_mul, nE, nL, nT, nM31, nShl, ib_nI, nI_clamp, bI_n0, bI_n1, bI_nar, uI_r, uI_l, uL_r, uL_i, uL_p, uA_r, uA_l, bV_some, bU_some, nar_n0, nar_n1, and_self, and_true, true_and, and_false, false_and, if_true, if_false, eq_self, Bool.false_eq_true, Bool.true_eq_false, not_true_eq_false, not_false_eq_true, ↓reduceIte, nlT, nlF, ntT, ntF, neT, neF, ieT, ieF, decide_true, decide_false, Bool.not_true, Bool.not_false, Bool.and_true, Bool.true_and, Bool.and_false, Bool.false_and, Bool.or_true, Bool.true_or, Bool.or_false, Bool.false_or, h.sc]
      rfl
  rw [key]
  exact L2
