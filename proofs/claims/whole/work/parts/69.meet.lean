/-! two meet -/
theorem lx_and (a b : Nat) : lN a &&& lN b = lN (a &&& b) := by
  apply Int64.toBitVec_inj.1
  show BitVec.ofNat 64 a &&& BitVec.ofNat 64 b = BitVec.ofNat 64 (a &&& b)
  apply BitVec.eq_of_getLsbD_eq
  intro i hi
  simp [hi]
def nxD (x : Nat) : Nat := (x * 1103515245 + 12345) % 2147483648
def dvD (x : Nat) : Nat := nxD x / 65536 % 1000
theorem nxD_lt (x : Nat) : nxD x < 2 ^ 31 := Nat.mod_lt _ (by decide)
theorem x_draw {S : Sto} {q : Nat} {A : Tn} (h : RepC S q A) (hw : WF A) : call 91 0 [vR 1 q] S = some (some (vI (nI (dvD (A 0 5)))), uI S 1 q 19 (nI (nxD (A 0 5)))) := by
  have hd := hw.dr
  have hn := nxD_lt (A 0 5)
  have e : ((nI (A 0 5)).toInt64 * 1103515245 + 12345 &&& 2147483647).toInt32 = nI (nxD (A 0 5)) := by
    rw [nI_l hd, show (1103515245 : Int64) = lN 1103515245 from rfl, show (12345 : Int64) = lN 12345 from rfl, show (2147483647 : Int64) = lN 2147483647 from rfl, lN_mul, lN_add, lx_and, lN_i]
    exact congrArg nI (Nat.and_two_pow_sub_one_eq_mod _ 31)
  have e2 : nxD (A 0 5) / 65536 - nxD (A 0 5) / 65536 / 1000 * 1000 = dvD (A 0 5) := by unfold dvD; omega
  show run 91 0 0 [vR 1 q] [] S = _
  simp (disch := omega) only [s91_0, s91_1, s91_2, s91_5, s91_6, s91_9, s91_10, s91_13, s91_14, s91_17, s91_18, s91_19, s91_22, s91_23, s91_26, s91_28, s91_29, s91_32, s91_33, q_0, q_1, q_2, q_3, q_4, q_5, q_6, q_7, q_8, q_9, q_10, q_11, q_12, q_13, q_14, q_16, q_20, q_23, q_24, q_32, q_42, q_43, q_45, q_47, q_48, q_50, q_57, q_59, q_60, q_61, q_62, q_63, q_64, q_66, q_91, q_93, q_97, q_99, q_122, q_144, q_255, q_256, q_300, q_380, q_400, q_620, q_999, q_1000, q_4095, q_4096, q_9999, q_65536, q_99999, q_31, nI_add, pk_mul, nE, nL, nT, nM31, nShl, ib_nI, nI_clamp, bI_n0, bI_n1, bI_nar, uI_r, uI_l, uL_r, uL_i, uL_p, uA_r, uA_l, bV_some, bU_some, nar_n0, nar_n1, and_self, and_true, true_and, and_false, false_and, if_true, if_false, eq_self, Bool.false_eq_true, Bool.true_eq_false, not_true_eq_false, not_false_eq_true, ↓reduceIte, nlT, nlF, ntT, ntF, neT, neF, ieT, ieF, decide_true, decide_false, Bool.not_true, Bool.not_false, Bool.and_true, Bool.true_and, Bool.and_false, Bool.false_and, Bool.or_true, Bool.true_or, Bool.or_false, Bool.false_or, h.dr, e, nDiv, nSub, e2]
theorem m_draws {S : Sto} {A : Tn} (h : RepM S A) (hw : WF A) : call 259 0 [vR 50 0] S = some (some (vI (nI (dvD (A 0 5)))), uI S 51 0 5 (nI (nxD (A 0 5)))) := by
  have hd := hw.dr
  have hn := nxD_lt (A 0 5)
  have e : (nI (A 0 5)).toInt64 * 1103515245 + 12345 = lN (A 0 5 * 1103515245 + 12345) := by
    rw [nI_l hd, show (1103515245 : Int64) = lN 1103515245 from rfl, show (12345 : Int64) = lN 12345 from rfl, lN_mul, lN_add]
  have e1 : lN (A 0 5 * 1103515245 + 12345) - lN (A 0 5 * 1103515245 + 12345) / 2147483648 * 2147483648 = lN (nxD (A 0 5)) := pk_lRem (b := 2147483648) (by omega) (by decide) (by decide)
  have e2 : lN (nxD (A 0 5)) / 65536 - lN (nxD (A 0 5)) / 65536 / 1000 * 1000 = lN (dvD (A 0 5)) := by
    have q1 : lN (nxD (A 0 5)) / 65536 = lN (nxD (A 0 5) / 65536) := pk_lDiv (b := 65536) (by omega) (by decide) (by decide)
    rw [q1]
    exact pk_lRem (b := 1000) (by omega) (by decide) (by decide)
  have z1 : ((2147483648 : Int64) = 0) = False := eq_false (by decide)
  have z2 : ((65536 : Int64) = 0) = False := eq_false (by decide)
  have z3 : ((1000 : Int64) = 0) = False := eq_false (by decide)
  show run 259 0 0 [vR 50 0, vU, vU] [] S = _
  simp (disch := omega) only [s259_0, s259_1, s259_4, s259_5, s259_6, s259_7, s259_10, s259_11, s259_14, s259_15, s259_18, s259_19, s259_20, s259_21, s259_24, s259_25, s259_26, s259_27, s259_28, s259_29, s259_32, s259_33, s259_36, s259_37, s259_38, q_0, q_1, q_2, q_3, q_4, q_5, q_6, q_7, q_8, q_9, q_10, q_11, q_12, q_13, q_14, q_16, q_20, q_23, q_24, q_32, q_42, q_43, q_45, q_47, q_48, q_50, q_57, q_59, q_60, q_61, q_62, q_63, q_64, q_66, q_91, q_93, q_97, q_99, q_122, q_144, q_255, q_256, q_300, q_380, q_400, q_620, q_999, q_1000, q_4095, q_4096, q_9999, q_65536, q_99999, q_31, nI_add, pk_mul, nE, nL, nT, nM31, nShl, ib_nI, nI_clamp, bI_n0, bI_n1, bI_nar, uI_r, uI_l, uL_r, uL_i, uL_p, uA_r, uA_l, bV_some, bU_some, nar_n0, nar_n1, and_self, and_true, true_and, and_false, false_and, if_true, if_false, eq_self, Bool.false_eq_true, Bool.true_eq_false, not_true_eq_false, not_false_eq_true, ↓reduceIte, nlT, nlF, ntT, ntF, neT, neF, ieT, ieF, decide_true, decide_false, Bool.not_true, Bool.not_false, Bool.and_true, Bool.true_and, Bool.and_false, Bool.false_and, Bool.or_true, Bool.true_or, Bool.or_false, Bool.false_or, h.sc, e, e1, e2, z1, z2, z3, lN_i]
def ownN (A : Tn) (p : Nat) : Nat := ct (fun t => owB A p t) (A 0 1)
def shN (A : Tn) (a b : Nat) : Nat := ct (fun t => owB A a t && owB A b t) (A 0 1)
def twF (A : Tn) (a b : Nat) (g : Nat → Int64) (c : Nat) : Int64 := if c = 10 then (nI (A 0 4)).toInt64 else if c = 9 then (nI (odN A a + odN A b)).toInt64 else if c = 8 then (nI (shN A a b)).toInt64 else if c = 7 then (nI (A 6 (12 * a + b) + A 6 (12 * b + a))).toInt64 else if c = 4 then (nI (ownN A a + ownN A b)).toInt64 else if c = 0 then (nI (A 4 (12 * a + b)) - nI 9 + (nI (A 4 (12 * b + a)) - nI 9)).toInt64 else g c
def W3 (A : Tn) (a b : Nat) : Nat → Int64 := twF A a b (fun _ => 0)
def Ms (S : Sto) (A : Tn) : Prop := (∀ p, p < 12 → S.1 45 0 p = nI (ownN A p)) ∧ ∀ a b, a < 12 → b < 12 → a ≠ b → S.1 46 0 (12 * a + b) = nI (shN A a b)
def Z44 (S : Sto) : Prop := ∀ k, k ∈ [1, 2, 3, 5, 6] → S.2.1 44 0 k = 0
theorem x_tellTwo {S : Sto} {q : Nat} {A : Tn} {a b : Nat} (h : RepC S q A) (hw : WF A) (hm : Ms S A) (ha : a < 12) (hb : b < 12) (hne : a ≠ b) : ∃ S', call 90 0 [vR 43 0, vR 1 q, vI (nI a), vI (nI b)] S = some (none, S') ∧ Fr (pL [44]) S S' ∧ ∀ c, S'.2.1 44 0 c = twF A a b (S.2.1 44 0) c := by
  have f1 := foeB_lt A a
  have f2 := foeB_lt A b
  have g1 := hm.1 a ha
  have g2 := hm.1 b hb
  have g3 := hm.2 a b ha hb hne
  show ∃ S', run 90 0 0 [vR 43 0, vR 1 q, vI (nI a), vI (nI b), vU, vU] [] S = _ ∧ _
  simp (disch := omega) only [s90_0, s90_2, s90_3, s90_4, s90_5, s90_6, s90_8, s90_10, s90_11, s90_12, s90_13, s90_14, s90_16, s90_17, s90_20, s90_21, s90_22, s90_25, s90_27, s90_28, s90_29, s90_32, s90_34, s90_35, s90_36, s90_37, s90_38, s90_39, s90_42, s90_43, s90_44, s90_47, s90_48, s90_49, s90_50, s90_53, s90_54, s90_55, s90_56, s90_57, s90_58, s90_59, s90_62, s90_64, s90_65, s90_68, s90_70, s90_71, s90_72, s90_75, s90_77, s90_78, s90_79, s90_80, s90_81, s90_82, s90_85, s90_87, s90_88, s90_91, s90_93, s90_94, s90_95, s90_96, s90_97, s90_100, s90_102, s90_103, s90_106, s90_107, s90_108, s90_111, s90_112, s90_115, s90_116, s90_117, s90_120, s90_121, s90_122, s90_123, s90_124, s90_127, s90_129, s90_130, s90_133, s90_134, s90_135, q_0, q_1, q_2, q_3, q_4, q_5, q_6, q_7, q_8, q_9, q_10, q_11, q_12, q_13, q_14, q_16, q_20, q_23, q_24, q_32, q_42, q_43, q_45, q_47, q_48, q_50, q_57, q_59, q_60, q_61, q_62, q_63, q_64, q_66, q_91, q_93, q_97, q_99, q_122, q_144, q_255, q_256, q_300, q_380, q_400, q_620, q_999, q_1000, q_4095, q_4096, q_9999, q_65536, q_99999, q_31, nI_add, pk_mul, nE, nL, nT, nM31, nShl, ib_nI, nI_clamp, bI_n0, bI_n1, bI_nar, uI_r, uI_l, uL_r, uL_i, uL_p, uA_r, uA_l, bV_some, bU_some, nar_n0, nar_n1, and_self, and_true, true_and, and_false, false_and, if_true, if_false, eq_self, Bool.false_eq_true, Bool.true_eq_false, not_true_eq_false, not_false_eq_true, ↓reduceIte, nlT, nlF, ntT, ntF, neT, neF, ieT, ieF, decide_true, decide_false, Bool.not_true, Bool.not_false, Bool.and_true, Bool.true_and, Bool.and_false, Bool.false_and, Bool.or_true, Bool.true_or, Bool.or_false, Bool.false_or, h.li, h.gi, h.fo, h.ye, g1, g2, g3, x_bitCount, br_near hw]
  refine ⟨_, rfl, ((((((Fr.rfl'.uL rfl).uL rfl).uL rfl).uL rfl).uL rfl).uL rfl), ?_⟩
  intro c
  simp only [uL_r, true_and, twF]
theorem m_asksTwo {S : Sto} {A : Tn} {a b : Nat} (h : RepM S A) (hw : WF A) (ha : a < 12) (hb : b < 12) : ∃ S', call 258 0 [vR 50 0, vI (nI a), vI (nI b)] S = some (none, S') ∧ Fr (pL [76]) S S' ∧ ∀ c, c < 11 → S'.2.1 76 0 c = W3 A a b c := by
  obtain ⟨S1, a1, a2, a3⟩ := m_asksNothing h
  have h1 := h.pl a2 (by decide)
  have e3 : ∀ v0, call 150 0 [vR 50 0, vI (nI a)] (uL S1 76 0 0 v0) = some (some (vI (nI (ownN A a))), uL S1 76 0 0 v0) := fun v0 => m_ownsMany (S := uL S1 76 0 0 v0) (p := a) (show RepM _ A from h1) hw (by omega)
  have e3' : ∀ v0, call 150 0 [vR 50 0, vI (nI b)] (uL S1 76 0 0 v0) = some (some (vI (nI (ownN A b))), uL S1 76 0 0 v0) := fun v0 => m_ownsMany (S := uL S1 76 0 0 v0) (p := b) (show RepM _ A from h1) hw (by omega)
  have e4 : ∀ v0 v1 v2, call 156 0 [vR 50 0, vI (nI a), vI (nI b)] (uL (uL (uL S1 76 0 0 v0) 76 0 4 v1) 76 0 7 v2) = some (some (vI (nI (shN A a b))), uL (uL (uL S1 76 0 0 v0) 76 0 4 v1) 76 0 7 v2) := fun v0 v1 v2 => m_shared (S := uL (uL (uL S1 76 0 0 v0) 76 0 4 v1) 76 0 7 v2) (show RepM _ A from h1) hw (by omega) (by omega)
  have e5 : ∀ v0 v1 v2 v3, call 152 0 [vR 50 0, vI (nI a)] (uL (uL (uL (uL S1 76 0 0 v0) 76 0 4 v1) 76 0 7 v2) 76 0 8 v3) = some (some (vI (nI (odN A a))), uL (uL (uL (uL S1 76 0 0 v0) 76 0 4 v1) 76 0 7 v2) 76 0 8 v3) := fun v0 v1 v2 v3 => m_near (S := uL (uL (uL (uL S1 76 0 0 v0) 76 0 4 v1) 76 0 7 v2) 76 0 8 v3) (show RepM _ A from h1) hw ha
  have e5' : ∀ v0 v1 v2 v3, call 152 0 [vR 50 0, vI (nI b)] (uL (uL (uL (uL S1 76 0 0 v0) 76 0 4 v1) 76 0 7 v2) 76 0 8 v3) = some (some (vI (nI (odN A b))), uL (uL (uL (uL S1 76 0 0 v0) 76 0 4 v1) 76 0 7 v2) 76 0 8 v3) := fun v0 v1 v2 v3 => m_near (S := uL (uL (uL (uL S1 76 0 0 v0) 76 0 4 v1) 76 0 7 v2) 76 0 8 v3) (show RepM _ A from h1) hw hb
  show ∃ S', run 258 0 0 [vR 50 0, vI (nI a), vI (nI b)] [] S = _ ∧ _
  simp (disch := omega) only [s258_0, s258_1, s258_4, s258_5, s258_8, s258_9, s258_10, s258_13, s258_15, s258_16, s258_17, s258_18, s258_19, s258_20, s258_21, s258_24, s258_26, s258_27, s258_28, s258_29, s258_30, s258_31, s258_32, s258_33, s258_34, s258_35, s258_38, s258_39, s258_40, s258_41, s258_44, s258_45, s258_46, s258_49, s258_50, s258_51, s258_52, s258_53, s258_56, s258_58, s258_59, s258_62, s258_64, s258_65, s258_66, s258_67, s258_68, s258_69, s258_70, s258_73, s258_75, s258_76, s258_77, s258_78, s258_79, s258_80, s258_81, s258_82, s258_83, s258_84, s258_87, s258_89, s258_90, s258_91, s258_92, s258_95, s258_96, s258_97, s258_98, s258_101, s258_103, s258_104, s258_105, s258_108, s258_109, s258_110, s258_113, s258_114, s258_115, s258_116, q_0, q_1, q_2, q_3, q_4, q_5, q_6, q_7, q_8, q_9, q_10, q_11, q_12, q_13, q_14, q_16, q_20, q_23, q_24, q_32, q_42, q_43, q_45, q_47, q_48, q_50, q_57, q_59, q_60, q_61, q_62, q_63, q_64, q_66, q_91, q_93, q_97, q_99, q_122, q_144, q_255, q_256, q_300, q_380, q_400, q_620, q_999, q_1000, q_4095, q_4096, q_9999, q_65536, q_99999, q_31, nI_add, pk_mul, nE, nL, nT, nM31, nShl, ib_nI, nI_clamp, bI_n0, bI_n1, bI_nar, uI_r, uI_l, uL_r, uL_i, uL_p, uA_r, uA_l, bV_some, bU_some, nar_n0, nar_n1, and_self, and_true, true_and, and_false, false_and, if_true, if_false, eq_self, Bool.false_eq_true, Bool.true_eq_false, not_true_eq_false, not_false_eq_true, ↓reduceIte, nlT, nlF, ntT, ntF, neT, neF, ieT, ieF, decide_true, decide_false, Bool.not_true, Bool.not_false, Bool.and_true, Bool.true_and, Bool.and_false, Bool.false_and, Bool.or_true, Bool.true_or, Bool.or_false, Bool.false_or, a1, h1.li, h1.gi, e3, e3', e4, e5, e5']
  refine ⟨_, rfl, ((((a2.uL rfl).uL rfl).uL rfl).uL rfl).uL rfl, ?_⟩
  intro c hc
  have a3' := a3 c hc
  simp only [uL_r, true_and]
  unfold W3 twF
  rw [a3']
  have hc' : c = 0 ∨ c = 1 ∨ c = 2 ∨ c = 3 ∨ c = 4 ∨ c = 5 ∨ c = 6 ∨ c = 7 ∨ c = 8 ∨ c = 9 ∨ c = 10 := by omega
  clear a3 a3' e3 e3' e4 e5 e5'
  rcases hc' with rfl | rfl | rfl | rfl | rfl | rfl | rfl | rfl | rfl | rfl | rfl <;> simp
def mtV (A : Tn) (L : Lw) (a b : Nat) : Bool := decide (dvD (A 0 5) < hd (sumL L (W3 A a b) (if A 5 (12 * a + b) = 1 then 4 else 3) 0) 0 1000)
def mt (A : Tn) (L : Lw) (a b : Nat) : Tn := if A 5 (12 * a + b) ≠ 1 ∧ shN A a b = 0 then A else if mtV A L a b = true then uQ (uT A 0 5 (nxD (A 0 5))) a b (if A 5 (12 * a + b) = 1 then 0 else 1) else uT A 0 5 (nxD (A 0 5))
theorem mt_W {A : Tn} {L : Lw} {a b : Nat} (hw : WF A) (ha : a < A 0 0) (hb : b < A 0 0) (hne : a ≠ b) : WF (mt A L a b) := by
  have h1 := hw.s_dr (v := nxD (A 0 5)) (nxD_lt _)
  unfold mt
  split
  · exact hw
  · split
    · exact h1.s_qu ha hb hne (by split <;> decide)
    · exact h1
theorem mt_f {A : Tn} {L : Lw} {a b f i : Nat} (h5 : f ≠ 5) (h0 : ¬ (f = 0 ∧ i = 5)) : mt A L a b f i = A f i := by
  unfold mt
  split
  · rfl
  · split
    · rw [uQ_r, if_neg (by omega), if_neg (by omega), uT_r, if_neg h0]
    · rw [uT_r, if_neg h0]
def pY (q : Nat) : Nat → Nat → Bool := fun t i => pT q t i || pL [23, 44, 45, 46] t i
theorem pY_f {q t i : Nat} (h : (1 ≤ t ∧ t ≤ 13 ∧ i ≠ q) ∨ t = 0 ∨ (14 ≤ t ∧ t ≠ 23 ∧ t ≠ 44 ∧ t ≠ 45 ∧ t ≠ 46)) : pY q t i = false := by
  unfold pY pT pL
  simp
  omega
theorem Fr.yt {S S' : Sto} {q : Nat} (h : Fr (pT q) S S') : Fr (pY q) S S' := h.mn (fun t i e => by
  unfold pY at e
  simp only [Bool.or_eq_false_iff] at e
  exact e.1)
theorem Fr.yl {S S' : Sto} {q : Nat} {L : List Nat} (h : Fr (pL L) S S') (hL : ∀ t, t ∈ L → t ∈ [23, 44, 45, 46]) : Fr (pY q) S S' := (h.pl hL).mn (fun t i e => by
  unfold pY at e
  simp only [Bool.or_eq_false_iff] at e
  exact e.2)
theorem Fr.t4 {S S' : Sto} {q : Nat} (h : Fr (fun t i => t == 4 && i == q) S S') : Fr (pT q) S S' := h.mn (fun t i e => by
  unfold pT at e
  simp only [Bool.and_eq_false_iff, decide_eq_false_iff_not, beq_eq_false_iff_ne] at e ⊢
  omega)
theorem x_meet {S : Sto} {q : Nat} {A : Tn} {r : Nat} {L : Lw} {a b : Nat} (h : RepC S q A) (hw : WF A) (hL : RepLC S r L) (hl : WFL L) (hm : Ms S A) (hz : Z44 S) (ha : a < 12) (hb : b < 12) (hne : a ≠ b) : ∃ S', call 89 0 [vR 43 0, vR 1 q, vR 17 r, vI (nI a), vI (nI b)] S = some (none, S') ∧ Fr (pY q) S S' ∧ RepC S' q (mt A L a b) ∧ Z44 S' ∧ (∀ i, S'.1 45 0 i = S.1 45 0 i) ∧ (∀ i, S'.1 46 0 i = S.1 46 0 i) := by
  have g3 := hm.2 a b ha hb hne
  have hsh : shN A a b ≤ A 0 1 := ct_le _ _
  have hT := hw.th
  have hodd := x_atOdds_A h ha hb
  show ∃ S', run 89 0 0 [vR 43 0, vR 1 q, vR 17 r, vI (nI a), vI (nI b), vU, vU] [] S = _ ∧ _
  by_cases c0 : A 5 (12 * a + b) ≠ 1 ∧ shN A a b = 0
  · have c0' : (A 5 (12 * a + b) == 1) = false := by simp [c0.1]
    rw [c0'] at hodd
    unfold mt
    rw [if_pos c0]
    simp (disch := omega) only [s89_0, s89_1, s89_2, s89_4, s89_7, s89_9, s89_11, s89_14, s89_15, s89_18, s89_20, s89_21, s89_22, s89_24, s89_25, s89_26, s89_29, s89_30, s89_31, s89_32, s89_33, s89_35, s89_38, s89_39, s89_41, s89_44, s89_45, s89_48, s89_49, s89_50, s89_53, s89_56, s89_57, s89_60, s89_63, s89_65, s89_66, s89_69, s89_71, s89_74, s89_75, s89_76, s89_78, s89_80, s89_83, s89_84, s89_87, s89_88, s89_91, q_0, q_1, q_2, q_3, q_4, q_5, q_6, q_7, q_8, q_9, q_10, q_11, q_12, q_13, q_14, q_16, q_20, q_23, q_24, q_32, q_42, q_43, q_45, q_47, q_48, q_50, q_57, q_59, q_60, q_61, q_62, q_63, q_64, q_66, q_91, q_93, q_97, q_99, q_122, q_144, q_255, q_256, q_300, q_380, q_400, q_620, q_999, q_1000, q_4095, q_4096, q_9999, q_65536, q_99999, q_31, nI_add, pk_mul, nE, nL, nT, nM31, nShl, ib_nI, nI_clamp, bI_n0, bI_n1, bI_nar, uI_r, uI_l, uL_r, uL_i, uL_p, uA_r, uA_l, bV_some, bU_some, nar_n0, nar_n1, and_self, and_true, true_and, and_false, false_and, if_true, if_false, eq_self, Bool.false_eq_true, Bool.true_eq_false, not_true_eq_false, not_false_eq_true, ↓reduceIte, nlT, nlF, ntT, ntF, neT, neF, ieT, ieF, decide_true, decide_false, Bool.not_true, Bool.not_false, Bool.and_true, Bool.true_and, Bool.and_false, Bool.false_and, Bool.or_true, Bool.true_or, Bool.or_false, Bool.false_or, hodd, g3]
    exact ⟨_, rfl, Fr.rfl', h, hz, fun _ => rfl, fun _ => rfl⟩
  · obtain ⟨S1, a1, a2, a3⟩ := x_tellTwo h hw hm ha hb hne
    have h1 := h.pl a2 (by decide)
    have hW : ∀ c, c < 11 → S1.2.1 44 0 c = W3 A a b c := by
      intro c hc
      rw [a3]
      unfold W3 twF
      have hc' : c = 0 ∨ c = 1 ∨ c = 2 ∨ c = 3 ∨ c = 4 ∨ c = 5 ∨ c = 6 ∨ c = 7 ∨ c = 8 ∨ c = 9 ∨ c = 10 := by omega
      rcases hc' with rfl | rfl | rfl | rfl | rfl | rfl | rfl | rfl | rfl | rfl | rfl <;> first | rfl | exact hz _ (by decide)
    have hz1 : Z44 S1 := by
      intro k hk
      rw [a3, ← hz k hk]
      simp only [List.mem_cons, List.not_mem_nil, or_false] at hk
      rcases hk with rfl | rfl | rfl | rfl | rfl <;> rfl
    have fin : ∀ (S2 S3 : Sto), Fr (pL [23]) S1 S2 → Fr (pT q) S2 S3 → Fr (pY q) S S3 ∧ Z44 S3 ∧ (∀ i, S3.1 45 0 i = S.1 45 0 i) ∧ (∀ i, S3.1 46 0 i = S.1 46 0 i) := by
      intro S2 S3 q1 q2
      refine ⟨((a2.yl (by simp)).tr (q1.yl (by simp))).tr q2.yt, ?_, ?_, ?_⟩
      · intro k hk
        rw [q2.l (pT_f (by omega)), q1.l rfl]
        exact hz1 k hk
      · intro i
        rw [q2.i (pT_f (by omega)), q1.i rfl, a2.i rfl]
      · intro i
        rw [q2.i (pT_f (by omega)), q1.i rfl, a2.i rfl]
    have fu : ∀ S2, Fr (pT q) S2 (uI S2 1 q 19 (nI (nxD (A 0 5)))) := fun S2 => Fr.rfl'.uI (pT_t (by decide) (by decide))
    by_cases c1 : A 5 (12 * a + b) = 1
    · have c1' : (A 5 (12 * a + b) == 1) = true := by simp [c1]
      rw [c1'] at hodd
      obtain ⟨S2, d1, d2⟩ := x_sumOf (S := S1) (s := 4) (d := 0) (w := 44) rfl rfl rfl rfl (by decide) hW (hL.pl a2 (by decide)) hl (by decide)
      have h2 := h1.pl d2 (by decide)
      have e1 := x_draw h2 hw
      have h3 := h2.s_dr (nxD (A 0 5)) rfl
      have hb2 := hd_le (v := sumL L (W3 A a b) 4 0) (lo := 0) (hi := 1000) (by decide)
      have hdv : dvD (A 0 5) < 1000 := Nat.mod_lt _ (by decide)
      unfold mt mtV
      rw [if_neg c0]
      simp only [if_pos c1, decide_eq_true_eq]
      by_cases c2 : dvD (A 0 5) < hd (sumL L (W3 A a b) 4 0) 0 1000
      · obtain ⟨S4, k1, k2, k3⟩ := x_setOdds h3 false ha hb (fun q => by cases q)
        have k1' : call 72 0 [vR 1 q, vI (nI a), vI (nI b), vI (nI 0)] (uI S2 1 q 19 (nI (nxD (A 0 5)))) = some (none, S4) := k1
        simp (disch := omega) only [s89_0, s89_1, s89_2, s89_4, s89_7, s89_9, s89_11, s89_14, s89_15, s89_18, s89_20, s89_21, s89_22, s89_24, s89_25, s89_26, s89_29, s89_30, s89_31, s89_32, s89_33, s89_35, s89_38, s89_39, s89_41, s89_44, s89_45, s89_48, s89_49, s89_50, s89_53, s89_56, s89_57, s89_60, s89_63, s89_65, s89_66, s89_69, s89_71, s89_74, s89_75, s89_76, s89_78, s89_80, s89_83, s89_84, s89_87, s89_88, s89_91, q_0, q_1, q_2, q_3, q_4, q_5, q_6, q_7, q_8, q_9, q_10, q_11, q_12, q_13, q_14, q_16, q_20, q_23, q_24, q_32, q_42, q_43, q_45, q_47, q_48, q_50, q_57, q_59, q_60, q_61, q_62, q_63, q_64, q_66, q_91, q_93, q_97, q_99, q_122, q_144, q_255, q_256, q_300, q_380, q_400, q_620, q_999, q_1000, q_4095, q_4096, q_9999, q_65536, q_99999, q_31, nI_add, pk_mul, nE, nL, nT, nM31, nShl, ib_nI, nI_clamp, bI_n0, bI_n1, bI_nar, uI_r, uI_l, uL_r, uL_i, uL_p, uA_r, uA_l, bV_some, bU_some, nar_n0, nar_n1, and_self, and_true, true_and, and_false, false_and, if_true, if_false, eq_self, Bool.false_eq_true, Bool.true_eq_false, not_true_eq_false, not_false_eq_true, ↓reduceIte, nlT, nlF, ntT, ntF, neT, neF, ieT, ieF, decide_true, decide_false, Bool.not_true, Bool.not_false, Bool.and_true, Bool.true_and, Bool.and_false, Bool.false_and, Bool.or_true, Bool.true_or, Bool.or_false, Bool.false_or, hodd, a1, d1, x_held, e1, c2, k1']
        obtain ⟨f1, f2, f3, f4⟩ := fin S2 S4 d2 ((fu S2).tr k2.t4)
        exact ⟨_, rfl, f1, k3, f2, f3, f4⟩
      · simp (disch := omega) only [s89_0, s89_1, s89_2, s89_4, s89_7, s89_9, s89_11, s89_14, s89_15, s89_18, s89_20, s89_21, s89_22, s89_24, s89_25, s89_26, s89_29, s89_30, s89_31, s89_32, s89_33, s89_35, s89_38, s89_39, s89_41, s89_44, s89_45, s89_48, s89_49, s89_50, s89_53, s89_56, s89_57, s89_60, s89_63, s89_65, s89_66, s89_69, s89_71, s89_74, s89_75, s89_76, s89_78, s89_80, s89_83, s89_84, s89_87, s89_88, s89_91, q_0, q_1, q_2, q_3, q_4, q_5, q_6, q_7, q_8, q_9, q_10, q_11, q_12, q_13, q_14, q_16, q_20, q_23, q_24, q_32, q_42, q_43, q_45, q_47, q_48, q_50, q_57, q_59, q_60, q_61, q_62, q_63, q_64, q_66, q_91, q_93, q_97, q_99, q_122, q_144, q_255, q_256, q_300, q_380, q_400, q_620, q_999, q_1000, q_4095, q_4096, q_9999, q_65536, q_99999, q_31, nI_add, pk_mul, nE, nL, nT, nM31, nShl, ib_nI, nI_clamp, bI_n0, bI_n1, bI_nar, uI_r, uI_l, uL_r, uL_i, uL_p, uA_r, uA_l, bV_some, bU_some, nar_n0, nar_n1, and_self, and_true, true_and, and_false, false_and, if_true, if_false, eq_self, Bool.false_eq_true, Bool.true_eq_false, not_true_eq_false, not_false_eq_true, ↓reduceIte, nlT, nlF, ntT, ntF, neT, neF, ieT, ieF, decide_true, decide_false, Bool.not_true, Bool.not_false, Bool.and_true, Bool.true_and, Bool.and_false, Bool.false_and, Bool.or_true, Bool.true_or, Bool.or_false, Bool.false_or, hodd, a1, d1, x_held, e1, c2]
        obtain ⟨f1, f2, f3, f4⟩ := fin S2 _ d2 (fu S2)
        exact ⟨_, rfl, f1, h3, f2, f3, f4⟩
    · have c1' : (A 5 (12 * a + b) == 1) = false := by simp [c1]
      rw [c1'] at hodd
      have c3 : shN A a b ≠ 0 := fun q => c0 ⟨c1, q⟩
      obtain ⟨S2, d1, d2⟩ := x_sumOf (S := S1) (s := 3) (d := 0) (w := 44) rfl rfl rfl rfl (by decide) hW (hL.pl a2 (by decide)) hl (by decide)
      have h2 := h1.pl d2 (by decide)
      have e1 := x_draw h2 hw
      have h3 := h2.s_dr (nxD (A 0 5)) rfl
      have hb2 := hd_le (v := sumL L (W3 A a b) 3 0) (lo := 0) (hi := 1000) (by decide)
      have hdv : dvD (A 0 5) < 1000 := Nat.mod_lt _ (by decide)
      unfold mt mtV
      rw [if_neg c0]
      simp only [if_neg c1, decide_eq_true_eq]
      by_cases c2 : dvD (A 0 5) < hd (sumL L (W3 A a b) 3 0) 0 1000
      · obtain ⟨S4, k1, k2, k3⟩ := x_setOdds h3 true ha hb (fun _ => hne)
        have k1' : call 72 0 [vR 1 q, vI (nI a), vI (nI b), vI (nI 1)] (uI S2 1 q 19 (nI (nxD (A 0 5)))) = some (none, S4) := k1
        simp (disch := omega) only [s89_0, s89_1, s89_2, s89_4, s89_7, s89_9, s89_11, s89_14, s89_15, s89_18, s89_20, s89_21, s89_22, s89_24, s89_25, s89_26, s89_29, s89_30, s89_31, s89_32, s89_33, s89_35, s89_38, s89_39, s89_41, s89_44, s89_45, s89_48, s89_49, s89_50, s89_53, s89_56, s89_57, s89_60, s89_63, s89_65, s89_66, s89_69, s89_71, s89_74, s89_75, s89_76, s89_78, s89_80, s89_83, s89_84, s89_87, s89_88, s89_91, q_0, q_1, q_2, q_3, q_4, q_5, q_6, q_7, q_8, q_9, q_10, q_11, q_12, q_13, q_14, q_16, q_20, q_23, q_24, q_32, q_42, q_43, q_45, q_47, q_48, q_50, q_57, q_59, q_60, q_61, q_62, q_63, q_64, q_66, q_91, q_93, q_97, q_99, q_122, q_144, q_255, q_256, q_300, q_380, q_400, q_620, q_999, q_1000, q_4095, q_4096, q_9999, q_65536, q_99999, q_31, nI_add, pk_mul, nE, nL, nT, nM31, nShl, ib_nI, nI_clamp, bI_n0, bI_n1, bI_nar, uI_r, uI_l, uL_r, uL_i, uL_p, uA_r, uA_l, bV_some, bU_some, nar_n0, nar_n1, and_self, and_true, true_and, and_false, false_and, if_true, if_false, eq_self, Bool.false_eq_true, Bool.true_eq_false, not_true_eq_false, not_false_eq_true, ↓reduceIte, nlT, nlF, ntT, ntF, neT, neF, ieT, ieF, decide_true, decide_false, Bool.not_true, Bool.not_false, Bool.and_true, Bool.true_and, Bool.and_false, Bool.false_and, Bool.or_true, Bool.true_or, Bool.or_false, Bool.false_or, hodd, g3, c3, a1, d1, x_held, e1, c2, k1']
        obtain ⟨f1, f2, f3, f4⟩ := fin S2 S4 d2 ((fu S2).tr k2.t4)
        exact ⟨_, rfl, f1, k3, f2, f3, f4⟩
      · simp (disch := omega) only [s89_0, s89_1, s89_2, s89_4, s89_7, s89_9, s89_11, s89_14, s89_15, s89_18, s89_20, s89_21, s89_22, s89_24, s89_25, s89_26, s89_29, s89_30, s89_31, s89_32, s89_33, s89_35, s89_38, s89_39, s89_41, s89_44, s89_45, s89_48, s89_49, s89_50, s89_53, s89_56, s89_57, s89_60, s89_63, s89_65, s89_66, s89_69, s89_71, s89_74, s89_75, s89_76, s89_78, s89_80, s89_83, s89_84, s89_87, s89_88, s89_91, q_0, q_1, q_2, q_3, q_4, q_5, q_6, q_7, q_8, q_9, q_10, q_11, q_12, q_13, q_14, q_16, q_20, q_23, q_24, q_32, q_42, q_43, q_45, q_47, q_48, q_50, q_57, q_59, q_60, q_61, q_62, q_63, q_64, q_66, q_91, q_93, q_97, q_99, q_122, q_144, q_255, q_256, q_300, q_380, q_400, q_620, q_999, q_1000, q_4095, q_4096, q_9999, q_65536, q_99999, q_31, nI_add, pk_mul, nE, nL, nT, nM31, nShl, ib_nI, nI_clamp, bI_n0, bI_n1, bI_nar, uI_r, uI_l, uL_r, uL_i, uL_p, uA_r, uA_l, bV_some, bU_some, nar_n0, nar_n1, and_self, and_true, true_and, and_false, false_and, if_true, if_false, eq_self, Bool.false_eq_true, Bool.true_eq_false, not_true_eq_false, not_false_eq_true, ↓reduceIte, nlT, nlF, ntT, ntF, neT, neF, ieT, ieF, decide_true, decide_false, Bool.not_true, Bool.not_false, Bool.and_true, Bool.true_and, Bool.and_false, Bool.false_and, Bool.or_true, Bool.true_or, Bool.or_false, Bool.false_or, hodd, g3, c3, a1, d1, x_held, e1, c2]
        obtain ⟨f1, f2, f3, f4⟩ := fin S2 _ d2 (fu S2)
        exact ⟨_, rfl, f1, h3, f2, f3, f4⟩
theorem w64d {x p : Nat} (h1 : x < 2 ^ 31) (h : p < 2 ^ 31) : ((nI x).toInt64 < (nI p).toInt64) = (x < p) := by rw [wd_lt, nT h1 h]
theorem m_passes {S : Sto} {A : Tn} {r : Nat} {L : Lw} {a b : Nat} (h : RepM S A) (hw : WF A) (hr : r < 6) (hL : RepLM S r L) (hl : WFL L) (ha : a < 12) (hb : b < 12) (hne : a ≠ b) : ∃ S', call 257 0 [vR 50 0, vI (nI r), vI (nI a), vI (nI b)] S = some (none, S') ∧ Fr (pL [51, 56, 76, 77]) S S' ∧ RepM S' (mt A L a b) := by
  have hsh : shN A a b ≤ A 0 1 := ct_le _ _
  have hT := hw.th
  have hodd := m_areAtOdds h hw ha hb
  have g3 : call 156 0 [vR 50 0, vI (nI a), vI (nI b)] S = some (some (vI (nI (shN A a b))), S) := m_shared h hw (by omega) (by omega)
  show ∃ S', run 257 0 0 [vR 50 0, vI (nI r), vI (nI a), vI (nI b), vU, vU, vU] [] S = _ ∧ _
  by_cases c0 : A 5 (12 * a + b) ≠ 1 ∧ shN A a b = 0
  · have c0' : (A 5 (12 * a + b) == 1) = false := by simp [c0.1]
    rw [c0'] at hodd
    unfold mt
    rw [if_pos c0]
    simp (disch := omega) only [s257_0, s257_1, s257_2, s257_3, s257_6, s257_8, s257_10, s257_13, s257_14, s257_15, s257_16, s257_19, s257_22, s257_23, s257_24, s257_25, s257_26, s257_29, s257_30, s257_31, s257_33, s257_36, s257_37, s257_40, s257_41, s257_42, s257_45, s257_46, s257_49, s257_52, s257_54, s257_55, s257_58, s257_59, s257_61, s257_62, s257_65, s257_66, s257_67, s257_68, s257_70, s257_73, s257_74, s257_77, s257_78, s257_81, q_0, q_1, q_2, q_3, q_4, q_5, q_6, q_7, q_8, q_9, q_10, q_11, q_12, q_13, q_14, q_16, q_20, q_23, q_24, q_32, q_42, q_43, q_45, q_47, q_48, q_50, q_57, q_59, q_60, q_61, q_62, q_63, q_64, q_66, q_91, q_93, q_97, q_99, q_122, q_144, q_255, q_256, q_300, q_380, q_400, q_620, q_999, q_1000, q_4095, q_4096, q_9999, q_65536, q_99999, q_31, nI_add, pk_mul, nE, nL, nT, nM31, nShl, ib_nI, nI_clamp, bI_n0, bI_n1, bI_nar, uI_r, uI_l, uL_r, uL_i, uL_p, uA_r, uA_l, bV_some, bU_some, nar_n0, nar_n1, and_self, and_true, true_and, and_false, false_and, if_true, if_false, eq_self, Bool.false_eq_true, Bool.true_eq_false, not_true_eq_false, not_false_eq_true, ↓reduceIte, nlT, nlF, ntT, ntF, neT, neF, ieT, ieF, decide_true, decide_false, Bool.not_true, Bool.not_false, Bool.and_true, Bool.true_and, Bool.and_false, Bool.false_and, Bool.or_true, Bool.true_or, Bool.or_false, Bool.false_or, hodd, g3]
    exact ⟨_, rfl, Fr.rfl', h⟩
  · obtain ⟨S1, a1, a2, a3⟩ := m_asksTwo h hw ha hb
    have h1 := h.pl a2 (by decide)
    have gb := fun S v => m_between S v (lo := 0) (hi := 1000) (a := 0) (b := 1000) (by decide) (by decide) (by decide) (by decide)
    by_cases c1 : A 5 (12 * a + b) = 1
    · have c1' : (A 5 (12 * a + b) == 1) = true := by simp [c1]
      rw [c1'] at hodd
      obtain ⟨S2, d1, d2⟩ := m_sumOf (S := S1) (s := 4) (d := 0) hr a3 (hL.pl a2 (by decide)) hl (by decide)
      have h2 := h1.pl d2 (by decide)
      have e1 := m_draws h2 hw
      have h3 := h2.set (f := 0) (i := 5) (nxD (A 0 5)) rfl (x := nI (nxD (A 0 5))) rfl
      have fr3 : Fr (pL [51, 56, 76, 77]) S (uI S2 51 0 5 (nI (nxD (A 0 5)))) := ((a2.pl (by simp)).tr (d2.pl (by simp))).uI rfl
      have hb2 := hd_le (v := sumL L (W3 A a b) 4 0) (lo := 0) (hi := 1000) (by decide)
      have hdv : dvD (A 0 5) < 1000 := Nat.mod_lt _ (by decide)
      unfold mt mtV
      rw [if_neg c0]
      simp only [if_pos c1, decide_eq_true_eq]
      by_cases c2 : dvD (A 0 5) < hd (sumL L (W3 A a b) 4 0) 0 1000
      · obtain ⟨S4, k1, k2, k3⟩ := m_sets h3 (a := a) (b := b) (v := 0) ha hb
        simp (disch := omega) only [s257_0, s257_1, s257_2, s257_3, s257_6, s257_8, s257_10, s257_13, s257_14, s257_15, s257_16, s257_19, s257_22, s257_23, s257_24, s257_25, s257_26, s257_29, s257_30, s257_31, s257_33, s257_36, s257_37, s257_40, s257_41, s257_42, s257_45, s257_46, s257_49, s257_52, s257_54, s257_55, s257_58, s257_59, s257_61, s257_62, s257_65, s257_66, s257_67, s257_68, s257_70, s257_73, s257_74, s257_77, s257_78, s257_81, q_0, q_1, q_2, q_3, q_4, q_5, q_6, q_7, q_8, q_9, q_10, q_11, q_12, q_13, q_14, q_16, q_20, q_23, q_24, q_32, q_42, q_43, q_45, q_47, q_48, q_50, q_57, q_59, q_60, q_61, q_62, q_63, q_64, q_66, q_91, q_93, q_97, q_99, q_122, q_144, q_255, q_256, q_300, q_380, q_400, q_620, q_999, q_1000, q_4095, q_4096, q_9999, q_65536, q_99999, q_31, nI_add, pk_mul, nE, nL, nT, nM31, nShl, ib_nI, nI_clamp, bI_n0, bI_n1, bI_nar, uI_r, uI_l, uL_r, uL_i, uL_p, uA_r, uA_l, bV_some, bU_some, nar_n0, nar_n1, and_self, and_true, true_and, and_false, false_and, if_true, if_false, eq_self, Bool.false_eq_true, Bool.true_eq_false, not_true_eq_false, not_false_eq_true, ↓reduceIte, nlT, nlF, ntT, ntF, neT, neF, ieT, ieF, decide_true, decide_false, Bool.not_true, Bool.not_false, Bool.and_true, Bool.true_and, Bool.and_false, Bool.false_and, Bool.or_true, Bool.true_or, Bool.or_false, Bool.false_or, hodd, a1, d1, gb, e1, lc_gen, w64d, c2, k1]
        exact ⟨_, rfl, fr3.tr (k2.pl (by simp)), k3⟩
      · simp (disch := omega) only [s257_0, s257_1, s257_2, s257_3, s257_6, s257_8, s257_10, s257_13, s257_14, s257_15, s257_16, s257_19, s257_22, s257_23, s257_24, s257_25, s257_26, s257_29, s257_30, s257_31, s257_33, s257_36, s257_37, s257_40, s257_41, s257_42, s257_45, s257_46, s257_49, s257_52, s257_54, s257_55, s257_58, s257_59, s257_61, s257_62, s257_65, s257_66, s257_67, s257_68, s257_70, s257_73, s257_74, s257_77, s257_78, s257_81, q_0, q_1, q_2, q_3, q_4, q_5, q_6, q_7, q_8, q_9, q_10, q_11, q_12, q_13, q_14, q_16, q_20, q_23, q_24, q_32, q_42, q_43, q_45, q_47, q_48, q_50, q_57, q_59, q_60, q_61, q_62, q_63, q_64, q_66, q_91, q_93, q_97, q_99, q_122, q_144, q_255, q_256, q_300, q_380, q_400, q_620, q_999, q_1000, q_4095, q_4096, q_9999, q_65536, q_99999, q_31, nI_add, pk_mul, nE, nL, nT, nM31, nShl, ib_nI, nI_clamp, bI_n0, bI_n1, bI_nar, uI_r, uI_l, uL_r, uL_i, uL_p, uA_r, uA_l, bV_some, bU_some, nar_n0, nar_n1, and_self, and_true, true_and, and_false, false_and, if_true, if_false, eq_self, Bool.false_eq_true, Bool.true_eq_false, not_true_eq_false, not_false_eq_true, ↓reduceIte, nlT, nlF, ntT, ntF, neT, neF, ieT, ieF, decide_true, decide_false, Bool.not_true, Bool.not_false, Bool.and_true, Bool.true_and, Bool.and_false, Bool.false_and, Bool.or_true, Bool.true_or, Bool.or_false, Bool.false_or, hodd, a1, d1, gb, e1, lc_gen, w64d, c2]
        exact ⟨_, rfl, fr3, h3⟩
    · have c1' : (A 5 (12 * a + b) == 1) = false := by simp [c1]
      rw [c1'] at hodd
      have c3 : shN A a b ≠ 0 := fun q => c0 ⟨c1, q⟩
      obtain ⟨S2, d1, d2⟩ := m_sumOf (S := S1) (s := 3) (d := 0) hr a3 (hL.pl a2 (by decide)) hl (by decide)
      have h2 := h1.pl d2 (by decide)
      have e1 := m_draws h2 hw
      have h3 := h2.set (f := 0) (i := 5) (nxD (A 0 5)) rfl (x := nI (nxD (A 0 5))) rfl
      have fr3 : Fr (pL [51, 56, 76, 77]) S (uI S2 51 0 5 (nI (nxD (A 0 5)))) := ((a2.pl (by simp)).tr (d2.pl (by simp))).uI rfl
      have hb2 := hd_le (v := sumL L (W3 A a b) 3 0) (lo := 0) (hi := 1000) (by decide)
      have hdv : dvD (A 0 5) < 1000 := Nat.mod_lt _ (by decide)
      unfold mt mtV
      rw [if_neg c0]
      simp only [if_neg c1, decide_eq_true_eq]
      by_cases c2 : dvD (A 0 5) < hd (sumL L (W3 A a b) 3 0) 0 1000
      · obtain ⟨S4, k1, k2, k3⟩ := m_sets h3 (a := a) (b := b) (v := 1) ha hb
        simp (disch := omega) only [s257_0, s257_1, s257_2, s257_3, s257_6, s257_8, s257_10, s257_13, s257_14, s257_15, s257_16, s257_19, s257_22, s257_23, s257_24, s257_25, s257_26, s257_29, s257_30, s257_31, s257_33, s257_36, s257_37, s257_40, s257_41, s257_42, s257_45, s257_46, s257_49, s257_52, s257_54, s257_55, s257_58, s257_59, s257_61, s257_62, s257_65, s257_66, s257_67, s257_68, s257_70, s257_73, s257_74, s257_77, s257_78, s257_81, q_0, q_1, q_2, q_3, q_4, q_5, q_6, q_7, q_8, q_9, q_10, q_11, q_12, q_13, q_14, q_16, q_20, q_23, q_24, q_32, q_42, q_43, q_45, q_47, q_48, q_50, q_57, q_59, q_60, q_61, q_62, q_63, q_64, q_66, q_91, q_93, q_97, q_99, q_122, q_144, q_255, q_256, q_300, q_380, q_400, q_620, q_999, q_1000, q_4095, q_4096, q_9999, q_65536, q_99999, q_31, nI_add, pk_mul, nE, nL, nT, nM31, nShl, ib_nI, nI_clamp, bI_n0, bI_n1, bI_nar, uI_r, uI_l, uL_r, uL_i, uL_p, uA_r, uA_l, bV_some, bU_some, nar_n0, nar_n1, and_self, and_true, true_and, and_false, false_and, if_true, if_false, eq_self, Bool.false_eq_true, Bool.true_eq_false, not_true_eq_false, not_false_eq_true, ↓reduceIte, nlT, nlF, ntT, ntF, neT, neF, ieT, ieF, decide_true, decide_false, Bool.not_true, Bool.not_false, Bool.and_true, Bool.true_and, Bool.and_false, Bool.false_and, Bool.or_true, Bool.true_or, Bool.or_false, Bool.false_or, hodd, g3, c3, a1, d1, gb, e1, lc_gen, w64d, c2, k1]
        exact ⟨_, rfl, fr3.tr (k2.pl (by simp)), k3⟩
      · simp (disch := omega) only [s257_0, s257_1, s257_2, s257_3, s257_6, s257_8, s257_10, s257_13, s257_14, s257_15, s257_16, s257_19, s257_22, s257_23, s257_24, s257_25, s257_26, s257_29, s257_30, s257_31, s257_33, s257_36, s257_37, s257_40, s257_41, s257_42, s257_45, s257_46, s257_49, s257_52, s257_54, s257_55, s257_58, s257_59, s257_61, s257_62, s257_65, s257_66, s257_67, s257_68, s257_70, s257_73, s257_74, s257_77, s257_78, s257_81, q_0, q_1, q_2, q_3, q_4, q_5, q_6, q_7, q_8, q_9, q_10, q_11, q_12, q_13, q_14, q_16, q_20, q_23, q_24, q_32, q_42, q_43, q_45, q_47, q_48, q_50, q_57, q_59, q_60, q_61, q_62, q_63, q_64, q_66, q_91, q_93, q_97, q_99, q_122, q_144, q_255, q_256, q_300, q_380, q_400, q_620, q_999, q_1000, q_4095, q_4096, q_9999, q_65536, q_99999, q_31, nI_add, pk_mul, nE, nL, nT, nM31, nShl, ib_nI, nI_clamp, bI_n0, bI_n1, bI_nar, uI_r, uI_l, uL_r, uL_i, uL_p, uA_r, uA_l, bV_some, bU_some, nar_n0, nar_n1, and_self, and_true, true_and, and_false, false_and, if_true, if_false, eq_self, Bool.false_eq_true, Bool.true_eq_false, not_true_eq_false, not_false_eq_true, ↓reduceIte, nlT, nlF, ntT, ntF, neT, neF, ieT, ieF, decide_true, decide_false, Bool.not_true, Bool.not_false, Bool.and_true, Bool.true_and, Bool.and_false, Bool.false_and, Bool.or_true, Bool.true_or, Bool.or_false, Bool.false_or, hodd, g3, c3, a1, d1, gb, e1, lc_gen, w64d, c2]
        exact ⟨_, rfl, fr3, h3⟩
