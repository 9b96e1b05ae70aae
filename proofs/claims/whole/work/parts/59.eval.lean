/-! laws reckoned -/
def isBn (k : Nat) : Prop := k = 2 ∨ k = 3 ∨ k = 4 ∨ k = 5 ∨ k = 6 ∨ k = 7 ∨ k = 8 ∨ k = 10 ∨ k = 11 ∨ k = 13 ∨ k = 14
def bin (k : Nat) (a b : Int64) : Int64 := match k with
  | 2 => a + b
  | 3 => a - b
  | 4 => if a < b then 1 else 0
  | 5 => if b < a then 0 else 1
  | 6 => if a = b then 1 else 0
  | 7 => if a < b then 0 else 1
  | 8 => if b < a then 1 else 0
  | 10 => a &&& b
  | 13 => a * b
  | 14 => if b = 0 then 0 else a / b
  | _ => a ||| b
def evO (W : Nat → Int64) (k n : Nat) (st : List Int64) : List Int64 := match k, st with
  | 0, s => (nI n).toInt64 :: s
  | 1, s => W n :: s
  | 9, a :: s => (1 - a) :: s
  | k, b :: a :: s => bin k a b :: s
  | _, s => s
def evR (L : Lw) (W : Nat → Int64) : Nat → Nat → List Int64 → List Int64
  | 0, _, st => st
  | m + 1, e, st => evR L W m (e + 1) (evO W (L 5 e) (L 6 e) st)
def tyV : List Bool → List Int64 → Prop
  | [], [] => True
  | t :: ts, v :: vs => (t = true → v = 0 ∨ v = 1) ∧ tyV ts vs
  | _, _ => False
theorem tyV_len : ∀ {ts : List Bool} {vs : List Int64}, tyV ts vs → ts.length = vs.length
  | [], [], _ => rfl
  | _ :: _, _ :: _, h => by
    have := tyV_len h.2
    simp [this]
  | [], _ :: _, h => h.elim
  | _ :: _, [], h => h.elim
theorem tyO_inv {k n : Nat} {ts ts' : List Bool} (h : tyO k n ts = some ts') : (k = 0 ∧ n ≤ 99999 ∧ ts' = false :: ts) ∨ (k = 1 ∧ n < 11 ∧ ts' = false :: ts) ∨ (k = 9 ∧ ∃ s, ts = true :: s ∧ ts' = true :: s) ∨ (isBn k ∧ ∃ x y s, ts = x :: x :: s ∧ ts' = y :: s ∧ (y = true → (x = true ∧ (k = 10 ∨ k = 11)) ∨ (k = 4 ∨ k = 5 ∨ k = 6 ∨ k = 7 ∨ k = 8))) := by
  unfold tyO at h
  split at h
  · split at h
    · cases h; exact Or.inl ⟨rfl, by assumption, rfl⟩
    · cases h
  · split at h
    · cases h; exact Or.inr (Or.inl ⟨rfl, by assumption, rfl⟩)
    · cases h
  · cases h; exact Or.inr (Or.inr (Or.inl ⟨rfl, _, rfl, rfl⟩))
  all_goals first
    | (cases h; refine Or.inr (Or.inr (Or.inr ⟨by simp [isBn], _, _, _, rfl, rfl, by simp⟩)))
    | cases h
theorem evO_bn {W : Nat → Int64} {k n : Nat} (h : isBn k) (a b : Int64) (s : List Int64) : evO W k n (b :: a :: s) = bin k a b :: s := by
  rcases h with rfl | rfl | rfl | rfl | rfl | rfl | rfl | rfl | rfl | rfl | rfl <;> rfl
theorem and01 {a b : Int64} (ha : a = 0 ∨ a = 1) (hb : b = 0 ∨ b = 1) : (a &&& b = 0 ∨ a &&& b = 1) ∧ (a ||| b = 0 ∨ a ||| b = 1) := by
  rcases ha with rfl | rfl <;> rcases hb with rfl | rfl <;> decide
theorem ty_step {W : Nat → Int64} {k n : Nat} {ts ts' : List Bool} {st : List Int64} (h : tyO k n ts = some ts') (hv : tyV ts st) : tyV ts' (evO W k n st) := by
  rcases tyO_inv h with ⟨rfl, h1, rfl⟩ | ⟨rfl, h1, rfl⟩ | ⟨rfl, s, rfl, rfl⟩ | ⟨hb, x, y, s, rfl, rfl, h2⟩
  · exact ⟨fun q => (by cases q), hv⟩
  · exact ⟨fun q => (by cases q), hv⟩
  · match st, hv with
    | a :: r, hv =>
      refine ⟨fun _ => ?_, hv.2⟩
      rcases hv.1 rfl with rfl | rfl <;> decide
  · match st, hv with
    | b :: a :: r, hv =>
      rw [evO_bn hb]
      refine ⟨fun q => ?_, hv.2.2⟩
      rcases h2 q with ⟨q1, q2⟩ | q2
      · have := and01 (hv.2.1 q1) (hv.1 q1)
        rcases q2 with rfl | rfl
        · exact this.1
        · exact this.2
      · rcases q2 with rfl | rfl | rfl | rfl | rfl <;> (simp only [bin]; split <;> simp)
theorem ty_run {L : Lw} {W : Nat → Int64} : ∀ {m e : Nat} {ts ts' : List Bool} {st : List Int64}, tyR L m e ts = some ts' → tyV ts st → tyV ts' (evR L W m e st)
  | 0, _, _, _, _, h, hv => by cases h; exact hv
  | m + 1, e, ts, ts', st, h, hv => by
    unfold tyR at h
    split at h
    · rename_i s hs
      split at h
      · exact ty_run (m := m) (e := e + 1) h (ty_step hs hv)
      · cases h
    · cases h
/-- what a piece of a law comes to -/
def pv (L : Lw) (W : Nat → Int64) (e m : Nat) : Int64 := (evR L W m e []).headD 0
theorem pv_01 {L : Lw} {W : Nat → Int64} {e m : Nat} (h : tyR L m e [] = some [true]) : pv L W e m = 0 ∨ pv L W e m = 1 := by
  have := ty_run (W := W) (st := []) h trivial
  unfold pv
  match q : evR L W m e [], this with
  | [v], this => exact this.1 rfl
/-- a stack in a row of longs -/
def stk (f : Nat → Int64) : List Int64 → Prop
  | [] => True
  | v :: vs => f vs.length = v ∧ stk f vs
theorem stk_u {f : Nat → Int64} {c : Nat} {x : Int64} : ∀ {vs : List Int64}, stk f vs → vs.length ≤ c → stk (fun i => if i = c then x else f i) vs
  | [], _, _ => trivial
  | v :: vs, h, hc => by
    have hc' : vs.length + 1 ≤ c := hc
    refine ⟨?_, stk_u h.2 (by omega)⟩
    show (if vs.length = c then x else f vs.length) = v
    rw [if_neg (by omega)]
    exact h.1
theorem uL_row (S : Sto) (t c : Nat) (x : Int64) : (uL S t 0 c x).2.1 t 0 = fun i => if i = c then x else S.2.1 t 0 i := by
  funext i
  rw [uL_r]
  simp
theorem uL_rowq (S : Sto) (t q c : Nat) (x : Int64) : (uL S t q c x).2.1 t q = fun i => if i = c then x else S.2.1 t q i := by
  funext i
  rw [uL_r]
  simp
theorem lc_ge (x y : Int64) : (0 ≤ lg_cmp x y) = ¬ (x < y) := by
  rw [← lc_lt]
  exact propext Int32.not_lt.symm
theorem lc_eqn (x y : Int64) : (lg_cmp x y = nI 0) = (x = y) := lc_eq x y
theorem lc_gtn (x y : Int64) : (nI 0 < lg_cmp x y) = (y < x) := lc_gt x y
theorem lc_ltn (x y : Int64) : (lg_cmp x y < nI 0) = (x < y) := lc_lt x y
theorem lc_len (x y : Int64) : (lg_cmp x y ≤ nI 0) = ¬ (y < x) := lc_le x y
theorem lc_gen (x y : Int64) : (nI 0 ≤ lg_cmp x y) = ¬ (x < y) := lc_ge x y
theorem ti16 : (-43 : Int32).toInt = -43 ∧ (-45 : Int32).toInt = -45 ∧ (-60 : Int32).toInt = -60 ∧ (-200 : Int32).toInt = -200 ∧ (-61 : Int32).toInt = -61 ∧ (-201 : Int32).toInt = -201 ∧ (-62 : Int32).toInt = -62 ∧ (-203 : Int32).toInt = -203 ∧ (-204 : Int32).toInt = -204 ∧ (-42 : Int32).toInt = -42 ∧ (-47 : Int32).toInt = -47 := by decide
theorem x_apply (S : Sto) {k n : Nat} (h : isBn k) (a b : Int64) : call 16 0 [vI (enc k n), vL a, vL b] S = some (some (vL (bin k a b)), S) := by
  obtain ⟨t1, t2, t3, t4, t5, t6, t7, t8, t9, t10, t11⟩ := ti16
  show run 16 0 0 [vI (enc k n), vL a, vU, vL b, vU] [] S = _
  rcases h with rfl | rfl | rfl | rfl | rfl | rfl | rfl | rfl | rfl | rfl | rfl <;> simp (disch := omega) only [enc, bin, s16_0, s16_1, s16_100, s16_101, s16_102, s16_103, s16_104, s16_105, s16_106, s16_107, s16_108, s16_109, s16_110, s16_111, s16_112, s16_113, s16_114, s16_115, s16_118, s16_119, s16_122, s16_123, s16_124, s16_125, s16_126, s16_127, s16_128, s16_129, s16_132, s16_133, s16_136, s16_137, s16_138, s16_139, s16_140, s16_141, s16_144, s16_145, s16_148, s16_149, s16_150, s16_151, s16_152, s16_153, s16_156, s16_157, s16_160, s16_161, s16_162, s16_163, s16_164, s16_165, s16_168, s16_169, s16_172, s16_173, s16_174, s16_175, s16_176, s16_177, s16_180, s16_181, s16_184, s16_185, s16_186, s16_187, s16_188, s16_189, s16_190, s16_191, s16_192, s16_193, s16_194, s16_195, t1, t2, t3, t4, t5, t6, t7, t8, t9, t10, t11, ↓reduceIte, ieT, ieF, lc_eq, lc_gt, lc_lt, lc_le, lc_ge] <;> first | rfl | (split <;> simp_all)
theorem m_truth (S : Sto) (z : Int32) : call 199 0 [vI z] S = some (some (vL (if z = 0 then 0 else 1)), S) := by
  show run 199 0 0 [vI z] [] S = _
  simp only [s199_0, s199_1, s199_4, s199_5, s199_8, s199_9]
  split <;> rfl
theorem m_both (S : Sto) {k : Nat} (h : isBn k) (a b : Int64) : call 198 0 [vI (nI k), vL a, vL b] S = some (some (vL (bin k a b)), S) := by
  have hk : (nI k).toInt = (k : Int) := nI_toInt (by unfold isBn at h; omega)
  show run 198 0 0 [vI (nI k), vL a, vU, vL b, vU] [] S = _
  rcases h with rfl | rfl | rfl | rfl | rfl | rfl | rfl | rfl | rfl | rfl | rfl <;> simp (disch := omega) only [bin, s198_0, s198_1, s198_68, s198_69, s198_70, s198_71, s198_72, s198_73, s198_74, s198_75, s198_76, s198_77, s198_78, s198_79, s198_80, s198_81, s198_82, s198_83, s198_86, s198_87, s198_90, s198_91, s198_92, s198_93, s198_94, s198_95, s198_96, s198_97, s198_100, s198_101, s198_104, s198_105, s198_108, s198_109, s198_110, s198_111, s198_112, s198_115, s198_116, s198_119, s198_120, s198_123, s198_124, s198_125, s198_126, s198_127, s198_130, s198_131, s198_134, s198_135, s198_138, s198_139, s198_140, s198_141, s198_142, s198_145, s198_146, s198_149, s198_150, s198_153, s198_154, s198_155, s198_156, s198_157, s198_160, s198_161, s198_164, s198_165, s198_168, s198_169, s198_170, s198_171, s198_172, s198_173, s198_174, s198_175, s198_176, hk, ↓reduceIte, ieT, ieF, lc_eq, lc_gt, lc_lt, lc_le, lc_ge, m_truth, bV_some] <;> first | rfl | (split <;> simp_all)
theorem enc_bn {k n : Nat} (h : isBn k) : enc k n < -nI 11 ∧ enc k n ≠ -202 := by
  rcases h with rfl | rfl | rfl | rfl | rfl | rfl | rfl | rfl | rfl | rfl | rfl <;> (simp only [enc]; decide)
theorem enc_w : ∀ n, n < 11 → ¬ enc 1 n < -nI 11 ∧ enc 1 n < nI 0 ∧ -nI 1 - enc 1 n = nI n := by decide
theorem enc_n {n : Nat} (h : n ≤ 99999) : ¬ enc 0 n < -nI 11 := by
  show ¬ nI n < -nI 11
  rw [Int32.lt_iff_toInt_lt, nI_toInt (by omega)]
  have : (-nI 11 : Int32).toInt = -11 := by decide
  rw [this]
  omega
theorem nI_m1 {a : Nat} (h : 0 < a) : nI a + -nI 1 = nI (a - 1) := by
  rw [← pk_sub h, Int32.sub_eq_add_neg]
theorem nSub {a b : Nat} (h : b ≤ a) : nI a - nI b = nI (a - b) := pk_sub h
section EV
variable {L : Lw} {W : Nat → Int64} {r w : Nat}
theorem x_rk1 {S : Sto} {i to k n : Nat} {fr : Int32} {a6 : av} {ts ts' : List Bool} {st : List Int64} (hwk : (knd w).1 = 2) (hwn : (knd w).2.1 = 11) (hwb : Nat.beq w 103 = false) (hw23 : w ≠ 23) (hW : ∀ c, c < 11 → S.2.1 w 0 c = W c) (hc : S.1 18 r i = enc k n) (hi : i < to) (hto : to ≤ 300) (h : tyO k n ts = some ts') (hv : tyV ts st) (hl : ts'.length ≤ 60) (hl0 : ts.length ≤ 60) (hs : stk (S.2.1 23 r) st) : ∃ S', run 15 0 10 [vR 17 r, vI fr, vI (nI to), vR w 0, vI (nI st.length), vI (nI i), a6] [] S = run 15 0 10 [vR 17 r, vI fr, vI (nI to), vR w 0, vI (nI (evO W k n st).length), vI (nI (i + 1)), vI (enc k n)] [] S' ∧ Fr (pL [23]) S S' ∧ stk (S'.2.1 23 r) (evO W k n st) := by
  have hlen := tyV_len hv
  rcases tyO_inv h with ⟨rfl, h1, rfl⟩ | ⟨rfl, h1, rfl⟩ | ⟨rfl, s, rfl, rfl⟩ | ⟨hb, x, y, s, rfl, rfl, h2⟩
  · have e1 := enc_n h1
    have e2 : ¬ enc 0 n < nI 0 := by show ¬ nI n < nI 0; rw [nT (by omega) (by decide)]; omega
    rw [s15_10]
    simp (disch := omega) only [s15_0, s15_1, s15_3, s15_4, s15_5, s15_8, s15_12, s15_13, s15_16, s15_18, s15_19, s15_22, s15_23, s15_26, s15_27, s15_30, s15_32, s15_33, s15_35, s15_37, s15_39, s15_42, s15_44, s15_45, s15_48, s15_49, s15_52, s15_53, s15_56, s15_58, s15_61, s15_63, s15_66, s15_68, s15_69, s15_72, s15_73, s15_74, s15_76, s15_77, s15_78, s15_79, s15_82, s15_84, s15_87, s15_90, s15_92, s15_93, s15_96, s15_97, s15_100, s15_102, s15_103, s15_104, s15_105, s15_106, s15_109, s15_111, s15_112, s15_113, s15_114, s15_115, s15_116, s15_119, s15_121, s15_122, s15_125, s15_128, s15_129, s15_132, s15_134, s15_135, s15_136, s15_138, s15_139, s15_142, s15_144, s15_145, s15_146, s15_147, s15_148, s15_151, s15_153, s15_154, s15_157, s15_158, s15_161, s15_164, s15_166, s15_167, s15_170, s15_171, s15_174, s15_176, s15_177, s15_178, s15_179, s15_182, s15_183, q_0, q_1, q_2, q_3, q_4, q_5, q_6, q_7, q_8, q_9, q_10, q_11, q_12, q_13, q_14, q_16, q_20, q_23, q_24, q_32, q_42, q_43, q_45, q_47, q_48, q_50, q_57, q_59, q_60, q_61, q_62, q_63, q_64, q_66, q_91, q_93, q_97, q_99, q_122, q_144, q_255, q_256, q_300, q_380, q_400, q_620, q_999, q_1000, q_4095, q_4096, q_9999, q_65536, q_99999, q_31, nI_add, pk_mul, nE, nL, nT, nM31, nShl, ib_nI, nI_clamp, bI_n0, bI_n1, bI_nar, uI_r, uI_l, uL_r, uL_i, uL_p, uA_r, uA_l, bV_some, bU_some, nar_n0, nar_n1, and_self, and_true, true_and, and_false, false_and, if_true, if_false, eq_self, Bool.false_eq_true, Bool.true_eq_false, not_true_eq_false, not_false_eq_true, ↓reduceIte, nlT, nlF, ntT, ntF, neT, neF, ieT, ieF, decide_true, decide_false, Bool.not_true, Bool.not_false, Bool.and_true, Bool.true_and, Bool.and_false, Bool.false_and, Bool.or_true, Bool.true_or, Bool.or_false, Bool.false_or, hc, e1, e2]
    refine ⟨_, rfl, Fr.rfl'.uL rfl, ?_⟩
    rw [uL_rowq]
    exact ⟨by show (if st.length = st.length then _ else _) = _; rw [if_pos rfl]; rfl, stk_u hs (Nat.le_refl _)⟩
  · obtain ⟨e1, e2, e3⟩ := enc_w n h1
    rw [s15_10]
    simp (disch := omega) only [s15_0, s15_1, s15_3, s15_4, s15_5, s15_8, s15_12, s15_13, s15_16, s15_18, s15_19, s15_22, s15_23, s15_26, s15_27, s15_30, s15_32, s15_33, s15_35, s15_37, s15_39, s15_42, s15_44, s15_45, s15_48, s15_49, s15_52, s15_53, s15_56, s15_58, s15_61, s15_63, s15_66, s15_68, s15_69, s15_72, s15_73, s15_74, s15_76, s15_77, s15_78, s15_79, s15_82, s15_84, s15_87, s15_90, s15_92, s15_93, s15_96, s15_97, s15_100, s15_102, s15_103, s15_104, s15_105, s15_106, s15_109, s15_111, s15_112, s15_113, s15_114, s15_115, s15_116, s15_119, s15_121, s15_122, s15_125, s15_128, s15_129, s15_132, s15_134, s15_135, s15_136, s15_138, s15_139, s15_142, s15_144, s15_145, s15_146, s15_147, s15_148, s15_151, s15_153, s15_154, s15_157, s15_158, s15_161, s15_164, s15_166, s15_167, s15_170, s15_171, s15_174, s15_176, s15_177, s15_178, s15_179, s15_182, s15_183, q_0, q_1, q_2, q_3, q_4, q_5, q_6, q_7, q_8, q_9, q_10, q_11, q_12, q_13, q_14, q_16, q_20, q_23, q_24, q_32, q_42, q_43, q_45, q_47, q_48, q_50, q_57, q_59, q_60, q_61, q_62, q_63, q_64, q_66, q_91, q_93, q_97, q_99, q_122, q_144, q_255, q_256, q_300, q_380, q_400, q_620, q_999, q_1000, q_4095, q_4096, q_9999, q_65536, q_99999, q_31, nI_add, pk_mul, nE, nL, nT, nM31, nShl, ib_nI, nI_clamp, bI_n0, bI_n1, bI_nar, uI_r, uI_l, uL_r, uL_i, uL_p, uA_r, uA_l, bV_some, bU_some, nar_n0, nar_n1, and_self, and_true, true_and, and_false, false_and, if_true, if_false, eq_self, Bool.false_eq_true, Bool.true_eq_false, not_true_eq_false, not_false_eq_true, ↓reduceIte, nlT, nlF, ntT, ntF, neT, neF, ieT, ieF, decide_true, decide_false, Bool.not_true, Bool.not_false, Bool.and_true, Bool.true_and, Bool.and_false, Bool.false_and, Bool.or_true, Bool.true_or, Bool.or_false, Bool.false_or, hc, e1, e2, e3, fun S => s15_72 w 0 S hwb, fun x S => s15_77 x w 0 S hwk, hwn, hW]
    refine ⟨_, rfl, Fr.rfl'.uL rfl, ?_⟩
    rw [uL_rowq]
    exact ⟨by show (if st.length = st.length then _ else _) = _; rw [if_pos rfl], stk_u hs (Nat.le_refl _)⟩
  · match st, hv, hs, hlen with
    | a :: q, hv, hs, hlen =>
      have hlen' : s.length = q.length := by simpa using hlen
      have hl0' : s.length + 1 ≤ 60 := hl0
      have e1 : enc 9 n < -nI 11 := by show (-202 : Int32) < -nI 11; decide
      have e2 : enc 9 n = -202 := rfl
      have e3 : (a :: q).length = q.length + 1 := rfl
      have e4 := hs.1
      rw [s15_10, e3]
      simp (disch := omega) only [s15_0, s15_1, s15_3, s15_4, s15_5, s15_8, s15_12, s15_13, s15_16, s15_18, s15_19, s15_22, s15_23, s15_26, s15_27, s15_30, s15_32, s15_33, s15_35, s15_37, s15_39, s15_42, s15_44, s15_45, s15_48, s15_49, s15_52, s15_53, s15_56, s15_58, s15_61, s15_63, s15_66, s15_68, s15_69, s15_72, s15_73, s15_74, s15_76, s15_77, s15_78, s15_79, s15_82, s15_84, s15_87, s15_90, s15_92, s15_93, s15_96, s15_97, s15_100, s15_102, s15_103, s15_104, s15_105, s15_106, s15_109, s15_111, s15_112, s15_113, s15_114, s15_115, s15_116, s15_119, s15_121, s15_122, s15_125, s15_128, s15_129, s15_132, s15_134, s15_135, s15_136, s15_138, s15_139, s15_142, s15_144, s15_145, s15_146, s15_147, s15_148, s15_151, s15_153, s15_154, s15_157, s15_158, s15_161, s15_164, s15_166, s15_167, s15_170, s15_171, s15_174, s15_176, s15_177, s15_178, s15_179, s15_182, s15_183, q_0, q_1, q_2, q_3, q_4, q_5, q_6, q_7, q_8, q_9, q_10, q_11, q_12, q_13, q_14, q_16, q_20, q_23, q_24, q_32, q_42, q_43, q_45, q_47, q_48, q_50, q_57, q_59, q_60, q_61, q_62, q_63, q_64, q_66, q_91, q_93, q_97, q_99, q_122, q_144, q_255, q_256, q_300, q_380, q_400, q_620, q_999, q_1000, q_4095, q_4096, q_9999, q_65536, q_99999, q_31, nI_add, pk_mul, nE, nL, nT, nM31, nShl, ib_nI, nI_clamp, bI_n0, bI_n1, bI_nar, uI_r, uI_l, uL_r, uL_i, uL_p, uA_r, uA_l, bV_some, bU_some, nar_n0, nar_n1, and_self, and_true, true_and, and_false, false_and, if_true, if_false, eq_self, Bool.false_eq_true, Bool.true_eq_false, not_true_eq_false, not_false_eq_true, ↓reduceIte, nlT, nlF, ntT, ntF, neT, neF, ieT, ieF, decide_true, decide_false, Bool.not_true, Bool.not_false, Bool.and_true, Bool.true_and, Bool.and_false, Bool.false_and, Bool.or_true, Bool.true_or, Bool.or_false, Bool.false_or, hc, e1, e2, nSub, Nat.add_sub_cancel, e4]
      refine ⟨_, rfl, Fr.rfl'.uL rfl, ?_⟩
      rw [uL_rowq]
      exact ⟨by show (if q.length = q.length then _ else _) = _; rw [if_pos rfl], stk_u hs.2 (Nat.le_refl _)⟩
  · match st, hv, hs, hlen with
    | b :: a :: q, hv, hs, hlen =>
      have hlen' : s.length = q.length := by simpa using hlen
      have hl0' : s.length + 1 + 1 ≤ 60 := hl0
      obtain ⟨e1, e2⟩ := enc_bn (n := n) hb
      have e3 : (b :: a :: q).length = q.length + 2 := rfl
      have e4 : S.2.1 23 r (q.length + 1) = b := hs.1
      have e5 : S.2.1 23 r q.length = a := hs.2.1
      have e6 : q.length + 2 - 1 = q.length + 1 := by omega
      have e7 : q.length + 1 - 1 = q.length := by omega
      rw [s15_10, e3, evO_bn hb]
      simp (disch := omega) only [s15_0, s15_1, s15_3, s15_4, s15_5, s15_8, s15_12, s15_13, s15_16, s15_18, s15_19, s15_22, s15_23, s15_26, s15_27, s15_30, s15_32, s15_33, s15_35, s15_37, s15_39, s15_42, s15_44, s15_45, s15_48, s15_49, s15_52, s15_53, s15_56, s15_58, s15_61, s15_63, s15_66, s15_68, s15_69, s15_72, s15_73, s15_74, s15_76, s15_77, s15_78, s15_79, s15_82, s15_84, s15_87, s15_90, s15_92, s15_93, s15_96, s15_97, s15_100, s15_102, s15_103, s15_104, s15_105, s15_106, s15_109, s15_111, s15_112, s15_113, s15_114, s15_115, s15_116, s15_119, s15_121, s15_122, s15_125, s15_128, s15_129, s15_132, s15_134, s15_135, s15_136, s15_138, s15_139, s15_142, s15_144, s15_145, s15_146, s15_147, s15_148, s15_151, s15_153, s15_154, s15_157, s15_158, s15_161, s15_164, s15_166, s15_167, s15_170, s15_171, s15_174, s15_176, s15_177, s15_178, s15_179, s15_182, s15_183, q_0, q_1, q_2, q_3, q_4, q_5, q_6, q_7, q_8, q_9, q_10, q_11, q_12, q_13, q_14, q_16, q_20, q_23, q_24, q_32, q_42, q_43, q_45, q_47, q_48, q_50, q_57, q_59, q_60, q_61, q_62, q_63, q_64, q_66, q_91, q_93, q_97, q_99, q_122, q_144, q_255, q_256, q_300, q_380, q_400, q_620, q_999, q_1000, q_4095, q_4096, q_9999, q_65536, q_99999, q_31, nI_add, pk_mul, nE, nL, nT, nM31, nShl, ib_nI, nI_clamp, bI_n0, bI_n1, bI_nar, uI_r, uI_l, uL_r, uL_i, uL_p, uA_r, uA_l, bV_some, bU_some, nar_n0, nar_n1, and_self, and_true, true_and, and_false, false_and, if_true, if_false, eq_self, Bool.false_eq_true, Bool.true_eq_false, not_true_eq_false, not_false_eq_true, ↓reduceIte, nlT, nlF, ntT, ntF, neT, neF, ieT, ieF, decide_true, decide_false, Bool.not_true, Bool.not_false, Bool.and_true, Bool.true_and, Bool.and_false, Bool.false_and, Bool.or_true, Bool.true_or, Bool.or_false, Bool.false_or, hc, e1, e2, nI_m1, nSub, e6, e7, e4, e5, fun S => x_apply S (n := n) hb]
      refine ⟨_, rfl, Fr.rfl'.uL rfl, ?_⟩
      rw [uL_rowq]
      exact ⟨by show (if q.length = q.length then _ else _) = _; rw [if_pos rfl], stk_u hs.2.2 (Nat.le_refl _)⟩
theorem tyR_s {m e : Nat} {ts tf : List Bool} (h : tyR L (m + 1) e ts = some tf) : ∃ s, tyO (L 5 e) (L 6 e) ts = some s ∧ s.length ≤ 60 ∧ tyR L m (e + 1) s = some tf := by
  unfold tyR at h
  split at h
  · rename_i s hs
    split at h
    · exact ⟨s, hs, by assumption, h⟩
    · cases h
  · cases h
theorem x_reckon {S : Sto} {e m : Nat} {ty : Bool} (hwk : (knd w).1 = 2) (hwn : (knd w).2.1 = 11) (hwb : Nat.beq w 103 = false) (hw23 : w ≠ 23) (hW : ∀ c, c < 11 → S.2.1 w 0 c = W c) (hc : ∀ i, i < e + m → S.1 18 r i = enc (L 5 i) (L 6 i)) (hto : e + m ≤ 300) (ht : tyR L m e [] = some [ty]) : ∃ S', call 15 0 [vR 17 r, vI (nI e), vI (nI (e + m)), vR w 0] S = some (some (vL (pv L W e m)), S') ∧ Fr (pL [23]) S S' := by
  show ∃ S', run 15 0 0 [vR 17 r, vI (nI e), vI (nI (e + m)), vR w 0, vU, vU, vU] [] S = _ ∧ _
  have e0 : (if 0 < e then nI e else nI 0) = nI e := by
    by_cases q : 0 < e
    · rw [if_pos q]
    · rw [if_neg q, show e = 0 by omega]
  simp (disch := omega) only [s15_0, s15_1, s15_3, s15_4, s15_5, s15_8, q_0, q_1, q_2, q_3, q_4, q_5, q_6, q_7, q_8, q_9, q_10, q_11, q_12, q_13, q_14, q_16, q_20, q_23, q_24, q_32, q_42, q_43, q_45, q_47, q_48, q_50, q_57, q_59, q_60, q_61, q_62, q_63, q_64, q_66, q_91, q_93, q_97, q_99, q_122, q_144, q_255, q_256, q_300, q_380, q_400, q_620, q_999, q_1000, q_4095, q_4096, q_9999, q_65536, q_99999, q_31, nI_add, pk_mul, nE, nL, nT, nM31, nShl, ib_nI, nI_clamp, bI_n0, bI_n1, bI_nar, uI_r, uI_l, uL_r, uL_i, uL_p, uA_r, uA_l, bV_some, bU_some, nar_n0, nar_n1, and_self, and_true, true_and, and_false, false_and, if_true, if_false, eq_self, Bool.false_eq_true, Bool.true_eq_false, not_true_eq_false, not_false_eq_true, ↓reduceIte, nlT, nlF, ntT, ntF, neT, neF, ieT, ieF, decide_true, decide_false, Bool.not_true, Bool.not_false, Bool.and_true, Bool.true_and, Bool.and_false, Bool.false_and, Bool.or_true, Bool.true_or, Bool.or_false, Bool.false_or]
  rw [e0]
  have key := upS (σ := (Sto × av) × List Int64 × List Bool) (I := fun j s => tyR L (m - j) (e + j) s.2.2 = some [ty] ∧ tyV s.2.2 s.2.1 ∧ s.2.2.length ≤ 60 ∧ evR L W (m - j) (e + j) s.2.1 = evR L W m e [] ∧ stk (s.1.1.2.1 23 r) s.2.1 ∧ Fr (pL [23]) S s.1.1) (F := fun j s => run 15 0 10 [vR 17 r, vI (nI e), vI (nI (e + m)), vR w 0, vI (nI s.2.1.length), vI (nI (e + j)), s.1.2] [] s.1.1) (Q := fun x => ∃ S', x = some (some (vL (pv L W e m)), S') ∧ Fr (pL [23]) S S') (N := m) ?_ ?_ 0 ((S, vU), [], []) (by omega) ⟨ht, trivial, by simp, rfl, trivial, Fr.rfl'⟩
  · exact key
  · intro j s hj hI
    obtain ⟨⟨S1, a6⟩, st, ts⟩ := s
    obtain ⟨i1, i2, i3, i4, i5, i6⟩ := hI
    simp only at i1 i2 i3 i4 i5 i6
    have em : m - j = (m - (j + 1)) + 1 := by omega
    rw [em] at i1 i4
    obtain ⟨ts', t1, t2, t3⟩ := tyR_s i1
    obtain ⟨S2, r1, r2, r3⟩ := x_rk1 (W := W) (r := r) (w := w) (S := S1) (i := e + j) (to := e + m) (fr := nI e) (a6 := a6) hwk hwn hwb hw23 (fun c hcc => by rw [i6.l (by simp [pL, hw23])]; exact hW c hcc) (by rw [i6.i rfl]; exact hc (e + j) (by omega)) (by omega) hto t1 i2 t2 i3 i5
    refine Or.inr ⟨((S2, vI (enc (L 5 (e + j)) (L 6 (e + j)))), evO W (L 5 (e + j)) (L 6 (e + j)) st, ts'), ⟨t3, ty_step t1 i2, t2, ?_, r3, i6.tr r2⟩, r1⟩
    exact i4
  · intro s hI
    obtain ⟨⟨S1, a6⟩, st, ts⟩ := s
    obtain ⟨i1, i2, i3, i4, i5, i6⟩ := hI
    simp only [Nat.sub_self] at i1 i2 i3 i4 i5 i6
    have e1 : ts = [ty] := Option.some.inj i1
    subst e1
    match st, i2, i4, i5 with
    | [v], i2, i4, i5 =>
      have ev : pv L W e m = v := by unfold pv; rw [← i4]; rfl
      have e2 : S1.2.1 23 r 0 = v := i5.1
      show ∃ S', run 15 0 10 [vR 17 r, vI (nI e), vI (nI (e + m)), vR w 0, vI (nI 1), vI (nI (e + m)), a6] [] S1 = _ ∧ _
      rw [s15_10]
      simp (disch := omega) only [s15_0, s15_1, s15_3, s15_4, s15_5, s15_8, s15_12, s15_13, s15_16, s15_18, s15_19, s15_22, s15_23, s15_26, s15_27, s15_30, s15_32, s15_33, s15_35, s15_37, s15_39, s15_42, s15_44, s15_45, s15_48, s15_49, s15_52, s15_53, s15_56, s15_58, s15_61, s15_63, s15_66, s15_68, s15_69, s15_72, s15_73, s15_74, s15_76, s15_77, s15_78, s15_79, s15_82, s15_84, s15_87, s15_90, s15_92, s15_93, s15_96, s15_97, s15_100, s15_102, s15_103, s15_104, s15_105, s15_106, s15_109, s15_111, s15_112, s15_113, s15_114, s15_115, s15_116, s15_119, s15_121, s15_122, s15_125, s15_128, s15_129, s15_132, s15_134, s15_135, s15_136, s15_138, s15_139, s15_142, s15_144, s15_145, s15_146, s15_147, s15_148, s15_151, s15_153, s15_154, s15_157, s15_158, s15_161, s15_164, s15_166, s15_167, s15_170, s15_171, s15_174, s15_176, s15_177, s15_178, s15_179, s15_182, s15_183, q_0, q_1, q_2, q_3, q_4, q_5, q_6, q_7, q_8, q_9, q_10, q_11, q_12, q_13, q_14, q_16, q_20, q_23, q_24, q_32, q_42, q_43, q_45, q_47, q_48, q_50, q_57, q_59, q_60, q_61, q_62, q_63, q_64, q_66, q_91, q_93, q_97, q_99, q_122, q_144, q_255, q_256, q_300, q_380, q_400, q_620, q_999, q_1000, q_4095, q_4096, q_9999, q_65536, q_99999, q_31, nI_add, pk_mul, nE, nL, nT, nM31, nShl, ib_nI, nI_clamp, bI_n0, bI_n1, bI_nar, uI_r, uI_l, uL_r, uL_i, uL_p, uA_r, uA_l, bV_some, bU_some, nar_n0, nar_n1, and_self, and_true, true_and, and_false, false_and, if_true, if_false, eq_self, Bool.false_eq_true, Bool.true_eq_false, not_true_eq_false, not_false_eq_true, ↓reduceIte, nlT, nlF, ntT, ntF, neT, neF, ieT, ieF, decide_true, decide_false, Bool.not_true, Bool.not_false, Bool.and_true, Bool.true_and, Bool.and_false, Bool.false_and, Bool.or_true, Bool.true_or, Bool.or_false, Bool.false_or, nSub, Nat.sub_self, e2, ev]
      exact ⟨_, rfl, i6⟩
/-- the sum that a law tells for a sort -/
def sumF (L : Lw) (W : Nat → Int64) (s : Nat) (d : Int64) : Nat → Nat → Int64
  | 0, _ => d
  | m + 1, c => if L 1 c = s ∧ (L 3 c = L 4 c ∨ pv L W (L 3 c) (L 4 c - L 3 c) = 1) then pv L W (L 2 c) (L 3 c - L 2 c) else sumF L W s d m (c + 1)
def sumL (L : Lw) (W : Nat → Int64) (s : Nat) (d : Int64) : Int64 := sumF L W s d (L 0 0) 0
theorem x_sumOf {S : Sto} {s : Nat} {d : Int64} (hd : (if s = 2 then 2 else 0) = d) (hwk : (knd w).1 = 2) (hwn : (knd w).2.1 = 11) (hwb : Nat.beq w 103 = false) (hw23 : w ≠ 23) (hW : ∀ c, c < 11 → S.2.1 w 0 c = W c) (hL : RepLC S r L) (hf : WFL L) (hs : s < 5) : ∃ S', call 14 0 [vR 17 r, vI (nI s), vR w 0] S = some (some (vL (sumL L W s d)), S') ∧ Fr (pL [23]) S S' := by
  obtain ⟨f1, f2, f3⟩ := hf
  show ∃ S', run 14 0 0 [vR 17 r, vI (nI s), vR w 0, vU] [] S = _ ∧ _
  simp (disch := omega) only [s14_0, s14_1, q_0, q_1, q_2, q_3, q_4, q_5, q_6, q_7, q_8, q_9, q_10, q_11, q_12, q_13, q_14, q_16, q_20, q_23, q_24, q_32, q_42, q_43, q_45, q_47, q_48, q_50, q_57, q_59, q_60, q_61, q_62, q_63, q_64, q_66, q_91, q_93, q_97, q_99, q_122, q_144, q_255, q_256, q_300, q_380, q_400, q_620, q_999, q_1000, q_4095, q_4096, q_9999, q_65536, q_99999, q_31, nI_add, pk_mul, nE, nL, nT, nM31, nShl, ib_nI, nI_clamp, bI_n0, bI_n1, bI_nar, uI_r, uI_l, uL_r, uL_i, uL_p, uA_r, uA_l, bV_some, bU_some, nar_n0, nar_n1, and_self, and_true, true_and, and_false, false_and, if_true, if_false, eq_self, Bool.false_eq_true, Bool.true_eq_false, not_true_eq_false, not_false_eq_true, ↓reduceIte, nlT, nlF, ntT, ntF, neT, neF, ieT, ieF, decide_true, decide_false, Bool.not_true, Bool.not_false, Bool.and_true, Bool.true_and, Bool.and_false, Bool.false_and, Bool.or_true, Bool.true_or, Bool.or_false, Bool.false_or]
  refine upS (σ := Sto) (I := fun c S1 => sumF L W s d (L 0 0 - c) c = sumL L W s d ∧ Fr (pL [23]) S S1) (F := fun c S1 => run 14 0 2 [vR 17 r, vI (nI s), vR w 0, vI (nI c)] [] S1) (Q := fun x => ∃ S', x = some (some (vL (sumL L W s d)), S') ∧ Fr (pL [23]) S S') (N := L 0 0) ?_ ?_ 0 S (by omega) ⟨rfl, Fr.rfl'⟩
  · intro c S1 hc hI
    obtain ⟨i1, i2⟩ := hI
    obtain ⟨g1, g2, g3, g4, g5, g6⟩ := f3 c hc
    have hL1 : RepLC S1 r L := hL.fr (fun t _ _ => (i2 t r (by simp only [pL]; simp; omega)).1)
    obtain ⟨l1, l2, l3⟩ := hL1
    obtain ⟨k1, k2, k3, k4⟩ := l2 c hc
    have hW1 : ∀ c, c < 11 → S1.2.1 w 0 c = W c := fun c hcc => by rw [i2.l (by simp [pL, hw23])]; exact hW c hcc
    have em : L 0 0 - c = (L 0 0 - (c + 1)) + 1 := by omega
    rw [em] at i1
    unfold sumF at i1
    show (∃ S', run 14 0 2 [vR 17 r, vI (nI s), vR w 0, vI (nI c)] [] S1 = _ ∧ _) ∨ ∃ s', _ ∧ run 14 0 2 [vR 17 r, vI (nI s), vR w 0, vI (nI c)] [] S1 = _
    by_cases e1 : L 1 c = s
    · by_cases e2 : L 3 c = L 4 c
      · rw [if_pos ⟨e1, Or.inl e2⟩] at i1
        obtain ⟨S2, r1, r2⟩ := x_reckon (W := W) (r := r) (w := w) (S := S1) (L := L) (e := L 2 c) (m := L 3 c - L 2 c) (ty := false) hwk hwn hwb hw23 hW1 (fun i hi => l3 i (by omega)) (by omega) g5
        rw [show L 2 c + (L 3 c - L 2 c) = L 3 c by omega] at r1
        refine Or.inl ?_
        rw [s14_2]
        simp (disch := omega) only [s14_0, s14_1, s14_3, s14_4, s14_7, s14_10, s14_11, s14_14, s14_15, s14_16, s14_17, s14_20, s14_21, s14_24, s14_25, s14_26, s14_27, s14_30, s14_31, s14_32, s14_35, s14_36, s14_37, s14_40, s14_41, s14_42, s14_43, s14_46, s14_47, s14_48, s14_49, s14_52, s14_53, s14_54, s14_57, s14_58, s14_59, s14_62, s14_63, s14_64, s14_65, s14_68, s14_69, s14_70, s14_71, s14_74, s14_75, s14_78, s14_81, s14_82, s14_83, s14_86, s14_89, s14_92, s14_93, q_0, q_1, q_2, q_3, q_4, q_5, q_6, q_7, q_8, q_9, q_10, q_11, q_12, q_13, q_14, q_16, q_20, q_23, q_24, q_32, q_42, q_43, q_45, q_47, q_48, q_50, q_57, q_59, q_60, q_61, q_62, q_63, q_64, q_66, q_91, q_93, q_97, q_99, q_122, q_144, q_255, q_256, q_300, q_380, q_400, q_620, q_999, q_1000, q_4095, q_4096, q_9999, q_65536, q_99999, q_31, nI_add, pk_mul, nE, nL, nT, nM31, nShl, ib_nI, nI_clamp, bI_n0, bI_n1, bI_nar, uI_r, uI_l, uL_r, uL_i, uL_p, uA_r, uA_l, bV_some, bU_some, nar_n0, nar_n1, and_self, and_true, true_and, and_false, false_and, if_true, if_false, eq_self, Bool.false_eq_true, Bool.true_eq_false, not_true_eq_false, not_false_eq_true, ↓reduceIte, nlT, nlF, ntT, ntF, neT, neF, ieT, ieF, decide_true, decide_false, Bool.not_true, Bool.not_false, Bool.and_true, Bool.true_and, Bool.and_false, Bool.false_and, Bool.or_true, Bool.true_or, Bool.or_false, Bool.false_or, l1, k1, k2, k3, k4, fun S => s14_70 w 0 S hwb, r1, i1]
        exact ⟨_, rfl, i2.tr r2⟩
      · have g7 := g6.resolve_left e2
        obtain ⟨S2, r1, r2⟩ := x_reckon (W := W) (r := r) (w := w) (S := S1) (L := L) (e := L 3 c) (m := L 4 c - L 3 c) (ty := true) hwk hwn hwb hw23 hW1 (fun i hi => l3 i (by omega)) (by omega) g7
        rw [show L 3 c + (L 4 c - L 3 c) = L 4 c by omega] at r1
        have hL2 : RepLC S2 r L := hL.fr (fun t _ _ => ((i2.tr r2) t r (by simp only [pL]; simp; omega)).1)
        obtain ⟨l1', l2', l3'⟩ := hL2
        obtain ⟨k1', k2', k3', k4'⟩ := l2' c hc
        have hW2 : ∀ c, c < 11 → S2.2.1 w 0 c = W c := fun c hcc => by rw [(i2.tr r2).l (by simp [pL, hw23])]; exact hW c hcc
        obtain ⟨S3, q1, q2⟩ := x_reckon (W := W) (r := r) (w := w) (S := S2) (L := L) (e := L 2 c) (m := L 3 c - L 2 c) (ty := false) hwk hwn hwb hw23 hW2 (fun i hi => l3' i (by omega)) (by omega) g5
        rw [show L 2 c + (L 3 c - L 2 c) = L 3 c by omega] at q1
        rcases pv_01 (W := W) g7 with z | z
        · rw [if_neg (fun q => q.2.elim e2 (fun q => by rw [z] at q; exact absurd q (by decide)))] at i1
          have z0 : ((0 : Int64) = 0) = True := eq_true rfl
          refine Or.inr ⟨S2, ⟨i1, i2.tr r2⟩, ?_⟩
          rw [s14_2]
          simp (disch := omega) only [s14_0, s14_1, s14_3, s14_4, s14_7, s14_10, s14_11, s14_14, s14_15, s14_16, s14_17, s14_20, s14_21, s14_24, s14_25, s14_26, s14_27, s14_30, s14_31, s14_32, s14_35, s14_36, s14_37, s14_40, s14_41, s14_42, s14_43, s14_46, s14_47, s14_48, s14_49, s14_52, s14_53, s14_54, s14_57, s14_58, s14_59, s14_62, s14_63, s14_64, s14_65, s14_68, s14_69, s14_70, s14_71, s14_74, s14_75, s14_78, s14_81, s14_82, s14_83, s14_86, s14_89, s14_92, s14_93, q_0, q_1, q_2, q_3, q_4, q_5, q_6, q_7, q_8, q_9, q_10, q_11, q_12, q_13, q_14, q_16, q_20, q_23, q_24, q_32, q_42, q_43, q_45, q_47, q_48, q_50, q_57, q_59, q_60, q_61, q_62, q_63, q_64, q_66, q_91, q_93, q_97, q_99, q_122, q_144, q_255, q_256, q_300, q_380, q_400, q_620, q_999, q_1000, q_4095, q_4096, q_9999, q_65536, q_99999, q_31, nI_add, pk_mul, nE, nL, nT, nM31, nShl, ib_nI, nI_clamp, bI_n0, bI_n1, bI_nar, uI_r, uI_l, uL_r, uL_i, uL_p, uA_r, uA_l, bV_some, bU_some, nar_n0, nar_n1, and_self, and_true, true_and, and_false, false_and, if_true, if_false, eq_self, Bool.false_eq_true, Bool.true_eq_false, not_true_eq_false, not_false_eq_true, ↓reduceIte, nlT, nlF, ntT, ntF, neT, neF, ieT, ieF, decide_true, decide_false, Bool.not_true, Bool.not_false, Bool.and_true, Bool.true_and, Bool.and_false, Bool.false_and, Bool.or_true, Bool.true_or, Bool.or_false, Bool.false_or, l1, k1, k2, k3, k4, fun S => s14_48 w 0 S hwb, r1, z, lc_eqn]
        · rw [if_pos ⟨e1, Or.inr z⟩] at i1
          have z0 : ((1 : Int64) = 0) = False := eq_false (by decide)
          refine Or.inl ?_
          rw [s14_2]
          simp (disch := omega) only [s14_0, s14_1, s14_3, s14_4, s14_7, s14_10, s14_11, s14_14, s14_15, s14_16, s14_17, s14_20, s14_21, s14_24, s14_25, s14_26, s14_27, s14_30, s14_31, s14_32, s14_35, s14_36, s14_37, s14_40, s14_41, s14_42, s14_43, s14_46, s14_47, s14_48, s14_49, s14_52, s14_53, s14_54, s14_57, s14_58, s14_59, s14_62, s14_63, s14_64, s14_65, s14_68, s14_69, s14_70, s14_71, s14_74, s14_75, s14_78, s14_81, s14_82, s14_83, s14_86, s14_89, s14_92, s14_93, q_0, q_1, q_2, q_3, q_4, q_5, q_6, q_7, q_8, q_9, q_10, q_11, q_12, q_13, q_14, q_16, q_20, q_23, q_24, q_32, q_42, q_43, q_45, q_47, q_48, q_50, q_57, q_59, q_60, q_61, q_62, q_63, q_64, q_66, q_91, q_93, q_97, q_99, q_122, q_144, q_255, q_256, q_300, q_380, q_400, q_620, q_999, q_1000, q_4095, q_4096, q_9999, q_65536, q_99999, q_31, nI_add, pk_mul, nE, nL, nT, nM31, nShl, ib_nI, nI_clamp, bI_n0, bI_n1, bI_nar, uI_r, uI_l, uL_r, uL_i, uL_p, uA_r, uA_l, bV_some, bU_some, nar_n0, nar_n1, and_self, and_true, true_and, and_false, false_and, if_true, if_false, eq_self, Bool.false_eq_true, Bool.true_eq_false, not_true_eq_false, not_false_eq_true, ↓reduceIte, nlT, nlF, ntT, ntF, neT, neF, ieT, ieF, decide_true, decide_false, Bool.not_true, Bool.not_false, Bool.and_true, Bool.true_and, Bool.and_false, Bool.false_and, Bool.or_true, Bool.true_or, Bool.or_false, Bool.false_or, l1, k1, k2, k3, k4, fun S => s14_48 w 0 S hwb, r1, z, lc_eqn, z0, k2', k3', fun S => s14_70 w 0 S hwb, q1, i1]
          exact ⟨_, rfl, (i2.tr r2).tr q2⟩
    · rw [if_neg (fun q => e1 q.1)] at i1
      refine Or.inr ⟨S1, ⟨i1, i2⟩, ?_⟩
      rw [s14_2]
      simp (disch := omega) only [s14_0, s14_1, s14_3, s14_4, s14_7, s14_10, s14_11, s14_14, s14_15, s14_16, s14_17, s14_20, s14_21, s14_24, s14_25, s14_26, s14_27, s14_30, s14_31, s14_32, s14_35, s14_36, s14_37, s14_40, s14_41, s14_42, s14_43, s14_46, s14_47, s14_48, s14_49, s14_52, s14_53, s14_54, s14_57, s14_58, s14_59, s14_62, s14_63, s14_64, s14_65, s14_68, s14_69, s14_70, s14_71, s14_74, s14_75, s14_78, s14_81, s14_82, s14_83, s14_86, s14_89, s14_92, s14_93, q_0, q_1, q_2, q_3, q_4, q_5, q_6, q_7, q_8, q_9, q_10, q_11, q_12, q_13, q_14, q_16, q_20, q_23, q_24, q_32, q_42, q_43, q_45, q_47, q_48, q_50, q_57, q_59, q_60, q_61, q_62, q_63, q_64, q_66, q_91, q_93, q_97, q_99, q_122, q_144, q_255, q_256, q_300, q_380, q_400, q_620, q_999, q_1000, q_4095, q_4096, q_9999, q_65536, q_99999, q_31, nI_add, pk_mul, nE, nL, nT, nM31, nShl, ib_nI, nI_clamp, bI_n0, bI_n1, bI_nar, uI_r, uI_l, uL_r, uL_i, uL_p, uA_r, uA_l, bV_some, bU_some, nar_n0, nar_n1, and_self, and_true, true_and, and_false, false_and, if_true, if_false, eq_self, Bool.false_eq_true, Bool.true_eq_false, not_true_eq_false, not_false_eq_true, ↓reduceIte, nlT, nlF, ntT, ntF, neT, neF, ieT, ieF, decide_true, decide_false, Bool.not_true, Bool.not_false, Bool.and_true, Bool.true_and, Bool.and_false, Bool.false_and, Bool.or_true, Bool.true_or, Bool.or_false, Bool.false_or, l1, k1, k2, k3, k4]
  · intro S1 hI
    obtain ⟨i1, i2⟩ := hI
    rw [Nat.sub_self] at i1
    have hL1 : RepLC S1 r L := hL.fr (fun t _ _ => (i2 t r (by simp only [pL]; simp; omega)).1)
    have l1 := hL1.1
    have i1' : d = sumL L W s d := i1
    show ∃ S', run 14 0 2 [vR 17 r, vI (nI s), vR w 0, vI (nI (L 0 0))] [] S1 = _ ∧ _
    rw [s14_2, ← i1', ← hd]
    by_cases e1 : s = 2
    · simp (disch := omega) only [s14_0, s14_1, s14_3, s14_4, s14_7, s14_10, s14_11, s14_14, s14_15, s14_16, s14_17, s14_20, s14_21, s14_24, s14_25, s14_26, s14_27, s14_30, s14_31, s14_32, s14_35, s14_36, s14_37, s14_40, s14_41, s14_42, s14_43, s14_46, s14_47, s14_48, s14_49, s14_52, s14_53, s14_54, s14_57, s14_58, s14_59, s14_62, s14_63, s14_64, s14_65, s14_68, s14_69, s14_70, s14_71, s14_74, s14_75, s14_78, s14_81, s14_82, s14_83, s14_86, s14_89, s14_92, s14_93, q_0, q_1, q_2, q_3, q_4, q_5, q_6, q_7, q_8, q_9, q_10, q_11, q_12, q_13, q_14, q_16, q_20, q_23, q_24, q_32, q_42, q_43, q_45, q_47, q_48, q_50, q_57, q_59, q_60, q_61, q_62, q_63, q_64, q_66, q_91, q_93, q_97, q_99, q_122, q_144, q_255, q_256, q_300, q_380, q_400, q_620, q_999, q_1000, q_4095, q_4096, q_9999, q_65536, q_99999, q_31, nI_add, pk_mul, nE, nL, nT, nM31, nShl, ib_nI, nI_clamp, bI_n0, bI_n1, bI_nar, uI_r, uI_l, uL_r, uL_i, uL_p, uA_r, uA_l, bV_some, bU_some, nar_n0, nar_n1, and_self, and_true, true_and, and_false, false_and, if_true, if_false, eq_self, Bool.false_eq_true, Bool.true_eq_false, not_true_eq_false, not_false_eq_true, ↓reduceIte, nlT, nlF, ntT, ntF, neT, neF, ieT, ieF, decide_true, decide_false, Bool.not_true, Bool.not_false, Bool.and_true, Bool.true_and, Bool.and_false, Bool.false_and, Bool.or_true, Bool.true_or, Bool.or_false, Bool.false_or, l1]
      exact ⟨_, rfl, i2⟩
    · simp (disch := omega) only [s14_0, s14_1, s14_3, s14_4, s14_7, s14_10, s14_11, s14_14, s14_15, s14_16, s14_17, s14_20, s14_21, s14_24, s14_25, s14_26, s14_27, s14_30, s14_31, s14_32, s14_35, s14_36, s14_37, s14_40, s14_41, s14_42, s14_43, s14_46, s14_47, s14_48, s14_49, s14_52, s14_53, s14_54, s14_57, s14_58, s14_59, s14_62, s14_63, s14_64, s14_65, s14_68, s14_69, s14_70, s14_71, s14_74, s14_75, s14_78, s14_81, s14_82, s14_83, s14_86, s14_89, s14_92, s14_93, q_0, q_1, q_2, q_3, q_4, q_5, q_6, q_7, q_8, q_9, q_10, q_11, q_12, q_13, q_14, q_16, q_20, q_23, q_24, q_32, q_42, q_43, q_45, q_47, q_48, q_50, q_57, q_59, q_60, q_61, q_62, q_63, q_64, q_66, q_91, q_93, q_97, q_99, q_122, q_144, q_255, q_256, q_300, q_380, q_400, q_620, q_999, q_1000, q_4095, q_4096, q_9999, q_65536, q_99999, q_31, nI_add, pk_mul, nE, nL, nT, nM31, nShl, ib_nI, nI_clamp, bI_n0, bI_n1, bI_nar, uI_r, uI_l, uL_r, uL_i, uL_p, uA_r, uA_l, bV_some, bU_some, nar_n0, nar_n1, and_self, and_true, true_and, and_false, false_and, if_true, if_false, eq_self, Bool.false_eq_true, Bool.true_eq_false, not_true_eq_false, not_false_eq_true, ↓reduceIte, nlT, nlF, ntT, ntF, neT, neF, ieT, ieF, decide_true, decide_false, Bool.not_true, Bool.not_false, Bool.and_true, Bool.true_and, Bool.and_false, Bool.false_and, Bool.or_true, Bool.true_or, Bool.or_false, Bool.false_or, l1]
      exact ⟨_, rfl, i2⟩
end EV
