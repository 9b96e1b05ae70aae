/-! what a change of halves gains -/
theorem fsN_1 {f f' : Nat → Nat} {t : Nat} : ∀ {T : Nat}, t < T → (∀ k, k < T → k ≠ t → f' k = f k) → fsN f' T + f t = fsN f T + f' t
  | 0, h, _ => by omega
  | T + 1, h, hk => by
    show fsN f' T + f' T + f t = fsN f T + f T + f' t
    by_cases e : t = T
    · subst e
      have : fsN f' t = fsN f t := fsN_congr (fun i hi => hk i (by omega) (by omega))
      omega
    · have ih := fsN_1 (T := T) (by omega) (fun k h1 h2 => hk k (by omega) h2)
      have := hk T (by omega) (fun q => e q.symm)
      omega
theorem fsN_2 {f f' : Nat → Nat} {t u T : Nat} (ht : t < T) (hu : u < T) (hne : t ≠ u) (hk : ∀ k, k < T → k ≠ t → k ≠ u → f' k = f k) : fsN f' T + f t + f u = fsN f T + f' t + f' u := by
  have h1 := fsN_1 (f := f) (f' := fun k => if k = t then f' t else f k) ht (fun k _ e => by simp [e])
  have h2 := fsN_1 (f := fun k => if k = t then f' t else f k) (f' := f') hu (fun k hk' e => by
    by_cases q : k = t
    · simp [q]
    · simp [q]; exact hk k hk' q e)
  simp only [if_true, if_neg (Ne.symm hne)] at h1 h2
  omega
theorem owB_h (A : Tn) (p i : Nat) : owB A p (i / 2) = (ow A i == p || ow A (i ^^^ 1) == p) := by
  unfold owB
  by_cases e : i % 2 = 0
  · have ek : i = 2 * (i / 2) := by omega
    rw [ek, x1_0, ow_0, ow_1, show 2 * (i / 2) / 2 = i / 2 by omega]
  · have ek : i = 2 * (i / 2) + 1 := by omega
    rw [ek, x1_1, ow_0, ow_1, show (2 * (i / 2) + 1) / 2 = i / 2 by omega, Bool.or_comm]
theorem otB_h {A : Tn} {p i : Nat} (h1 : ow A i = p) (h2 : ow A (i ^^^ 1) ≠ p) : otB A (i / 2) p = ow A (i ^^^ 1) := by
  unfold otB
  by_cases e : i % 2 = 0
  · have ek : i = 2 * (i / 2) := by omega
    rw [ek, ow_0] at h1
    rw [ek, x1_0, ow_1, show 2 * (i / 2) / 2 = i / 2 by omega, if_pos h1]
  · have ek : i = 2 * (i / 2) + 1 := by omega
    rw [ek, x1_1, ow_0] at h2
    rw [ek, x1_1, ow_0, show (2 * (i / 2) + 1) / 2 = i / 2 by omega, if_neg h2]
def cgF (A : Tn) (p t : Nat) : Nat := if owB A p t = true then A 4 (12 * p + otB A t p) else 0
def cN (A : Tn) (p : Nat) : Nat := fsN (fun t => cgF A p t) (A 0 1)
def cnI (A : Tn) (p : Nat) : Int32 := smI (fun t => if owB A p t = true then nI (A 4 (12 * p + if A 7 t = p then A 8 t else A 7 t)) - 9 else 0) (A 0 1)
theorem subadd (a b c : Nat) : nI a - nI b + (nI c - nI 9) = nI (a + c) - nI (b + 9) := by
  rw [← nI_add, ← nI_add]
  simp only [Int32.sub_eq_add_neg, Int32.neg_add]
  ac_rfl
theorem cnI_e (A : Tn) (p : Nat) : cnI A p = nI (cN A p) - nI (9 * ownN A p) := by
  unfold cnI cN ownN
  have key : ∀ n, smI (fun t => if owB A p t = true then nI (A 4 (12 * p + if A 7 t = p then A 8 t else A 7 t)) - 9 else 0) n = nI (fsN (fun t => cgF A p t) n) - nI (9 * ct (fun t => owB A p t) n) := by
    intro n
    induction n with
    | zero => show (0 : Int32) = nI 0 - nI (9 * 0); decide
    | succ n ih =>
      show smI _ n + (if owB A p n = true then nI (A 4 (12 * p + if A 7 n = p then A 8 n else A 7 n)) - 9 else 0) = nI (fsN (fun t => cgF A p t) n + (if owB A p n = true then A 4 (12 * p + (if A 7 n = p then A 8 n else A 7 n)) else 0)) - nI (9 * (ct (fun t => owB A p t) n + (if owB A p n = true then 1 else 0)))
      rw [ih]
      cases e : owB A p n with
      | false => simp
      | true =>
        simp only [if_true]
        rw [Nat.mul_add]
        exact subadd _ _ _
  exact key _
theorem sub_lt {x y c : Nat} (hx : x < 2 ^ 30) (hy : y < 2 ^ 30) (hc : c < 2 ^ 30) : (nI x - nI c < nI y - nI c) = (x < y) := by
  apply propext
  rw [Int32.lt_iff_toInt_lt, pk_sub_toInt hx hc, pk_sub_toInt hy hc]
  omega
theorem sub_le {x y c : Nat} (hx : x < 2 ^ 30) (hy : y < 2 ^ 30) (hc : c < 2 ^ 30) : (nI x - nI c ≤ nI y - nI c) = (x ≤ y) := by
  apply propext
  rw [Int32.le_iff_toInt_le, pk_sub_toInt hx hc, pk_sub_toInt hy hc]
  omega
theorem swB_x {A : Tn} {i j : Nat} : swB A i j = true ↔ i / 2 ≠ j / 2 ∧ ow A i ≠ ow A j ∧ ow A (i ^^^ 1) ≠ ow A j ∧ ow A (j ^^^ 1) ≠ ow A i := by
  unfold swB
  simp only [Bool.and_eq_true, Bool.not_eq_true', beq_eq_false_iff_ne, and_assoc]
theorem gain {A : Tn} (hw : WF A) {i j : Nat} (hi : i < 2 * A 0 1) (hj : j < 2 * A 0 1) (hs : swB A i j = true) : ownN (swT A i j) (ow A i) = ownN A (ow A i) ∧ cN (swT A i j) (ow A i) + A 4 (12 * ow A i + ow A (i ^^^ 1)) = cN A (ow A i) + A 4 (12 * ow A i + ow A (j ^^^ 1)) := by
  obtain ⟨s1, s2, s3, s4⟩ := swB_x.mp hs
  have oi := (hw.ow hi).2.2
  have oj := (hw.ow hj).2.2
  have e01 : swT A i j 0 1 = A 0 1 := swT_f (by decide) (by decide)
  have xi := x1_2 i
  have xj := x1_2 j
  have qi : ow (swT A i j) i = ow A j := by rw [ow_sw, if_neg (by omega), if_pos rfl]
  have qj : ow (swT A i j) j = ow A i := by rw [ow_sw, if_pos rfl]
  have qi1 : ow (swT A i j) (i ^^^ 1) = ow A (i ^^^ 1) := by rw [ow_sw, if_neg (by omega), if_neg (by omega)]
  have qj1 : ow (swT A i j) (j ^^^ 1) = ow A (j ^^^ 1) := by rw [ow_sw, if_neg (by omega), if_neg (by omega)]
  have b1 : owB A (ow A i) (i / 2) = true := by rw [owB_h]; simp
  have b2 : owB A (ow A i) (j / 2) = false := by rw [owB_h]; simp [Ne.symm s2, s4]
  have b3 : owB (swT A i j) (ow A i) (i / 2) = false := by rw [owB_h, qi, qi1]; simp [Ne.symm s2, Ne.symm oi]
  have b4 : owB (swT A i j) (ow A i) (j / 2) = true := by rw [owB_h, qj]; simp
  have t1 : otB A (i / 2) (ow A i) = ow A (i ^^^ 1) := otB_h rfl (Ne.symm oi)
  have t2 : otB (swT A i j) (j / 2) (ow A i) = ow A (j ^^^ 1) := by rw [otB_h qj (by rw [qj1]; exact s4), qj1]
  have same : ∀ k, k ≠ i / 2 → k ≠ j / 2 → swT A i j 7 k = A 7 k ∧ swT A i j 8 k = A 8 k := by
    intro k h1 h2
    rw [← ow_0 (swT A i j) k, ← ow_1 (swT A i j) k, ow_sw, ow_sw, if_neg (by omega), if_neg (by omega), if_neg (by omega), if_neg (by omega), ow_0, ow_1]
    exact ⟨rfl, rfl⟩
  have e4 : ∀ k, swT A i j 4 k = A 4 k := fun k => swT_f (by decide) (by decide)
  have ob : ∀ k, k ≠ i / 2 → k ≠ j / 2 → owB (swT A i j) (ow A i) k = owB A (ow A i) k := fun k h1 h2 => by
    unfold owB
    rw [(same k h1 h2).1, (same k h1 h2).2]
  have ot : ∀ k, k ≠ i / 2 → k ≠ j / 2 → otB (swT A i j) k (ow A i) = otB A k (ow A i) := fun k h1 h2 => by
    unfold otB
    rw [(same k h1 h2).1, (same k h1 h2).2]
  have f1 := fsN_2 (f := fun t => if owB A (ow A i) t = true then 1 else 0) (f' := fun t => if owB (swT A i j) (ow A i) t = true then 1 else 0) (t := i / 2) (u := j / 2) (T := A 0 1) (by omega) (by omega) s1 (fun k _ h1 h2 => by
    show (if owB (swT A i j) (ow A i) k = true then 1 else 0) = (if owB A (ow A i) k = true then 1 else 0)
    rw [ob k h1 h2])
  have f2 := fsN_2 (f := fun t => cgF A (ow A i) t) (f' := fun t => cgF (swT A i j) (ow A i) t) (t := i / 2) (u := j / 2) (T := A 0 1) (by omega) (by omega) s1 (fun k _ h1 h2 => by
    show cgF (swT A i j) (ow A i) k = cgF A (ow A i) k
    unfold cgF
    rw [ob k h1 h2, ot k h1 h2, e4])
  have v1 : cgF A (ow A i) (i / 2) = A 4 (12 * ow A i + ow A (i ^^^ 1)) := by unfold cgF; rw [if_pos b1, t1]
  have v2 : cgF A (ow A i) (j / 2) = 0 := by unfold cgF; rw [if_neg (by rw [b2]; simp)]
  have v3 : cgF (swT A i j) (ow A i) (i / 2) = 0 := by unfold cgF; rw [if_neg (by rw [b3]; simp)]
  have v4 : cgF (swT A i j) (ow A i) (j / 2) = A 4 (12 * ow A i + ow A (j ^^^ 1)) := by unfold cgF; rw [if_pos b4, t2, e4]
  simp only [v1, v2, v3, v4] at f2
  refine ⟨?_, ?_⟩
  · unfold ownN
    rw [ct_fs, ct_fs, e01]
    simp only [b1, b2, b3, b4, if_true, Bool.false_eq_true, if_false] at f1
    omega
  · unfold cN
    rw [e01]
    omega
theorem Tn_ow {A B : Tn} (h1 : ∀ f k, f ≠ 7 → f ≠ 8 → B f k = A f k) (h2 : ∀ k, ow B k = ow A k) : B = A := by
  funext f k
  by_cases e7 : f = 7
  · subst e7
    have := h2 (2 * k)
    rw [ow_0, ow_0] at this
    exact this
  · by_cases e8 : f = 8
    · subst e8
      have := h2 (2 * k + 1)
      rw [ow_1, ow_1] at this
      exact this
    · exact h1 f k e7 e8
theorem sw_back {A : Tn} {i j : Nat} (hne : i ≠ j) : swT (swT A i j) i j = A := by
  refine Tn_ow (fun f k h7 h8 => by rw [swT_f h7 h8, swT_f h7 h8]) (fun k => ?_)
  rw [ow_sw, ow_sw, ow_sw, ow_sw, if_neg hne, if_pos rfl, if_pos rfl]
  by_cases e1 : k = j
  · rw [if_pos e1, e1]
  · rw [if_neg e1]
    by_cases e2 : k = i
    · rw [if_pos e2, e2]
    · rw [if_neg e2, if_neg e1, if_neg e2]
theorem sw_comm {A : Tn} {i j : Nat} (hne : i ≠ j) : swT A i j = swT A j i := by
  refine Tn_ow (fun f k h7 h8 => by rw [swT_f h7 h8, swT_f h7 h8]) (fun k => ?_)
  rw [ow_sw, ow_sw]
  by_cases e1 : k = j
  · rw [if_pos e1, if_neg (by omega), if_pos e1]
  · rw [if_neg e1]
    by_cases e2 : k = i
    · rw [if_pos e2, if_pos e2]
    · rw [if_neg e2, if_neg e2, if_neg e1]
def gnB (A : Tn) (i j : Nat) : Bool := decide (A 4 (12 * ow A i + ow A (i ^^^ 1)) < A 4 (12 * ow A i + ow A (j ^^^ 1))) && decide (A 4 (12 * ow A j + ow A (j ^^^ 1)) < A 4 (12 * ow A j + ow A (i ^^^ 1)))
def tdB (A : Tn) (i j : Nat) : Bool := gnB A i j && swB A i j
theorem x_bothGain {S : Sto} {q : Nat} {A : Tn} {i j : Nat} (h : RepC S q A) (hw : WF A) (hi : i < 48) (hj : j < 48) : call 4 0 [vR 1 q, vI (nI i), vI (nI j)] S = some (some (vI (bI (gnB A i j))), S) := by
  have hx := x1_lt (i := i) (n := 24) hi
  have hy := x1_lt (i := j) (n := 24) hj
  have o1 := hw.ow12 hi
  have o2 := hw.ow12 hj
  have o3 := hw.ow12 (i := i ^^^ 1) hx
  have o4 := hw.ow12 (i := j ^^^ 1) hy
  have l1 := hw.li (i := 12 * ow A i + ow A (i ^^^ 1)) (by omega)
  have l2 := hw.li (i := 12 * ow A i + ow A (j ^^^ 1)) (by omega)
  have l3 := hw.li (i := 12 * ow A j + ow A (i ^^^ 1)) (by omega)
  have l4 := hw.li (i := 12 * ow A j + ow A (j ^^^ 1)) (by omega)
  show run 4 0 0 [vR 1 q, vI (nI i), vI (nI j), vU, vU, vU, vU] [] S = _
  unfold gnB
  simp (disch := omega) only [s4_0, s4_2, s4_3, s4_6, s4_7, s4_8, s4_9, s4_10, s4_12, s4_13, s4_16, s4_17, s4_18, s4_19, s4_21, s4_22, s4_25, s4_26, s4_27, s4_28, s4_29, s4_31, s4_32, s4_35, s4_36, s4_37, s4_38, s4_39, s4_41, s4_42, s4_45, s4_46, s4_48, s4_49, s4_50, s4_51, s4_54, s4_55, s4_57, s4_58, s4_59, s4_62, s4_63, s4_66, s4_68, s4_70, s4_71, s4_72, s4_73, s4_76, s4_78, s4_80, s4_81, s4_82, s4_85, s4_86, s4_89, s4_90, q_0, q_1, q_2, q_3, q_4, q_5, q_6, q_7, q_8, q_9, q_10, q_11, q_12, q_13, q_14, q_16, q_20, q_23, q_24, q_32, q_42, q_43, q_45, q_47, q_48, q_50, q_57, q_59, q_60, q_61, q_62, q_63, q_64, q_66, q_91, q_93, q_97, q_99, q_122, q_144, q_255, q_256, q_300, q_380, q_400, q_620, q_999, q_1000, q_4095, q_4096, q_9999, q_65536, q_99999, q_31, nI_add, pk_mul, nE, nL, nT, nM31, nShl, ib_nI, nI_clamp, bI_n0, bI_n1, bI_nar, uI_r, uI_l, uL_r, uL_i, uL_p, uA_r, uA_l, bV_some, bU_some, nar_n0, nar_n1, and_self, and_true, true_and, and_false, false_and, if_true, if_false, eq_self, Bool.false_eq_true, Bool.true_eq_false, not_true_eq_false, not_false_eq_true, ↓reduceIte, nlT, nlF, ntT, ntF, neT, neF, ieT, ieF, decide_true, decide_false, Bool.not_true, Bool.not_false, Bool.and_true, Bool.true_and, Bool.and_false, Bool.false_and, Bool.or_true, Bool.true_or, Bool.or_false, Bool.false_or, h.own, nx1, h.li, sub_le, sub_lt]
  by_cases c1 : A 4 (12 * ow A i + ow A (i ^^^ 1)) < A 4 (12 * ow A i + ow A (j ^^^ 1))
  · by_cases c2 : A 4 (12 * ow A j + ow A (j ^^^ 1)) < A 4 (12 * ow A j + ow A (i ^^^ 1))
    · simp [c1, c2, Nat.not_le.mpr c1, Nat.not_le.mpr c2, bI]; rfl
    · simp [c1, c2, Nat.not_le.mpr c1, Nat.not_lt.mp c2, bI]; rfl
  · simp [c1, Nat.not_lt.mp c1, bI]; rfl
theorem cN_le {A : Tn} (hw : WF A) {p : Nat} (hp : p < 12) : cN A p ≤ 18 * 24 := by
  have hT := hw.th
  have h1 : cN A p ≤ 18 * A 0 1 := fsN_le (fun t ht => by
    unfold cgF
    split
    · have ho := hw.o (t := t) (by omega)
      exact hw.li (by unfold otB; split <;> omega)
    · omega)
  omega
theorem m_isTraded {S : Sto} {A : Tn} {t f u g : Nat} (h : RepM S A) (hw : WF A) (ht : t < A 0 1) (hf : f < 2) (hu : u < A 0 1) (hg : g < 2) (htu : t ≠ u) : ∃ S', call 248 0 [vR 50 0, vI (nI t), vI (nI f), vI (nI u), vI (nI g)] S = some (some (vI (bI (tdB A (2 * t + f) (2 * u + g)))), S') ∧ Fr (pL [58, 59]) S S' ∧ RepM S' (if tdB A (2 * t + f) (2 * u + g) = true then swT A (2 * t + f) (2 * u + g) else A) := by
  have hT := hw.th
  have c1 := m_maySwap h hw (t := t) (f := f) (u := u) (g := g) (by omega) hf (by omega) hg
  have c2 : msB A (2 * t + f) (2 * u + g) = swB A (2 * t + f) (2 * u + g) := by
    unfold msB swB
    have : ((2 * t + f) / 2 == (2 * u + g) / 2) = false := by simp; omega
    rw [this]
    simp
  rw [c2] at c1
  show ∃ S', run 248 0 0 [vR 50 0, vI (nI t), vI (nI f), vI (nI u), vI (nI g), vU, vU, vU, vU] [] S = _ ∧ _
  unfold tdB
  have hi : 2 * t + f < 2 * A 0 1 := by omega
  have hj : 2 * u + g < 2 * A 0 1 := by omega
  have hij : 2 * t + f ≠ 2 * u + g := by omega
  have e1 := m_ownerOf h (t := t) (f := f) (by omega) hf
  have e2 := m_ownerOf h (t := u) (f := g) (by omega) hg
  obtain ⟨S1, a1, a2, a3⟩ := m_swaps h (t := t) (f := f) (u := u) (g := g) (by omega) hf (by omega) hg
  obtain ⟨S2, b1, b2, b3⟩ := m_swaps a3 (t := t) (f := f) (u := u) (g := g) (by omega) hf (by omega) hg
  rw [sw_back hij] at b3
  have o1 := hw.ow12 (i := 2 * t + f) (by omega)
  have o2 := hw.ow12 (i := 2 * u + g) (by omega)
  generalize 2 * t + f = i at *
  generalize 2 * u + g = j at *
  cases c3 : swB A i j with
  | false =>
    rw [c3] at c1
    simp (disch := omega) only [s248_0, s248_1, s248_2, s248_3, s248_4, s248_6, s248_9, s248_12, s248_13, s248_14, s248_15, s248_16, s248_17, s248_20, s248_22, s248_23, s248_24, s248_26, s248_29, s248_31, s248_32, s248_34, s248_37, s248_39, s248_40, s248_42, s248_45, s248_47, s248_48, s248_49, s248_50, s248_51, s248_53, s248_56, s248_57, s248_59, s248_62, s248_64, s248_67, s248_68, s248_70, s248_73, s248_75, s248_78, s248_79, s248_80, s248_81, s248_82, s248_83, s248_84, s248_86, s248_89, s248_90, q_0, q_1, q_2, q_3, q_4, q_5, q_6, q_7, q_8, q_9, q_10, q_11, q_12, q_13, q_14, q_16, q_20, q_23, q_24, q_32, q_42, q_43, q_45, q_47, q_48, q_50, q_57, q_59, q_60, q_61, q_62, q_63, q_64, q_66, q_91, q_93, q_97, q_99, q_122, q_144, q_255, q_256, q_300, q_380, q_400, q_620, q_999, q_1000, q_4095, q_4096, q_9999, q_65536, q_99999, q_31, nI_add, pk_mul, nE, nL, nT, nM31, nShl, ib_nI, nI_clamp, bI_n0, bI_n1, bI_nar, uI_r, uI_l, uL_r, uL_i, uL_p, uA_r, uA_l, bV_some, bU_some, nar_n0, nar_n1, and_self, and_true, true_and, and_false, false_and, if_true, if_false, eq_self, Bool.false_eq_true, Bool.true_eq_false, not_true_eq_false, not_false_eq_true, ↓reduceIte, nlT, nlF, ntT, ntF, neT, neF, ieT, ieF, decide_true, decide_false, Bool.not_true, Bool.not_false, Bool.and_true, Bool.true_and, Bool.and_false, Bool.false_and, Bool.or_true, Bool.true_or, Bool.or_false, Bool.false_or, c1]
    exact ⟨_, rfl, Fr.rfl', h⟩
  | true =>
    rw [c3] at c1
    have c3' : swB A j i = true := by
      have := swB_x.mp c3
      exact swB_x.mpr ⟨Ne.symm this.1, Ne.symm this.2.1, this.2.2.2, this.2.2.1⟩
    obtain ⟨g1, g2⟩ := gain hw hi hj c3
    obtain ⟨g3, g4⟩ := gain hw hj hi c3'
    rw [← sw_comm hij] at g3 g4
    have w1 := swT_W hw hi hj c3
    have k1 : call 153 0 [vR 50 0, vI (nI (ow A i))] S = some (some (vI (nI (cN A (ow A i)) - nI (9 * ownN A (ow A i)))), S) := by rw [← cnI_e]; exact m_content h hw o1
    have k2 : call 153 0 [vR 50 0, vI (nI (ow A j))] S = some (some (vI (nI (cN A (ow A j)) - nI (9 * ownN A (ow A j)))), S) := by rw [← cnI_e]; exact m_content h hw o2
    have k3 : call 153 0 [vR 50 0, vI (nI (ow A i))] S1 = some (some (vI (nI (cN (swT A i j) (ow A i)) - nI (9 * ownN A (ow A i)))), S1) := by rw [← g1, ← cnI_e]; exact m_content a3 w1 o1
    have k4 : call 153 0 [vR 50 0, vI (nI (ow A j))] S1 = some (some (vI (nI (cN (swT A i j) (ow A j)) - nI (9 * ownN A (ow A j)))), S1) := by rw [← g3, ← cnI_e]; exact m_content a3 w1 o2
    have n1 := cN_le hw o1
    have n2 := cN_le hw o2
    have n3 := cN_le w1 o1
    have n4 := cN_le w1 o2
    have n5 : ownN A (ow A i) ≤ A 0 1 := ct_le _ _
    have n6 : ownN A (ow A j) ≤ A 0 1 := ct_le _ _
    have gn : gnB A i j = (decide (cN A (ow A i) < cN (swT A i j) (ow A i)) && decide (cN A (ow A j) < cN (swT A i j) (ow A j))) := by
      unfold gnB
      congr 1
      · rw [decide_eq_decide]; omega
      · rw [decide_eq_decide]; omega
    rw [gn]
    by_cases d1 : cN A (ow A i) < cN (swT A i j) (ow A i)
    · by_cases d2 : cN A (ow A j) < cN (swT A i j) (ow A j)
      · simp (disch := omega) only [s248_0, s248_1, s248_2, s248_3, s248_4, s248_6, s248_9, s248_12, s248_13, s248_14, s248_15, s248_16, s248_17, s248_20, s248_22, s248_23, s248_24, s248_26, s248_29, s248_31, s248_32, s248_34, s248_37, s248_39, s248_40, s248_42, s248_45, s248_47, s248_48, s248_49, s248_50, s248_51, s248_53, s248_56, s248_57, s248_59, s248_62, s248_64, s248_67, s248_68, s248_70, s248_73, s248_75, s248_78, s248_79, s248_80, s248_81, s248_82, s248_83, s248_84, s248_86, s248_89, s248_90, q_0, q_1, q_2, q_3, q_4, q_5, q_6, q_7, q_8, q_9, q_10, q_11, q_12, q_13, q_14, q_16, q_20, q_23, q_24, q_32, q_42, q_43, q_45, q_47, q_48, q_50, q_57, q_59, q_60, q_61, q_62, q_63, q_64, q_66, q_91, q_93, q_97, q_99, q_122, q_144, q_255, q_256, q_300, q_380, q_400, q_620, q_999, q_1000, q_4095, q_4096, q_9999, q_65536, q_99999, q_31, nI_add, pk_mul, nE, nL, nT, nM31, nShl, ib_nI, nI_clamp, bI_n0, bI_n1, bI_nar, uI_r, uI_l, uL_r, uL_i, uL_p, uA_r, uA_l, bV_some, bU_some, nar_n0, nar_n1, and_self, and_true, true_and, and_false, false_and, if_true, if_false, eq_self, Bool.false_eq_true, Bool.true_eq_false, not_true_eq_false, not_false_eq_true, ↓reduceIte, nlT, nlF, ntT, ntF, neT, neF, ieT, ieF, decide_true, decide_false, Bool.not_true, Bool.not_false, Bool.and_true, Bool.true_and, Bool.and_false, Bool.false_and, Bool.or_true, Bool.true_or, Bool.or_false, Bool.false_or, c1, e1, e2, k1, k2, a1, k3, k4, sub_le, sub_lt]
        exact ⟨_, rfl, a2, a3⟩
      · simp (disch := omega) only [s248_0, s248_1, s248_2, s248_3, s248_4, s248_6, s248_9, s248_12, s248_13, s248_14, s248_15, s248_16, s248_17, s248_20, s248_22, s248_23, s248_24, s248_26, s248_29, s248_31, s248_32, s248_34, s248_37, s248_39, s248_40, s248_42, s248_45, s248_47, s248_48, s248_49, s248_50, s248_51, s248_53, s248_56, s248_57, s248_59, s248_62, s248_64, s248_67, s248_68, s248_70, s248_73, s248_75, s248_78, s248_79, s248_80, s248_81, s248_82, s248_83, s248_84, s248_86, s248_89, s248_90, q_0, q_1, q_2, q_3, q_4, q_5, q_6, q_7, q_8, q_9, q_10, q_11, q_12, q_13, q_14, q_16, q_20, q_23, q_24, q_32, q_42, q_43, q_45, q_47, q_48, q_50, q_57, q_59, q_60, q_61, q_62, q_63, q_64, q_66, q_91, q_93, q_97, q_99, q_122, q_144, q_255, q_256, q_300, q_380, q_400, q_620, q_999, q_1000, q_4095, q_4096, q_9999, q_65536, q_99999, q_31, nI_add, pk_mul, nE, nL, nT, nM31, nShl, ib_nI, nI_clamp, bI_n0, bI_n1, bI_nar, uI_r, uI_l, uL_r, uL_i, uL_p, uA_r, uA_l, bV_some, bU_some, nar_n0, nar_n1, and_self, and_true, true_and, and_false, false_and, if_true, if_false, eq_self, Bool.false_eq_true, Bool.true_eq_false, not_true_eq_false, not_false_eq_true, ↓reduceIte, nlT, nlF, ntT, ntF, neT, neF, ieT, ieF, decide_true, decide_false, Bool.not_true, Bool.not_false, Bool.and_true, Bool.true_and, Bool.and_false, Bool.false_and, Bool.or_true, Bool.true_or, Bool.or_false, Bool.false_or, c1, e1, e2, k1, k2, a1, k3, k4, sub_le, sub_lt, b1]
        exact ⟨_, rfl, a2.tr b2, b3⟩
    · simp (disch := omega) only [s248_0, s248_1, s248_2, s248_3, s248_4, s248_6, s248_9, s248_12, s248_13, s248_14, s248_15, s248_16, s248_17, s248_20, s248_22, s248_23, s248_24, s248_26, s248_29, s248_31, s248_32, s248_34, s248_37, s248_39, s248_40, s248_42, s248_45, s248_47, s248_48, s248_49, s248_50, s248_51, s248_53, s248_56, s248_57, s248_59, s248_62, s248_64, s248_67, s248_68, s248_70, s248_73, s248_75, s248_78, s248_79, s248_80, s248_81, s248_82, s248_83, s248_84, s248_86, s248_89, s248_90, q_0, q_1, q_2, q_3, q_4, q_5, q_6, q_7, q_8, q_9, q_10, q_11, q_12, q_13, q_14, q_16, q_20, q_23, q_24, q_32, q_42, q_43, q_45, q_47, q_48, q_50, q_57, q_59, q_60, q_61, q_62, q_63, q_64, q_66, q_91, q_93, q_97, q_99, q_122, q_144, q_255, q_256, q_300, q_380, q_400, q_620, q_999, q_1000, q_4095, q_4096, q_9999, q_65536, q_99999, q_31, nI_add, pk_mul, nE, nL, nT, nM31, nShl, ib_nI, nI_clamp, bI_n0, bI_n1, bI_nar, uI_r, uI_l, uL_r, uL_i, uL_p, uA_r, uA_l, bV_some, bU_some, nar_n0, nar_n1, and_self, and_true, true_and, and_false, false_and, if_true, if_false, eq_self, Bool.false_eq_true, Bool.true_eq_false, not_true_eq_false, not_false_eq_true, ↓reduceIte, nlT, nlF, ntT, ntF, neT, neF, ieT, ieF, decide_true, decide_false, Bool.not_true, Bool.not_false, Bool.and_true, Bool.true_and, Bool.and_false, Bool.false_and, Bool.or_true, Bool.true_or, Bool.or_false, Bool.false_or, c1, e1, e2, k1, k2, a1, k3, k4, sub_le, sub_lt, b1]
      exact ⟨_, rfl, a2.tr b2, b3⟩
