/-! rows filled; how owners nod -/
theorem ofN (n : Nat) : Int32.ofNat n = nI n := rfl
theorem x_fillJ {S : Sto} {t n : Nat} (v : Int64) (hk : knd t = (2, n, [])) (hb : Nat.beq t 103 = false) (hn : n < 2 ^ 31) : ∃ S', call 282 0 [vR t 0, vL v] S = some (none, S') ∧ Fr (pL [t]) S S' ∧ ∀ c, c < n → S'.2.1 t 0 c = v := by
  have hk1 : (knd t).1 = 2 := by rw [hk]
  have hk2 : (knd t).2.1 = n := by rw [hk]
  have ha : ∀ S, aln S t 0 = some n := by intro S; simp [aln, hk]
  show ∃ S', run 282 0 0 [vR t 0, vL v, vU, vU, vU] [] S = _ ∧ _
  rw [s282_0, s282_1, s282_2 _ _ _ hb, s282_3 _ _ _ n (ha _), s282_4]
  refine upS (σ := Sto) (I := fun i S1 => Fr (pL [t]) S S1 ∧ ∀ c, c < i → S1.2.1 t 0 c = v) (F := fun i S1 => run 282 0 6 [vR t 0, vL v, vU, vI (nI i), vI (nI n)] [] S1) (Q := fun x => ∃ S', x = some (none, S') ∧ Fr (pL [t]) S S' ∧ ∀ c, c < n → S'.2.1 t 0 c = v) (N := n) ?_ ?_ 0 S (by omega) ⟨Fr.rfl', fun c hc => by omega⟩
  · intro i S1 hi hI
    refine Or.inr ⟨uL S1 t 0 i v, ⟨hI.1.uL (by simp [pL]), ?_⟩, ?_⟩
    · intro c hc
      rw [uL_r]
      by_cases e : c = i
      · rw [if_pos ⟨rfl, rfl, e⟩]
      · rw [if_neg (by omega)]
        exact hI.2 c (by omega)
    · show run 282 0 6 _ _ _ = run 282 0 6 _ _ _
      rw [s282_6]
      simp (disch := first | omega | assumption) only [s282_0, s282_1, s282_2, s282_4, s282_7, s282_9, s282_12, s282_13, s282_14, s282_15, s282_16, s282_19, s282_22, hk2, q_0, q_1, q_2, q_3, q_4, q_5, q_6, q_7, q_8, q_9, q_10, q_11, q_12, q_13, q_14, q_16, q_20, q_23, q_24, q_32, q_42, q_43, q_45, q_47, q_48, q_50, q_57, q_59, q_60, q_61, q_62, q_63, q_64, q_66, q_91, q_93, q_97, q_99, q_122, q_144, q_255, q_256, q_300, q_380, q_400, q_620, q_999, q_1000, q_4095, q_4096, q_9999, q_65536, q_99999, q_31, nI_add, pk_mul, nE, nL, nT, nM31, nShl, ib_nI, nI_clamp, bI_n0, bI_n1, bI_nar, uI_r, uI_l, uL_r, uL_i, uL_p, uA_r, uA_l, bV_some, bU_some, nar_n0, nar_n1, and_self, and_true, true_and, and_false, false_and, if_true, if_false, eq_self, Bool.false_eq_true, Bool.true_eq_false, not_true_eq_false, not_false_eq_true, ↓reduceIte, nlT, nlF, ntT, ntF, neT, neF, ieT, ieF, decide_true, decide_false, Bool.not_true, Bool.not_false, Bool.and_true, Bool.true_and, Bool.and_false, Bool.false_and, Bool.or_true, Bool.true_or, Bool.or_false, Bool.false_or]
  · intro S1 hI
    show ∃ S', run 282 0 6 _ _ _ = _ ∧ _
    rw [s282_6]
    simp (disch := omega) only [s282_0, s282_1, s282_4, s282_7, s282_9, s282_13, s282_14, s282_16, s282_19, s282_22, q_0, q_1, q_2, q_3, q_4, q_5, q_6, q_7, q_8, q_9, q_10, q_11, q_12, q_13, q_14, q_16, q_20, q_23, q_24, q_32, q_42, q_43, q_45, q_47, q_48, q_50, q_57, q_59, q_60, q_61, q_62, q_63, q_64, q_66, q_91, q_93, q_97, q_99, q_122, q_144, q_255, q_256, q_300, q_380, q_400, q_620, q_999, q_1000, q_4095, q_4096, q_9999, q_65536, q_99999, q_31, nI_add, pk_mul, nE, nL, nT, nM31, nShl, ib_nI, nI_clamp, bI_n0, bI_n1, bI_nar, uI_r, uI_l, uL_r, uL_i, uL_p, uA_r, uA_l, bV_some, bU_some, nar_n0, nar_n1, and_self, and_true, true_and, and_false, false_and, if_true, if_false, eq_self, Bool.false_eq_true, Bool.true_eq_false, not_true_eq_false, not_false_eq_true, ↓reduceIte, nlT, nlF, ntT, ntF, neT, neF, ieT, ieF, decide_true, decide_false, Bool.not_true, Bool.not_false, Bool.and_true, Bool.true_and, Bool.and_false, Bool.false_and, Bool.or_true, Bool.true_or, Bool.or_false, Bool.false_or]
    exact ⟨_, rfl, hI.1, hI.2⟩
theorem x_fillI {S : Sto} {t n : Nat} (v : Int32) (hk : knd t = (1, n, [])) (hb : Nat.beq t 103 = false) (hn : n < 2 ^ 31) : ∃ S', call 283 0 [vR t 0, vI v] S = some (none, S') ∧ Fr (pL [t]) S S' ∧ ∀ c, c < n → S'.1 t 0 c = v := by
  have hk1 : (knd t).1 = 1 := by rw [hk]
  have hk2 : (knd t).2.1 = n := by rw [hk]
  have ha : ∀ S, aln S t 0 = some n := by intro S; simp [aln, hk]
  show ∃ S', run 283 0 0 [vR t 0, vI v, vU, vU] [] S = _ ∧ _
  rw [s283_0, s283_1, s283_2 _ _ _ hb, s283_3 _ _ _ n (ha _), s283_4]
  refine upS (σ := Sto) (I := fun i S1 => Fr (pL [t]) S S1 ∧ ∀ c, c < i → S1.1 t 0 c = v) (F := fun i S1 => run 283 0 5 [vR t 0, vI v, vI (nI i), vI (nI n)] [] S1) (Q := fun x => ∃ S', x = some (none, S') ∧ Fr (pL [t]) S S' ∧ ∀ c, c < n → S'.1 t 0 c = v) (N := n) ?_ ?_ 0 S (by omega) ⟨Fr.rfl', fun c hc => by omega⟩
  · intro i S1 hi hI
    refine Or.inr ⟨uI S1 t 0 i v, ⟨hI.1.uI (by simp [pL]), ?_⟩, ?_⟩
    · intro c hc
      rw [uI_r]
      by_cases e : c = i
      · rw [if_pos ⟨rfl, rfl, e⟩]
      · rw [if_neg (by omega)]
        exact hI.2 c (by omega)
    · show run 283 0 5 _ _ _ = run 283 0 5 _ _ _
      rw [s283_5]
      simp (disch := first | omega | assumption) only [s283_0, s283_1, s283_2, s283_4, s283_6, s283_7, s283_10, s283_11, s283_12, s283_13, s283_14, s283_17, s283_20, hk2, q_0, q_1, q_2, q_3, q_4, q_5, q_6, q_7, q_8, q_9, q_10, q_11, q_12, q_13, q_14, q_16, q_20, q_23, q_24, q_32, q_42, q_43, q_45, q_47, q_48, q_50, q_57, q_59, q_60, q_61, q_62, q_63, q_64, q_66, q_91, q_93, q_97, q_99, q_122, q_144, q_255, q_256, q_300, q_380, q_400, q_620, q_999, q_1000, q_4095, q_4096, q_9999, q_65536, q_99999, q_31, nI_add, pk_mul, nE, nL, nT, nM31, nShl, ib_nI, nI_clamp, bI_n0, bI_n1, bI_nar, uI_r, uI_l, uL_r, uL_i, uL_p, uA_r, uA_l, bV_some, bU_some, nar_n0, nar_n1, and_self, and_true, true_and, and_false, false_and, if_true, if_false, eq_self, Bool.false_eq_true, Bool.true_eq_false, not_true_eq_false, not_false_eq_true, ↓reduceIte, nlT, nlF, ntT, ntF, neT, neF, ieT, ieF, decide_true, decide_false, Bool.not_true, Bool.not_false, Bool.and_true, Bool.true_and, Bool.and_false, Bool.false_and, Bool.or_true, Bool.true_or, Bool.or_false, Bool.false_or]
  · intro S1 hI
    show ∃ S', run 283 0 5 _ _ _ = _ ∧ _
    rw [s283_5]
    simp (disch := omega) only [s283_0, s283_1, s283_4, s283_6, s283_7, s283_11, s283_12, s283_14, s283_17, s283_20, q_0, q_1, q_2, q_3, q_4, q_5, q_6, q_7, q_8, q_9, q_10, q_11, q_12, q_13, q_14, q_16, q_20, q_23, q_24, q_32, q_42, q_43, q_45, q_47, q_48, q_50, q_57, q_59, q_60, q_61, q_62, q_63, q_64, q_66, q_91, q_93, q_97, q_99, q_122, q_144, q_255, q_256, q_300, q_380, q_400, q_620, q_999, q_1000, q_4095, q_4096, q_9999, q_65536, q_99999, q_31, nI_add, pk_mul, nE, nL, nT, nM31, nShl, ib_nI, nI_clamp, bI_n0, bI_n1, bI_nar, uI_r, uI_l, uL_r, uL_i, uL_p, uA_r, uA_l, bV_some, bU_some, nar_n0, nar_n1, and_self, and_true, true_and, and_false, false_and, if_true, if_false, eq_self, Bool.false_eq_true, Bool.true_eq_false, not_true_eq_false, not_false_eq_true, ↓reduceIte, nlT, nlF, ntT, ntF, neT, neF, ieT, ieF, decide_true, decide_false, Bool.not_true, Bool.not_false, Bool.and_true, Bool.true_and, Bool.and_false, Bool.false_and, Bool.or_true, Bool.true_or, Bool.or_false, Bool.false_or]
    exact ⟨_, rfl, hI.1, hI.2⟩
theorem RepC.pl {S S' : Sto} {q : Nat} {A : Tn} {L : List Nat} (h : RepC S q A) (hf : Fr (pL L) S S') (hL : ∀ t, t < 14 → L.contains t = false) : RepC S' q A := h.fr hf (fun t _ _ => hL t (by omega))
theorem RepLC.pl {S S' : Sto} {r : Nat} {W : Lw} {L : List Nat} (h : RepLC S r W) (hf : Fr (pL L) S S') (hL : ∀ t, t < 23 → L.contains t = false) : RepLC S' r W := h.fr (fun t _ _ => (hf t r (hL t (by omega))).1)
theorem RepM.pl {S S' : Sto} {A : Tn} {L : List Nat} (h : RepM S A) (hf : Fr (pL L) S S') (hL : ∀ t, t < 67 → L.contains t = false) : RepM S' A := h.fr hf (fun t _ _ => hL t (by omega))
theorem RepLM.pl {S S' : Sto} {r : Nat} {W : Lw} {L : List Nat} (h : RepLM S r W) (hf : Fr (pL L) S S') (hL : ∀ t, t < 75 → L.contains t = false) : RepLM S' r W := h.fr (fun t _ _ => (hf t 0 (hL t (by omega))).1)
theorem Fr.pl {L L' : List Nat} {S S' : Sto} (h : Fr (pL L) S S') (hL : ∀ t, t ∈ L → t ∈ L') : Fr (pL L') S S' := h.mn (fun t i e => by
  simp only [pL] at e ⊢
  cases hq : L.contains t with
  | false => rfl
  | true =>
    have := hL t (by simpa using hq)
    rw [show L'.contains t = true by simpa using this] at e
    cases e)
def hd (v : Int64) (lo hi : Nat) : Nat := if v.toInt < lo then lo else if (hi : Int) < v.toInt then hi else v.toInt.toNat
theorem hd_le {v : Int64} {lo hi : Nat} (h : lo ≤ hi) : lo ≤ hd v lo hi ∧ hd v lo hi ≤ hi := by
  unfold hd
  split
  · omega
  · split <;> omega
theorem toI64 {n : Nat} (h : n < 2 ^ 31) : ((nI n).toInt64).toInt = n := by rw [Int32.toInt_toInt64, nI_toInt h]
theorem hd_c (v : Int64) {lo hi : Nat} (h : lo ≤ hi) (hh : hi < 2 ^ 31) : (if (if v < (nI hi).toInt64 then v else (nI hi).toInt64) < (nI lo).toInt64 then (nI lo).toInt64 else (if v < (nI hi).toInt64 then v else (nI hi).toInt64)) = (nI (hd v lo hi)).toInt64 := by
  apply Int64.toInt_inj.mp
  have e1 := toI64 (n := hi) hh
  have e2 := toI64 (n := lo) (by omega)
  have hb := hd_le (v := v) h
  rw [toI64 (n := hd v lo hi) (by omega)]
  unfold hd
  by_cases c1 : v < (nI hi).toInt64
  · have c1' := c1
    rw [Int64.lt_iff_toInt_lt, e1] at c1'
    simp only [c1, if_true]
    by_cases c2 : v < (nI lo).toInt64
    · have c2' := c2
      rw [Int64.lt_iff_toInt_lt, e2] at c2'
      rw [if_pos c2, if_pos c2', e2]
    · have c2' := c2
      rw [Int64.lt_iff_toInt_lt, e2] at c2'
      rw [if_neg c2, if_neg c2', if_neg (by omega)]
      omega
  · have c1' := c1
    rw [Int64.lt_iff_toInt_lt, e1] at c1'
    simp only [c1, if_false]
    have c2 : ¬ (nI hi).toInt64 < (nI lo).toInt64 := by
      rw [Int64.lt_iff_toInt_lt, e1, e2]; omega
    rw [if_neg c2, e1, if_neg (by omega)]
    split <;> omega
theorem hd_m (v : Int64) {lo hi : Nat} (h : lo ≤ hi) (hh : hi < 2 ^ 31) : (if v < (nI lo).toInt64 then (nI lo).toInt64 else if (nI hi).toInt64 < v then (nI hi).toInt64 else v) = (nI (hd v lo hi)).toInt64 := by
  apply Int64.toInt_inj.mp
  have e1 := toI64 (n := hi) hh
  have e2 := toI64 (n := lo) (by omega)
  have hb := hd_le (v := v) h
  rw [toI64 (n := hd v lo hi) (by omega)]
  unfold hd
  by_cases c2 : v < (nI lo).toInt64
  · have c2' := c2
    rw [Int64.lt_iff_toInt_lt, e2] at c2'
    rw [if_pos c2, if_pos c2', e2]
  · have c2' := c2
    rw [Int64.lt_iff_toInt_lt, e2] at c2'
    rw [if_neg c2, if_neg c2']
    by_cases c1 : (nI hi).toInt64 < v
    · have c1' := c1
      rw [Int64.lt_iff_toInt_lt, e1] at c1'
      rw [if_pos c1, if_pos c1', e1]
    · have c1' := c1
      rw [Int64.lt_iff_toInt_lt, e1] at c1'
      rw [if_neg c1, if_neg c1']
      omega
theorem x_held (S : Sto) (v : Int64) {lo hi : Nat} (h : lo ≤ hi) (hh : hi < 2 ^ 31) : call 110 0 [vL v, vI (nI lo), vI (nI hi)] S = some (some (vI (nI (hd v lo hi))), S) := by
  show run 110 0 0 [vL v, vU, vI (nI lo), vI (nI hi)] [] S = _
  simp only [s110_0, s110_1, s110_2, s110_3, s110_4, s110_5, s110_8, s110_11, s110_12]
  rw [hd_c v h hh, Int32.toInt32_toInt64]
theorem m_between (S : Sto) (v : Int64) {lo hi : Nat} {a b : Int64} (ha : (nI lo).toInt64 = a) (hb : (nI hi).toInt64 = b) (h : lo ≤ hi) (hh : hi < 2 ^ 31) : call 200 0 [vL v, vL a, vL b] S = some (some (vL (nI (hd v lo hi)).toInt64), S) := by
  have e := hd_m v h hh
  rw [ha, hb] at e
  show run 200 0 0 [vL v, vU, vL a, vU, vL b, vU] [] S = _
  simp only [s200_0, s200_1, s200_2, s200_3, s200_6, s200_7, s200_10, s200_11, s200_13, s200_14, s200_17, s200_19, s200_22, s200_23, lc_ge, lc_le]
  rw [← e]
  by_cases c1 : v < a <;> by_cases c2 : b < v <;> simp [c1, c2]
def wkF (A : Tn) (w t : Nat) (g : Nat → Int64) (c : Nat) : Int64 := if c = 10 then (nI (A 0 4)).toInt64 else if c = 6 then (nI (A 13 w)).toInt64 else if c = 5 then (nI (A 1 (A 10 w))).toInt64 else if c = 3 then (nI (A 9 t)).toInt64 else if c = 2 then (nI (A 12 w)).toInt64 else g c
def owF (A : Tn) (o m a : Nat) (g : Nat → Int64) (c : Nat) : Int64 := if c = 9 then (nI (odN A o)).toInt64 else if c = 8 then (nI (ct (fun t => owB A o t && owB A a t) (A 0 1))).toInt64 else if c = 7 then (nI (A 6 (12 * o + a)) - nI (A 6 (12 * a + o))).toInt64 else if c = 4 then (nI (ct (fun t => owB A o t) (A 0 1))).toInt64 else if c = 1 then (nI (A 4 (12 * o + m)) - nI 9).toInt64 else if c = 0 then (nI (A 4 (12 * o + a)) - nI 9).toInt64 else g c
theorem x_tellWork {S : Sto} {q : Nat} {A : Tn} {w t : Nat} (h : RepC S q A) (hw : WF A) (hv : w < 12) (ht : t < 24) : ∃ S', call 18 0 [vR 26 0, vR 1 q, vI (nI w), vI (nI t)] S = some (none, S') ∧ Fr (pL [27]) S S' ∧ ∀ c, S'.2.1 27 0 c = wkF A w t (S.2.1 27 0) c := by
  have hW := hw.W hv
  show ∃ S', run 18 0 0 [vR 26 0, vR 1 q, vI (nI w), vI (nI t)] [] S = _ ∧ _
  simp (disch := omega) only [s18_0, s18_1, s18_4, s18_5, s18_6, s18_9, s18_10, s18_11, s18_12, s18_13, s18_14, s18_17, s18_18, s18_19, s18_22, s18_23, s18_24, s18_25, s18_26, s18_27, s18_30, s18_31, s18_32, s18_35, s18_36, s18_39, s18_40, s18_41, s18_42, s18_43, s18_44, s18_45, s18_48, s18_50, s18_51, s18_54, s18_55, s18_56, s18_57, s18_58, s18_59, s18_62, s18_64, s18_65, s18_68, s18_69, s18_70, q_0, q_1, q_2, q_3, q_4, q_5, q_6, q_7, q_8, q_9, q_10, q_11, q_12, q_13, q_14, q_16, q_20, q_23, q_24, q_32, q_42, q_43, q_45, q_47, q_48, q_50, q_57, q_59, q_60, q_61, q_62, q_63, q_64, q_66, q_91, q_93, q_97, q_99, q_122, q_144, q_255, q_256, q_300, q_380, q_400, q_620, q_999, q_1000, q_4095, q_4096, q_9999, q_65536, q_99999, q_31, nI_add, pk_mul, nE, nL, nT, nM31, nShl, ib_nI, nI_clamp, bI_n0, bI_n1, bI_nar, uI_r, uI_l, uL_r, uL_i, uL_p, uA_r, uA_l, bV_some, bU_some, nar_n0, nar_n1, and_self, and_true, true_and, and_false, false_and, if_true, if_false, eq_self, Bool.false_eq_true, Bool.true_eq_false, not_true_eq_false, not_false_eq_true, ↓reduceIte, nlT, nlF, ntT, ntF, neT, neF, ieT, ieF, decide_true, decide_false, Bool.not_true, Bool.not_false, Bool.and_true, Bool.true_and, Bool.and_false, Bool.false_and, Bool.or_true, Bool.true_or, Bool.or_false, Bool.false_or, h.wo, h.us, h.ak, h.co, h.da, h.ye]
  refine ⟨_, rfl, (((((Fr.rfl'.uL rfl).uL rfl).uL rfl).uL rfl).uL rfl), ?_⟩
  intro c
  simp only [uL_r, true_and, wkF]
theorem x_tellOwner {S : Sto} {q : Nat} {A : Tn} {o m a : Nat} (h : RepC S q A) (hw : WF A) (ho : o < 12) (hm : m < 12) (ha : a < 12) (hne : o ≠ a) : ∃ S', call 19 0 [vR 26 0, vR 1 q, vI (nI o), vI (nI m), vI (nI a)] S = some (none, S') ∧ Fr (pL [27]) S S' ∧ ∀ c, S'.2.1 27 0 c = owF A o m a (S.2.1 27 0) c := by
  have e3 := fun (v0 v1 : Int64) => x_ownedBy_A (S := uL (uL S 27 0 0 v0) 27 0 1 v1) (show RepC _ q A from h) hw (p := o) (by omega)
  have e4 := fun (v0 v1 v2 v3 : Int64) => x_sharedBy_A (S := uL (uL (uL (uL S 27 0 0 v0) 27 0 1 v1) 27 0 4 v2) 27 0 7 v3) (show RepC _ q A from h) hw (a := o) (b := a) (by omega) (by omega)
  simp only [br_own hw] at e3
  simp only [br_shared hw hne] at e4
  have f1 := foeB_lt A o
  show ∃ S', run 19 0 0 [vR 26 0, vR 1 q, vI (nI o), vI (nI m), vI (nI a)] [] S = _ ∧ _
  simp (disch := omega) only [s19_0, s19_1, s19_4, s19_5, s19_6, s19_9, s19_10, s19_12, s19_13, s19_15, s19_16, s19_17, s19_18, s19_19, s19_20, s19_23, s19_24, s19_25, s19_28, s19_29, s19_31, s19_32, s19_33, s19_34, s19_35, s19_36, s19_37, s19_38, s19_41, s19_42, s19_43, s19_44, s19_47, s19_48, s19_49, s19_50, s19_53, s19_55, s19_56, s19_59, s19_60, s19_62, s19_63, s19_65, s19_66, s19_67, s19_68, s19_71, s19_73, s19_75, s19_76, s19_77, s19_78, s19_79, s19_80, s19_81, s19_82, s19_83, s19_86, s19_88, s19_89, s19_90, s19_92, s19_95, s19_96, s19_97, s19_98, s19_101, s19_103, s19_104, s19_107, s19_108, s19_109, s19_112, s19_113, s19_114, q_0, q_1, q_2, q_3, q_4, q_5, q_6, q_7, q_8, q_9, q_10, q_11, q_12, q_13, q_14, q_16, q_20, q_23, q_24, q_32, q_42, q_43, q_45, q_47, q_48, q_50, q_57, q_59, q_60, q_61, q_62, q_63, q_64, q_66, q_91, q_93, q_97, q_99, q_122, q_144, q_255, q_256, q_300, q_380, q_400, q_620, q_999, q_1000, q_4095, q_4096, q_9999, q_65536, q_99999, q_31, nI_add, pk_mul, nE, nL, nT, nM31, nShl, ib_nI, nI_clamp, bI_n0, bI_n1, bI_nar, uI_r, uI_l, uL_r, uL_i, uL_p, uA_r, uA_l, bV_some, bU_some, nar_n0, nar_n1, and_self, and_true, true_and, and_false, false_and, if_true, if_false, eq_self, Bool.false_eq_true, Bool.true_eq_false, not_true_eq_false, not_false_eq_true, ↓reduceIte, nlT, nlF, ntT, ntF, neT, neF, ieT, ieF, decide_true, decide_false, Bool.not_true, Bool.not_false, Bool.and_true, Bool.true_and, Bool.and_false, Bool.false_and, Bool.or_true, Bool.true_or, Bool.or_false, Bool.false_or, h.li, h.gi, h.fo, e3, e4, x_bitCount, br_near hw, Nat.mul_comm o 12, Nat.mul_comm a 12]
  refine ⟨_, rfl, ((((((Fr.rfl'.uL rfl).uL rfl).uL rfl).uL rfl).uL rfl).uL rfl), ?_⟩
  intro c
  simp only [uL_r, true_and, owF]
/-- the other owner -/
def otB (A : Tn) (t o : Nat) : Nat := if A 7 t = o then A 8 t else A 7 t
def W1 (A : Tn) (w t : Nat) : Nat → Int64 := wkF A w t (fun _ => 0)
def W2 (A : Tn) (w t o : Nat) : Nat → Int64 := owF A o (otB A t o) (A 10 w) (W1 A w t)
theorem W2_c {A : Tn} {w t o c : Nat} (g : Nat → Int64) (hc : c < 11) : owF A o (otB A t o) (A 10 w) (wkF A w t g) c = W2 A w t o c := by
  have hc' : c = 0 ∨ c = 1 ∨ c = 2 ∨ c = 3 ∨ c = 4 ∨ c = 5 ∨ c = 6 ∨ c = 7 ∨ c = 8 ∨ c = 9 ∨ c = 10 := by omega
  rcases hc' with rfl | rfl | rfl | rfl | rfl | rfl | rfl | rfl | rfl | rfl | rfl <;> rfl
def ndO (A : Tn) (L : Lw) (w t o : Nat) : Option Nat := if o = A 10 w then some 0 else if A 5 (12 * o + A 10 w) = 1 then none else if 0 < sumL L (W2 A w t o) 0 0 then some 0 else if 0 < hd (sumL L (W2 A w t o) 1 0) 0 9999 then some (hd (sumL L (W2 A w t o) 1 0) 0 9999) else none
def nV (x : Option Nat) : Int32 := match x with
  | none => -nI 2
  | some p => nI p
def muN (A : Tn) (L : Lw) (w t : Nat) : Nat := hd (sumL L (W1 A w t) 2 2) 1 2
theorem ndO_le {A : Tn} {L : Lw} {w t o p : Nat} (h : ndO A L w t o = some p) : p ≤ 9999 := by
  unfold ndO at h
  repeat' split at h
  all_goals first | (cases h; done) | (have := Option.some.inj h; omega) | skip
  all_goals
    have h1 := Option.some.inj h
    have := (hd_le (v := sumL L (W2 A w t o) 1 0) (lo := 0) (hi := 9999) (by decide)).2
    omega
theorem ow_mate {A : Tn} {t f : Nat} (hne : A 7 t ≠ A 8 t) (hf : f < 2) : ow A (2 * t + 1 - f) = otB A t (ow A (2 * t + f)) := by
  unfold otB
  by_cases e : f = 0
  · subst e
    simp only [Nat.sub_zero, Nat.add_zero, ow_1, ow_0, if_true]
  · have e1 : f = 1 := by omega
    subst e1
    rw [show 2 * t + 1 - 1 = 2 * t by omega, ow_0, ow_1, if_neg hne]
theorem x_nodOf {S : Sto} {q : Nat} {A : Tn} {r : Nat} {L : Lw} {w t f : Nat} (h : RepC S q A) (hw : WF A) (hL : RepLC S r L) (hl : WFL L) (hv : w < A 0 2) (ht : t < A 0 1) (hf : f < 2) : ∃ S', call 17 0 [vR 26 0, vR 1 q, vR 17 r, vI (nI w), vI (nI t), vI (nI f)] S = some (some (vI (nV (ndO A L w t (ow A (2 * t + f))))), S') ∧ Fr (pL [23, 27]) S S' := by
  have hT := hw.th
  have hWk := hw.wk
  have hP := hw.pe
  have h1 := hw.t ht
  have hak := (hw.w hv).1
  have ho := hw.ow12 (i := 2 * t + f) (by omega)
  have hm := hw.ow12 (i := 2 * t + 1 - f) (by omega)
  have em := ow_mate (A := A) (f := f) h1.2.2.1 hf
  have o1 := h.own (i := 2 * t + f) (by omega)
  generalize ow A (2 * t + f) = o at ho em o1 ⊢
  show ∃ S', run 17 0 0 [vR 26 0, vR 1 q, vR 17 r, vI (nI w), vI (nI t), vI (nI f), vU, vU, vU] [] S = _ ∧ _
  unfold ndO
  by_cases c1 : o = A 10 w
  · simp (disch := omega) only [s17_0, s17_1, s17_4, s17_5, s17_7, s17_8, s17_10, s17_11, s17_12, s17_14, s17_15, s17_18, s17_19, s17_20, s17_22, s17_24, s17_26, s17_29, s17_30, s17_31, s17_32, s17_34, s17_36, s17_39, s17_42, s17_44, s17_45, s17_46, s17_47, s17_48, s17_50, s17_53, s17_54, s17_55, s17_57, s17_58, s17_61, s17_62, s17_64, s17_65, s17_66, s17_67, s17_69, s17_70, s17_71, s17_73, s17_76, s17_77, s17_78, s17_79, s17_82, s17_85, s17_86, s17_87, s17_90, s17_91, s17_92, s17_93, s17_94, s17_95, s17_98, s17_101, s17_102, s17_105, s17_108, s17_110, s17_112, s17_115, s17_117, s17_120, s17_122, q_0, q_1, q_2, q_3, q_4, q_5, q_6, q_7, q_8, q_9, q_10, q_11, q_12, q_13, q_14, q_16, q_20, q_23, q_24, q_32, q_42, q_43, q_45, q_47, q_48, q_50, q_57, q_59, q_60, q_61, q_62, q_63, q_64, q_66, q_91, q_93, q_97, q_99, q_122, q_144, q_255, q_256, q_300, q_380, q_400, q_620, q_999, q_1000, q_4095, q_4096, q_9999, q_65536, q_99999, q_31, nI_add, pk_mul, nE, nL, nT, nM31, nShl, ib_nI, nI_clamp, bI_n0, bI_n1, bI_nar, uI_r, uI_l, uL_r, uL_i, uL_p, uA_r, uA_l, bV_some, bU_some, nar_n0, nar_n1, and_self, and_true, true_and, and_false, false_and, if_true, if_false, eq_self, Bool.false_eq_true, Bool.true_eq_false, not_true_eq_false, not_false_eq_true, ↓reduceIte, nlT, nlF, ntT, ntF, neT, neF, ieT, ieF, decide_true, decide_false, Bool.not_true, Bool.not_false, Bool.and_true, Bool.true_and, Bool.and_false, Bool.false_and, Bool.or_true, Bool.true_or, Bool.or_false, Bool.false_or, o1, h.ak, c1, nV]
    exact ⟨_, rfl, Fr.rfl'⟩
  · by_cases c2 : A 5 (12 * o + A 10 w) = 1
    · simp (disch := omega) only [s17_0, s17_1, s17_4, s17_5, s17_7, s17_8, s17_10, s17_11, s17_12, s17_14, s17_15, s17_18, s17_19, s17_20, s17_22, s17_24, s17_26, s17_29, s17_30, s17_31, s17_32, s17_34, s17_36, s17_39, s17_42, s17_44, s17_45, s17_46, s17_47, s17_48, s17_50, s17_53, s17_54, s17_55, s17_57, s17_58, s17_61, s17_62, s17_64, s17_65, s17_66, s17_67, s17_69, s17_70, s17_71, s17_73, s17_76, s17_77, s17_78, s17_79, s17_82, s17_85, s17_86, s17_87, s17_90, s17_91, s17_92, s17_93, s17_94, s17_95, s17_98, s17_101, s17_102, s17_105, s17_108, s17_110, s17_112, s17_115, s17_117, s17_120, s17_122, q_0, q_1, q_2, q_3, q_4, q_5, q_6, q_7, q_8, q_9, q_10, q_11, q_12, q_13, q_14, q_16, q_20, q_23, q_24, q_32, q_42, q_43, q_45, q_47, q_48, q_50, q_57, q_59, q_60, q_61, q_62, q_63, q_64, q_66, q_91, q_93, q_97, q_99, q_122, q_144, q_255, q_256, q_300, q_380, q_400, q_620, q_999, q_1000, q_4095, q_4096, q_9999, q_65536, q_99999, q_31, nI_add, pk_mul, nE, nL, nT, nM31, nShl, ib_nI, nI_clamp, bI_n0, bI_n1, bI_nar, uI_r, uI_l, uL_r, uL_i, uL_p, uA_r, uA_l, bV_some, bU_some, nar_n0, nar_n1, and_self, and_true, true_and, and_false, false_and, if_true, if_false, eq_self, Bool.false_eq_true, Bool.true_eq_false, not_true_eq_false, not_false_eq_true, ↓reduceIte, nlT, nlF, ntT, ntF, neT, neF, ieT, ieF, decide_true, decide_false, Bool.not_true, Bool.not_false, Bool.and_true, Bool.true_and, Bool.and_false, Bool.false_and, Bool.or_true, Bool.true_or, Bool.or_false, Bool.false_or, o1, h.ak, c1, nV, x_atOdds_A h, c2, beq_self_eq_true]
      exact ⟨_, rfl, Fr.rfl'⟩
    · have c2' : (A 5 (12 * o + A 10 w) == 1) = false := by simp [c2]
      obtain ⟨S1, a1, a2, a3⟩ := x_tellWork h hw (w := w) (t := t) (by omega) (by omega)
      have h2 := h.pl a2 (by decide)
      obtain ⟨S2, b1, b2, b3⟩ := x_tellOwner h2 hw (o := o) (m := ow A (2 * t + 1 - f)) (a := A 10 w) ho hm (by omega) c1
      have h3 := h2.pl b2 (by decide)
      have hW : ∀ c, c < 11 → S2.2.1 27 0 c = W2 A w t o c := by
        intro c hc
        rw [b3, em, ← W2_c (S.2.1 27 0) hc]
        congr 1
        funext c
        exact a3 c
      have hL2 := (hL.pl a2 (by decide)).pl b2 (by decide)
      obtain ⟨S3, d1, d2⟩ := x_sumOf (S := S2) (s := 0) (d := 0) (w := 27) rfl rfl rfl rfl (by decide) hW hL2 hl (by decide)
      have hL3 := hL2.pl d2 (by decide)
      have hW3 : ∀ c, c < 11 → S3.2.1 27 0 c = W2 A w t o c := fun c hc => by rw [d2.l rfl]; exact hW c hc
      obtain ⟨S4, f1, f2⟩ := x_sumOf (S := S3) (s := 1) (d := 0) (w := 27) rfl rfl rfl rfl (by decide) hW3 hL3 hl (by decide)
      have fr3 : Fr (pL [23, 27]) S S3 := ((a2.pl (by simp)).tr (b2.pl (by simp))).tr (d2.pl (by simp))
      by_cases c3 : 0 < sumL L (W2 A w t o) 0 0
      · simp (disch := omega) only [s17_0, s17_1, s17_4, s17_5, s17_7, s17_8, s17_10, s17_11, s17_12, s17_14, s17_15, s17_18, s17_19, s17_20, s17_22, s17_24, s17_26, s17_29, s17_30, s17_31, s17_32, s17_34, s17_36, s17_39, s17_42, s17_44, s17_45, s17_46, s17_47, s17_48, s17_50, s17_53, s17_54, s17_55, s17_57, s17_58, s17_61, s17_62, s17_64, s17_65, s17_66, s17_67, s17_69, s17_70, s17_71, s17_73, s17_76, s17_77, s17_78, s17_79, s17_82, s17_85, s17_86, s17_87, s17_90, s17_91, s17_92, s17_93, s17_94, s17_95, s17_98, s17_101, s17_102, s17_105, s17_108, s17_110, s17_112, s17_115, s17_117, s17_120, s17_122, q_0, q_1, q_2, q_3, q_4, q_5, q_6, q_7, q_8, q_9, q_10, q_11, q_12, q_13, q_14, q_16, q_20, q_23, q_24, q_32, q_42, q_43, q_45, q_47, q_48, q_50, q_57, q_59, q_60, q_61, q_62, q_63, q_64, q_66, q_91, q_93, q_97, q_99, q_122, q_144, q_255, q_256, q_300, q_380, q_400, q_620, q_999, q_1000, q_4095, q_4096, q_9999, q_65536, q_99999, q_31, nI_add, pk_mul, nE, nL, nT, nM31, nShl, ib_nI, nI_clamp, bI_n0, bI_n1, bI_nar, uI_r, uI_l, uL_r, uL_i, uL_p, uA_r, uA_l, bV_some, bU_some, nar_n0, nar_n1, and_self, and_true, true_and, and_false, false_and, if_true, if_false, eq_self, Bool.false_eq_true, Bool.true_eq_false, not_true_eq_false, not_false_eq_true, ↓reduceIte, nlT, nlF, ntT, ntF, neT, neF, ieT, ieF, decide_true, decide_false, Bool.not_true, Bool.not_false, Bool.and_true, Bool.true_and, Bool.and_false, Bool.false_and, Bool.or_true, Bool.true_or, Bool.or_false, Bool.false_or, o1, h2.own, h.ak, c1, nV, x_atOdds_A h, c2, c2', a1, b1, d1, nSub, lc_len, c3]
        exact ⟨_, rfl, fr3⟩
      · have hb := hd_le (v := sumL L (W2 A w t o) 1 0) (lo := 0) (hi := 9999) (by decide)
        by_cases c4 : 0 < hd (sumL L (W2 A w t o) 1 0) 0 9999
        · simp (disch := omega) only [s17_0, s17_1, s17_4, s17_5, s17_7, s17_8, s17_10, s17_11, s17_12, s17_14, s17_15, s17_18, s17_19, s17_20, s17_22, s17_24, s17_26, s17_29, s17_30, s17_31, s17_32, s17_34, s17_36, s17_39, s17_42, s17_44, s17_45, s17_46, s17_47, s17_48, s17_50, s17_53, s17_54, s17_55, s17_57, s17_58, s17_61, s17_62, s17_64, s17_65, s17_66, s17_67, s17_69, s17_70, s17_71, s17_73, s17_76, s17_77, s17_78, s17_79, s17_82, s17_85, s17_86, s17_87, s17_90, s17_91, s17_92, s17_93, s17_94, s17_95, s17_98, s17_101, s17_102, s17_105, s17_108, s17_110, s17_112, s17_115, s17_117, s17_120, s17_122, q_0, q_1, q_2, q_3, q_4, q_5, q_6, q_7, q_8, q_9, q_10, q_11, q_12, q_13, q_14, q_16, q_20, q_23, q_24, q_32, q_42, q_43, q_45, q_47, q_48, q_50, q_57, q_59, q_60, q_61, q_62, q_63, q_64, q_66, q_91, q_93, q_97, q_99, q_122, q_144, q_255, q_256, q_300, q_380, q_400, q_620, q_999, q_1000, q_4095, q_4096, q_9999, q_65536, q_99999, q_31, nI_add, pk_mul, nE, nL, nT, nM31, nShl, ib_nI, nI_clamp, bI_n0, bI_n1, bI_nar, uI_r, uI_l, uL_r, uL_i, uL_p, uA_r, uA_l, bV_some, bU_some, nar_n0, nar_n1, and_self, and_true, true_and, and_false, false_and, if_true, if_false, eq_self, Bool.false_eq_true, Bool.true_eq_false, not_true_eq_false, not_false_eq_true, ↓reduceIte, nlT, nlF, ntT, ntF, neT, neF, ieT, ieF, decide_true, decide_false, Bool.not_true, Bool.not_false, Bool.and_true, Bool.true_and, Bool.and_false, Bool.false_and, Bool.or_true, Bool.true_or, Bool.or_false, Bool.false_or, o1, h2.own, h.ak, c1, nV, x_atOdds_A h, c2, c2', a1, b1, d1, f1, nSub, lc_len, c3, x_held, c4]
          exact ⟨_, rfl, fr3.tr (f2.pl (by simp))⟩
        · have c5 : hd (sumL L (W2 A w t o) 1 0) 0 9999 = 0 := by omega
          simp (disch := omega) only [s17_0, s17_1, s17_4, s17_5, s17_7, s17_8, s17_10, s17_11, s17_12, s17_14, s17_15, s17_18, s17_19, s17_20, s17_22, s17_24, s17_26, s17_29, s17_30, s17_31, s17_32, s17_34, s17_36, s17_39, s17_42, s17_44, s17_45, s17_46, s17_47, s17_48, s17_50, s17_53, s17_54, s17_55, s17_57, s17_58, s17_61, s17_62, s17_64, s17_65, s17_66, s17_67, s17_69, s17_70, s17_71, s17_73, s17_76, s17_77, s17_78, s17_79, s17_82, s17_85, s17_86, s17_87, s17_90, s17_91, s17_92, s17_93, s17_94, s17_95, s17_98, s17_101, s17_102, s17_105, s17_108, s17_110, s17_112, s17_115, s17_117, s17_120, s17_122, q_0, q_1, q_2, q_3, q_4, q_5, q_6, q_7, q_8, q_9, q_10, q_11, q_12, q_13, q_14, q_16, q_20, q_23, q_24, q_32, q_42, q_43, q_45, q_47, q_48, q_50, q_57, q_59, q_60, q_61, q_62, q_63, q_64, q_66, q_91, q_93, q_97, q_99, q_122, q_144, q_255, q_256, q_300, q_380, q_400, q_620, q_999, q_1000, q_4095, q_4096, q_9999, q_65536, q_99999, q_31, nI_add, pk_mul, nE, nL, nT, nM31, nShl, ib_nI, nI_clamp, bI_n0, bI_n1, bI_nar, uI_r, uI_l, uL_r, uL_i, uL_p, uA_r, uA_l, bV_some, bU_some, nar_n0, nar_n1, and_self, and_true, true_and, and_false, false_and, if_true, if_false, eq_self, Bool.false_eq_true, Bool.true_eq_false, not_true_eq_false, not_false_eq_true, ↓reduceIte, nlT, nlF, ntT, ntF, neT, neF, ieT, ieF, decide_true, decide_false, Bool.not_true, Bool.not_false, Bool.and_true, Bool.true_and, Bool.and_false, Bool.false_and, Bool.or_true, Bool.true_or, Bool.or_false, Bool.false_or, o1, h2.own, h.ak, c1, nV, x_atOdds_A h, c2, c2', a1, b1, d1, f1, nSub, lc_len, c3, x_held, c5]
          exact ⟨_, rfl, fr3.tr (f2.pl (by simp))⟩
