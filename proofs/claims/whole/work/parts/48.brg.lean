/-! class and reference count alike -/
theorem x_clash_A {S : Sto} {q : Nat} {A : Tn} (h : RepC S q A) (hw : WF A) {v w : Nat} (hv : v < 12) (hx : w < 12) : call 81 0 [vR 1 q, vI (nI v), vI (nI w)] S = some (some (vI (bI (!(v == w) && A 13 v == A 13 w && !(A 11 v &&& A 11 w == 0)))), S) := by
  have h1 := hw.W hv
  have h2 := hw.W hx
  have h3 : A 11 v &&& A 11 w < 2 ^ 31 := Nat.lt_of_le_of_lt Nat.and_le_left (by omega)
  show run 81 0 0 [vR 1 q, vI (nI v), vI (nI w)] [] S = _
  simp (disch := omega) only [s81_0, s81_1, s81_2, s81_5, s81_6, s81_9, s81_10, s81_11, s81_12, s81_15, s81_16, s81_17, s81_20, s81_21, s81_24, s81_25, s81_26, s81_27, s81_30, s81_31, s81_32, s81_33, s81_36, s81_37, s81_40, s81_41, q_0, q_1, q_2, q_3, q_4, q_5, q_6, q_7, q_8, q_9, q_10, q_11, q_12, q_13, q_14, q_16, q_20, q_23, q_24, q_32, q_42, q_43, q_45, q_47, q_48, q_50, q_57, q_59, q_60, q_61, q_62, q_63, q_64, q_66, q_91, q_93, q_97, q_99, q_122, q_144, q_255, q_256, q_300, q_380, q_400, q_620, q_999, q_1000, q_4095, q_4096, q_9999, q_65536, q_99999, q_31, nI_add, pk_mul, nE, nL, nT, nM31, nShl, ib_nI, nI_clamp, bI_n0, bI_n1, bI_nar, uI_r, uI_l, uL_r, uL_i, uL_p, uA_r, uA_l, bV_some, bU_some, nar_n0, nar_n1, and_self, and_true, true_and, and_false, false_and, if_true, if_false, eq_self, Bool.false_eq_true, Bool.true_eq_false, not_true_eq_false, not_false_eq_true, ↓reduceIte, nlT, nlF, ntT, ntF, neT, neF, ieT, ieF, h.da, h.ki, nx_and]
  by_cases e1 : v = w <;> by_cases e2 : A 13 v = A 13 w <;> by_cases e3 : A 11 v &&& A 11 w = 0 <;> simp [e1, e2, e3, bI, nar_0, nar_1, nI_0, nI_one]
theorem x_worthOfSet_A {S : Sto} {q : Nat} {A : Tn} (h : RepC S q A) (hw : WF A) {m : Nat} (hm : m < 2 ^ 31) : call 84 0 [vR 1 q, vI (nI m)] S = some (some (vI (nI (fsN (fun w => if m.testBit w then A 12 w else 0) (A 0 2)))), S) := by
  have hW := hw.wk
  show run 84 0 0 [vR 1 q, vI (nI m), vU, vU] [] S = _
  simp only [s84_0, s84_1, s84_2, s84_3, s84_5, s84_6, s84_9, s84_12, s84_13, s84_14, s84_17, s84_20, s84_21, s84_22, s84_25, s84_26, s84_27, s84_28, s84_29, s84_32, s84_35, s84_36]
  refine up_ (F := fun i => run 84 0 4 [vR 1 q, vI (nI m), vI (nI (fsN (fun w => if m.testBit w then A 12 w else 0) i)), vI (nI i)] [] S) (N := A 0 2) ?_ ?_ 0 (by omega)
  · intro i hi
    show run 84 0 4 _ _ _ = run 84 0 4 _ _ _
    rw [s84_4]
    simp (disch := omega) only [s84_0, s84_1, s84_2, s84_3, s84_5, s84_6, s84_9, s84_12, s84_13, s84_14, s84_17, s84_20, s84_21, s84_22, s84_25, s84_26, s84_27, s84_28, s84_29, s84_32, s84_35, s84_36, q_0, q_1, q_2, q_3, q_4, q_5, q_6, q_7, q_8, q_9, q_10, q_11, q_12, q_13, q_14, q_16, q_20, q_23, q_24, q_32, q_42, q_43, q_45, q_47, q_48, q_50, q_57, q_59, q_60, q_61, q_62, q_63, q_64, q_66, q_91, q_93, q_97, q_99, q_122, q_144, q_255, q_256, q_300, q_380, q_400, q_620, q_999, q_1000, q_4095, q_4096, q_9999, q_65536, q_99999, q_31, nI_add, pk_mul, nE, nL, nT, nM31, nShl, ib_nI, nI_clamp, bI_n0, bI_n1, bI_nar, uI_r, uI_l, uL_r, uL_i, uL_p, uA_r, uA_l, bV_some, bU_some, nar_n0, nar_n1, and_self, and_true, true_and, and_false, false_and, if_true, if_false, eq_self, Bool.false_eq_true, Bool.true_eq_false, not_true_eq_false, not_false_eq_true, ↓reduceIte, nlT, nlF, ntT, ntF, neT, neF, ieT, ieF, h.wk, h.wo, x_has]
    by_cases e : m.testBit i = true <;> simp [e, fsN]
  · show run 84 0 4 _ _ _ = _
    rw [s84_4]
    simp (disch := omega) only [s84_0, s84_1, s84_2, s84_3, s84_5, s84_6, s84_9, s84_12, s84_13, s84_14, s84_17, s84_20, s84_21, s84_22, s84_25, s84_26, s84_27, s84_28, s84_29, s84_32, s84_35, s84_36, q_0, q_1, q_2, q_3, q_4, q_5, q_6, q_7, q_8, q_9, q_10, q_11, q_12, q_13, q_14, q_16, q_20, q_23, q_24, q_32, q_42, q_43, q_45, q_47, q_48, q_50, q_57, q_59, q_60, q_61, q_62, q_63, q_64, q_66, q_91, q_93, q_97, q_99, q_122, q_144, q_255, q_256, q_300, q_380, q_400, q_620, q_999, q_1000, q_4095, q_4096, q_9999, q_65536, q_99999, q_31, nI_add, pk_mul, nE, nL, nT, nM31, nShl, ib_nI, nI_clamp, bI_n0, bI_n1, bI_nar, uI_r, uI_l, uL_r, uL_i, uL_p, uA_r, uA_l, bV_some, bU_some, nar_n0, nar_n1, and_self, and_true, true_and, and_false, false_and, if_true, if_false, eq_self, Bool.false_eq_true, Bool.true_eq_false, not_true_eq_false, not_false_eq_true, ↓reduceIte, nlT, nlF, ntT, ntF, neT, neF, ieT, ieF, h.wk]
/-- done works that clash -/
def clB (A : Tn) (v w : Nat) : Bool := A 13 v == A 13 w && !(A 11 v &&& A 11 w == 0)
def ex (P : Nat → Bool) : Nat → Bool
  | 0 => false
  | n + 1 => ex P n || P n
theorem ex_t {P : Nat → Bool} : ∀ {n : Nat}, ex P n = true ↔ ∃ k, k < n ∧ P k = true
  | 0 => by simp [ex]
  | n + 1 => by
    unfold ex
    rw [Bool.or_eq_true, ex_t (n := n)]
    constructor
    · rintro (⟨k, h1, h2⟩ | h)
      · exact ⟨k, by omega, h2⟩
      · exact ⟨n, by omega, h⟩
    · rintro ⟨k, h1, h2⟩
      by_cases hk : k = n
      · subst hk; exact Or.inr h2
      · exact Or.inl ⟨k, by omega, h2⟩
theorem ex_congr {P Q : Nat → Bool} : ∀ {n : Nat}, (∀ i, i < n → P i = Q i) → ex P n = ex Q n
  | 0, _ => rfl
  | n + 1, h => by
    unfold ex
    rw [ex_congr (fun i hi => h i (by omega)), h n (by omega)]
def tkB (A : Tn) (w : Nat) : Bool := ex (fun o => A 14 o == 1 && clB A o w) (A 0 2)
theorem fsN_congr {f g : Nat → Nat} : ∀ {n : Nat}, (∀ i, i < n → f i = g i) → fsN f n = fsN g n
  | 0, _ => rfl
  | n + 1, h => by
    unfold fsN
    rw [fsN_congr (fun i hi => h i (by omega)), h n (by omega)]
theorem smI_congr {f g : Nat → Int32} : ∀ {n : Nat}, (∀ i, i < n → f i = g i) → smI f n = smI g n
  | 0, _ => rfl
  | n + 1, h => by
    unfold smI
    rw [smI_congr (fun i hi => h i (by omega)), h n (by omega)]
theorem ct_fs (P : Nat → Bool) : ∀ n, ct P n = fsN (fun i => if P i then 1 else 0) n
  | 0 => rfl
  | n + 1 => by
    unfold ct fsN
    rw [ct_fs P n]
theorem ct_two (P : Nat → Bool) : ∀ T, ct P (2 * T) = fsN (fun t => (if P (2 * t) then 1 else 0) + (if P (2 * t + 1) then 1 else 0)) T
  | 0 => rfl
  | T + 1 => by
    show ct P (2 * T) + (if P (2 * T) then 1 else 0) + (if P (2 * T + 1) then 1 else 0) = fsN _ T + _
    rw [ct_two P T, Nat.add_assoc]
theorem smI_two (f : Nat → Int32) : ∀ T, smI f (2 * T) = smI (fun t => f (2 * t) + f (2 * t + 1)) T
  | 0 => rfl
  | T + 1 => by
    show smI f (2 * T) + f (2 * T) + f (2 * T + 1) = smI _ T + _
    rw [smI_two f T, Int32.add_assoc]
theorem ow_0 (A : Tn) (t : Nat) : ow A (2 * t) = A 7 t := by
  unfold ow
  rw [if_pos (by omega)]
  congr 1
  omega
theorem ow_1 (A : Tn) (t : Nat) : ow A (2 * t + 1) = A 8 t := by
  unfold ow
  rw [if_neg (by omega)]
  congr 1
  omega
theorem x1_0 (t : Nat) : (2 * t) ^^^ 1 = 2 * t + 1 := by
  apply Nat.eq_of_testBit_eq
  intro i
  rw [Nat.testBit_xor]
  cases i with
  | zero =>
    have e : (2 * t + 1) % 2 = 1 := by omega
    simp [Nat.testBit_zero, e]
  | succ i =>
    have e : (2 * t + 1) / 2 = t := by omega
    simp [Nat.testBit_succ, e]
theorem x1_1 (t : Nat) : (2 * t + 1) ^^^ 1 = 2 * t := by
  rw [← x1_0, Nat.xor_assoc, Nat.xor_self, Nat.xor_zero]
theorem br_own {A : Tn} (hw : WF A) (p : Nat) : ct (fun i => ow A i == p) (2 * A 0 1) = ct (fun t => owB A p t) (A 0 1) := by
  rw [ct_two, ct_fs]
  apply fsN_congr
  intro t ht
  have h1 := (hw.t ht).2.2.1
  simp only [ow_0, ow_1, owB]
  by_cases e1 : A 7 t = p <;> by_cases e2 : A 8 t = p
  · exact absurd (e1.trans e2.symm) h1
  · simp [e1, e2]
  · simp [e1, e2]
  · simp [e1, e2]
theorem br_shared {A : Tn} (hw : WF A) {a b : Nat} (hab : a ≠ b) : ct (fun i => ow A i == a && ow A (i ^^^ 1) == b) (2 * A 0 1) = ct (fun t => owB A a t && owB A b t) (A 0 1) := by
  rw [ct_two, ct_fs]
  apply fsN_congr
  intro t ht
  have h1 := (hw.t ht).2.2.1
  simp only [ow_0, ow_1, owB, x1_0, x1_1]
  by_cases e1 : A 7 t = a <;> by_cases e2 : A 8 t = a <;> by_cases e3 : A 7 t = b <;> by_cases e4 : A 8 t = b <;> first | omega | simp [e1, e2, e3, e4] | skip
  all_goals (simp_all)
theorem br_content {A : Tn} (hw : WF A) (p : Nat) : smI (fun i => if ow A i = p then nI (A 4 (12 * p + ow A (i ^^^ 1))) - 9 else 0) (2 * A 0 1) = smI (fun t => if owB A p t = true then nI (A 4 (12 * p + if A 7 t = p then A 8 t else A 7 t)) - 9 else 0) (A 0 1) := by
  rw [smI_two]
  apply smI_congr
  intro t ht
  have h1 := (hw.t ht).2.2.1
  simp only [ow_0, ow_1, owB, x1_0, x1_1]
  by_cases e1 : A 7 t = p <;> by_cases e2 : A 8 t = p
  · exact absurd (e1.trans e2.symm) h1
  · simp [e1, e2]
  · simp [e1, e2]
  · simp [e1, e2]
theorem ct_zero {P : Nat → Bool} (m : Nat) : ∀ n, (∀ i, m ≤ i → i < m + n → P i = false) → ct P (m + n) = ct P m
  | 0, _ => rfl
  | n + 1, h => by
    show ct P (m + n) + (if P (m + n) then 1 else 0) = ct P m
    rw [ct_zero m n (fun i h1 h2 => h i h1 (by omega)), h (m + n) (by omega) (by omega)]
    simp
theorem pop_lt {m n : Nat} (hm : m < 2 ^ n) (hn : n ≤ 32) : pop m = ct (fun i => m.testBit i) n := by
  unfold pop
  have e : 32 = n + (32 - n) := by omega
  rw [e]
  apply ct_zero
  intro i h1 _
  exact Nat.testBit_lt_two_pow (Nat.lt_of_lt_of_le hm (Nat.pow_le_pow_right (by decide) h1))
theorem pop_bN (f : Nat → Bool) {n : Nat} (hn : n ≤ 32) : pop (bN f n) = ct f n := by
  rw [pop_lt (bN_lt f n) hn]
  apply ct_congr
  intro i hi
  show (bN f n).testBit i = f i
  rw [bN_bit]
  simp [hi]
theorem fs_b1 {f : Nat → Nat} : ∀ {n : Nat}, (∀ i, i < n → f i ≤ 1) → fsN f n = ct (fun i => f i == 1) n
  | 0, _ => rfl
  | n + 1, h => by
    unfold fsN ct
    rw [fs_b1 (fun i hi => h i (by omega))]
    have := h n (by omega)
    by_cases e : f n = 1
    · simp [e]
    · have e2 : f n = 0 := by omega
      simp [e2]
/-- how many one is at odds with -/
def odN (A : Tn) (p : Nat) : Nat := fsN (fun o => A 5 (12 * p + o)) 12
theorem br_near {A : Tn} (hw : WF A) {p : Nat} (hp : p < 12) : pop (foeB A p) = odN A p := by
  unfold foeB odN
  rw [pop_bN _ (by decide), fs_b1 (fun i hi => hw.qu (by omega))]
theorem ct_pos {P : Nat → Bool} : ∀ {n : Nat}, 0 < ct P n ↔ ∃ k, k < n ∧ P k = true
  | 0 => by simp [ct]
  | n + 1 => by
    unfold ct
    constructor
    · intro h
      by_cases e : P n = true
      · exact ⟨n, by omega, e⟩
      · rw [if_neg e] at h
        obtain ⟨k, h1, h2⟩ := ct_pos.mp h
        exact ⟨k, by omega, h2⟩
    · rintro ⟨k, h1, h2⟩
      by_cases hk : k = n
      · subst hk; rw [if_pos h2]; omega
      · have := ct_pos.mpr ⟨k, (show k < n by omega), h2⟩
        omega
def mtB (A : Tn) (p : Nat) : Nat := ct (fun o => !(o == p) && decide (0 < ct (fun t => owB A p t && owB A o t) (A 0 1))) 12
theorem br_mates {A : Tn} (hw : WF A) {p : Nat} (hp : p < 12) : pop (orN (fun i => if ow A i = p then 2 ^ ow A (i ^^^ 1) else 0) (2 * A 0 1)) = mtB A p := by
  have hT := hw.th
  have hor : orN (fun i => if ow A i = p then 2 ^ ow A (i ^^^ 1) else 0) (2 * A 0 1) < 2 ^ 12 := by
    apply orN_lt
    intro k hk
    have o2 := hw.ow12 (i := k ^^^ 1) (by have := x1_lt (i := k) (n := 24) (by omega); omega)
    split
    · exact Nat.pow_lt_pow_right (by decide) o2
    · decide
  rw [pop_lt hor (by decide)]
  unfold mtB
  apply ct_congr
  intro o ho
  show (orN _ _).testBit o = _
  rw [orN_bit, Bool.eq_iff_iff]
  simp only [decide_eq_true_eq, Bool.and_eq_true, Bool.not_eq_true', beq_eq_false_iff_ne, ct_pos, owB, Bool.or_eq_true, beq_iff_eq]
  constructor
  · rintro ⟨k, h1, h2⟩
    by_cases e : ow A k = p
    · rw [if_pos e, Nat.testBit_two_pow] at h2
      simp only [decide_eq_true_eq] at h2
      have ht := hw.t (t := k / 2) (by omega)
      by_cases hk : k % 2 = 0
      · have ek : k = 2 * (k / 2) := by omega
        rw [ek, ow_0] at e
        rw [ek, x1_0, ow_1] at h2
        refine ⟨by omega, k / 2, by omega, by omega, by omega⟩
      · have ek : k = 2 * (k / 2) + 1 := by omega
        rw [ek, ow_1] at e
        rw [ek, x1_1, ow_0] at h2
        refine ⟨by omega, k / 2, by omega, by omega, by omega⟩
    · rw [if_neg e] at h2
      simp at h2
  · rintro ⟨hne, t, h1, h2, h3⟩
    by_cases e : A 7 t = p
    · refine ⟨2 * t, by omega, ?_⟩
      rw [ow_0, if_pos e, x1_0, ow_1, Nat.testBit_two_pow]
      simp only [decide_eq_true_eq]
      omega
    · refine ⟨2 * t + 1, by omega, ?_⟩
      rw [ow_1, if_pos (by omega), x1_1, ow_0, Nat.testBit_two_pow]
      simp only [decide_eq_true_eq]
      omega
theorem fsN_add (f : Nat → Nat) (m : Nat) : ∀ n, fsN f (m + n) = fsN f m + fsN (fun i => f (m + i)) n
  | 0 => rfl
  | n + 1 => by
    show fsN f (m + n) + f (m + n) = fsN f m + (fsN (fun i => f (m + i)) n + f (m + n))
    rw [fsN_add f m n, Nat.add_assoc]
theorem fsN_mul (f : Nat → Nat) (m : Nat) : ∀ n, fsN f (m * n) = fsN (fun a => fsN (fun b => f (m * a + b)) m) n
  | 0 => rfl
  | n + 1 => by
    rw [Nat.mul_succ, fsN_add, fsN_mul f m n]
    rfl
theorem fsN_zero {f : Nat → Nat} (m : Nat) : ∀ n, (∀ i, m ≤ i → i < m + n → f i = 0) → fsN f (m + n) = fsN f m
  | 0, _ => rfl
  | n + 1, h => by
    show fsN f (m + n) + f (m + n) = fsN f m
    rw [fsN_zero m n (fun i h1 h2 => h i h1 (by omega)), h (m + n) (by omega) (by omega)]
    rfl
theorem br_odds {A : Tn} (hw : WF A) : fsN (fun p => pop (foeB A p)) (A 0 0) = fsN (fun k => A 5 k) 144 := by
  have hP := hw.pe
  have e : fsN (fun k => A 5 k) 144 = fsN (fun a => fsN (fun b => A 5 (12 * a + b)) 12) 12 := fsN_mul (fun k => A 5 k) 12 12
  rw [e]
  have e2 : fsN (fun a => fsN (fun b => A 5 (12 * a + b)) 12) 12 = fsN (fun a => fsN (fun b => A 5 (12 * a + b)) 12) (A 0 0) := by
    have := fsN_zero (f := fun a => fsN (fun b => A 5 (12 * a + b)) 12) (A 0 0) (12 - A 0 0) (by
      intro i h1 h2
      show fsN (fun b => A 5 (12 * i + b)) 12 = 0
      have : fsN (fun b => A 5 (12 * i + b)) (0 + 12) = fsN (fun b => A 5 (12 * i + b)) 0 := by
        apply fsN_zero
        intro b _ hb
        have h3 := hw.qu (i := 12 * i + b) (by omega)
        by_cases h4 : A 5 (12 * i + b) = 1
        · have := (hw.qp (a := i) (b := b) (by omega) (by omega) h4).1
          omega
        · omega
      exact this)
    rw [show A 0 0 + (12 - A 0 0) = 12 by omega] at this
    exact this
  rw [e2]
  apply fsN_congr
  intro p hp
  exact br_near hw (by omega)
