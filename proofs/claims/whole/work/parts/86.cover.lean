/-! sets without others; the fewest that cover -/
def dif (a b : Nat) : Nat := bN (fun i => a.testBit i && !b.testBit i) 31
theorem dif_lt (a b : Nat) : dif a b < 2 ^ 31 := bN_lt _ _
theorem tb_hi {a n i : Nat} (ha : a < 2 ^ n) (hi : n ≤ i) : a.testBit i = false := Nat.testBit_lt_two_pow (Nat.lt_of_lt_of_le ha (Nat.pow_le_pow_right (by decide) hi))
theorem dif_bit {a : Nat} (ha : a < 2 ^ 31) (b i : Nat) : (dif a b).testBit i = (a.testBit i && !b.testBit i) := by
  unfold dif
  rw [bN_bit]
  by_cases h : i < 31
  · simp [h]
  · have := tb_hi ha (i := i) (by omega)
    simp [h, this]
theorem nI_dif {a b : Nat} (ha : a < 2 ^ 31) : nI a &&& (nI b ^^^ (-nI 1)) = nI (dif a b) := nI_andm (fun i _ => dif_bit ha b i)
theorem dif_0 {a b : Nat} (ha : a < 2 ^ 31) : dif a b = 0 ↔ ∀ i, a.testBit i = true → b.testBit i = true := by
  constructor
  · intro h i hi
    have := dif_bit ha b i
    rw [h, Nat.zero_testBit, hi] at this
    cases e : b.testBit i with
    | true => rfl
    | false => rw [e] at this; cases this
  · intro h
    apply Nat.eq_of_testBit_eq
    intro i
    rw [dif_bit ha, Nat.zero_testBit]
    cases e : a.testBit i with
    | false => rfl
    | true => rw [h i e]; rfl
theorem lt_tb {x n : Nat} (p : ∀ i, n ≤ i → x.testBit i = false) : x < 2 ^ n := Nat.lt_pow_two_of_testBit x (fun i hi => p i hi)
theorem dif_ltn {a b n : Nat} (ha : a < 2 ^ n) (hn : n ≤ 31) : dif a b < 2 ^ n := by
  apply lt_tb
  intro i hi
  rw [dif_bit (Nat.lt_of_lt_of_le ha (Nat.pow_le_pow_right (by decide) hn)), tb_hi ha hi]
  rfl
theorem fz_ex (c : Nat) : ∃ k, c.testBit k = false ∧ ∀ i, ((c + 1).testBit i && !c.testBit i) = decide (i = k) := by
  induction c using Nat.strongRecOn with
  | _ c ih =>
    by_cases e : c % 2 = 0
    · refine ⟨0, ?_, ?_⟩
      · rw [Nat.testBit_zero]; simp [e]
      · intro i
        cases i with
        | zero =>
          have e2 : (c + 1) % 2 = 1 := by omega
          rw [Nat.testBit_zero, Nat.testBit_zero, e, e2]; rfl
        | succ i =>
          rw [Nat.testBit_succ, Nat.testBit_succ, show (c + 1) / 2 = c / 2 by omega]
          cases (c / 2).testBit i <;> simp
    · obtain ⟨k, h1, h2⟩ := ih (c / 2) (by omega)
      refine ⟨k + 1, ?_, ?_⟩
      · rw [Nat.testBit_succ]; exact h1
      · intro i
        cases i with
        | zero =>
          have e2 : (c + 1) % 2 = 0 := by omega
          rw [Nat.testBit_zero, e2]; simp
        | succ i =>
          rw [Nat.testBit_succ, Nat.testBit_succ, show (c + 1) / 2 = c / 2 + 1 by omega, h2 i]
          simp
theorem fz {c W : Nat} (h : c + 1 < 2 ^ W) (hW : W ≤ 31) : ∃ k, k < W ∧ c.testBit k = false ∧ dif (c + 1) c = 2 ^ k := by
  obtain ⟨k, h1, h2⟩ := fz_ex c
  have h31 : c + 1 < 2 ^ 31 := Nat.lt_of_lt_of_le h (Nat.pow_le_pow_right (by decide) hW)
  refine ⟨k, ?_, h1, ?_⟩
  · apply Classical.byContradiction
    intro hn
    have e := h2 k
    rw [tb_hi h (i := k) (by omega)] at e
    simp at e
  · apply Nat.eq_of_testBit_eq
    intro i
    rw [dif_bit h31, h2, Nat.testBit_two_pow, Bool.eq_iff_iff]
    simp only [decide_eq_true_eq]
    exact eq_comm
def orL : List Nat → Nat
  | [] => 0
  | x :: l => x ||| orL l
theorem orL_bit : ∀ {l : List Nat} {i : Nat}, (orL l).testBit i = true ↔ ∃ x, x ∈ l ∧ x.testBit i = true
  | [], i => by simp [orL]
  | y :: l, i => by
    show (y ||| orL l).testBit i = true ↔ _
    rw [Nat.testBit_or, Bool.or_eq_true, orL_bit (l := l)]
    constructor
    · rintro (h | ⟨x, h1, h2⟩)
      · exact ⟨y, by simp, h⟩
      · exact ⟨x, by simp [h1], h2⟩
    · rintro ⟨x, h1, h2⟩
      simp only [List.mem_cons] at h1
      rcases h1 with rfl | h1
      · exact Or.inl h2
      · exact Or.inr ⟨x, h1, h2⟩
theorem orL_lt {n : Nat} : ∀ {l : List Nat}, (∀ x, x ∈ l → x < 2 ^ n) → orL l < 2 ^ n
  | [], _ => Nat.two_pow_pos n
  | x :: l, h => Nat.or_lt_two_pow (h x (by simp)) (orL_lt (fun y hy => h y (by simp [hy])))
/-- the works that are not done -/
def opB (A : Tn) : Nat := bN (fun w => A 14 w == 0) (A 0 2)
def PrA (A : Tn) (x : Nat) : Prop := x ≠ 0 ∧ ∃ a b, a < A 0 0 ∧ b < A 0 0 ∧ a ≠ b ∧ x = ndS A a b
def LstP (A : Tn) (u : Nat) : Prop := (∃ l : List Nat, (∀ x, x ∈ l → PrA A x) ∧ orL l = opB A ∧ l.length = u) ∧ ∀ l : List Nat, (∀ x, x ∈ l → PrA A x) → orL l = opB A → u ≤ l.length
theorem LstP.uniq {A : Tn} {u v : Nat} (h : LstP A u) (h' : LstP A v) : u = v := by
  obtain ⟨⟨l, a1, a2, a3⟩, b⟩ := h
  obtain ⟨⟨l', a1', a2', a3'⟩, b'⟩ := h'
  have := b l' a1' a2'
  have := b' l a1 a2
  omega
theorem ndS_sym (A : Tn) (a b : Nat) : ndS A a b = ndS A b a := by
  apply bN_congr
  intro w _
  unfold ndW ndB
  rw [ex_congr]
  intro t _
  unfold ndP
  cases (A 11 w).testBit t <;> cases owB A a t <;> cases owB A b t <;> cases (A 10 w == a) <;> cases (A 10 w == b) <;> rfl
theorem ndS_op {A : Tn} {a b w : Nat} (h : (ndS A a b).testBit w = true) : (opB A).testBit w = true := by
  unfold ndS at h
  unfold opB
  rw [bN_bit] at h ⊢
  unfold ndW at h
  simp only [Bool.and_eq_true] at h ⊢
  exact ⟨h.1, h.2.1⟩
theorem orL_op {A : Tn} {l : List Nat} (h : ∀ x, x ∈ l → PrA A x) {w : Nat} (hb : (orL l).testBit w = true) : (opB A).testBit w = true := by
  obtain ⟨x, h1, h2⟩ := orL_bit.mp hb
  obtain ⟨_, a, b, _, _, _, e⟩ := h x h1
  rw [e] at h2
  exact ndS_op h2
theorem nz_bit {m : Nat} (h : m ≠ 0) : ∃ i, m.testBit i = true := by
  have := and_t (m := m) (n := m)
  rw [Nat.and_self] at this
  obtain ⟨i, h1, _⟩ := this.mp h
  exact ⟨i, h1⟩
theorem cov_1 {A : Tn} (hw : WF A) {w : Nat} (hv : w < A 0 2) (h0 : A 14 w = 0) : ∃ x, PrA A x ∧ x.testBit w = true := by
  have h1 := hw.w hv
  obtain ⟨t, ht⟩ := nz_bit h1.2.2.1
  have htT : t < A 0 1 := by
    apply Classical.byContradiction
    intro hn
    rw [tb_hi h1.2.1 (i := t) (by omega)] at ht
    cases ht
  have h2 := hw.t htT
  have hb : (ndS A (A 7 t) (A 8 t)).testBit w = true := by
    unfold ndS
    rw [bN_bit]
    have e : ndB A w (A 7 t) (A 8 t) = true := ex_t.mpr ⟨t, htT, by simp [ndP, owB, ht]⟩
    simp [hv, ndW, h0, e]
  refine ⟨_, ⟨?_, A 7 t, A 8 t, h2.1, h2.2.1, h2.2.2.1, rfl⟩, hb⟩
  intro e
  rw [e, Nat.zero_testBit] at hb
  cases hb
theorem cov_n {A : Tn} (hw : WF A) : ∀ n, n ≤ A 0 2 → ∃ l : List Nat, (∀ x, x ∈ l → PrA A x) ∧ l.length ≤ n ∧ ∀ w, w < n → A 14 w = 0 → (orL l).testBit w = true
  | 0, _ => ⟨[], by simp, by simp, fun w hw => by omega⟩
  | n + 1, hn => by
    obtain ⟨l, a1, a2, a3⟩ := cov_n hw n (by omega)
    by_cases c : A 14 n = 0
    · obtain ⟨x, b1, b2⟩ := cov_1 hw (w := n) (by omega) c
      refine ⟨x :: l, fun y hy => ?_, by simp; omega, fun w hw h0 => ?_⟩
      · simp only [List.mem_cons] at hy
        rcases hy with rfl | hy
        · exact b1
        · exact a1 y hy
      · show (x ||| orL l).testBit w = true
        rw [Nat.testBit_or, Bool.or_eq_true]
        by_cases e : w = n
        · left; rw [e]; exact b2
        · right; exact a3 w (by omega) h0
    · refine ⟨l, a1, by omega, fun w hw h0 => ?_⟩
      by_cases e : w = n
      · exact absurd (e ▸ h0) c
      · exact a3 w (by omega) h0
theorem op_bit (A : Tn) (w : Nat) : (opB A).testBit w = (decide (w < A 0 2) && A 14 w == 0) := by
  unfold opB
  rw [bN_bit]
theorem cov_ex {A : Tn} (hw : WF A) : ∃ l : List Nat, (∀ x, x ∈ l → PrA A x) ∧ orL l = opB A ∧ l.length ≤ 12 := by
  obtain ⟨l, a1, a2, a3⟩ := cov_n hw (A 0 2) (Nat.le_refl _)
  refine ⟨l, a1, ?_, Nat.le_trans a2 hw.wk⟩
  apply Nat.eq_of_testBit_eq
  intro w
  rw [Bool.eq_iff_iff]
  constructor
  · exact orL_op a1
  · intro h
    rw [op_bit] at h
    simp only [Bool.and_eq_true, decide_eq_true_eq, beq_iff_eq] at h
    exact a3 w h.1 h.2
/-- a family that is as good as all -/
def Fam (A : Tn) (F : List Nat) : Prop := (∀ x, x ∈ F → PrA A x) ∧ ∀ y, PrA A y → ∃ x, x ∈ F ∧ ∀ i, y.testBit i = true → x.testBit i = true
theorem fam_l {A : Tn} {F : List Nat} (hF : Fam A F) : ∀ {l : List Nat}, (∀ x, x ∈ l → PrA A x) → ∃ l' : List Nat, (∀ x, x ∈ l' → x ∈ F) ∧ l'.length = l.length ∧ ∀ i, (orL l).testBit i = true → (orL l').testBit i = true
  | [], _ => ⟨[], by simp, rfl, fun i h => h⟩
  | y :: l, h => by
    obtain ⟨l', a1, a2, a3⟩ := fam_l hF (l := l) (fun x hx => h x (by simp [hx]))
    obtain ⟨x, b1, b2⟩ := hF.2 y (h y (by simp))
    refine ⟨x :: l', fun z hz => ?_, by simp [a2], fun i hi => ?_⟩
    · simp only [List.mem_cons] at hz
      rcases hz with rfl | hz
      · exact b1
      · exact a1 z hz
    · have hi' : (y ||| orL l).testBit i = true := hi
      show (x ||| orL l').testBit i = true
      rw [Nat.testBit_or, Bool.or_eq_true] at hi' ⊢
      rcases hi' with hi | hi
      · exact Or.inl (b2 i hi)
      · exact Or.inr (a3 i hi)
def dRel (F : List Nat) (g : Nat → Nat) (s : Nat) : Prop := g s < 99 → ∀ x, x ∈ F → x &&& dif (s + 1) s ≠ 0 → g (s ||| x) ≤ g s + 1
def dSnd (F : List Nat) (g : Nat → Nat) (d0 W : Nat) : Prop := ∀ c, c < 2 ^ W → g c < 99 → ∃ l : List Nat, (∀ x, x ∈ l → x ∈ F) ∧ l.length = g c ∧ c = d0 ||| orL l
theorem dp_min {F : List Nat} {g : Nat → Nat} {W : Nat} (hW : W ≤ 12) (hF : ∀ x, x ∈ F → x < 2 ^ W) (hg : ∀ c, c < 2 ^ W → g c ≤ 99) (hr : ∀ s, s + 1 < 2 ^ W → dRel F g s) : ∀ n s (l : List Nat), l.length = n → s < 2 ^ W → (∀ x, x ∈ l → x ∈ F) → (∀ i, i < W → s.testBit i = true ∨ (orL l).testBit i = true) → g (2 ^ W - 1) ≤ g s + n := by
  have h2 := Nat.two_pow_pos W
  intro n
  induction n with
  | zero =>
    intro s l hl hs _ hc
    have e : l = [] := List.length_eq_zero_iff.mp hl
    subst e
    have e2 : s = 2 ^ W - 1 := by
      apply Nat.eq_of_testBit_eq
      intro i
      rw [Nat.testBit_two_pow_sub_one]
      by_cases hi : i < W
      · rcases hc i hi with h | h
        · simp [h, hi]
        · simp [orL] at h
      · rw [tb_hi hs (i := i) (by omega)]
        simp [hi]
    rw [e2]
    omega
  | succ n ih =>
    intro s l hl hs hlF hc
    by_cases c1 : g s < 99
    · by_cases c2 : s + 1 < 2 ^ W
      · obtain ⟨k, k1, k2, k3⟩ := fz c2 (by omega)
        have hk : (orL l).testBit k = true := by
          rcases hc k k1 with h | h
          · rw [k2] at h; cases h
          · exact h
        obtain ⟨x, x1, x2⟩ := orL_bit.mp hk
        have r := hr s c2 c1 x (hlF x x1) (by
          rw [k3]
          exact and_t.mpr ⟨k, x2, by rw [Nat.testBit_two_pow]; simp⟩)
        have := ih (s ||| x) (l.erase x) (by rw [List.length_erase_of_mem x1]; omega) (Nat.or_lt_two_pow hs (hF x (hlF x x1))) (fun y hy => hlF y (List.mem_of_mem_erase hy)) (fun i hi => by
          rw [Nat.testBit_or, Bool.or_eq_true]
          rcases hc i hi with h | h
          · exact Or.inl (Or.inl h)
          · obtain ⟨y, y1, y2⟩ := orL_bit.mp h
            by_cases e : y = x
            · subst e; exact Or.inl (Or.inr y2)
            · exact Or.inr (orL_bit.mpr ⟨y, (List.mem_erase_of_ne e).mpr y1, y2⟩))
        omega
      · have e : s = 2 ^ W - 1 := by omega
        rw [e]
        omega
    · have := hg (2 ^ W - 1) (by omega)
      omega
theorem dp_fin {A : Tn} (hw : WF A) {F : List Nat} {g : Nat → Nat} (hF : Fam A F) (hg : ∀ c, c < 2 ^ A 0 2 → g c ≤ 99) (h0 : g (donB A) = 0) (hs : dSnd F g (donB A) (A 0 2)) (hr : ∀ s, s + 1 < 2 ^ A 0 2 → dRel F g s) : LstP A (g (2 ^ A 0 2 - 1)) := by
  have hWk := hw.wk
  have h2 := Nat.two_pow_pos (A 0 2)
  have hFl : ∀ x, x ∈ F → x < 2 ^ A 0 2 := by
    intro x hx
    obtain ⟨_, a, b, _, _, _, e⟩ := hF.1 x hx
    rw [e]
    exact bN_lt _ _
  have hd : ∀ w, (donB A).testBit w = (decide (w < A 0 2) && A 14 w == 1) := by
    intro w
    by_cases c : w < 12
    · rw [donB_bit A c]
      by_cases c2 : w < A 0 2
      · simp [c2]
      · have : A 14 w ≠ 1 := fun e => c2 (hw.dnw c e)
        simp [c2, this]
    · rw [tb_hi (show donB A < 2 ^ 12 from bN_lt _ 12) (i := w) (by omega)]
      have : ¬ w < A 0 2 := by omega
      simp [this]
  have hdl : donB A < 2 ^ A 0 2 := by
    apply lt_tb
    intro i hi
    rw [hd]
    have : ¬ i < A 0 2 := by omega
    simp [this]
  have key : ∀ l : List Nat, (∀ x, x ∈ l → PrA A x) → orL l = opB A → g (2 ^ A 0 2 - 1) ≤ l.length := by
    intro l hl e
    obtain ⟨l', a1, a2, a3⟩ := fam_l hF hl
    have := dp_min hWk hFl hg hr l'.length (donB A) l' rfl hdl a1 (fun i hi => by
      rw [hd]
      by_cases c : A 14 i = 1
      · left; simp [hi, c]
      · right
        apply a3
        rw [e, op_bit]
        have := hw.dn (w := i) (by omega)
        have c0 : A 14 i = 0 := by omega
        simp [hi, c0])
    omega
  refine ⟨?_, key⟩
  obtain ⟨l, b1, b2, b3⟩ := cov_ex hw
  have := key l b1 b2
  obtain ⟨l', c1, c2, c3⟩ := hs (2 ^ A 0 2 - 1) (by omega) (by omega)
  refine ⟨l', fun x hx => hF.1 x (c1 x hx), ?_, c2⟩
  apply Nat.eq_of_testBit_eq
  intro w
  rw [Bool.eq_iff_iff]
  constructor
  · exact orL_op (fun x hx => hF.1 x (c1 x hx))
  · intro h
    rw [op_bit] at h
    simp only [Bool.and_eq_true, decide_eq_true_eq, beq_iff_eq] at h
    have e : (2 ^ A 0 2 - 1).testBit w = true := by rw [Nat.testBit_two_pow_sub_one]; simp [h.1]
    rw [c3, Nat.testBit_or, hd, Bool.or_eq_true] at e
    rcases e with e | e
    · simp [h.2] at e
    · exact e
