/-! the best of works that don't clash -/
def lowB (s : Nat) : Nat := th s 0
theorem lowB_p {s : Nat} (hs : s < 2 ^ 12) (h0 : s ≠ 0) : s.testBit (lowB s) = true ∧ (∀ i, i < lowB s → s.testBit i = false) ∧ lowB s < 12 := by
  obtain ⟨i, hi⟩ := nz_bit h0
  have hi12 : i < 12 := by
    apply Classical.byContradiction
    intro hn
    rw [tb_hi hs (i := i) (by omega)] at hi
    cases hi
  have hpos : 0 < ct (fun i => s.testBit i) 24 := ct_pos.mpr ⟨i, by omega, hi⟩
  obtain ⟨t, h1, h2, h3⟩ := ct_nth hpos
  have h3' : ctp s t = 0 := h3
  have e : lowB s = t := by
    unfold lowB
    rw [← h3', th_rk h1 h2]
  rw [e]
  refine ⟨h2, fun i hi => ?_, ?_⟩
  · cases c : s.testBit i with
    | false => rfl
    | true =>
      have : 0 < ct (fun i => s.testBit i) t := ct_pos.mpr ⟨i, hi, c⟩
      have h4 : ct (fun i => s.testBit i) t = 0 := h3
      omega
  · apply Classical.byContradiction
    intro hn
    rw [tb_hi hs (i := t) (by omega)] at h2
    cases h2
theorem low_pred : ∀ {k s : Nat}, s.testBit k = true → (∀ i, i < k → s.testBit i = false) → ∀ i, (s - 1).testBit i = if i < k then true else if i = k then false else s.testBit i
  | 0, s, h1, _, i => by
    rw [Nat.testBit_zero] at h1
    simp only [decide_eq_true_eq] at h1
    rw [if_neg (by omega)]
    cases i with
    | zero =>
      rw [if_pos rfl, Nat.testBit_zero]
      have : (s - 1) % 2 = 0 := by omega
      simp [this]
    | succ i =>
      rw [if_neg (by omega), Nat.testBit_succ, Nat.testBit_succ, show (s - 1) / 2 = s / 2 by omega]
  | k + 1, s, h1, h2, i => by
    have h0 := h2 0 (by omega)
    rw [Nat.testBit_zero] at h0
    simp only [decide_eq_false_iff_not] at h0
    rw [Nat.testBit_succ] at h1
    have hs : s / 2 ≠ 0 := by
      intro e
      rw [e, Nat.zero_testBit] at h1
      cases h1
    have ih := low_pred (k := k) (s := s / 2) h1 (fun i hi => by rw [← Nat.testBit_succ]; exact h2 (i + 1) (by omega))
    cases i with
    | zero =>
      rw [if_pos (by omega), Nat.testBit_zero]
      have : (s - 1) % 2 = 1 := by omega
      simp [this]
    | succ i =>
      rw [Nat.testBit_succ, Nat.testBit_succ, show (s - 1) / 2 = s / 2 - 1 by omega, ih i]
      by_cases c1 : i < k
      · rw [if_pos c1, if_pos (show i + 1 < k + 1 by omega)]
      · by_cases c2 : i = k
        · rw [if_neg c1, if_pos c2, if_neg (show ¬ i + 1 < k + 1 by omega), if_pos (show i + 1 = k + 1 by omega)]
        · rw [if_neg c1, if_neg c2, if_neg (show ¬ i + 1 < k + 1 by omega), if_neg (show ¬ i + 1 = k + 1 by omega)]
def rst (s : Nat) : Nat := s &&& (s - 1)
theorem rst_bit {s : Nat} (hs : s < 2 ^ 12) (h0 : s ≠ 0) (i : Nat) : (rst s).testBit i = (s.testBit i && !(i == lowB s)) := by
  obtain ⟨h1, h2, h3⟩ := lowB_p hs h0
  unfold rst
  rw [Nat.testBit_and, low_pred h1 h2]
  by_cases c1 : i < lowB s
  · rw [if_pos c1, h2 i c1]; rfl
  · rw [if_neg c1]
    by_cases c2 : i = lowB s
    · rw [if_pos c2]; simp [c2]
    · rw [if_neg c2]
      have : (i == lowB s) = false := by simp [c2]
      rw [this]
      cases s.testBit i <;> rfl
theorem rst_lt {s n : Nat} (h : s < 2 ^ n) : rst s < 2 ^ n := Nat.lt_of_le_of_lt Nat.and_le_left h
theorem rst_ct {s : Nat} (hs : s < 2 ^ 12) (h0 : s ≠ 0) : ctp (rst s) 12 + 1 = ctp s 12 := by
  obtain ⟨h1, h2, h3⟩ := lowB_p hs h0
  have := ct_ins (P := fun i => (rst s).testBit i) (P' := fun i => s.testBit i) h3 (by show (rst s).testBit _ = false; rw [rst_bit hs h0]; simp) h1 (fun k _ hk => by
    show s.testBit k = (rst s).testBit k
    rw [rst_bit hs h0]
    have : (k == lowB s) = false := by simp [hk]
    rw [this]; simp)
  exact this.symm
def smZ (f : Nat → Int) : Nat → Int
  | 0 => 0
  | n + 1 => smZ f n + f n
theorem smZ_s (f : Nat → Int) (n : Nat) : smZ f (n + 1) = smZ f n + f n := rfl
theorem smZ_1 {f f' : Nat → Int} {t : Nat} : ∀ {n : Nat}, t < n → (∀ k, k < n → k ≠ t → f' k = f k) → smZ f' n = smZ f n - f t + f' t
  | 0, h, _ => by omega
  | n + 1, h, hk => by
    rw [smZ_s, smZ_s]
    by_cases e : t = n
    · subst e
      have : ∀ m, m ≤ t → smZ f' m = smZ f m := by
        intro m
        induction m with
        | zero => intro _; rfl
        | succ m ih => intro hm; rw [smZ_s, smZ_s, ih (by omega), hk m (by omega) (by omega)]
      rw [this t (by omega)]
      omega
    · rw [smZ_1 (n := n) (by omega) (fun k h1 h2 => hk k (by omega) h2), hk n (by omega) (by omega)]
      omega
theorem smZ_cg {f g : Nat → Int} : ∀ {n : Nat}, (∀ i, i < n → f i = g i) → smZ f n = smZ g n
  | 0, _ => rfl
  | n + 1, h => by rw [smZ_s, smZ_s, smZ_cg (fun i hi => h i (by omega)), h n (by omega)]
def sumS (v : Nat → Int) (X : Nat) : Int := smZ (fun i => if X.testBit i = true then v i else 0) 12
theorem sumS_0 (v : Nat → Int) : sumS v 0 = 0 := by
  unfold sumS
  have : ∀ n, smZ (fun i => if (0 : Nat).testBit i = true then v i else 0) n = 0 := by
    intro n
    induction n with
    | zero => rfl
    | succ n ih => rw [smZ_s, ih]; simp
  exact this 12
theorem sumS_ins {v : Nat → Int} {X Y k : Nat} (hk : k < 12) (hX : X.testBit k = false) (hY : ∀ i, Y.testBit i = (X.testBit i || i == k)) : sumS v Y = v k + sumS v X := by
  unfold sumS
  rw [smZ_1 (f := fun i => if X.testBit i = true then v i else 0) (f' := fun i => if Y.testBit i = true then v i else 0) hk (fun i _ hi => by
    have : (i == k) = false := by simp [hi]
    show (if Y.testBit i = true then v i else 0) = (if X.testBit i = true then v i else 0)
    rw [hY i, this, Bool.or_false])]
  have e1 : Y.testBit k = true := by rw [hY]; simp
  rw [hX, e1]
  simp only [Bool.false_eq_true, if_false, if_true]
  omega
def Ind (cl : Nat → Nat → Bool) (X : Nat) : Prop := ∀ a b, X.testBit a = true → X.testBit b = true → a ≠ b → cl a b = false
def Sub (X s : Nat) : Prop := ∀ i, X.testBit i = true → s.testBit i = true
theorem Sub.lt {X s n : Nat} (h : Sub X s) (hs : s < 2 ^ n) : X < 2 ^ n := by
  apply lt_tb
  intro i hi
  cases c : X.testBit i with
  | false => rfl
  | true =>
    have := h i c
    rw [tb_hi hs hi] at this
    cases this
def bsI (v : Nat → Int) (C : Nat → Nat) : Nat → Nat → Int
  | 0, _ => 0
  | n + 1, s => if s = 0 then 0 else if rst s &&& C (lowB s) = 0 then v (lowB s) + bsI v C n (dif (rst s) (C (lowB s))) else max (v (lowB s) + bsI v C n (dif (rst s) (C (lowB s)))) (bsI v C n (rst s))
theorem bsI_s (v : Nat → Int) (C : Nat → Nat) (n s : Nat) : bsI v C (n + 1) s = if s = 0 then 0 else if rst s &&& C (lowB s) = 0 then v (lowB s) + bsI v C n (dif (rst s) (C (lowB s))) else max (v (lowB s) + bsI v C n (dif (rst s) (C (lowB s)))) (bsI v C n (rst s)) := rfl
theorem bsI_0 (v : Nat → Int) (C : Nat → Nat) : ∀ n, bsI v C n 0 = 0
  | 0 => rfl
  | n + 1 => by rw [bsI_s, if_pos rfl]
theorem bsI_lo {v : Nat → Int} {C : Nat → Nat} {W : Nat} (hW : W ≤ 12) (hv : ∀ k, k < W → 0 ≤ v k) : ∀ {n s : Nat}, s < 2 ^ W → 0 ≤ bsI v C n s
  | 0, _, _ => Int.le_refl _
  | n + 1, s, hs => by
    have hs12 : s < 2 ^ 12 := Nat.lt_of_lt_of_le hs (Nat.pow_le_pow_right (by decide) hW)
    rw [bsI_s]
    by_cases c : s = 0
    · rw [if_pos c]; exact Int.le_refl _
    · rw [if_neg c]
      have hk : lowB s < W := by
        apply Classical.byContradiction
        intro hn
        have := (lowB_p hs12 c).1
        rw [tb_hi hs (i := lowB s) (by omega)] at this
        cases this
      have h1 := hv _ hk
      have h2 := bsI_lo (C := C) hW hv (n := n) (s := dif (rst s) (C (lowB s))) (dif_ltn (rst_lt hs) (by omega))
      have h3 := bsI_lo (C := C) hW hv (n := n) (s := rst s) (rst_lt hs)
      split
      · omega
      · omega
theorem bsI_hi {v : Nat → Int} {C : Nat → Nat} {W : Nat} (hW : W ≤ 12) (hv : ∀ k, k < W → v k ≤ 2 ^ 36) : ∀ {n s : Nat}, s < 2 ^ W → bsI v C n s ≤ n * 2 ^ 36
  | 0, _, _ => by show (0 : Int) ≤ _; omega
  | n + 1, s, hs => by
    have hs12 : s < 2 ^ 12 := Nat.lt_of_lt_of_le hs (Nat.pow_le_pow_right (by decide) hW)
    rw [bsI_s]
    by_cases c : s = 0
    · rw [if_pos c]; omega
    · rw [if_neg c]
      have hk : lowB s < W := by
        apply Classical.byContradiction
        intro hn
        have := (lowB_p hs12 c).1
        rw [tb_hi hs (i := lowB s) (by omega)] at this
        cases this
      have h1 := hv _ hk
      have h2 := bsI_hi (C := C) hW hv (n := n) (s := dif (rst s) (C (lowB s))) (dif_ltn (rst_lt hs) (by omega))
      have h3 := bsI_hi (C := C) hW hv (n := n) (s := rst s) (rst_lt hs)
      split
      · omega
      · omega
theorem bs_max {v : Nat → Int} {C : Nat → Nat} {cl : Nat → Nat → Bool} {W : Nat} (hW : W ≤ 12) (hv : ∀ k, k < W → 0 ≤ v k) (hC : ∀ k j, k < W → j < W → k ≠ j → (C k).testBit j = cl k j) (hsym : ∀ a b, cl a b = cl b a) : ∀ n s, s < 2 ^ W → ctp s 12 ≤ n → (∃ X, Sub X s ∧ Ind cl X ∧ sumS v X = bsI v C n s) ∧ ∀ X, Sub X s → Ind cl X → sumS v X ≤ bsI v C n s := by
  have zero : ∀ n, (∃ X, Sub X 0 ∧ Ind cl X ∧ sumS v X = bsI v C n 0) ∧ ∀ X, Sub X 0 → Ind cl X → sumS v X ≤ bsI v C n 0 := by
    intro n
    rw [bsI_0]
    refine ⟨⟨0, fun i h => h, fun a b h => by simp at h, sumS_0 v⟩, fun X hX _ => ?_⟩
    have : X = 0 := by
      have := hX.lt (n := 0) (by decide)
      omega
    rw [this, sumS_0]
    exact Int.le_refl _
  intro n
  induction n with
  | zero =>
    intro s hs hc
    have e : s = 0 := by
      apply Classical.byContradiction
      intro c
      have hs12 : s < 2 ^ 12 := Nat.lt_of_lt_of_le hs (Nat.pow_le_pow_right (by decide) hW)
      have := rst_ct hs12 c
      omega
    subst e
    exact zero 0
  | succ n ih =>
    intro s hs hc
    by_cases c : s = 0
    · subst c; exact zero (n + 1)
    · have hs12 : s < 2 ^ 12 := Nat.lt_of_lt_of_le hs (Nat.pow_le_pow_right (by decide) hW)
      obtain ⟨l1, l2, l3⟩ := lowB_p hs12 c
      have hkW : lowB s < W := by
        apply Classical.byContradiction
        intro hn
        rw [tb_hi hs (i := lowB s) (by omega)] at l1
        cases l1
      have hct := rst_ct hs12 c
      have hrl := rst_lt hs
      have hr31 : rst s < 2 ^ 31 := Nat.lt_of_lt_of_le hrl (Nat.pow_le_pow_right (by decide) (by omega))
      have hdl : dif (rst s) (C (lowB s)) < 2 ^ W := dif_ltn hrl (by omega)
      have hdb := fun i => dif_bit hr31 (C (lowB s)) i
      have hdc : ctp (dif (rst s) (C (lowB s))) 12 ≤ n := by
        have : ctp (dif (rst s) (C (lowB s))) 12 ≤ ctp (rst s) 12 := ct_mn (fun i _ h => by
          have h' := h
          rw [hdb] at h'
          simp only [Bool.and_eq_true] at h'
          exact h'.1)
        omega
      obtain ⟨⟨X1, a1, a2, a3⟩, a4⟩ := ih (dif (rst s) (C (lowB s))) hdl hdc
      obtain ⟨⟨X2, b1, b2, b3⟩, b4⟩ := ih (rst s) hrl (by omega)
      have hrs : Sub (rst s) s := fun i h => by
        rw [rst_bit hs12 c] at h
        simp only [Bool.and_eq_true] at h
        exact h.1
      have hdr : Sub (dif (rst s) (C (lowB s))) (rst s) := fun i h => by
        rw [hdb] at h
        simp only [Bool.and_eq_true] at h
        exact h.1
      have hwith : ∃ X, Sub X s ∧ Ind cl X ∧ sumS v X = v (lowB s) + bsI v C n (dif (rst s) (C (lowB s))) := by
        have hXk : X1.testBit (lowB s) = false := by
          cases e : X1.testBit (lowB s) with
          | false => rfl
          | true =>
            have := hdr _ (a1 _ e)
            rw [rst_bit hs12 c] at this
            simp at this
        have hY : ∀ i, (X1 ||| 2 ^ lowB s).testBit i = (X1.testBit i || i == lowB s) := by
          intro i
          rw [Nat.testBit_or, Nat.testBit_two_pow]
          congr 1
          rw [Bool.eq_iff_iff]
          simp only [decide_eq_true_eq, beq_iff_eq]
          exact eq_comm
        have hcl : ∀ j, X1.testBit j = true → cl (lowB s) j = false ∧ j ≠ lowB s := by
          intro j hj
          have h1 := a1 j hj
          have hjW : j < W := by
            apply Classical.byContradiction
            intro hn
            rw [tb_hi hdl (i := j) (by omega)] at h1
            cases h1
          have hne : j ≠ lowB s := by
            intro e
            rw [e, hXk] at hj
            cases hj
          rw [hdb] at h1
          simp only [Bool.and_eq_true, Bool.not_eq_true'] at h1
          rw [hC _ _ hkW hjW (Ne.symm hne)] at h1
          exact ⟨h1.2, hne⟩
        refine ⟨X1 ||| 2 ^ lowB s, fun i h => ?_, fun a b ha hb hab => ?_, ?_⟩
        · rw [hY] at h
          simp only [Bool.or_eq_true, beq_iff_eq] at h
          rcases h with h | h
          · exact hrs _ (hdr _ (a1 _ h))
          · rw [h]; exact l1
        · rw [hY] at ha hb
          simp only [Bool.or_eq_true, beq_iff_eq] at ha hb
          rcases ha with ha | ha <;> rcases hb with hb | hb
          · exact a2 a b ha hb hab
          · rw [hb, hsym]; exact (hcl a ha).1
          · rw [ha]; exact (hcl b hb).1
          · omega
        · rw [sumS_ins l3 hXk hY, a3]
      have hup : ∀ X, Sub X s → Ind cl X → X.testBit (lowB s) = true → sumS v X ≤ v (lowB s) + bsI v C n (dif (rst s) (C (lowB s))) := by
        intro X hX hI hk
        have hX12 : X < 2 ^ 31 := Nat.lt_of_lt_of_le (hX.lt hs) (Nat.pow_le_pow_right (by decide) (by omega))
        have hZ : ∀ i, (dif X (2 ^ lowB s)).testBit i = (X.testBit i && !(i == lowB s)) := by
          intro i
          rw [dif_bit hX12, Nat.testBit_two_pow]
          congr 2
          rw [Bool.eq_iff_iff]
          simp only [decide_eq_true_eq, beq_iff_eq]
          exact eq_comm
        have e1 : sumS v X = v (lowB s) + sumS v (dif X (2 ^ lowB s)) := by
          apply sumS_ins l3
          · rw [hZ]; simp
          · intro i
            rw [hZ]
            by_cases e : i = lowB s
            · rw [e, hk]; simp
            · have : (i == lowB s) = false := by simp [e]
              rw [this]; simp
        have hs1 : Sub (dif X (2 ^ lowB s)) (dif (rst s) (C (lowB s))) := by
          intro i h
          rw [hZ] at h
          simp only [Bool.and_eq_true, Bool.not_eq_true', beq_eq_false_iff_ne] at h
          have hiW : i < W := by
            apply Classical.byContradiction
            intro hn
            rw [tb_hi (hX.lt hs) (i := i) (by omega)] at h
            cases h.1
          rw [hdb, rst_bit hs12 c, hC _ _ hkW hiW (Ne.symm h.2), hI _ _ hk h.1 (Ne.symm h.2), hX i h.1]
          simp [h.2]
        have hI1 : Ind cl (dif X (2 ^ lowB s)) := by
          intro a b ha hb hab
          rw [hZ] at ha hb
          simp only [Bool.and_eq_true] at ha hb
          exact hI a b ha.1 hb.1 hab
        have := a4 _ hs1 hI1
        rw [e1]
        omega
      have hno : ∀ X, Sub X s → X.testBit (lowB s) = false → Sub X (rst s) := by
        intro X hX hk i h
        rw [rst_bit hs12 c, hX i h]
        have : i ≠ lowB s := by
          intro e
          rw [e, hk] at h
          cases h
        simp [this]
      rw [bsI_s, if_neg c]
      by_cases c2 : rst s &&& C (lowB s) = 0
      · rw [if_pos c2]
        have e : dif (rst s) (C (lowB s)) = rst s := by
          apply Nat.eq_of_testBit_eq
          intro i
          rw [hdb]
          have h1 := Nat.testBit_and (rst s) (C (lowB s)) i
          rw [c2, Nat.zero_testBit] at h1
          cases e1 : (rst s).testBit i with
          | false => rfl
          | true =>
            rw [e1, Bool.true_and] at h1
            rw [← h1]; rfl
        refine ⟨hwith, fun X hX hI => ?_⟩
        cases hk : X.testBit (lowB s) with
        | true => exact hup X hX hI hk
        | false =>
          have := b4 X (hno X hX hk) hI
          have h0 := hv _ hkW
          rw [e]
          omega
      · rw [if_neg c2]
        refine ⟨?_, fun X hX hI => ?_⟩
        · by_cases c3 : bsI v C n (rst s) ≤ v (lowB s) + bsI v C n (dif (rst s) (C (lowB s)))
          · obtain ⟨X, x1, x2, x3⟩ := hwith
            exact ⟨X, x1, x2, by rw [x3]; omega⟩
          · exact ⟨X2, fun i h => hrs _ (b1 i h), b2, by rw [b3]; omega⟩
        · cases hk : X.testBit (lowB s) with
          | true =>
            have := hup X hX hI hk
            omega
          | false =>
            have := b4 X (hno X hX hk) hI
            omega
