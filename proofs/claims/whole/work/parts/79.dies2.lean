/-! one dies: the whole of it -/
def dA1 (A : Tn) (o : Nat) : Tn := uT A 2 o 0
def dLn (A : Tn) (o : Nat) : List Nat := hlF (dA1 A o) 12 [] (A 3 o)
def dTo (A : Tn) (o : Nat) : Nat := (toF (dA1 A o) (dLn A o)).getD 0
def dA3 (A : Tn) (o : Nat) : Tn := uT (uT (dA1 A o) 1 (dTo A o) (rc (A 1 (dTo A o) + A 1 o))) 1 o 0
def dA4 (A : Tn) (o : Nat) : Tn := clF (dA3 A o) o 12
def dF (A : Tn) (o : Nat) : Tn × Nat := hoF (dA4 A o) (dLn A o) o (2 * A 0 1) 0 (dA4 A o) 0
section DI
variable {A : Tn} {o : Nat}
theorem dA4_f {f : Nat} (h1 : f ≠ 1) (h2 : f ≠ 2) (h5 : f ≠ 5) : dA4 A o f = A f := by
  unfold dA4
  rw [clF_f h5]
  funext i
  unfold dA3 dA1
  rw [uT_r, if_neg (by omega), uT_r, if_neg (by omega), uT_r, if_neg (by omega)]
theorem dA4_2 : dA4 A o 2 = dA1 A o 2 := by
  unfold dA4
  rw [clF_f (by decide)]
  funext i
  unfold dA3
  rw [uT_r, if_neg (by omega), uT_r, if_neg (by omega)]
theorem dA1_2 (p : Nat) : dA1 A o 2 p = if p = o then 0 else A 2 p := by
  unfold dA1
  rw [uT_r]
  simp
theorem dLn_W (hw : WF A) (ho : o < A 0 0) : LW (dLn A o) ∧ ∀ p, p ∈ dLn A o → p < A 0 0 := by
  have := hlF_W (B := dA1 A o) hw.pe (fun p hp => hw.heP hp) (m := 12) (l := []) (x := A 3 o) LW.nil (hw.heP ho) (fun p hp => by simp at hp)
  exact this
theorem d_two (hw : WF A) (ho : o < 12) (hal : A 2 o = 1) (h3 : 3 ≤ fsN (fun p => A 2 p) 12) : ∀ m, ∃ p, p < 12 ∧ dA1 A o 2 p = 1 ∧ p ≠ m := by
  intro m
  have e1 : fsN (fun p => A 2 p) 12 = ct (fun p => A 2 p == 1) 12 := fs_b1 (fun i hi => hw.lv hi)
  have e2 : ct (fun p => A 2 p == 1) 12 = ct (fun p => dA1 A o 2 p == 1) 12 + 1 := ct_ins ho (by rw [dA1_2, if_pos rfl]; rfl) (by simp [hal]) (fun k _ hk => by rw [dA1_2, if_neg hk])
  have e3 : ct (fun p => dA1 A o 2 p == 1) 12 ≤ ct (fun p => dA1 A o 2 p == 1 && !(p == m)) 12 + 1 := by
    by_cases hm : m < 12 ∧ dA1 A o 2 m = 1
    · rw [ct_ins (P := fun p => dA1 A o 2 p == 1 && !(p == m)) hm.1 (by simp) (by simp [hm.2]) (fun k _ hk => by simp [hk])]
      omega
    · have : ct (fun p => dA1 A o 2 p == 1) 12 = ct (fun p => dA1 A o 2 p == 1 && !(p == m)) 12 := by
        apply ct_congr
        intro p hp
        by_cases q : p = m
        · subst q
          have : ¬ dA1 A o 2 p = 1 := fun q => hm ⟨hp, q⟩
          simp [this]
        · simp [q]
      omega
  have e4 : 0 < ct (fun p => dA1 A o 2 p == 1 && !(p == m)) 12 := by omega
  obtain ⟨p, hp, h5⟩ := ct_pos.mp e4
  simp only [Bool.and_eq_true, beq_iff_eq, Bool.not_eq_true', beq_eq_false_iff_ne] at h5
  exact ⟨p, hp, h5.1, h5.2⟩
theorem d_lv (hw : WF A) {p : Nat} (hp : p < 12) (h : dA1 A o 2 p = 1) : p < A 0 0 ∧ p ≠ o := by
  rw [dA1_2] at h
  split at h
  · cases h
  · rename_i e
    exact ⟨hw.lvp hp h, e⟩
theorem d_TK (hw : WF A) (ho : o < A 0 0) (hal : A 2 o = 1) (h3 : 3 ≤ fsN (fun p => A 2 p) 12) : TK (dA4 A o) (dLn A o) o := by
  have hP := hw.pe
  intro m
  obtain ⟨l1, l2⟩ := dLn_W hw ho
  have c0 : dA4 A o 0 = A 0 := dA4_f (by decide) (by decide) (by decide)
  have key : ∃ p, tkO (dA4 A o) (dLn A o) m = some p ∧ p < 12 ∧ dA4 A o 2 p = 1 ∧ p ≠ m := by
    unfold tkO
    cases hf : (dLn A o).find? (fun p => dA4 A o 2 p == 1 && !(p == m)) with
    | some p =>
      have h1 := List.find?_some hf
      have h2 := List.mem_of_find?_eq_some hf
      simp only [Bool.and_eq_true, beq_iff_eq, Bool.not_eq_true', beq_eq_false_iff_ne] at h1
      exact ⟨p, rfl, l1.1 p h2, h1.1, h1.2⟩
    | none =>
      cases hm : mlF (dA4 A o) m 12 with
      | some p =>
        have := mlF_p hm
        exact ⟨p, rfl, this.1, this.2.1, this.2.2⟩
      | none =>
        obtain ⟨p, q1, q2, q3⟩ := d_two hw (by omega) hal h3 m
        exact absurd ⟨by rw [dA4_2]; exact q2, q3⟩ (mlF_n hm p q1)
  obtain ⟨p, k1, k2, k3, k4⟩ := key
  have := d_lv hw k2 (by rw [← dA4_2]; exact k3)
  exact ⟨p, k1, k2, by rw [c0]; exact this.1, k3, k4, this.2⟩
theorem d_HO (hw : WF A) (ho : o < A 0 0) : HO (dA4 A o) o 0 (dA4 A o) := by
  have c0 : dA4 A o 0 = A 0 := dA4_f (by decide) (by decide) (by decide)
  have c7 : dA4 A o 7 = A 7 := dA4_f (by decide) (by decide) (by decide)
  have c8 : dA4 A o 8 = A 8 := dA4_f (by decide) (by decide) (by decide)
  have co : ∀ k, ow (dA4 A o) k = ow A k := fun k => by unfold ow; rw [c7, c8]
  refine ⟨fun _ _ _ => rfl, fun k hk => by rw [co]; exact hw.ow12 hk, fun k hk => ?_⟩
  rw [c0] at hk ⊢
  have h1 := hw.ow hk
  rw [co, co, dA4_2, dA1_2]
  refine ⟨h1.1, h1.2.2, ?_, fun q => by omega⟩
  by_cases e : ow A k = o
  · exact Or.inr e
  · rw [if_neg e]
    exact Or.inl h1.2.1
theorem d_to (hw : WF A) (ho : o < A 0 0) (hal : A 2 o = 1) (h3 : 3 ≤ fsN (fun p => A 2 p) 12) : toF (dA1 A o) (dLn A o) = some (dTo A o) ∧ dTo A o < A 0 0 ∧ dTo A o ≠ o ∧ ∃ b, flF (dA1 A o) 12 = some b := by
  have hP := hw.pe
  obtain ⟨l1, l2⟩ := dLn_W hw ho
  obtain ⟨p, q1, q2, q3⟩ := d_two hw (by omega) hal h3 o
  obtain ⟨b, hb⟩ := flF_t q1 q2
  have key : ∃ p, toF (dA1 A o) (dLn A o) = some p ∧ p < 12 ∧ dA1 A o 2 p = 1 := by
    unfold toF
    cases hf : (dLn A o).find? (fun p => dA1 A o 2 p == 1) with
    | some p =>
      have h1 := List.find?_some hf
      have h2 := List.mem_of_find?_eq_some hf
      exact ⟨p, rfl, l1.1 p h2, by simpa using h1⟩
    | none =>
      have := flF_p hb
      exact ⟨b, hb, this.1, this.2.1⟩
  obtain ⟨p', k1, k2, k3⟩ := key
  have e : dTo A o = p' := by unfold dTo; rw [k1]; rfl
  rw [e]
  have := d_lv hw k2 k3
  exact ⟨k1, this.1, this.2, b, hb⟩
theorem d_W (hw : WF A) (ho : o < A 0 0) (hal : A 2 o = 1) (h3 : 3 ≤ fsN (fun p => A 2 p) 12) : WF (dF A o).1 := by
  have hP := hw.pe
  have hT := hw.th
  have c0 : dA4 A o 0 = A 0 := dA4_f (by decide) (by decide) (by decide)
  have hH := hoF_H (C := dA4 A o) (l := dLn A o) (o := o) (by rw [c0]; exact hT) (d_TK hw ho hal h3) (m := 2 * A 0 1) (i := 0) (B := dA4 A o) (c := 0) (by rw [c0]; omega) (d_HO hw ho)
  have hH' : HO (dA4 A o) o (2 * A 0 1) (dF A o).1 := by rw [c0] at hH; exact hH
  generalize (dF A o).1 = F at hH' ⊢
  obtain ⟨g1, g2, g3⟩ := hH'
  have e0 : F 0 = A 0 := by rw [g1 0 (by decide) (by decide), c0]
  have e2 : ∀ p, F 2 p = if p = o then 0 else A 2 p := fun p => by rw [g1 2 (by decide) (by decide), dA4_2, dA1_2]
  have e3 : F 3 = A 3 := by rw [g1 3 (by decide) (by decide), dA4_f (by decide) (by decide) (by decide)]
  have e4 : F 4 = A 4 := by rw [g1 4 (by decide) (by decide), dA4_f (by decide) (by decide) (by decide)]
  have e9 : F 9 = A 9 := by rw [g1 9 (by decide) (by decide), dA4_f (by decide) (by decide) (by decide)]
  have e10 : F 10 = A 10 := by rw [g1 10 (by decide) (by decide), dA4_f (by decide) (by decide) (by decide)]
  have e11 : F 11 = A 11 := by rw [g1 11 (by decide) (by decide), dA4_f (by decide) (by decide) (by decide)]
  have e12 : F 12 = A 12 := by rw [g1 12 (by decide) (by decide), dA4_f (by decide) (by decide) (by decide)]
  have e13 : F 13 = A 13 := by rw [g1 13 (by decide) (by decide), dA4_f (by decide) (by decide) (by decide)]
  have e14 : F 14 = A 14 := by rw [g1 14 (by decide) (by decide), dA4_f (by decide) (by decide) (by decide)]
  have e15 : F 15 = A 15 := by rw [g1 15 (by decide) (by decide), dA4_f (by decide) (by decide) (by decide)]
  have e1 : ∀ p, p < 12 → F 1 p ≤ 99999 := fun p hp => by
    rw [g1 1 (by decide) (by decide)]
    unfold dA4
    rw [clF_f (by decide)]
    unfold dA3 dA1
    rw [uT_r]
    split
    · omega
    · rw [uT_r]
      split
      · exact rc_le _
      · rw [uT_r, if_neg (by omega)]
        exact hw.co hp
  have wc := clF_W hw ho (A 0 0) (Nat.le_refl _)
  have e5 : F 5 = clF A o (A 0 0) 5 := by
    rw [g1 5 (by decide) (by decide)]
    unfold dA4
    rw [clF_5 (A := A) (C := dA3 A o) (by funext i; unfold dA3 dA1; rw [uT_r, if_neg (by omega), uT_r, if_neg (by omega), uT_r, if_neg (by omega)])]
    have := clF_ex (o := o) hw (by omega) (12 - A 0 0) (by omega) A rfl
    rw [show A 0 0 + (12 - A 0 0) = 12 by omega] at this
    rw [this]
  have c00 : clF A o (A 0 0) 0 = A 0 := clF_f (by decide) _
  unfold WF
  rw [e0, e3, e4, e5, e9, e10, e11, e12, e13, e14, e15]
  refine ⟨hw.1, fun p hp => ?_, fun i hi => ⟨hw.li hi, wc.qu hi⟩, fun a b ha hb => ?_, fun t ht => ?_, hw.2.2.2.2.2.1, hw.2.2.2.2.2.2.1, hw.2.2.2.2.2.2.2.1, fun t ht => ?_, hw.2.2.2.2.2.2.2.2.2⟩
  · have h1 := hw.2.1 p hp
    refine ⟨e1 p hp, ?_, ?_, h1.2.2.2.1, h1.2.2.2.2⟩
    · rw [e2]
      split
      · omega
      · exact h1.2.1
    · rw [e2]
      split
      · intro q; cases q
      · exact h1.2.2.1
  · have h1 := wc.2.2.2.1 a b ha hb
    rw [c00] at h1
    exact h1
  · have h1 := g3 (2 * t) (by rw [c0]; omega)
    have h2 := g3 (2 * t + 1) (by rw [c0]; omega)
    rw [ow_0, x1_0, ow_1, c0, dA4_2, dA1_2] at h1
    rw [ow_1, x1_1, ow_0, c0, dA4_2, dA1_2] at h2
    have n1 := h1.2.2.2 (by omega)
    have n2 := h2.2.2.2 (by omega)
    rw [if_neg n1] at h1
    rw [if_neg n2] at h2
    rw [e2, e2, if_neg n1, if_neg n2]
    exact ⟨h1.1, h2.1, h1.2.1, (hw.t ht).2.2.2.1, h1.2.2.1.resolve_right n1, h2.2.2.1.resolve_right n2⟩
  · have h1 := g2 (2 * t) (by omega)
    have h2 := g2 (2 * t + 1) (by omega)
    rw [ow_0] at h1
    rw [ow_1] at h2
    exact ⟨h1, h2⟩
end DI
