/-! what holds between calls -/
abbrev Lw : Type := Nat → Nat → Nat
/-- a law's entry as the class writes it -/
def enc (k n : Nat) : Int32 := match k with
  | 0 => nI n | 1 => -1 - nI n | 2 => -43 | 3 => -45 | 4 => -60 | 5 => -200 | 6 => -61 | 7 => -201 | 8 => -62 | 9 => -202 | 10 => -203 | 13 => -42 | 14 => -47 | _ => -204
/-- a law: L 0: clauses, entries; L 1 sort, L 2 sum, L 3 test, L 4 end of a clause; L 5, L 6 kind and number of an entry -/
def RepLC (S : Sto) (r : Nat) (L : Lw) : Prop := S.1 17 r 0 = nI (L 0 0) ∧ (∀ c, c < L 0 0 → S.1 19 r c = nI (L 1 c) ∧ S.1 20 r c = nI (L 2 c) ∧ S.1 21 r c = nI (L 3 c) ∧ S.1 22 r c = nI (L 4 c)) ∧ ∀ e, e < L 0 1 → S.1 18 r e = enc (L 5 e) (L 6 e)
def RepLM (S : Sto) (r : Nat) (L : Lw) : Prop := S.1 70 0 r = nI (L 0 0) ∧ (∀ c, c < L 0 0 → S.1 71 0 (12 * r + c) = nI (L 1 c) ∧ S.1 72 0 (12 * r + c) = nI (L 2 c) ∧ S.1 73 0 (12 * r + c) = nI (L 3 c) ∧ S.1 74 0 (12 * r + c) = nI (L 4 c)) ∧ ∀ e, e < L 0 1 → S.1 68 0 (300 * r + e) = nI (L 5 e) ∧ S.1 69 0 (300 * r + e) = nI (L 6 e)
/-- what an entry does with the sorts of values: true a truth, false a number -/
def tyO (k n : Nat) (st : List Bool) : Option (List Bool) := match k, st with
  | 0, s => if n ≤ 99999 then some (false :: s) else none
  | 1, s => if n < 11 then some (false :: s) else none
  | 9, true :: s => some (true :: s)
  | 10, true :: true :: s => some (true :: s)
  | 11, true :: true :: s => some (true :: s)
  | 4, false :: false :: s => some (true :: s)
  | 5, false :: false :: s => some (true :: s)
  | 6, false :: false :: s => some (true :: s)
  | 7, false :: false :: s => some (true :: s)
  | 8, false :: false :: s => some (true :: s)
  | 2, false :: false :: s => some (false :: s)
  | 3, false :: false :: s => some (false :: s)
  | 13, false :: false :: s => some (false :: s)
  | 14, false :: false :: s => some (false :: s)
  | _, _ => none
/-- over the entries from e on, m of them -/
def tyR (L : Lw) : Nat → Nat → List Bool → Option (List Bool)
  | 0, _, st => some st
  | m + 1, e, st => match tyO (L 5 e) (L 6 e) st with
    | some s => if s.length ≤ 60 then tyR L m (e + 1) s else none
    | none => none
def WFL (L : Lw) : Prop := L 0 0 ≤ 12 ∧ L 0 1 ≤ 300 ∧ ∀ c, c < L 0 0 → L 1 c < 5 ∧ L 2 c ≤ L 3 c ∧ L 3 c ≤ L 4 c ∧ L 4 c ≤ L 0 1 ∧ tyR L (L 3 c - L 2 c) (L 2 c) [] = some [false] ∧ (L 3 c = L 4 c ∨ tyR L (L 4 c - L 3 c) (L 3 c) [] = some [true])
/-- images, which are made, laws, the tape -/
abbrev Rs : Type := ((Nat → Tn) × (Nat → Bool)) × (Nat × (Nat → Lw)) × (Nat × (Nat → Nat))
def ofs (f : Nat) : Nat := match f with
  | 0 => 0 | 1 => 6 | 2 => 18 | 3 => 30 | 4 => 42 | 5 => 186 | 6 => 330 | 7 => 474 | 8 => 498 | 9 => 522 | 10 => 546 | 11 => 558 | 12 => 570 | 13 => 582 | 14 => 594 | _ => 606
def ResC (S : Sto) (R : Rs) : Prop :=
  (∀ k, k < 4 → S.1 15 0 k = bI (R.1.2 k) ∧ (R.1.2 k = true → RepC S (2 + k) (R.1.1 k))) ∧
  (S.1 0 0 5 = nI R.2.1.1 ∧ ∀ r, r < R.2.1.1 → RepLC S r (R.2.1.2 r)) ∧
  (S.1 24 0 1 = nI R.2.2.1 ∧ ∀ i, i < R.2.2.1 → S.1 25 0 i = nI (R.2.2.2 i)) ∧
  (∀ k, k ∈ [1, 2, 3, 5, 6] → S.2.1 44 0 k = 0)
def ResM (S : Sto) (R : Rs) : Prop :=
  (∀ k, k < 4 → S.1 98 0 k = bI (R.1.2 k) ∧ (R.1.2 k = true → ∀ f i, f < 16 → i < al f → S.1 97 0 (620 * k + ofs f + i) = dcA f (R.1.1 k f i))) ∧
  (S.1 50 0 21 = nI R.2.1.1 ∧ ∀ r, r < R.2.1.1 → RepLM S r (R.2.1.2 r)) ∧
  (S.1 50 0 17 = nI R.2.2.1 ∧ ∀ i, i < R.2.2.1 → S.1 67 0 i = (nI (R.2.2.2 i)).toInt8.toInt32) ∧
  S.1 50 0 26 = nI 11
def WFR (R : Rs) : Prop :=
  (∀ k, k < 4 → R.1.2 k = true → WF (R.1.1 k)) ∧ (R.2.1.1 ≤ 6 ∧ ∀ r, r < R.2.1.1 → WFL (R.2.1.2 r)) ∧ (R.2.2.1 ≤ 400 ∧ ∀ i, i < R.2.2.1 → R.2.2.2 i < 256)
def Inv (S : Sto) (A : Tn) (R : Rs) : Prop := RepC S 0 A ∧ ResC S R ∧ RepM S A ∧ ResM S R ∧ WF A ∧ WFR R
/-- the class's own rows that hold nothing between calls, and its towns 0 and 1 -/
def pcP (t i : Nat) : Bool := (decide (1 ≤ t) && decide (t ≤ 13) && decide (i ≤ 1)) || t == 0 || t == 23 || (decide (26 ≤ t) && decide (t ≤ 42)) || t == 45 || t == 46
def pmP (t _i : Nat) : Bool := (decide (50 ≤ t) && decide (t ≤ 66)) || (decide (75 ≤ t) && decide (t ≤ 96))
def FC (S S' : Sto) : Prop := Fr pcP S S' ∧ S'.1 0 0 5 = S.1 0 0 5
def FM (S S' : Sto) : Prop := Fr pmP S S' ∧ ∀ k, k ∈ [17, 21, 26] → S'.1 50 0 k = S.1 50 0 k
theorem FC.rf {S : Sto} : FC S S := ⟨Fr.rfl', rfl⟩
theorem FM.rf {S : Sto} : FM S S := ⟨Fr.rfl', fun _ _ => rfl⟩
theorem FC.tr {S S' S'' : Sto} (h : FC S S') (h' : FC S' S'') : FC S S'' := ⟨h.1.tr h'.1, h'.2.trans h.2⟩
theorem FM.tr {S S' S'' : Sto} (h : FM S S') (h' : FM S' S'') : FM S S'' := ⟨h.1.tr h'.1, fun k hk => (h'.2 k hk).trans (h.2 k hk)⟩
theorem FC.of {P : Nat → Nat → Bool} {S S' : Sto} (h : Fr P S S') (hp : ∀ t i, P t i = true → pcP t i = true) (h0 : P 0 0 = false) : FC S S' :=
  ⟨h.mn (fun t i e => by cases hq : P t i with
    | false => rfl
    | true => rw [hp t i hq] at e; cases e), h.i h0 5⟩
theorem FM.of {P : Nat → Nat → Bool} {S S' : Sto} (h : Fr P S S') (hp : ∀ t i, P t i = true → pmP t i = true) (h0 : P 50 0 = false) : FM S S' :=
  ⟨h.mn (fun t i e => by cases hq : P t i with
    | false => rfl
    | true => rw [hp t i hq] at e; cases e), fun k _ => h.i h0 k⟩
theorem RepLC.fr {S S' : Sto} {r : Nat} {L : Lw} (h : RepLC S r L) (e : ∀ t, 17 ≤ t → t ≤ 22 → S'.1 t r = S.1 t r) : RepLC S' r L := by
  unfold RepLC at h ⊢
  rw [e 17 (by omega) (by omega), e 18 (by omega) (by omega), e 19 (by omega) (by omega), e 20 (by omega) (by omega), e 21 (by omega) (by omega), e 22 (by omega) (by omega)]
  exact h
theorem RepLM.fr {S S' : Sto} {r : Nat} {L : Lw} (h : RepLM S r L) (e : ∀ t, 68 ≤ t → t ≤ 74 → S'.1 t 0 = S.1 t 0) : RepLM S' r L := by
  unfold RepLM at h ⊢
  rw [e 68 (by omega) (by omega), e 69 (by omega) (by omega), e 70 (by omega) (by omega), e 71 (by omega) (by omega), e 72 (by omega) (by omega), e 73 (by omega) (by omega), e 74 (by omega) (by omega)]
  exact h
theorem pcP_f {t i : Nat} (h : (17 ≤ t ∧ t ≤ 22) ∨ t = 15 ∨ t = 24 ∨ t = 25 ∨ t = 44 ∨ 47 ≤ t ∨ (1 ≤ t ∧ t ≤ 13 ∧ 2 ≤ i)) : pcP t i = false := by
  unfold pcP
  simp only [Bool.or_eq_false_iff, Bool.and_eq_false_iff, decide_eq_false_iff_not, beq_eq_false_iff_ne]
  omega
theorem pmP_f {t i : Nat} (h : t < 50 ∨ (67 ≤ t ∧ t ≤ 74) ∨ 97 ≤ t) : pmP t i = false := by
  unfold pmP
  simp only [Bool.or_eq_false_iff, Bool.and_eq_false_iff, decide_eq_false_iff_not]
  omega
theorem ResC.fc {S S' : Sto} {R : Rs} (h : ResC S R) (hf : FC S S') : ResC S' R := by
  obtain ⟨h1, h2, h3, h4⟩ := h
  refine ⟨fun k hk => ⟨?_, fun hm => ?_⟩, ⟨?_, fun r hr => ?_⟩, ⟨?_, fun i hi => ?_⟩, fun k hk => ?_⟩
  · rw [hf.1.i (pcP_f (by omega))]; exact (h1 k hk).1
  · exact ((h1 k hk).2 hm).fr hf.1 (fun t a b => pcP_f (by omega))
  · rw [hf.2]; exact h2.1
  · exact (h2.2 r hr).fr (fun t a b => (hf.1 t r (pcP_f (by omega))).1)
  · rw [hf.1.i (pcP_f (by omega))]; exact h3.1
  · rw [hf.1.i (pcP_f (by omega))]; exact h3.2 i hi
  · rw [hf.1.l (pcP_f (by omega))]; exact h4 k hk
theorem ResM.fm {S S' : Sto} {R : Rs} (h : ResM S R) (hf : FM S S') : ResM S' R := by
  obtain ⟨h1, h2, h3, h4⟩ := h
  refine ⟨fun k hk => ⟨?_, fun hm f i a b => ?_⟩, ⟨?_, fun r hr => ?_⟩, ⟨?_, fun i hi => ?_⟩, ?_⟩
  · rw [hf.1.i (pmP_f (by omega))]; exact (h1 k hk).1
  · rw [hf.1.i (pmP_f (by omega))]; exact (h1 k hk).2 hm f i a b
  · rw [hf.2 21 (by decide)]; exact h2.1
  · exact (h2.2 r hr).fr (fun t a b => (hf.1 t 0 (pmP_f (by omega))).1)
  · rw [hf.2 17 (by decide)]; exact h3.1
  · rw [hf.1.i (pmP_f (by omega))]; exact h3.2 i hi
  · rw [hf.2 26 (by decide)]; exact h4
theorem RepM.fc {S S' : Sto} {A : Tn} (h : RepM S A) (hf : FC S S') : RepM S' A := h.fr hf.1 (fun t a b => pcP_f (by omega))
theorem ResM.fc {S S' : Sto} {R : Rs} (h : ResM S R) (hf : FC S S') : ResM S' R := by
  obtain ⟨h1, h2, h3, h4⟩ := h
  have e : ∀ t k, 50 ≤ t → S'.1 t 0 k = S.1 t 0 k := fun t k ht => hf.1.i (pcP_f (by omega)) k
  refine ⟨fun k hk => ⟨?_, fun hm f i a b => ?_⟩, ⟨?_, fun r hr => ?_⟩, ⟨?_, fun i hi => ?_⟩, ?_⟩
  · rw [e _ _ (by omega)]; exact (h1 k hk).1
  · rw [e _ _ (by omega)]; exact (h1 k hk).2 hm f i a b
  · rw [e _ _ (by omega)]; exact h2.1
  · exact (h2.2 r hr).fr (fun t a b => funext fun k => e t k (by omega))
  · rw [e _ _ (by omega)]; exact h3.1
  · rw [e _ _ (by omega)]; exact h3.2 i hi
  · rw [e _ _ (by omega)]; exact h4
theorem RepC.fm {S S' : Sto} {q : Nat} {A : Tn} (h : RepC S q A) (hf : FM S S') : RepC S' q A := h.fr hf.1 (fun t a b => pmP_f (by omega))
theorem ResC.fm {S S' : Sto} {R : Rs} (h : ResC S R) (hf : FM S S') : ResC S' R := by
  obtain ⟨h1, h2, h3, h4⟩ := h
  have e : ∀ t i k, t < 50 → S'.1 t i k = S.1 t i k := fun t i k ht => hf.1.i (pmP_f (by omega)) k
  refine ⟨fun k hk => ⟨?_, fun hm => ?_⟩, ⟨?_, fun r hr => ?_⟩, ⟨?_, fun i hi => ?_⟩, fun k hk => ?_⟩
  · rw [e _ _ _ (by omega)]; exact (h1 k hk).1
  · exact ((h1 k hk).2 hm).fr hf.1 (fun t a b => pmP_f (by omega))
  · rw [e _ _ _ (by omega)]; exact h2.1
  · exact (h2.2 r hr).fr (fun t a b => funext fun k => e t r k (by omega))
  · rw [e _ _ _ (by omega)]; exact h3.1
  · rw [e _ _ _ (by omega)]; exact h3.2 i hi
  · rw [hf.1.l (pmP_f (by omega))]; exact h4 k hk
/-- class and reference answer alike, and what holds between calls holds again -/
def Sl (S : Sto) (kc km : Nat) (as : List av) : Prop := ∃ v S1 S2, call kc 0 (vR 0 0 :: as) S = some (some (vI v), S1) ∧ call km 0 (vR 50 0 :: as) S1 = some (some (vI v), S2) ∧ ∃ A R, Inv S2 A R
theorem sl_mk {S : Sto} {A A' : Tn} {R : Rs} {kc km : Nat} {as : List av} {v : Int32} (h : Inv S A R) (hc : ∃ S1, call kc 0 (vR 0 0 :: as) S = some (some (vI v), S1) ∧ FC S S1 ∧ RepC S1 0 A') (hm : ∀ S1, RepM S1 A → ResM S1 R → ∃ S2, call km 0 (vR 50 0 :: as) S1 = some (some (vI v), S2) ∧ FM S1 S2 ∧ RepM S2 A') (hw : WF A') : Sl S kc km as := by
  obtain ⟨S1, c1, c2, c3⟩ := hc
  obtain ⟨S2, m1, m2, m3⟩ := hm S1 (h.2.2.1.fc c2) (h.2.2.2.1.fc c2)
  exact ⟨v, S1, S2, c1, m1, A', R, c3.fm m2, (h.2.1.fc c2).fm m2, m3, (h.2.2.2.1.fc c2).fm m2, hw, h.2.2.2.2.2⟩
/-- one value of a town changed -/
def uT (A : Tn) (f i v : Nat) : Tn := fun g j => if g = f ∧ j = i then v else A g j
theorem uT_r (A : Tn) (f i v g j : Nat) : uT A f i v g j = if g = f ∧ j = i then v else A g j := rfl
theorem RepM.set {S : Sto} {A : Tn} (h : RepM S A) {t f i : Nat} {x : Int32} (n : Nat) (ht : t = 51 + f) (hx : x = dcA f n) : RepM (uI S t 0 i x) (uT A f i n) := by
  intro g j hg hj
  rw [uI_r, uT_r]
  by_cases e : g = f ∧ j = i
  · obtain ⟨rfl, rfl⟩ := e
    rw [if_pos ⟨by omega, rfl, rfl⟩, if_pos ⟨rfl, rfl⟩, hx]
  · rw [if_neg (by omega), if_neg e]
    exact h g j hg hj
