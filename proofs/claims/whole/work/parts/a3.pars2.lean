/-! FACT, TEST, CLAUSE and LAW, read abstractly -/
theorem sgn_e {T : Tp} {p : Nat} {ke : Nat × Nat} (h : sgn T p = some ke) : p < T.1 ∧ p < ke.2 ∧ ke.2 ≤ T.1 ∧ (ke.1 = 4 ∨ ke.1 = 5 ∨ ke.1 = 6 ∨ ke.1 = 7 ∨ ke.1 = 8) := by
  unfold sgn at h
  by_cases c0 : p < T.1
  · rw [if_pos c0] at h
    by_cases c1 : T.2 p = 61
    · rw [if_pos c1] at h
      rw [← Option.some.inj h]
      exact ⟨c0, by show p < p + 1; omega, by show p + 1 ≤ T.1; omega, Or.inr (Or.inr (Or.inl rfl))⟩
    · rw [if_neg c1] at h
      by_cases c2 : T.2 p = 60
      · rw [if_pos c2] at h
        by_cases c3 : p + 1 < T.1 ∧ T.2 (p + 1) = 61
        · rw [if_pos c3] at h
          rw [← Option.some.inj h]
          exact ⟨c0, by show p < p + 2; omega, by show p + 2 ≤ T.1; omega, Or.inr (Or.inl rfl)⟩
        · rw [if_neg c3] at h
          rw [← Option.some.inj h]
          exact ⟨c0, by show p < p + 1; omega, by show p + 1 ≤ T.1; omega, Or.inl rfl⟩
      · rw [if_neg c2] at h
        by_cases c4 : T.2 p = 62
        · rw [if_pos c4] at h
          by_cases c3 : p + 1 < T.1 ∧ T.2 (p + 1) = 61
          · rw [if_pos c3] at h
            rw [← Option.some.inj h]
            exact ⟨c0, by show p < p + 2; omega, by show p + 2 ≤ T.1; omega, Or.inr (Or.inr (Or.inr (Or.inl rfl)))⟩
          · rw [if_neg c3] at h
            rw [← Option.some.inj h]
            exact ⟨c0, by show p < p + 1; omega, by show p + 1 ≤ T.1; omega, Or.inr (Or.inr (Or.inr (Or.inr rfl)))⟩
        · rw [if_neg c4] at h
          cases h
  · rw [if_neg c0] at h
    cases h
def pCmpS (T : Tp) (s : Ps) : Sum Nat Ps := match sgn T s.1 with
  | none => Sum.inl (flt 0 s.1)
  | some ke => if 60 ≤ s.2.1 then Sum.inl (flt 3 s.1) else bnd (pSum T (ke.2, s.2.1 + 1, s.2.2)) (fun s' => Sum.inr (put s' ke.1))
def pCmp (T : Tp) (st : Ps) : Sum Nat Ps := bnd (pSum T st) (pCmpS T)
theorem sg_ty {k : Nat} (h : k = 4 ∨ k = 5 ∨ k = 6 ∨ k = 7 ∨ k = 8) (t : List Bool) : tyO k 0 (false :: false :: t) = some (true :: t) := by
  rcases h with rfl | rfl | rfl | rfl | rfl <;> rfl
theorem pCmp_oc {T : Tp} (hK : TpK T) {st : Ps} (hp : st.1 ≤ T.1) : OC T true st (pCmp T st) := by
  unfold pCmp
  refine OC.bnd (pSum_oc hK hp).1 ?_
  intro s _ h
  unfold pCmpS
  cases e : sgn T s.1 with
  | none => exact Bf.mk (by decide) h.2.1
  | some ke =>
    obtain ⟨e1, e2, e3, e4⟩ := sgn_e e
    show OC T true st (if 60 ≤ s.2.1 then Sum.inl (flt 3 s.1) else bnd (pSum T (ke.2, s.2.1 + 1, s.2.2)) (fun s' => Sum.inr (put s' ke.1)))
    by_cases c : 60 ≤ s.2.1
    · rw [if_pos c]; exact Bf.mk (by decide) h.2.1
    · rw [if_neg c]
      refine OC.bnd (pSum_oc (T := T) hK (st := (ke.2, s.2.1 + 1, s.2.2)) e3).1 ?_
      intro s' _ h'
      exact Oc.bin h h' e2 (Nat.le_succ _) rfl (sg_ty e4)
def wo (w : Bool) : Cd := if w = true then [(11, 0)] else []
def stS (T : Tp) (F : Ps → Sum Nat Ps) (x : Bool × Ps) : Sum (Sum Nat Ps) (Bool × Ps) :=
  if wEq T (sc T blP x.2.1) wAnd = true then nxL (F (sc T blP x.2.1 + 3, x.2.2)) (fun s => (x.1, put s 10))
  else if wEq T (sc T blP x.2.1) wOr = true then nxL (F (sc T blP x.2.1 + 2, x.2.2.1, x.2.2.2 ++ wo x.1)) (fun s => (true, s))
  else Sum.inl (Sum.inr (sc T blP x.2.1, x.2.2.1, x.2.2.2 ++ wo x.1))
def tsL (T : Tp) (F : Ps → Sum Nat Ps) : Bool × Ps → Sum Nat Ps := lp (stS T F) (Sum.inl 0) 401
def FOK (T : Tp) (F : Ps → Sum Nat Ps) : Prop := ∀ st : Ps, st.1 ≤ T.1 → OC T true st (F st)
def muS (x : Bool × Ps) : Nat := 400 - x.2.1
theorem muS_b (s : Bool × Ps) : muS s < 401 := by
  unfold muS
  omega
theorem stS_m {T : Tp} {F : Ps → Sum Nat Ps} (hK : TpK T) (hF : FOK T F) : ∀ s s', stS T F s = Sum.inr s' → muS s' < muS s := by
  intro s s' h
  have hK1 := hK.1
  have h5 := sc_ge T blP s.2.1
  unfold stS at h
  by_cases c : wEq T (sc T blP s.2.1) wAnd = true
  · rw [if_pos c] at h
    obtain ⟨a, h1, h2⟩ := nxL_r h
    have c1 : sc T blP s.2.1 + 3 ≤ T.1 := wEq_l c
    have h3 := hF (sc T blP s.2.1 + 3, s.2.2) c1
    rw [h1] at h3
    have h4 : sc T blP s.2.1 + 3 < a.1 := h3.1
    rw [h2]
    show 400 - a.1 < 400 - s.2.1
    omega
  · rw [if_neg c] at h
    by_cases d : wEq T (sc T blP s.2.1) wOr = true
    · rw [if_pos d] at h
      obtain ⟨a, h1, h2⟩ := nxL_r h
      have c1 : sc T blP s.2.1 + 2 ≤ T.1 := wEq_l d
      have h3 := hF (sc T blP s.2.1 + 2, s.2.2.1, s.2.2.2 ++ wo s.1) c1
      rw [h1] at h3
      have h4 : sc T blP s.2.1 + 2 < a.1 := h3.1
      rw [h2]
      show 400 - a.1 < 400 - s.2.1
      omega
    · rw [if_neg d] at h
      cases h
theorem tsL_a {T : Tp} {F : Ps → Sum Nat Ps} (hK : TpK T) (hF : FOK T F) {x : Bool × Ps} (h : wEq T (sc T blP x.2.1) wAnd = true) : tsL T F x = bnd (F (sc T blP x.2.1 + 3, x.2.2)) (fun s => tsL T F (x.1, put s 10)) :=
  lp_nx (stS_m hK hF) muS_b (by unfold stS; rw [if_pos h])
theorem tsL_o {T : Tp} {F : Ps → Sum Nat Ps} (hK : TpK T) (hF : FOK T F) {x : Bool × Ps} (h1 : wEq T (sc T blP x.2.1) wAnd = false) (h : wEq T (sc T blP x.2.1) wOr = true) : tsL T F x = bnd (F (sc T blP x.2.1 + 2, x.2.2.1, x.2.2.2 ++ wo x.1)) (fun s => tsL T F (true, s)) :=
  lp_nx (stS_m hK hF) muS_b (by unfold stS; rw [if_neg (by rw [h1]; decide), if_pos h])
theorem tsL_e {T : Tp} {F : Ps → Sum Nat Ps} {x : Bool × Ps} (h1 : wEq T (sc T blP x.2.1) wAnd = false) (h : wEq T (sc T blP x.2.1) wOr = false) : tsL T F x = Sum.inr (sc T blP x.2.1, x.2.2.1, x.2.2.2 ++ wo x.1) :=
  lp_l (μ := muS) muS_b (by unfold stS; rw [if_neg (by rw [h1]; decide), if_neg (by rw [h]; decide)])
def tsI (T : Tp) (p : Ps) (x : Bool × Ps) : Prop := (x.1 = false ∧ Oc T true p x.2) ∨ (x.1 = true ∧ ∃ s1 q, Oc T true p s1 ∧ s1.1 < q.1 ∧ q.2 = s1.2 ∧ Oc T true q x.2)
theorem tsI_p {T : Tp} {p : Ps} {x : Bool × Ps} (h : tsI T p x) : x.2.1 ≤ T.1 := by
  rcases h with ⟨_, h⟩ | ⟨_, s1, q, _, _, _, h⟩
  · exact h.2.1
  · exact h.2.1
theorem tsI_w {T : Tp} {p : Ps} {x : Bool × Ps} (h : tsI T p x) : Oc T true p (x.2.1, x.2.2.1, x.2.2.2 ++ wo x.1) := by
  obtain ⟨w, s⟩ := x
  rcases h with ⟨e, h⟩ | ⟨e, s1, q, h1, h2, h3, h4⟩
  · have e' : w = false := e
    subst e'
    show Oc T true p (s.1, s.2.1, s.2.2 ++ [])
    rw [List.append_nil]
    exact h
  · have e' : w = true := e
    subst e'
    exact Oc.bin (k := 11) h1 h4 h2 (by rw [h3]; exact Nat.le_refl _) (by rw [h3]) (fun t => rfl)
theorem tsI_a {T : Tp} {p : Ps} {x : Bool × Ps} {q a : Ps} (h : tsI T p x) (h1 : Oc T true q a) (h2 : x.2.1 < q.1) (h3 : q.2 = x.2.2) : tsI T p (x.1, put a 10) := by
  rcases h with ⟨e, h⟩ | ⟨e, s1, r, g1, g2, g3, g4⟩
  · exact Or.inl ⟨e, Oc.bin h h1 h2 (by rw [h3]; exact Nat.le_refl _) (by rw [h3]) (fun t => rfl)⟩
  · exact Or.inr ⟨e, s1, r, g1, g2, g3, Oc.bin g4 h1 h2 (by rw [h3]; exact Nat.le_refl _) (by rw [h3]) (fun t => rfl)⟩
theorem tsL_oc {T : Tp} {F : Ps → Sum Nat Ps} (hK : TpK T) (hF : FOK T F) {p : Ps} {x : Bool × Ps} (h : tsI T p x) : OC T true p (tsL T F x) ∧ ∀ s', tsL T F x = Sum.inr s' → sc T blP s'.1 = s'.1 := by
  refine lp_inv (I := fun x => tsI T p x) (Q := fun r => OC T true p r ∧ ∀ s', r = Sum.inr s' → sc T blP s'.1 = s'.1) (stS_m hK hF) muS_b ?_ ?_ x h
  · intro s s' hI e
    have h5 := sc_ge T blP s.2.1
    unfold stS at e
    by_cases c : wEq T (sc T blP s.2.1) wAnd = true
    · rw [if_pos c] at e
      obtain ⟨a, h1, h2⟩ := nxL_r e
      have c1 : sc T blP s.2.1 + 3 ≤ T.1 := wEq_l c
      have h3 := hF (sc T blP s.2.1 + 3, s.2.2) c1
      rw [h1] at h3
      rw [h2]
      exact tsI_a hI h3 (by show s.2.1 < sc T blP s.2.1 + 3; omega) rfl
    · rw [if_neg c] at e
      by_cases d : wEq T (sc T blP s.2.1) wOr = true
      · rw [if_pos d] at e
        obtain ⟨a, h1, h2⟩ := nxL_r e
        have c1 : sc T blP s.2.1 + 2 ≤ T.1 := wEq_l d
        have h3 := hF (sc T blP s.2.1 + 2, s.2.2.1, s.2.2.2 ++ wo s.1) c1
        rw [h1] at h3
        rw [h2]
        exact Or.inr ⟨rfl, _, (sc T blP s.2.1 + 2, s.2.2.1, s.2.2.2 ++ wo s.1), tsI_w hI, by show s.2.1 < sc T blP s.2.1 + 2; omega, rfl, h3⟩
      · rw [if_neg d] at e
        cases e
  · intro s r hI e
    have h5 := sc_ge T blP s.2.1
    have h6 := sc_le T blP s.2.1 (tsI_p hI)
    unfold stS at e
    by_cases c : wEq T (sc T blP s.2.1) wAnd = true
    · rw [if_pos c] at e
      obtain ⟨f, h1, h2⟩ := nxL_l e
      have c1 : sc T blP s.2.1 + 3 ≤ T.1 := wEq_l c
      have h3 := hF (sc T blP s.2.1 + 3, s.2.2) c1
      rw [h1] at h3
      rw [h2]
      exact ⟨h3, fun s' e => by cases e⟩
    · rw [if_neg c] at e
      by_cases d : wEq T (sc T blP s.2.1) wOr = true
      · rw [if_pos d] at e
        obtain ⟨f, h1, h2⟩ := nxL_l e
        have c1 : sc T blP s.2.1 + 2 ≤ T.1 := wEq_l d
        have h3 := hF (sc T blP s.2.1 + 2, s.2.2.1, s.2.2.2 ++ wo s.1) c1
        rw [h1] at h3
        rw [h2]
        exact ⟨h3, fun s' e => by cases e⟩
      · rw [if_neg d] at e
        have e' : r = Sum.inr (sc T blP s.2.1, s.2.2.1, s.2.2.2 ++ wo s.1) := (Sum.inl.inj e).symm
        rw [e']
        refine ⟨Oc.hi (tsI_w hI) h5 h6 rfl, fun s' e => ?_⟩
        have : s' = (sc T blP s.2.1, s.2.2.1, s.2.2.2 ++ wo s.1) := (Sum.inr.inj e).symm
        rw [this]
        exact sc_sc T blP s.2.1
def pTst (T : Tp) (F : Ps → Sum Nat Ps) (st : Ps) : Sum Nat Ps := bnd (F st) (fun s => tsL T F (false, s))
theorem pTst_oc {T : Tp} {F : Ps → Sum Nat Ps} (hK : TpK T) (hF : FOK T F) {st : Ps} (hp : st.1 ≤ T.1) : OC T true st (pTst T F st) ∧ ∀ s', pTst T F st = Sum.inr s' → sc T blP s'.1 = s'.1 := by
  have h := hF st hp
  unfold pTst
  cases e : F st with
  | inl f =>
    rw [e] at h
    exact ⟨h, fun s' e => by cases e⟩
  | inr s =>
    rw [e] at h
    exact tsL_oc hK hF (Or.inl ⟨rfl, h⟩)
/-- behind a bracket's TEST -/
def pBr (T : Tp) (s : Ps) : Sum Nat Ps := if s.1 < T.1 ∧ T.2 s.1 = 93 then Sum.inr (s.1 + 1, s.2) else Sum.inl (flt 0 s.1)
def pFact (T : Tp) : Nat → Ps → Sum Nat Ps
  | 0, st => if wEq T (sc T blP st.1) wNot = true ∨ (sc T blP st.1 < T.1 ∧ T.2 (sc T blP st.1) = 91) then Sum.inl (flt 2 (sc T blP st.1)) else pCmp T (sc T blP st.1, st.2)
  | k + 1, st => if wEq T (sc T blP st.1) wNot = true then bnd (pFact T k (sc T blP st.1 + 3, st.2)) (fun s => Sum.inr (put s 9)) else if sc T blP st.1 < T.1 ∧ T.2 (sc T blP st.1) = 91 then bnd (pTst T (pFact T k) (sc T blP st.1 + 1, st.2)) (pBr T) else pCmp T (sc T blP st.1, st.2)
theorem pFact_0 (T : Tp) (st : Ps) : pFact T 0 st = if wEq T (sc T blP st.1) wNot = true ∨ (sc T blP st.1 < T.1 ∧ T.2 (sc T blP st.1) = 91) then Sum.inl (flt 2 (sc T blP st.1)) else pCmp T (sc T blP st.1, st.2) := rfl
theorem pFact_s (T : Tp) (k : Nat) (st : Ps) : pFact T (k + 1) st = if wEq T (sc T blP st.1) wNot = true then bnd (pFact T k (sc T blP st.1 + 3, st.2)) (fun s => Sum.inr (put s 9)) else if sc T blP st.1 < T.1 ∧ T.2 (sc T blP st.1) = 91 then bnd (pTst T (pFact T k) (sc T blP st.1 + 1, st.2)) (pBr T) else pCmp T (sc T blP st.1, st.2) := rfl
theorem pFact_oc {T : Tp} (hK : TpK T) : ∀ k, FOK T (pFact T k) := by
  intro k
  induction k with
  | zero =>
    intro st hp
    have h5 := sc_ge T blP st.1
    have h6 := sc_le T blP st.1 hp
    rw [pFact_0]
    by_cases c : wEq T (sc T blP st.1) wNot = true ∨ (sc T blP st.1 < T.1 ∧ T.2 (sc T blP st.1) = 91)
    · rw [if_pos c]; exact Bf.mk (by decide) h6
    · rw [if_neg c]; exact (pCmp_oc (T := T) hK (st := (sc T blP st.1, st.2)) h6).lo h5 rfl
  | succ k ih =>
    intro st hp
    have h5 := sc_ge T blP st.1
    have h6 := sc_le T blP st.1 hp
    rw [pFact_s]
    by_cases c : wEq T (sc T blP st.1) wNot = true
    · rw [if_pos c]
      have c1 : sc T blP st.1 + 3 ≤ T.1 := wEq_l c
      refine OC.bnd (ih (sc T blP st.1 + 3, st.2) c1) ?_
      intro s _ h
      exact Oc.no h (by show st.1 + 3 ≤ sc T blP st.1 + 3; omega) rfl
    · rw [if_neg c]
      by_cases d : sc T blP st.1 < T.1 ∧ T.2 (sc T blP st.1) = 91
      · rw [if_pos d]
        have d1 : sc T blP st.1 + 1 ≤ T.1 := d.1
        refine OC.bnd (pTst_oc (T := T) hK ih (st := (sc T blP st.1 + 1, st.2)) d1).1 ?_
        intro s _ h
        unfold pBr
        by_cases e : s.1 < T.1 ∧ T.2 s.1 = 93
        · rw [if_pos e]
          exact (Oc.hi h (s' := (s.1 + 1, s.2)) (Nat.le_succ _) e.1 rfl).lo (by show st.1 ≤ sc T blP st.1 + 1; omega) rfl
        · rw [if_neg e]
          exact Bf.mk (by decide) h.2.1
      · rw [if_neg d]; exact (pCmp_oc (T := T) hK (st := (sc T blP st.1, st.2)) h6).lo h5 rfl
/-- sort, where its SUM, its TEST and what comes behind begin -/
abbrev Cl : Type := Nat × Nat × Nat × Nat
def pClT (T : Tp) (k a : Nat) (s : Ps) : Sum Nat (Ps × Cl) := if wEq T s.1 wIf = true then bnd (pTst T (pFact T 10) (s.1 + 2, s.2)) (fun s' => Sum.inr (s', (k, a, s.2.2.length, s'.2.2.length))) else Sum.inr (s, (k, a, s.2.2.length, s.2.2.length))
def pCl (T : Tp) (n : Nat) (st : Ps) : Sum Nat (Ps × Cl) := match wInF T (sc T blP st.1) wS 0 with
  | none => Sum.inl (flt 0 (sc T blP st.1))
  | some k => if 12 ≤ n then Sum.inl (flt 4 (sc T blP st.1)) else bnd (pSum T (sc T ltP (sc T blP st.1), st.2)) (pClT T k st.2.2.length)
def pLw (T : Tp) : Nat → List Cl → Ps → Sum Nat (List Cl × Ps)
  | 0, _, _ => Sum.inl 0
  | m + 1, cs, st => bnd (pCl T cs.length st) (fun x => if T.1 ≤ sc T blP x.1.1 then Sum.inr (cs ++ [x.2], x.1) else if T.2 (sc T blP x.1.1) = 59 then pLw T m (cs ++ [x.2]) (sc T blP x.1.1 + 1, x.1.2) else Sum.inl (flt 0 (sc T blP x.1.1)))
theorem pLw_s (T : Tp) (m : Nat) (cs : List Cl) (st : Ps) : pLw T (m + 1) cs st = bnd (pCl T cs.length st) (fun x => if T.1 ≤ sc T blP x.1.1 then Sum.inr (cs ++ [x.2], x.1) else if T.2 (sc T blP x.1.1) = 59 then pLw T m (cs ++ [x.2]) (sc T blP x.1.1 + 1, x.1.2) else Sum.inl (flt 0 (sc T blP x.1.1))) := rfl
/-- what holds of a place between values -/
def Gd (T : Tp) (s : Ps) : Prop := s.1 ≤ T.1 ∧ s.2.1 ≤ 60 ∧ 3 * s.2.2.length ≤ 6 * s.2.1 + s.1
theorem Oc.gd {T : Tp} {b : Bool} {p s : Ps} (h : Oc T b p s) (hp : Gd T p) : Gd T s := by
  obtain ⟨a1, a2, a3, a4, x, ax, az, at'⟩ := h
  refine ⟨a2, a4, ?_⟩
  have := hp.2.2
  rw [ax, List.length_append]
  omega
theorem Gd.up {T : Tp} {s s' : Ps} (h : Gd T s) (h1 : s.1 ≤ s'.1) (h2 : s'.1 ≤ T.1) (h3 : s'.2 = s.2) : Gd T s' := by
  have := h.2.2
  refine ⟨h2, by rw [h3]; exact h.2.1, ?_⟩
  rw [h3]
  omega
def ClG (c : Cl) (l : Cd) : Prop := c.1 < 5 ∧ ∃ u x y v, l = u ++ (x ++ (y ++ v)) ∧ c.2.1 = u.length ∧ c.2.2.1 = u.length + x.length ∧ c.2.2.2 = u.length + x.length + y.length ∧ tyL x [] = some [false] ∧ (y = [] ∨ tyL y [] = some [true])
theorem ClG.app {c : Cl} {l : Cd} (h : ClG c l) (z : Cd) : ClG c (l ++ z) := by
  obtain ⟨h0, u, x, y, v, h1, h2⟩ := h
  refine ⟨h0, u, x, y, v ++ z, ?_, h2⟩
  rw [h1, List.append_assoc, List.append_assoc, List.append_assoc]
def ClO (T : Tp) (n : Nat) (st : Ps) (r : Sum Nat (Ps × Cl)) : Prop := match r with
  | Sum.inl f => Bf T f
  | Sum.inr x => n < 12 ∧ Gd T x.1 ∧ ClG x.2 x.1.2.2 ∧ ∃ z, x.1.2.2 = st.2.2 ++ z
theorem pCl_ok {T : Tp} (hK : TpK T) {n : Nat} {st : Ps} (hg : Gd T st) : ClO T n st (pCl T n st) := by
  have h5 := sc_ge T blP st.1
  have h6 := sc_le T blP st.1 hg.1
  unfold pCl
  cases e : wInF T (sc T blP st.1) wS 0 with
  | none => exact Bf.mk (by decide) h6
  | some k =>
    show ClO T n st (if 12 ≤ n then Sum.inl (flt 4 (sc T blP st.1)) else bnd (pSum T (sc T ltP (sc T blP st.1), st.2)) (pClT T k st.2.2.length))
    by_cases c : 12 ≤ n
    · rw [if_pos c]; exact Bf.mk (by decide) h6
    · rw [if_neg c]
      obtain ⟨_, k1, k2⟩ := wInF_e e
      have k3 : k < 5 := by
        have : wS.length = 5 := rfl
        omega
      have h7 := sc_ge T ltP (sc T blP st.1)
      have h8 := sc_le T ltP (sc T blP st.1) h6
      have hg2 : Gd T (sc T ltP (sc T blP st.1), st.2) := hg.up (by show st.1 ≤ sc T ltP (sc T blP st.1); omega) h8 rfl
      have h9 := (pSum_oc (T := T) hK (st := (sc T ltP (sc T blP st.1), st.2)) h8).1
      cases es : pSum T (sc T ltP (sc T blP st.1), st.2) with
      | inl f => rw [es] at h9; exact h9
      | inr s =>
        rw [es] at h9
        have h9' : Oc T false (sc T ltP (sc T blP st.1), st.2) s := h9
        have hg3 := h9'.gd hg2
        obtain ⟨a1, a2, a3, a4, x, ax, az, at'⟩ := h9'
        have ax' : s.2.2 = st.2.2 ++ x := ax
        have tx : tyL x [] = some [false] := at' [] (by show 0 + s.2.1 ≤ 60 + st.2.1; omega)
        rw [bnd_r]
        unfold pClT
        by_cases d : wEq T s.1 wIf = true
        · rw [if_pos d]
          have d1 : s.1 + 2 ≤ T.1 := wEq_l d
          have hg4 : Gd T (s.1 + 2, s.2) := hg3.up (by show s.1 ≤ s.1 + 2; omega) d1 rfl
          have ht := (pTst_oc (T := T) hK (pFact_oc hK 10) (st := (s.1 + 2, s.2)) d1).1
          cases et : pTst T (pFact T 10) (s.1 + 2, s.2) with
          | inl f => rw [et] at ht; exact ht
          | inr s' =>
            rw [et] at ht
            have ht' : Oc T true (s.1 + 2, s.2) s' := ht
            have hg5 := ht'.gd hg4
            obtain ⟨b1, b2, b3, b4, y, ay, bz, bt'⟩ := ht'
            have ay' : s'.2.2 = s.2.2 ++ y := ay
            refine ⟨by omega, hg5, ⟨k3, st.2.2, x, y, [], ?_, rfl, ?_, ?_, tx, Or.inr (bt' [] (by show 0 + s'.2.1 ≤ 60 + s.2.1; omega))⟩, x ++ y, ?_⟩
            · show s'.2.2 = _
              rw [ay', ax', List.append_nil, List.append_assoc]
            · show s.2.2.length = _
              rw [ax', List.length_append]
            · show s'.2.2.length = _
              rw [ay', ax', List.length_append, List.length_append]
            · show s'.2.2 = _
              rw [ay', ax', List.append_assoc]
        · rw [if_neg d]
          refine ⟨by omega, hg3, ⟨k3, st.2.2, x, [], [], ?_, rfl, ?_, ?_, tx, Or.inl rfl⟩, x, ax'⟩
          · show s.2.2 = _
            rw [ax', List.append_nil, List.append_nil]
          · show s.2.2.length = _
            rw [ax', List.length_append]
          · show s.2.2.length = _
            rw [ax', List.length_append]
            rfl
def LwO (T : Tp) (r : Sum Nat (List Cl × Ps)) : Prop := match r with
  | Sum.inl f => Bf T f
  | Sum.inr x => x.1.length ≤ 12 ∧ Gd T x.2 ∧ ∀ c, c ∈ x.1 → ClG c x.2.2.2
theorem pLw_ok {T : Tp} (hK : TpK T) : ∀ m cs st, cs.length + m = 12 → Gd T st → (∀ c, c ∈ cs → ClG c st.2.2) → LwO T (pLw T (m + 1) cs st) := by
  intro m
  induction m with
  | zero =>
    intro cs st hn hg hc
    rw [pLw_s]
    have h := pCl_ok (T := T) hK (n := cs.length) hg
    cases e : pCl T cs.length st with
    | inl f => rw [e] at h; exact h
    | inr x =>
      rw [e] at h
      have := h.1
      omega
  | succ m ih =>
    intro cs st hn hg hc
    rw [pLw_s]
    have h := pCl_ok (T := T) hK (n := cs.length) hg
    cases e : pCl T cs.length st with
    | inl f => rw [e] at h; exact h
    | inr x =>
      rw [e] at h
      obtain ⟨h1, h2, h3, z, h4⟩ := h
      rw [bnd_r]
      have hl : (cs ++ [x.2]).length = cs.length + 1 := by rw [List.length_append]; rfl
      have hcs : ∀ c, c ∈ cs ++ [x.2] → ClG c x.1.2.2 := by
        intro c hm
        rcases List.mem_append.mp hm with q | q
        · rw [h4]; exact (hc c q).app z
        · rw [List.mem_singleton.mp q]; exact h3
      have h5 := sc_ge T blP x.1.1
      by_cases c : T.1 ≤ sc T blP x.1.1
      · rw [if_pos c]
        exact ⟨by show (cs ++ [x.2]).length ≤ 12; omega, h2, hcs⟩
      · rw [if_neg c]
        by_cases d : T.2 (sc T blP x.1.1) = 59
        · rw [if_pos d]
          exact ih (cs ++ [x.2]) (sc T blP x.1.1 + 1, x.1.2) (by omega) (h2.up (by show x.1.1 ≤ sc T blP x.1.1 + 1; omega) (by show sc T blP x.1.1 + 1 ≤ T.1; omega) rfl) hcs
        · rw [if_neg d]
          exact Bf.mk (by decide) (by omega)
def lwOf (cs : List Cl) (l : Cd) : Lw := fun f i => match f with
  | 0 => if i = 0 then cs.length else l.length
  | 1 => (cs.getD i (0, 0, 0, 0)).1
  | 2 => (cs.getD i (0, 0, 0, 0)).2.1
  | 3 => (cs.getD i (0, 0, 0, 0)).2.2.1
  | 4 => (cs.getD i (0, 0, 0, 0)).2.2.2
  | 5 => (l.getD i (0, 0)).1
  | _ => (l.getD i (0, 0)).2
theorem cd_getD (u : Cd) (e : Nat × Nat) (v : Cd) : (u ++ e :: v).getD u.length (0, 0) = e := by
  rw [List.getD_eq_getElem?_getD, List.getElem?_append_right (Nat.le_refl _), Nat.sub_self]
  rfl
theorem tyR_tyL (cs : List Cl) (l : Cd) : ∀ (x u v : Cd) (s : List Bool), l = u ++ (x ++ v) → tyR (lwOf cs l) x.length u.length s = tyL x s
  | [], u, v, s, h => rfl
  | e :: x, u, v, s, h => by
    have e0 : l.getD u.length (0, 0) = e := by rw [h]; exact cd_getD u e (x ++ v)
    have e5 : lwOf cs l 5 u.length = e.1 := by show (l.getD u.length (0, 0)).1 = _; rw [e0]
    have e6 : lwOf cs l 6 u.length = e.2 := by show (l.getD u.length (0, 0)).2 = _; rw [e0]
    rw [tyL_s]
    show (match tyO (lwOf cs l 5 u.length) (lwOf cs l 6 u.length) s with
      | some t => if t.length ≤ 60 then tyR (lwOf cs l) x.length (u.length + 1) t else none
      | none => none) = _
    rw [e5, e6]
    have hu : (u ++ [e]).length = u.length + 1 := by rw [List.length_append]; rfl
    have key : ∀ t, tyR (lwOf cs l) x.length (u.length + 1) t = tyL x t := by
      intro t
      rw [← hu]
      exact tyR_tyL cs l x (u ++ [e]) v t (by rw [h, List.append_assoc]; rfl)
    cases tyO e.1 e.2 s with
    | none => rfl
    | some t =>
      show (if t.length ≤ 60 then tyR (lwOf cs l) x.length (u.length + 1) t else none) = (if t.length ≤ 60 then tyL x t else none)
      rw [key]
theorem wfl_of {T : Tp} (hK : TpK T) {cs : List Cl} {s : Ps} (h1 : cs.length ≤ 12) (h2 : Gd T s) (h3 : ∀ c, c ∈ cs → ClG c s.2.2) : WFL (lwOf cs s.2.2) := by
  have hK1 := hK.1
  refine ⟨h1, ?_, fun i hi => ?_⟩
  · show s.2.2.length ≤ 300
    have a := h2.1
    have b := h2.2.1
    have c := h2.2.2
    omega
  · have hi' : i < cs.length := hi
    have hm : cs.getD i (0, 0, 0, 0) ∈ cs := by
      rw [List.getD_eq_getElem?_getD, List.getElem?_eq_getElem hi']
      exact List.getElem_mem hi'
    obtain ⟨k1, u, x, y, v, g1, g2, g3, g4, g5, g6⟩ := h3 _ hm
    show (cs.getD i (0, 0, 0, 0)).1 < 5 ∧ (cs.getD i (0, 0, 0, 0)).2.1 ≤ (cs.getD i (0, 0, 0, 0)).2.2.1 ∧ (cs.getD i (0, 0, 0, 0)).2.2.1 ≤ (cs.getD i (0, 0, 0, 0)).2.2.2 ∧ (cs.getD i (0, 0, 0, 0)).2.2.2 ≤ s.2.2.length ∧ tyR (lwOf cs s.2.2) ((cs.getD i (0, 0, 0, 0)).2.2.1 - (cs.getD i (0, 0, 0, 0)).2.1) (cs.getD i (0, 0, 0, 0)).2.1 [] = some [false] ∧ ((cs.getD i (0, 0, 0, 0)).2.2.1 = (cs.getD i (0, 0, 0, 0)).2.2.2 ∨ tyR (lwOf cs s.2.2) ((cs.getD i (0, 0, 0, 0)).2.2.2 - (cs.getD i (0, 0, 0, 0)).2.2.1) (cs.getD i (0, 0, 0, 0)).2.2.1 [] = some [true])
    rw [g2, g3, g4]
    have hll : s.2.2.length = u.length + (x.length + (y.length + v.length)) := by
      rw [g1, List.length_append, List.length_append, List.length_append]
    refine ⟨k1, by omega, by omega, by omega, ?_, ?_⟩
    · rw [show u.length + x.length - u.length = x.length by omega, tyR_tyL cs s.2.2 x u (y ++ v) [] g1]
      exact g5
    · rcases g6 with g6 | g6
      · exact Or.inl (by rw [g6]; rfl)
      · refine Or.inr ?_
        have hu : (u ++ x).length = u.length + x.length := List.length_append
        rw [show u.length + x.length + y.length - (u.length + x.length) = y.length by omega, ← hu, tyR_tyL cs s.2.2 y (u ++ x) v [] (by rw [g1, List.append_assoc])]
        exact g6
