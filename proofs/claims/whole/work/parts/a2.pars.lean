/-! a law's text, read abstractly -/
abbrev Cd : Type := List (Nat × Nat)
/-- place, counted, entries -/
abbrev Ps : Type := Nat × Nat × Cd
def bnd {α β : Type} (x : Sum Nat α) (f : α → Sum Nat β) : Sum Nat β := match x with
  | Sum.inl e => Sum.inl e
  | Sum.inr a => f a
theorem bnd_l {α β : Type} (e : Nat) (f : α → Sum Nat β) : bnd (Sum.inl e) f = Sum.inl e := rfl
theorem bnd_r {α β : Type} (a : α) (f : α → Sum Nat β) : bnd (Sum.inr a) f = f a := rfl
theorem bnd_b {α β γ : Type} (x : Sum Nat α) (f : α → Sum Nat β) (g : β → Sum Nat γ) : bnd (bnd x f) g = bnd x (fun a => bnd (f a) g) := by
  cases x <;> rfl
/-- a loop -/
def lp {α β : Type} (f : α → Sum β α) (d : β) : Nat → α → β
  | 0, _ => d
  | m + 1, s => match f s with
    | Sum.inl r => r
    | Sum.inr s' => lp f d m s'
theorem lp_s {α β : Type} (f : α → Sum β α) (d : β) (m : Nat) (s : α) : lp f d (m + 1) s = match f s with
    | Sum.inl r => r
    | Sum.inr s' => lp f d m s' := rfl
theorem lp_m {α β : Type} {f : α → Sum β α} {d : β} {μ : α → Nat} (h : ∀ s s', f s = Sum.inr s' → μ s' < μ s) : ∀ m m' s, μ s < m → μ s < m' → lp f d m s = lp f d m' s := by
  intro m
  induction m with
  | zero => intro m' s h1 _; omega
  | succ m ih =>
    intro m' s h1 h2
    cases m' with
    | zero => omega
    | succ m' =>
      rw [lp_s, lp_s]
      cases e : f s with
      | inl r => rfl
      | inr s' =>
        have := h s s' e
        exact ih m' s' (by omega) (by omega)
theorem lp_l {α β : Type} {f : α → Sum β α} {d : β} {μ : α → Nat} {N : Nat} (hb : ∀ s, μ s < N) {s : α} {r : β} (e : f s = Sum.inl r) : lp f d N s = r := by
  have := hb s
  cases N with
  | zero => omega
  | succ m => rw [lp_s, e]
theorem lp_r {α β : Type} {f : α → Sum β α} {d : β} {μ : α → Nat} {N : Nat} (h : ∀ s s', f s = Sum.inr s' → μ s' < μ s) (hb : ∀ s, μ s < N) {s s' : α} (e : f s = Sum.inr s') : lp f d N s = lp f d N s' := by
  have h1 := hb s
  have h2 := h s s' e
  cases N with
  | zero => omega
  | succ m =>
    rw [lp_s, e]
    exact lp_m h m (m + 1) s' (by omega) (by omega)
theorem lp_inv {α β : Type} {f : α → Sum β α} {d : β} {μ : α → Nat} {N : Nat} {I : α → Prop} {Q : β → Prop} (h : ∀ s s', f s = Sum.inr s' → μ s' < μ s) (hb : ∀ s, μ s < N) (h1 : ∀ s s', I s → f s = Sum.inr s' → I s') (h2 : ∀ s r, I s → f s = Sum.inl r → Q r) : ∀ s, I s → Q (lp f d N s) := by
  have key : ∀ n s, μ s < n → I s → Q (lp f d N s) := by
    intro n
    induction n with
    | zero => intro s hs _; omega
    | succ n ih =>
      intro s hs hI
      cases e : f s with
      | inl r => rw [lp_l hb e]; exact h2 s r hI e
      | inr s' =>
        have := h s s' e
        rw [lp_r h hb e]
        exact ih s' (by omega) (h1 s s' hI e)
  exact fun s hs => key (μ s + 1) s (by omega) hs
def wS : List (List Nat) := [[121, 101, 115], [112, 114, 105, 99, 101], [110, 111, 100, 115], [113, 117, 97, 114, 114, 101, 108], [112, 101, 97, 99, 101]]
def wV : List (List Nat) := [[108, 105, 107, 101], [109, 97, 116, 101], [119, 111, 114, 116, 104], [117, 115, 101], [111, 119, 110, 115], [99, 111, 105, 110], [100, 97, 121], [103, 105, 118, 101, 110], [115, 104, 97, 114, 101, 100], [110, 101, 97, 114], [121, 101, 97, 114]]
def wIf : List Nat := [105, 102]
def wNot : List Nat := [110, 111, 116]
def wAnd : List Nat := [97, 110, 100]
def wOr : List Nat := [111, 114]
def put (st : Ps) (k : Nat) : Ps := (st.1, st.2.1, st.2.2 ++ [(k, 0)])
def pValB (T : Tp) (b c : Nat) (l : Cd) : Sum Nat Ps :=
  if b < T.1 ∧ dgP (T.2 b) = true then
    (if 5 < sc T dgP b - b then Sum.inl (flt 1 b) else if 60 ≤ c then Sum.inl (flt 3 b) else Sum.inr (sc T dgP b, c + 1, l ++ [(0, nmF T b (sc T dgP b - b))]))
  else match wInF T b wV 0 with
    | none => Sum.inl (flt 0 b)
    | some k => if 60 ≤ c then Sum.inl (flt 3 b) else Sum.inr (sc T ltP b, c + 1, l ++ [(1, k)])
def pVal (T : Tp) (st : Ps) : Sum Nat Ps := pValB T (sc T blP st.1) st.2.1 st.2.2
def tyL : Cd → List Bool → Option (List Bool)
  | [], s => some s
  | e :: x, s => match tyO e.1 e.2 s with
    | some t => if t.length ≤ 60 then tyL x t else none
    | none => none
theorem tyL_s (e : Nat × Nat) (x : Cd) (s : List Bool) : tyL (e :: x) s = match tyO e.1 e.2 s with
    | some t => if t.length ≤ 60 then tyL x t else none
    | none => none := rfl
theorem tyL_app : ∀ (x y : Cd) (s t : List Bool), tyL x s = some t → tyL (x ++ y) s = tyL y t
  | [], y, s, t, h => by
    have : s = t := Option.some.inj h
    rw [this]
    rfl
  | e :: x, y, s, t, h => by
    rw [List.cons_append, tyL_s]
    rw [tyL_s] at h
    cases c : tyO e.1 e.2 s with
    | none => rw [c] at h; cases h
    | some u =>
      rw [c] at h
      by_cases d : u.length ≤ 60
      · have h' : tyL x u = some t := by
          have : (if u.length ≤ 60 then tyL x u else none) = some t := h
          rw [if_pos d] at this
          exact this
        show (if u.length ≤ 60 then tyL (x ++ y) u else none) = _
        rw [if_pos d]
        exact tyL_app x y u t h'
      · have : (if u.length ≤ 60 then tyL x u else none) = some t := h
        rw [if_neg d] at this
        cases this
theorem tyL_1 {k n : Nat} {s t : List Bool} (h : tyO k n s = some t) (ht : t.length ≤ 60) : tyL [(k, n)] s = some t := by
  rw [tyL_s]
  show (match tyO k n s with
    | some t => if t.length ≤ 60 then tyL [] t else none
    | none => none) = _
  rw [h]
  show (if t.length ≤ 60 then tyL [] t else none) = _
  rw [if_pos ht]
  rfl
def Bf (T : Tp) (f : Nat) : Prop := 0 < f ∧ f ≤ 8 * T.1 + 5
/-- st' lies behind st, and what came is a value (b: a truth) -/
def Oc (T : Tp) (b : Bool) (st st' : Ps) : Prop := st.1 < st'.1 ∧ st'.1 ≤ T.1 ∧ st.2.1 < st'.2.1 ∧ st'.2.1 ≤ 60 ∧ ∃ x, st'.2.2 = st.2.2 ++ x ∧ 3 * x.length + 2 + (6 * st.2.1 + st.1) ≤ 6 * st'.2.1 + st'.1 ∧ ∀ s : List Bool, s.length + st'.2.1 ≤ 60 + st.2.1 → tyL x s = some (b :: s)
def OC (T : Tp) (b : Bool) (st : Ps) (r : Sum Nat Ps) : Prop := match r with
  | Sum.inl f => Bf T f
  | Sum.inr st' => Oc T b st st'
theorem Bf.mk {T : Tp} {s b : Nat} (hs : s ≤ 4) (hb : b ≤ T.1) : Bf T (flt s b) := by
  unfold Bf flt
  omega
theorem Oc.bin {T : Tp} {b1 b2 b3 : Bool} {k : Nat} {st0 s q s' : Ps} (h1 : Oc T b1 st0 s) (h2 : Oc T b2 q s') (hq : s.1 < q.1) (hc : s.2.1 ≤ q.2.1) (hl : q.2.2 = s.2.2) (hk : ∀ t, tyO k 0 (b2 :: b1 :: t) = some (b3 :: t)) : Oc T b3 st0 (put s' k) := by
  obtain ⟨a1, a2, a3, a4, x, ax, az, at'⟩ := h1
  obtain ⟨c1, c2, c3, c4, y, cy, cz, ct'⟩ := h2
  refine ⟨by show st0.1 < s'.1; omega, c2, by show st0.2.1 < s'.2.1; omega, c4, x ++ (y ++ [(k, 0)]), ?_, ?_, fun t ht => ?_⟩
  · show s'.2.2 ++ [(k, 0)] = _
    rw [cy, hl, ax, List.append_assoc, List.append_assoc]
  · rw [List.length_append, List.length_append]
    show 3 * (x.length + (y.length + 1)) + 2 + (6 * st0.2.1 + st0.1) ≤ 6 * s'.2.1 + s'.1
    omega
  · have ht' : t.length + s'.2.1 ≤ 60 + st0.2.1 := ht
    rw [tyL_app _ _ _ _ (at' t (by omega)), tyL_app _ _ _ _ (ct' (b1 :: t) (by show t.length + 1 + _ ≤ _; omega))]
    exact tyL_1 (hk t) (by show t.length + 1 ≤ 60; omega)
theorem Oc.lo {T : Tp} {b : Bool} {p q s : Ps} (h : Oc T b q s) (h1 : p.1 ≤ q.1) (h2 : q.2 = p.2) : Oc T b p s := by
  obtain ⟨a1, a2, a3, a4, x, ax, az, at'⟩ := h
  rw [h2] at a3 ax az at'
  exact ⟨by omega, a2, a3, a4, x, ax, by omega, at'⟩
theorem Oc.hi {T : Tp} {b : Bool} {p s s' : Ps} (h : Oc T b p s) (h1 : s.1 ≤ s'.1) (h3 : s'.1 ≤ T.1) (h2 : s'.2 = s.2) : Oc T b p s' := by
  obtain ⟨a1, a2, a3, a4, x, ax, az, at'⟩ := h
  rw [← h2] at a3 a4 ax az at'
  exact ⟨by omega, h3, a3, a4, x, ax, by omega, at'⟩
theorem Oc.no {T : Tp} {p q s : Ps} (h : Oc T true q s) (h1 : p.1 + 3 ≤ q.1) (h2 : q.2 = p.2) : Oc T true p (put s 9) := by
  obtain ⟨a1, a2, a3, a4, x, ax, az, at'⟩ := h
  rw [h2] at a3 ax az at'
  refine ⟨by show p.1 < s.1; omega, a2, a3, a4, x ++ [(9, 0)], ?_, ?_, fun t ht => ?_⟩
  · show s.2.2 ++ [(9, 0)] = _
    rw [ax, List.append_assoc]
  · rw [List.length_append]
    show 3 * (x.length + 1) + 2 + (6 * p.2.1 + p.1) ≤ 6 * s.2.1 + s.1
    omega
  · have ht' : t.length + s.2.1 ≤ 60 + p.2.1 := ht
    rw [tyL_app _ _ _ _ (at' t (by omega))]
    exact tyL_1 rfl (by show t.length + 1 ≤ 60; omega)
theorem OC.lo {T : Tp} {b : Bool} {p q : Ps} {r : Sum Nat Ps} (h : OC T b q r) (h1 : p.1 ≤ q.1) (h2 : q.2 = p.2) : OC T b p r := by
  cases r with
  | inl f => exact h
  | inr s => exact Oc.lo h h1 h2
theorem OC.bnd {T : Tp} {b b' : Bool} {p : Ps} {r : Sum Nat Ps} {q : Ps} {f : Ps → Sum Nat Ps} (h : OC T b q r) (hf : ∀ s, r = Sum.inr s → Oc T b q s → OC T b' p (f s)) : OC T b' p (bnd r f) := by
  cases r with
  | inl e => exact h
  | inr s => exact hf s rfl h
theorem wEq_e {T : Tp} {p : Nat} {w : List Nat} (h : wEq T p w = true) : sc T ltP p = p + w.length ∧ p < sc T ltP p ∧ p < T.1 := by
  unfold wEq at h
  rw [Bool.and_eq_true, beq_iff_eq] at h
  have h1 := (fj_all.mp h.1).1
  exact ⟨h.2.symm, h1, (sc_b T ltP p p (Nat.le_refl _) h1).1⟩
theorem wEq_l {T : Tp} {p : Nat} {w : List Nat} (h : wEq T p w = true) : p + w.length ≤ T.1 := by
  have := wEq_e h
  have h2 := sc_le T ltP p (by omega)
  omega
theorem wInF_e {T : Tp} {p : Nat} : ∀ {ws : List (List Nat)} {k0 k : Nat}, wInF T p ws k0 = some k → k0 ≤ k ∧ k < k0 + ws.length ∧ wEq T p (ws.getD (k - k0) []) = true
  | [], k0, k, h => by cases h
  | w :: ws, k0, k, h => by
    rw [wInF_s] at h
    by_cases c : wEq T p w = true
    · rw [if_pos c] at h
      have e : k0 = k := Option.some.inj h
      subst e
      refine ⟨Nat.le_refl _, ?_, ?_⟩
      · show k0 < k0 + (ws.length + 1)
        omega
      · rw [Nat.sub_self]
        exact c
    · rw [if_neg c] at h
      obtain ⟨h1, h2, h3⟩ := wInF_e (ws := ws) h
      refine ⟨by omega, ?_, ?_⟩
      · show k < k0 + (ws.length + 1)
        omega
      · rw [show k - k0 = (k - (k0 + 1)) + 1 by omega]
        exact h3
theorem sc_lt {T : Tp} {P : Nat → Bool} {p : Nat} (h : p < T.1) (hp : P (T.2 p) = true) : p < sc T P p := by
  rw [sc_t h hp]
  have := sc_ge T P (p + 1)
  omega
theorem pVal_oc {T : Tp} {st : Ps} (hp : st.1 ≤ T.1) : OC T false st (pVal T st) := by
  have hg := sc_ge T blP st.1
  have hl := sc_le T blP st.1 hp
  unfold pVal pValB
  generalize sc T blP st.1 = b at hg hl
  by_cases c1 : b < T.1 ∧ dgP (T.2 b) = true
  · rw [if_pos c1]
    by_cases c2 : 5 < sc T dgP b - b
    · rw [if_pos c2]; exact Bf.mk (by decide) hl
    · rw [if_neg c2]
      by_cases c3 : 60 ≤ st.2.1
      · rw [if_pos c3]; exact Bf.mk (by decide) hl
      · rw [if_neg c3]
        have h1 := sc_lt c1.1 c1.2
        have h2 := sc_le T dgP b hl
        have h3 := nm5 (T := T) (b := b) (p := sc T dgP b) (Nat.le_refl _)
        have h4 : m5 (sc T dgP b - b) = sc T dgP b - b := by
          unfold m5
          split <;> omega
        rw [h4] at h3
        refine ⟨by show st.1 < sc T dgP b; omega, h2, by show st.2.1 < st.2.1 + 1; omega, by show st.2.1 + 1 ≤ 60; omega, [(0, nmF T b (sc T dgP b - b))], rfl, ?_, fun s hs => ?_⟩
        · show 3 * 1 + 2 + (6 * st.2.1 + st.1) ≤ 6 * (st.2.1 + 1) + sc T dgP b
          omega
        · have hs' : s.length + (st.2.1 + 1) ≤ 60 + st.2.1 := hs
          refine tyL_1 ?_ (by show s.length + 1 ≤ 60; omega)
          show (if nmF T b (sc T dgP b - b) ≤ 99999 then some (false :: s) else none) = _
          rw [if_pos h3]
  · rw [if_neg c1]
    cases c2 : wInF T b wV 0 with
    | none => exact Bf.mk (by decide) hl
    | some k =>
      show OC T false st (if 60 ≤ st.2.1 then Sum.inl (flt 3 b) else Sum.inr (sc T ltP b, st.2.1 + 1, st.2.2 ++ [(1, k)]))
      by_cases c3 : 60 ≤ st.2.1
      · rw [if_pos c3]; exact Bf.mk (by decide) hl
      · rw [if_neg c3]
        obtain ⟨_, k1, k2⟩ := wInF_e c2
        have k3 : k < 11 := by
          have : wV.length = 11 := rfl
          omega
        obtain ⟨_, e2, e3⟩ := wEq_e k2
        have e4 := sc_le T ltP b hl
        refine ⟨by show st.1 < sc T ltP b; omega, e4, by show st.2.1 < st.2.1 + 1; omega, by show st.2.1 + 1 ≤ 60; omega, [(1, k)], rfl, ?_, fun s hs => ?_⟩
        · show 3 * 1 + 2 + (6 * st.2.1 + st.1) ≤ 6 * (st.2.1 + 1) + sc T ltP b
          omega
        · have hs' : s.length + (st.2.1 + 1) ≤ 60 + st.2.1 := hs
          refine tyL_1 ?_ (by show s.length + 1 ≤ 60; omega)
          show (if k < 11 then some (false :: s) else none) = _
          rw [if_pos k3]
def nxL {α : Type} (x : Sum Nat Ps) (g : Ps → α) : Sum (Sum Nat Ps) α := match x with
  | Sum.inl e => Sum.inl (Sum.inl e)
  | Sum.inr a => Sum.inr (g a)
theorem nxL_r {α : Type} {x : Sum Nat Ps} {g : Ps → α} {y : α} (h : nxL x g = Sum.inr y) : ∃ a, x = Sum.inr a ∧ y = g a := by
  cases x with
  | inl e => cases h
  | inr a => exact ⟨a, rfl, (Sum.inr.inj h).symm⟩
theorem nxL_l {α : Type} {x : Sum Nat Ps} {g : Ps → α} {y : Sum Nat Ps} (h : nxL x g = Sum.inl y) : ∃ e, x = Sum.inl e ∧ y = Sum.inl e := by
  cases x with
  | inl e => exact ⟨e, rfl, (Sum.inl.inj h).symm⟩
  | inr a => cases h
theorem lp_nx {α : Type} {f : α → Sum (Sum Nat Ps) α} {d : Sum Nat Ps} {μ : α → Nat} {N : Nat} (h : ∀ s s', f s = Sum.inr s' → μ s' < μ s) (hb : ∀ s, μ s < N) {s : α} {x : Sum Nat Ps} {g : Ps → α} (e : f s = nxL x g) : lp f d N s = bnd x (fun a => lp f d N (g a)) := by
  cases x with
  | inl r => exact lp_l hb e
  | inr a => exact lp_r h hb e
/-- behind a value of a TERM -/
abbrev mdP (T : Tp) (b : Nat) : Prop := b < T.1 ∧ (T.2 b = 42 ∨ T.2 b = 47)
abbrev adP (T : Tp) (b : Nat) : Prop := b < T.1 ∧ (T.2 b = 43 ∨ T.2 b = 45)
def mdK (T : Tp) (b : Nat) : Nat := if T.2 b = 42 then 13 else 14
def adK (T : Tp) (b : Nat) : Nat := if T.2 b = 43 then 2 else 3
def stTm (T : Tp) (st : Ps) : Sum (Sum Nat Ps) Ps := if mdP T (sc T blP st.1) then nxL (pVal T (sc T blP st.1 + 1, st.2)) (fun s => put s (mdK T (sc T blP st.1))) else Sum.inl (Sum.inr (sc T blP st.1, st.2))
def tL (T : Tp) : Ps → Sum Nat Ps := lp (stTm T) (Sum.inl 0) 401
def mu (s : Ps) : Nat := 400 - s.1
theorem mu_b (s : Ps) : mu s < 401 := by
  unfold mu
  omega
theorem stTm_m {T : Tp} (hK : TpK T) : ∀ s s', stTm T s = Sum.inr s' → mu s' < mu s := by
  intro s s' h
  have hK1 := hK.1
  unfold stTm at h
  by_cases c : mdP T (sc T blP s.1)
  · rw [if_pos c] at h
    obtain ⟨a, h1, h2⟩ := nxL_r h
    have c1 := c.1
    have h3 := pVal_oc (T := T) (st := (sc T blP s.1 + 1, s.2)) (by show sc T blP s.1 + 1 ≤ T.1; omega)
    rw [h1] at h3
    have h4 : sc T blP s.1 + 1 < a.1 := h3.1
    have h5 := sc_ge T blP s.1
    rw [h2]
    show 400 - a.1 < 400 - s.1
    omega
  · rw [if_neg c] at h
    cases h
theorem tL_s {T : Tp} (hK : TpK T) {st : Ps} (h : mdP T (sc T blP st.1)) : tL T st = bnd (pVal T (sc T blP st.1 + 1, st.2)) (fun s => tL T (put s (mdK T (sc T blP st.1)))) :=
  lp_nx (stTm_m hK) mu_b (by unfold stTm; rw [if_pos h])
theorem tL_e {T : Tp} {st : Ps} (h : ¬ mdP T (sc T blP st.1)) : tL T st = Sum.inr (sc T blP st.1, st.2) :=
  lp_l (μ := mu) mu_b (by unfold stTm; rw [if_neg h])
theorem tyO_13 (t : List Bool) : tyO 13 0 (false :: false :: t) = some (false :: t) := rfl
theorem mdK_ty (T : Tp) (b : Nat) (t : List Bool) : tyO (mdK T b) 0 (false :: false :: t) = some (false :: t) := by
  unfold mdK
  split <;> rfl
theorem adK_ty (T : Tp) (b : Nat) (t : List Bool) : tyO (adK T b) 0 (false :: false :: t) = some (false :: t) := by
  unfold adK
  split <;> rfl
theorem tL_oc {T : Tp} (hK : TpK T) {p s : Ps} (h : Oc T false p s) : OC T false p (tL T s) ∧ ∀ s', tL T s = Sum.inr s' → sc T blP s'.1 = s'.1 := by
  refine lp_inv (I := fun s => Oc T false p s) (Q := fun r => OC T false p r ∧ ∀ s', r = Sum.inr s' → sc T blP s'.1 = s'.1) (stTm_m hK) mu_b ?_ ?_ s h
  · intro s s' hI e
    unfold stTm at e
    by_cases c : mdP T (sc T blP s.1)
    · rw [if_pos c] at e
      obtain ⟨a, h1, h2⟩ := nxL_r e
      have c1 := c.1
      have h5 := sc_ge T blP s.1
      have h3 := pVal_oc (T := T) (st := (sc T blP s.1 + 1, s.2)) (by show sc T blP s.1 + 1 ≤ T.1; omega)
      rw [h1] at h3
      rw [h2]
      exact Oc.bin hI h3 (by show s.1 < sc T blP s.1 + 1; omega) (Nat.le_refl _) rfl (mdK_ty T _)
    · rw [if_neg c] at e
      cases e
  · intro s r hI e
    have h5 := sc_ge T blP s.1
    have h6 := sc_le T blP s.1 hI.2.1
    unfold stTm at e
    by_cases c : mdP T (sc T blP s.1)
    · rw [if_pos c] at e
      obtain ⟨f, h1, h2⟩ := nxL_l e
      have c1 := c.1
      have h3 := pVal_oc (T := T) (st := (sc T blP s.1 + 1, s.2)) (by show sc T blP s.1 + 1 ≤ T.1; omega)
      rw [h1] at h3
      rw [h2]
      exact ⟨h3, fun s' e => by cases e⟩
    · rw [if_neg c] at e
      have e' : r = Sum.inr (sc T blP s.1, s.2) := (Sum.inl.inj e).symm
      rw [e']
      refine ⟨Oc.hi hI h5 h6 rfl, fun s' e => ?_⟩
      have : s' = (sc T blP s.1, s.2) := (Sum.inr.inj e).symm
      rw [this]
      exact sc_sc T blP s.1
def pTerm (T : Tp) (st : Ps) : Sum Nat Ps := bnd (pVal T st) (tL T)
theorem pTerm_oc {T : Tp} (hK : TpK T) {st : Ps} (hp : st.1 ≤ T.1) : OC T false st (pTerm T st) ∧ ∀ s', pTerm T st = Sum.inr s' → sc T blP s'.1 = s'.1 := by
  have h := pVal_oc (T := T) hp
  unfold pTerm
  cases e : pVal T st with
  | inl f =>
    rw [e] at h
    exact ⟨h, fun s' e => by cases e⟩
  | inr s =>
    rw [e] at h
    exact tL_oc hK h
def stUm (T : Tp) (st : Ps) : Sum (Sum Nat Ps) Ps := if adP T st.1 then nxL (pTerm T (st.1 + 1, st.2)) (fun s => put s (adK T st.1)) else Sum.inl (Sum.inr st)
def uL' (T : Tp) : Ps → Sum Nat Ps := lp (stUm T) (Sum.inl 0) 401
theorem stUm_m {T : Tp} (hK : TpK T) : ∀ s s', stUm T s = Sum.inr s' → mu s' < mu s := by
  intro s s' h
  have hK1 := hK.1
  unfold stUm at h
  by_cases c : adP T s.1
  · rw [if_pos c] at h
    obtain ⟨a, h1, h2⟩ := nxL_r h
    have c1 := c.1
    have h3 := (pTerm_oc (T := T) hK (st := (s.1 + 1, s.2)) (by show s.1 + 1 ≤ T.1; omega)).1
    rw [h1] at h3
    have h4 : s.1 + 1 < a.1 := h3.1
    rw [h2]
    show 400 - a.1 < 400 - s.1
    omega
  · rw [if_neg c] at h
    cases h
theorem uL_s {T : Tp} (hK : TpK T) {st : Ps} (h : adP T st.1) : uL' T st = bnd (pTerm T (st.1 + 1, st.2)) (fun s => uL' T (put s (adK T st.1))) :=
  lp_nx (stUm_m hK) mu_b (by unfold stUm; rw [if_pos h])
theorem uL_e {T : Tp} {st : Ps} (h : ¬ adP T st.1) : uL' T st = Sum.inr st :=
  lp_l (μ := mu) mu_b (by unfold stUm; rw [if_neg h])
theorem uL_oc {T : Tp} (hK : TpK T) {p s : Ps} (h : Oc T false p s) (hb : sc T blP s.1 = s.1) : OC T false p (uL' T s) ∧ ∀ s', uL' T s = Sum.inr s' → sc T blP s'.1 = s'.1 := by
  refine lp_inv (I := fun s => Oc T false p s ∧ sc T blP s.1 = s.1) (Q := fun r => OC T false p r ∧ ∀ s', r = Sum.inr s' → sc T blP s'.1 = s'.1) (stUm_m hK) mu_b ?_ ?_ s ⟨h, hb⟩
  · intro s s' hI e
    unfold stUm at e
    by_cases c : adP T s.1
    · rw [if_pos c] at e
      obtain ⟨a, h1, h2⟩ := nxL_r e
      have c1 := c.1
      obtain ⟨h3, h4⟩ := pTerm_oc (T := T) hK (st := (s.1 + 1, s.2)) (by show s.1 + 1 ≤ T.1; omega)
      rw [h1] at h3
      rw [h2]
      exact ⟨Oc.bin hI.1 h3 (by show s.1 < s.1 + 1; omega) (Nat.le_refl _) rfl (adK_ty T _), h4 a h1⟩
    · rw [if_neg c] at e
      cases e
  · intro s r hI e
    unfold stUm at e
    by_cases c : adP T s.1
    · rw [if_pos c] at e
      obtain ⟨f, h1, h2⟩ := nxL_l e
      have c1 := c.1
      have h3 := (pTerm_oc (T := T) hK (st := (s.1 + 1, s.2)) (by show s.1 + 1 ≤ T.1; omega)).1
      rw [h1] at h3
      rw [h2]
      exact ⟨h3, fun s' e => by cases e⟩
    · rw [if_neg c] at e
      have e' : r = Sum.inr s := (Sum.inl.inj e).symm
      rw [e']
      refine ⟨hI.1, fun s' e => ?_⟩
      have : s' = s := (Sum.inr.inj e).symm
      rw [this]
      exact hI.2
def pSum (T : Tp) (st : Ps) : Sum Nat Ps := bnd (pTerm T st) (uL' T)
theorem pSum_oc {T : Tp} (hK : TpK T) {st : Ps} (hp : st.1 ≤ T.1) : OC T false st (pSum T st) ∧ ∀ s', pSum T st = Sum.inr s' → sc T blP s'.1 = s'.1 := by
  have h := pTerm_oc (T := T) hK hp
  unfold pSum
  cases e : pTerm T st with
  | inl f =>
    rw [e] at h
    exact ⟨h.1, fun s' e => by cases e⟩
  | inr s =>
    rw [e] at h
    exact uL_oc hK h.1 (h.2 s rfl)
def wl (w : Nat) : Cd := if w = 0 then [] else [(w, 0)]
/-- how the class reads on in a SUM, a + or - (w) held back -/
def sF (T : Tp) (w : Nat) (st : Ps) : Sum Nat Ps := bnd (tL T st) (fun s => uL' T (s.1, s.2.1, s.2.2 ++ wl w))
theorem pSum_sF (T : Tp) (st : Ps) : pSum T st = bnd (pVal T st) (sF T 0) := by
  unfold pSum pTerm sF
  rw [bnd_b]
  cases pVal T st with
  | inl e => rfl
  | inr s =>
    rw [bnd_r, bnd_r]
    cases tL T s with
    | inl e => rfl
    | inr s =>
      rw [bnd_r, bnd_r]
      congr 1
      show s = (s.1, s.2.1, s.2.2 ++ [])
      rw [List.append_nil]
theorem sF_a {T : Tp} (hK : TpK T) {w : Nat} {st : Ps} (h : adP T (sc T blP st.1)) : sF T w st = bnd (pVal T (sc T blP st.1 + 1, st.2.1, st.2.2 ++ wl w)) (sF T (adK T (sc T blP st.1))) := by
  have h1 : ¬ mdP T (sc T blP st.1) := by
    rintro ⟨_, c⟩
    have := h.2
    omega
  unfold sF
  rw [tL_e h1, bnd_r, uL_s hK h]
  unfold pTerm
  rw [bnd_b]
  cases pVal T (sc T blP st.1 + 1, st.2.1, st.2.2 ++ wl w) with
  | inl e => rfl
  | inr s =>
    rw [bnd_r, bnd_r]
    cases tL T s with
    | inl e => rfl
    | inr s =>
      rw [bnd_r, bnd_r]
      congr 1
      have : adK T (sc T blP st.1) ≠ 0 := by
        unfold adK
        split <;> decide
      unfold wl
      rw [if_neg this]
      rfl
theorem sF_m {T : Tp} (hK : TpK T) {w : Nat} {st : Ps} (h : mdP T (sc T blP st.1)) : sF T w st = bnd (pVal T (sc T blP st.1 + 1, st.2)) (fun s => sF T w (put s (mdK T (sc T blP st.1)))) := by
  unfold sF
  rw [tL_s hK h, bnd_b]
theorem sF_e {T : Tp} {w : Nat} {st : Ps} (h1 : ¬ mdP T (sc T blP st.1)) (h2 : ¬ adP T (sc T blP st.1)) : sF T w st = Sum.inr (sc T blP st.1, st.2.1, st.2.2 ++ wl w) := by
  unfold sF
  rw [tL_e h1, bnd_r, uL_e h2]
