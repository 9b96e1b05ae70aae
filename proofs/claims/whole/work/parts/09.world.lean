/-! the store as cells of the heap -/
abbrev GE : Type := (Nat → ClassId) × (Nat → Nat → Nat) × (Nat → Nat → Nat) × (Nat → ClassId) × (Nat → Nat) × (Nat → Nat) × Value × Nat × Nat × (Nat → Int32)
def g_D (g : GE) : va_G := (g.1, g.2.1)
def g_a (g : GE) : Nat → Nat → Nat := g.2.2.1
def g_A (g : GE) : Nat → ClassId := g.2.2.2.1
def g_k (g : GE) : Nat → Nat := g.2.2.2.2.1
def g_v (g : GE) : Nat → Nat := g.2.2.2.2.2.1
def g_f (g : GE) : Value := g.2.2.2.2.2.2.1
def g_b (g : GE) : Nat := g.2.2.2.2.2.2.2.1
def g_L (g : GE) : Nat := g.2.2.2.2.2.2.2.2.1
def g_x (g : GE) : Nat → Int32 := g.2.2.2.2.2.2.2.2.2
def rfv (g : GE) (t i : Nat) : Value := if t = 100 then .ref (g_k g i) else if t = 101 then .ref (g_v g i) else if t = 102 then .ref (g_b g) else if t = 103 then g_f g else .ref (g_a g t i)
def cv (g : GE) (v : av) : Value := match v with
  | .inl x => .int x
  | .inr (.inl x) => .long x
  | .inr (.inr (.inl q)) => rfv g q.1 q.2
  | .inr (.inr (.inr _)) => .null
def fvc (g : GE) (S : Sto) (t i k : Nat) (q : Nat × Nat × Nat) : Value := match q with
  | (1, t', 0) => .ref (g_a g t' i)
  | (1, t', c + 1) => .ref (g_a g t' c)
  | (2, t', _) => va_rf (S.2.2.map (g_a g t'))
  | _ => .int (S.1 t i k)
def acl (t : Nat) : Nat := match (knd t).1 with
  | 5 => bif Nat.beq t 14 then 5 else 6
  | n => n
def cel (g : GE) (S : Sto) (t i : Nat) : va_E := match knd t with
  | (0, ci, fs) => .inr (ci, fs.mapIdx (fvc g S t i))
  | (2, n, _) => .inl (g_A g 2, n, .inr (.inl (S.2.1 t i)))
  | (5, n, [(_, t', o)]) => .inl (g_A g (acl t), n, .inr (.inr (.inr (.inr (fun j => some (g_a g t' (o + j)))))))
  | (a, n, _) => .inl (g_A g a, n, .inl (S.1 t i))
def wsC (g : GE) (S : Sto) : va_W := lay.map (fun q => (g_a g q.1 q.2, cel g S q.1 q.2))
def tys (g : GE) : List (ClassId × FieldType) := [(g_A g 1, .int), (g_A g 2, .long), (g_A g 3, .byte), (g_A g 4, .boolean), (g_A g 5, .object "OwnedByTwos$Town"), (g_A g 6, .object "OwnedByTwos$Law")]
def Aw (g : GE) : Nat → Prop := fun a => ∃ q ∈ lay, a = g_a g q.1 q.2
theorem wsC_at {g : GE} {S : Sto} {p t i : Nat} (h : lay[p]? = some (t, i)) : (wsC g S)[p]? = some (g_a g t i, cel g S t i) := by
  unfold wsC
  rw [List.getElem?_map, h]
  rfl
theorem cel_congr {g : GE} {S S' : Sto} {t i : Nat} (h1 : S.1 t i = S'.1 t i) (h2 : S.2.1 t i = S'.2.1 t i) (h3 : S.2.2 = S'.2.2) : cel g S t i = cel g S' t i := by
  have e : fvc g S t i = fvc g S' t i := by
    funext k q
    unfold fvc
    rw [h1, h3]
  unfold cel
  rw [e, h1, h2]
theorem wsC_set {g : GE} {S S' : Sto} {p t i : Nat} (hp : lay[p]? = some (t, i)) (hc : ∀ t' i', (t', i') ∈ lay → (t', i') ≠ (t, i) → cel g S' t' i' = cel g S t' i') {E : va_E} (hE : cel g S' t i = E) : (wsC g S).set p (g_a g t i, E) = wsC g S' := by
  subst hE
  apply List.ext_getElem?
  intro n
  by_cases hn : n = p
  · subst hn
    have hl : n < (wsC g S).length := (List.getElem?_eq_some_iff.mp (wsC_at (g := g) (S := S) hp)).1
    rw [List.getElem?_set_self hl, wsC_at hp]
  · rw [List.getElem?_set_ne (Ne.symm hn)]
    cases hq : lay[n]? with
    | none =>
      unfold wsC
      rw [List.getElem?_map, List.getElem?_map, hq]
      rfl
    | some q =>
      obtain ⟨t', i'⟩ := q
      rw [wsC_at hq, wsC_at hq]
      have hne : (t', i') ≠ (t, i) := by
        intro e
        rw [e] at hq
        have hl : n < lay.length := (List.getElem?_eq_some_iff.mp hq).1
        exact hn ((List.getElem?_inj hl lay_n).mp (hq.trans hp.symm))
      rw [hc t' i' (List.mem_of_getElem? hq) hne]
theorem lay_p {q : Nat × Nat} (h : q ∈ lay) : ∃ p : Nat, lay[p]? = some q := List.getElem?_of_mem h
def inj (g : GE) : Prop := ∀ p q : Nat × Nat, p ∈ lay → q ∈ lay → g_a g p.1 p.2 = g_a g q.1 q.2 → p = q
theorem wsC_D {g : GE} {S : Sto} (hi : inj g) : va_D (Aw g) (wsC g S) := by
  have key : ∀ (n : Nat) (x : Nat × va_E), (wsC g S)[n]? = some x → ∃ q, lay[n]? = some q ∧ x.1 = g_a g q.1 q.2 := by
    intro n x hx
    unfold wsC at hx
    rw [List.getElem?_map] at hx
    cases hq : lay[n]? with
    | none => rw [hq] at hx; cases hx
    | some q => rw [hq] at hx; cases hx; exact ⟨q, rfl, rfl⟩
  refine ⟨fun a b x y hx hy e => ?_, fun n x hx => ?_⟩
  · obtain ⟨q, h1, h2⟩ := key a x hx
    obtain ⟨r, h3, h4⟩ := key b y hy
    have h5 := hi q r (List.mem_of_getElem? h1) (List.mem_of_getElem? h3) (by rw [← h2, ← h4]; exact e)
    subst h5
    exact (List.getElem?_inj (List.getElem?_eq_some_iff.mp h1).1 lay_n).mp (h1.trans h3.symm)
  · obtain ⟨q, h1, h2⟩ := key n x hx
    exact ⟨q, List.mem_of_getElem? h1, h2⟩
def lenS : List Nat := (List.range 23).map (fun j => (strB j).length)
def bytS : List (List Int32) := (List.range 23).map strB
/-- what stays: tables, texts, statics, the script; told of a method's start -/
def Stat (g : GE) (U : State) : Prop :=
  va_K (g_D g) vwCl (tys g) U ∧ vk_S 23 lenS bytS (g_k g) (g_v g) (Aw g) U U.heap ∧
  (∀ (c : Nat) (q : Nat × Nat × Nat), c < 17 → q ∈ scsL c → vk_R (cnm c) q.1 (strT q.2.1) (g_k g q.2.1) U) ∧
  va_Z "java/lang/String" "COMPACT_STRINGS" "Z" (.int 1) (Aw g) U U.heap ∧ va_Z "jdk/internal/util/Preconditions" "SIOOBE_FORMATTER" "Ljava/util/function/BiFunction;" (g_f g) (Aw g) U U.heap ∧
  (∀ (c : Nat) (q : Nat × Nat × Nat × Nat), c < 17 → q ∈ mthL c → q.2.1 = 2 → va_Nw (.methodLinkNest (cnm c) q.1 (m_y q.2.2.1) "OwnedByTwos") U) ∧
  (va_X (g_b g) (g_L g) (g_x g) U U.heap ∧ g_b g < U.heap.size ∧ ¬ Aw g (g_b g)) ∧ inj g ∧ g_L g < 2 ^ 31 ∧ (g_f g = .null ∨ ∃ t, g_f g = .ref t)
theorem Stat.go {g : GE} {s U : State} {H : Heap} {locs : List Loc} (h : Stat g s) (hW : s.WarmedH U.vm) (hH : U.heap = H) (hS : va_S (Aw g) s.heap H locs) : Stat g U := by
  obtain ⟨h1, h2, h3, h4, h5, h6, ⟨h7, h8, h9⟩, h10, h11, h12⟩ := h
  have hk : ∀ a : Nat, a < s.heap.size → ¬ Aw g a → U.heap[a]? = s.heap[a]? := by rw [hH]; exact hS.2.1
  refine ⟨h1.moved hW.alike, (h2.kept hk).moved hW.alike, fun c q hc hq => (h3 c q hc hq).warm hW, (h4.kept hk).moved hW.alike, (h5.kept hk).moved hW.alike, fun c q hc hq h2 => (h6 c q hc hq h2).warmM hW, ⟨(h7.kept (hk _ h8 h9)).moved hW.alike, ?_, h9⟩, h10, h11, h12⟩
  rw [hH]
  exact Nat.lt_of_lt_of_le h8 hS.1
theorem Stat.calling {g : GE} {U : State} (f : JFrame) (mk : MethodId) (a : Array Value) (h : Stat g U) : Stat g (U.calling f mk a) := by
  obtain ⟨h1, h2, h3, h4, h5, h6, ⟨h7, h8, h9⟩, h10⟩ := h
  have hr : U.vm.Alike (U.calling f mk a).vm := Vm.Alike.refl U.vm
  exact ⟨va_K.moved (u := U) hr h1, vk_S.moved (u := U) hr h2, fun c q hc hq => vk_R.same (u := U) rfl (h3 c q hc hq), va_Z.moved (u := U) hr h4, va_Z.moved (u := U) hr h5, fun c q hc hq e => va_Nw.same (u := U) rfl rfl (h6 c q hc hq e), ⟨va_X.moved (u := U) hr h7, h8, h9⟩, h10⟩
def StoOK (g : GE) (S : Sto) : Prop := S.1 102 0 = g_x g ∧ S.1 103 0 0 = Int32.ofNat (g_L g) ∧ ∀ j, S.2.2 = some j → j < 6
def vdv (v : av) : Prop := ∀ t i, v = vR t i → (t, i) ∈ lay ∨ (t = 100 ∧ i < 23) ∨ (t = 101 ∧ i < 23) ∨ (t = 102 ∧ i = 0) ∨ (t = 103 ∧ i = 0)
def okC (k : Nat) (c : Cf) : Prop := c.2.1.length = m_l k ∧ (∀ v ∈ c.2.1, vdv v) ∧ (∀ v ∈ c.2.2.1, vdv v) ∧ ∀ (i : Nat) (x : Int64), c.2.1[i]? = some (vL x) → i ∈ m_s k
theorem vdv_I (x : Int32) : vdv (vI x) := fun _ _ h => by cases h
theorem vdv_L (x : Int64) : vdv (vL x) := fun _ _ h => by cases h
theorem vdv_U : vdv vU := fun _ _ h => by cases h
theorem okV {k pc pc' : Nat} {ls st r : List av} {S S' : Sto} {v : av} (h : okC k (pc, ls, st, S)) (hv : vdv v) (hr : ∀ w ∈ r, w ∈ st) : okC k (pc', ls, v :: r, S') :=
  ⟨h.1, h.2.1, fun w hw => by
    rcases List.mem_cons.mp hw with e | e
    · rw [e]; exact hv
    · exact h.2.2.1 w (hr w e), h.2.2.2⟩
theorem okN {k pc pc' : Nat} {ls st r : List av} {S S' : Sto} (h : okC k (pc, ls, st, S)) (hr : ∀ w ∈ r, w ∈ st) : okC k (pc', ls, r, S') := ⟨h.1, h.2.1, fun w hw => h.2.2.1 w (hr w hw), h.2.2.2⟩
theorem ok1 {k pc pc' i : Nat} {ls st r : List av} {S S' : Sto} {v : av} (h : okC k (pc, ls, st, S)) (hv : vdv v) (hl : ∀ x, v ≠ vL x) (hr : ∀ w ∈ r, w ∈ st) : okC k (pc', ls.set i v, r, S') := by
  refine ⟨by rw [List.length_set]; exact h.1, fun w hw => ?_, fun w hw => h.2.2.1 w (hr w hw), fun j x hj => ?_⟩
  · rcases List.mem_or_eq_of_mem_set hw with e | e
    · exact h.2.1 w e
    · rw [e]; exact hv
  · by_cases hji : i = j
    · subst hji
      have hb : i < ls.length := by
        have := (List.getElem?_eq_some_iff.mp hj).1
        rw [List.length_set] at this
        exact this
      rw [List.getElem?_set_self hb] at hj
      exact absurd (Option.some.inj hj) (hl x)
    · rw [List.getElem?_set_ne hji] at hj
      exact h.2.2.2 j x hj
theorem ok2 {k pc pc' i : Nat} {ls st r : List av} {S S' : Sto} {x : Int64} (h : okC k (pc, ls, st, S)) (hi : i ∈ m_s k) (hr : ∀ w ∈ r, w ∈ st) : okC k (pc', (ls.set i (vL x)).set (i + 1) vU, r, S') := by
  refine ⟨by rw [List.length_set, List.length_set]; exact h.1, fun w hw => ?_, fun w hw => h.2.2.1 w (hr w hw), fun j y hj => ?_⟩
  · rcases List.mem_or_eq_of_mem_set hw with e | e
    · rcases List.mem_or_eq_of_mem_set e with e | e
      · exact h.2.1 w e
      · rw [e]; exact vdv_L x
    · rw [e]; exact vdv_U
  · have hb := (List.getElem?_eq_some_iff.mp hj).1
    rw [List.length_set, List.length_set] at hb
    by_cases h1 : i + 1 = j
    · subst h1
      rw [List.getElem?_set_self (by rw [List.length_set]; exact hb)] at hj
      cases hj
    · rw [List.getElem?_set_ne h1] at hj
      by_cases h2 : i = j
      · subst h2; exact hi
      · rw [List.getElem?_set_ne h2] at hj
        exact h.2.2.2 j y hj
/-- the locals -/
def lvh (g : GE) (k : Nat) (lsA : Array Slot) (ls : List av) : Prop := lsA.size = m_l k ∧ lv_wf lsA ∧ ∀ (i : Nat) (v : av), ls[i]? = some v → v ≠ vU → lsA[i]? = some (.val (cv g v))
def lvE (g : GE) (ls : List av) (i : Nat) : Option (Nat × Value) := match ls[i]? with
  | some (.inr (.inr (.inr _))) => none
  | some v => some (i, cv g v)
  | none => none
def lvl (g : GE) (ls : List av) : List (Nat × Value) := (List.range ls.length).filterMap (lvE g ls)
theorem lvl_inv {g : GE} {ls : List av} {q : Nat × Value} (h : q ∈ lvl g ls) : ∃ v, ls[q.1]? = some v ∧ v ≠ vU ∧ q.2 = cv g v := by
  obtain ⟨i, -, hi⟩ := List.mem_filterMap.mp h
  unfold lvE at hi
  split at hi
  · cases hi
  · rename_i v hne hv
    cases hi
    exact ⟨v, hv, fun e => hne () e, rfl⟩
  · cases hi
theorem lvl_mem {g : GE} {ls : List av} {i : Nat} {v : av} (h : ls[i]? = some v) (hv : v ≠ vU) : (i, cv g v) ∈ lvl g ls := by
  refine List.mem_filterMap.mpr ⟨i, List.mem_range.mpr (List.getElem?_eq_some_iff.mp h).1, ?_⟩
  unfold lvE
  rw [h]
  match v, hv with
  | .inl x, _ => rfl
  | .inr (.inl x), _ => rfl
  | .inr (.inr (.inl x)), _ => rfl
  | .inr (.inr (.inr ())), hv => exact absurd rfl hv
theorem lvh.has {g : GE} {k : Nat} {lsA : Array Slot} {ls : List av} (h : lvh g k lsA ls) : lv_has lsA (m_l k) (lvl g ls) := by
  refine ⟨h.1, h.2.1, fun q hq => ?_⟩
  obtain ⟨v, h1, h2, h3⟩ := lvl_inv hq
  rw [h3]
  exact h.2.2 q.1 v h1 h2
theorem rfv_c {g : GE} (hf : g_f g = .null ∨ ∃ t, g_f g = .ref t) (t i : Nat) : (rfv g t i).category = 1 := by
  unfold rfv
  split
  · rfl
  split
  · rfl
  split
  · rfl
  split
  · rcases hf with h | ⟨t, h⟩ <;> rw [h] <;> rfl
  · rfl
theorem cv_c {g : GE} (hf : g_f g = .null ∨ ∃ t, g_f g = .ref t) (v : av) (h : ∀ x, v ≠ vL x) : (cv g v).category = 1 := by
  match v, h with
  | .inl x, _ => rfl
  | .inr (.inl x), h => exact absurd rfl (h x)
  | .inr (.inr (.inl q)), _ => exact rfv_c hf q.1 q.2
  | .inr (.inr (.inr _)), _ => rfl
theorem lvh_1 {g : GE} (hf : g_f g = .null ∨ ∃ t, g_f g = .ref t) {k i : Nat} {ls : List av} {lsB : Array Slot} {v : av} (hs : ∀ (j : Nat) (x : Int64), ls[j]? = some (vL x) → j + 1 ≠ i) (h : lv_has lsB (m_l k) ((i, cv g v) :: (lvl g ls).filter (fun q => !(q.1 == i) && !(q.1 + 1 == i && q.2.category == 2)))) : lvh g k lsB (ls.set i v) := by
  refine ⟨h.1, h.2.1, fun j w hj hw => ?_⟩
  by_cases hji : i = j
  · subst hji
    have hb : i < ls.length := by
      have := (List.getElem?_eq_some_iff.mp hj).1
      rw [List.length_set] at this
      exact this
    rw [List.getElem?_set_self hb] at hj
    cases hj
    exact h.2.2 (i, cv g v) List.mem_cons_self
  · rw [List.getElem?_set_ne hji] at hj
    refine h.2.2 (j, cv g w) (List.mem_cons_of_mem _ (List.mem_filter.mpr ⟨lvl_mem hj hw, ?_⟩))
    have e1 : (j == i) = false := by simp [Ne.symm hji]
    have e2 : (j + 1 == i && (cv g w).category == 2) = false := by
      by_cases hx : ∃ x, w = vL x
      · obtain ⟨x, rfl⟩ := hx
        have := hs j x hj
        simp [this]
      · have := cv_c hf w (fun x e => hx ⟨x, e⟩)
        simp [this]
    show (!(j == i) && !(j + 1 == i && (cv g w).category == 2)) = true
    rw [e1, e2]
    rfl
theorem lvh_2 {g : GE} (hf : g_f g = .null ∨ ∃ t, g_f g = .ref t) {k i : Nat} {ls : List av} {lsB : Array Slot} {v : av} (hs : ∀ (j : Nat) (x : Int64), ls[j]? = some (vL x) → j + 1 ≠ i) (h : lv_has lsB (m_l k) ((i, cv g v) :: (lvl g ls).filter (fun q => !(q.1 == i) && (!(q.1 == i + 1) && !(q.1 + 1 == i && q.2.category == 2))))) : lvh g k lsB ((ls.set i v).set (i + 1) vU) := by
  refine ⟨h.1, h.2.1, fun j w hj hw => ?_⟩
  have hb := (List.getElem?_eq_some_iff.mp hj).1
  rw [List.length_set, List.length_set] at hb
  by_cases hj1 : i + 1 = j
  · subst hj1
    rw [List.getElem?_set_self (by rw [List.length_set]; exact hb)] at hj
    cases hj
    exact absurd rfl hw
  · rw [List.getElem?_set_ne hj1] at hj
    by_cases hji : i = j
    · subst hji
      rw [List.getElem?_set_self hb] at hj
      cases hj
      exact h.2.2 (i, cv g v) List.mem_cons_self
    · rw [List.getElem?_set_ne hji] at hj
      refine h.2.2 (j, cv g w) (List.mem_cons_of_mem _ (List.mem_filter.mpr ⟨lvl_mem hj hw, ?_⟩))
      have e1 : (j == i) = false := by simp [Ne.symm hji]
      have e3 : (j == i + 1) = false := by simp [Ne.symm hj1]
      have e2 : (j + 1 == i && (cv g w).category == 2) = false := by
        by_cases hx : ∃ x, w = vL x
        · obtain ⟨x, rfl⟩ := hx
          have := hs j x hj
          simp [this]
        · have := cv_c hf w (fun x e => hx ⟨x, e⟩)
          simp [this]
      show (!(j == i) && (!(j == i + 1) && !(j + 1 == i && (cv g w).category == 2))) = true
      rw [e1, e2, e3]
      rfl
