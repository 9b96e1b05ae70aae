theorem goN_mono {C C' : Nat → Nat → List av → Sto → Res} {K K' : Cf → Res} (hC : ∀ k j a S r, C k j a S = some r → C' k j a S = some r) (hK : ∀ c r, K c = some r → K' c = some r) : ∀ (x : Option Nx) (r : Rt), goN C K x = some r → goN C' K' x = some r := by
  intro x r h
  match x, h with
  | none, h => cases h
  | some (.inl c), h => exact hK c r h
  | some (.inr (.inr q)), h => exact h
  | some (.inr (.inl ((k', j', as), b, (pc, ls, st, S)))), h =>
    simp only [goN] at h ⊢
    cases hc : C k' j' as S with
    | none => rw [hc] at h; cases h
    | some q =>
      obtain ⟨v, S'⟩ := q
      rw [hc] at h
      rw [hC _ _ _ _ _ hc]
      cases v <;> cases b <;> first | exact hK _ _ h | exact h
theorem exec_mono : ∀ (n k j : Nat) (c : Cf) (r : Rt), exec n k j c = some r → exec (n + 1) k j c = some r
  | 0, _, _, _, _, h => by cases h
  | n + 1, k, j, (pc, ls, st, S), r, h => goN_mono (fun k' j' _ _ r' h' => exec_mono n k' j' _ r' h') (fun c' r' h' => exec_mono n k j c' r' h') _ r h
theorem exec_le {n m k j : Nat} {c : Cf} {r : Rt} (hm : n ≤ m) (h : exec n k j c = some r) : exec m k j c = some r := by
  obtain ⟨d, rfl⟩ := Nat.le.dest hm
  induction d with
  | zero => exact h
  | succ d ih => exact exec_mono _ _ _ _ _ (ih (Nat.le_add_right _ _))
theorem exec_one {n m k j : Nat} {c : Cf} {r r' : Rt} (h : exec n k j c = some r) (h' : exec m k j c = some r') : r = r' := by
  have h1 := exec_le (Nat.le_max_left n m) h
  have h2 := exec_le (Nat.le_max_right n m) h'
  exact Option.some.inj (h1.symm.trans h2)
/-- the run from a place on: what it comes to, if it comes to an end -/
noncomputable def run (k j pc : Nat) (ls st : List av) (S : Sto) : Res := @dite Res (∃ r n, exec n k j (pc, ls, st, S) = some r) (Classical.propDecidable _) (fun h => some (Classical.choose h)) (fun _ => none)
theorem run_iff {k j pc : Nat} {ls st : List av} {S : Sto} {r : Rt} : run k j pc ls st S = some r ↔ ∃ n, exec n k j (pc, ls, st, S) = some r := by
  unfold run
  by_cases h : ∃ r n, exec n k j (pc, ls, st, S) = some r
  · rw [dif_pos h]
    obtain ⟨n, hn⟩ := Classical.choose_spec h
    refine ⟨fun e => ⟨n, ?_⟩, fun ⟨m, hm⟩ => ?_⟩
    · rw [hn]; exact e
    · rw [exec_one hn hm]
  · rw [dif_neg h]
    exact ⟨fun e => (nomatch e), fun ⟨n, hn⟩ => absurd ⟨r, n, hn⟩ h⟩
/-- a method's run from its start -/
noncomputable def call (k j : Nat) (as : List av) (S : Sto) : Res := run k j 0 (lsO k as) [] S
noncomputable def runC (k j : Nat) (c : Cf) : Res := run k j c.1 c.2.1 c.2.2.1 c.2.2.2
theorem run_step (k j pc : Nat) (ls st : List av) (S : Sto) : run k j pc ls st S = goN call (runC k j) (nx k j pc ls st S) := by
  apply Option.ext
  intro r
  rw [run_iff]
  constructor
  · intro ⟨n, hn⟩
    cases n with
    | zero => cases hn
    | succ n => exact goN_mono (fun k' j' a S' r' h' => run_iff.mpr ⟨n, h'⟩) (fun c r' h' => run_iff.mpr ⟨n, h'⟩) _ r hn
  · intro h
    have key : ∃ n, goN (fun k' j' as S' => exec n k' j' (0, lsO k' as, [], S')) (fun c => exec n k j c) (nx k j pc ls st S) = some r := by
      generalize nx k j pc ls st S = x at h
      match x, h with
      | none, h => cases h
      | some (.inl c), h => exact run_iff.mp h
      | some (.inr (.inr q)), h => exact ⟨0, h⟩
      | some (.inr (.inl ((k', j', as), b, (pc, ls, st, S)))), h =>
        simp only [goN] at h ⊢
        cases hc : call k' j' as S with
        | none => rw [hc] at h; cases h
        | some q =>
          obtain ⟨v, S'⟩ := q
          rw [hc] at h
          obtain ⟨n1, h1⟩ := run_iff.mp hc
          cases v <;> cases b <;> first
            | (obtain ⟨n2, h2⟩ := run_iff.mp h
               refine ⟨max n1 n2, ?_⟩
               rw [exec_le (Nat.le_max_left n1 n2) h1]
               exact exec_le (Nat.le_max_right n1 n2) h2)
            | cases h
    obtain ⟨n, hn⟩ := key
    exact ⟨n + 1, hn⟩
/-- behind a call that answers, and behind one that answers nothing -/
def bV (r : Res) (F : av → Sto → Res) : Res := match r with
  | some (some v, S) => F v S
  | _ => none
def bU (r : Res) (F : Sto → Res) : Res := match r with
  | some (none, S) => F S
  | _ => none
theorem bV_some (v : av) (S : Sto) (F : av → Sto → Res) : bV (some (some v, S)) F = F v S := rfl
theorem bU_some (S : Sto) (F : Sto → Res) : bU (some (none, S)) F = F S := rfl
theorem goN_V {k' j' : Nat} {as : List av} {pc : Nat} {ls st : List av} {S : Sto} {C : Nat → Nat → List av → Sto → Res} {K : Cf → Res} : goN C K (some (.inr (.inl ((k', j', as), true, (pc, ls, st, S))))) = bV (C k' j' as S) (fun v S' => K (pc, ls, v :: st, S')) := by
  simp only [goN, bV]
  cases C k' j' as S with
  | none => rfl
  | some q => obtain ⟨v, S'⟩ := q; cases v <;> rfl
theorem goN_U {k' j' : Nat} {as : List av} {pc : Nat} {ls st : List av} {S : Sto} {C : Nat → Nat → List av → Sto → Res} {K : Cf → Res} : goN C K (some (.inr (.inl ((k', j', as), false, (pc, ls, st, S))))) = bU (C k' j' as S) (fun S' => K (pc, ls, st, S')) := by
  simp only [goN, bU]
  cases C k' j' as S with
  | none => rfl
  | some q => obtain ⟨v, S'⟩ := q; cases v <;> rfl
