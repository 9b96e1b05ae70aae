/-! how a run goes on, instruction by instruction -/
section ST16
variable {k j pc : Nat} {ls st : List av} {S : Sto}
theorem st_ {pc' : Nat} {ls' st' : List av} {S' : Sto} (h : nx k j pc ls st S = some (.inl (pc', ls', st', S'))) : run k j pc ls st S = run k j pc' ls' st' S' := by
  rw [run_step, h]
  rfl
theorem st_ite {c : Prop} [Decidable c] {pa pb : Nat} {la lb sa sb : List av} {Sa Sb : Sto} (h : nx k j pc ls st S = if c then some (.inl (pa, la, sa, Sa)) else some (.inl (pb, lb, sb, Sb))) : run k j pc ls st S = if c then run k j pa la sa Sa else run k j pb lb sb Sb := by
  rw [run_step, h]
  by_cases hc : c
  · rw [if_pos hc, if_pos hc]; rfl
  · rw [if_neg hc, if_neg hc]; rfl
theorem st_itn {c : Prop} [Decidable c] {pb : Nat} {lb sb : List av} {Sb : Sto} (h : nx k j pc ls st S = if c then none else some (.inl (pb, lb, sb, Sb))) : run k j pc ls st S = if c then none else run k j pb lb sb Sb := by
  rw [run_step, h]
  by_cases hc : c
  · rw [if_pos hc, if_pos hc]; rfl
  · rw [if_neg hc, if_neg hc]; rfl
theorem st_itN {c : Prop} [Decidable c] {pb : Nat} {lb sb : List av} {Sb : Sto} (h : nx k j pc ls st S = if c then some (.inl (pb, lb, sb, Sb)) else none) : run k j pc ls st S = if c then run k j pb lb sb Sb else none := by
  rw [run_step, h]
  by_cases hc : c
  · rw [if_pos hc, if_pos hc]; rfl
  · rw [if_neg hc, if_neg hc]; rfl
theorem st_r {r : Rt} (h : nx k j pc ls st S = some (.inr (.inr r))) : run k j pc ls st S = some r := by
  rw [run_step, h]
  rfl
theorem st_rb {c : Prop} [Decidable c] {r : Rt} (h : nx k j pc ls st S = if c then some (.inr (.inr r)) else none) : run k j pc ls st S = if c then some r else none := by
  rw [run_step, h]
  by_cases hc : c
  · rw [if_pos hc, if_pos hc]; rfl
  · rw [if_neg hc, if_neg hc]; rfl
theorem st_cV {k' j' : Nat} {as : List av} {pc' : Nat} {ls' st' : List av} {S' : Sto} (h : nx k j pc ls st S = some (.inr (.inl ((k', j', as), true, (pc', ls', st', S'))))) : run k j pc ls st S = bV (call k' j' as S') (fun v S2 => run k j pc' ls' (v :: st') S2) := by
  rw [run_step, h, goN_V]
  rfl
theorem st_cU {k' j' : Nat} {as : List av} {pc' : Nat} {ls' st' : List av} {S' : Sto} (h : nx k j pc ls st S = some (.inr (.inl ((k', j', as), false, (pc', ls', st', S'))))) : run k j pc ls st S = bU (call k' j' as S') (fun S2 => run k j pc' ls' st' S2) := by
  rw [run_step, h, goN_U]
  rfl
theorem swR_map {α β : Type} (G : α → β) {x : Int32} {F : Int → α} {d : Int} : ∀ (l : List Int) (lo : Int), G (swR x lo l F d) = swR x lo l (fun o => G (F o)) d
  | [], _ => rfl
  | o :: l, lo => by
    unfold swR
    by_cases h : x.toInt = lo
    · rw [if_pos h, if_pos h]
    · rw [if_neg h, if_neg h]
      exact swR_map G l (lo + 1)
theorem swL_map {α β : Type} (G : α → β) {x : Int32} {F : Int → α} {d : Int} : ∀ (l : List (Int × Int)), G (swL x l F d) = swL x l (fun o => G (F o)) d
  | [] => rfl
  | (a, o) :: l => by
    unfold swL
    by_cases h : x.toInt = a
    · rw [if_pos h, if_pos h]
    · rw [if_neg h, if_neg h]
      exact swL_map G l
theorem st_swR {x : Int32} {lo d : Int} {l : List Int} (h : nx k j pc ls (vI x :: st) S = swR x lo l (fun o => some (.inl (tg pc o, ls, st, S))) d) : run k j pc ls (vI x :: st) S = swR x lo l (fun o => run k j (tg pc o) ls st S) d := by
  rw [run_step, h]
  exact swR_map (goN call (runC k j)) l lo
theorem st_swL {x : Int32} {d : Int} {l : List (Int × Int)} (h : nx k j pc ls (vI x :: st) S = swL x l (fun o => some (.inl (tg pc o, ls, st, S))) d) : run k j pc ls (vI x :: st) S = swL x l (fun o => run k j (tg pc o) ls st S) d := by
  rw [run_step, h]
  exact swL_map (goN call (runC k j)) l
theorem na_r {ls : List av} {i : Nat} {t q : Nat} {F : Nat → Nat → Option Nx} (ht : Nat.beq t 103 = false) (h : ls[i]? = some (vR t q)) : gR ls i F = F t q := by
  unfold gR
  rw [h]
  simp only [ht, cond_false]
theorem st_aload {pc' : Nat} {st' : List av} {t q i : Nat} (ht : Nat.beq t 103 = false) (h : ls[i]? = some (vR t q)) (hn : nx k j pc ls st S = gR ls i (fun t q => some (.inl (pc', ls, vR t q :: st', S)))) : run k j pc ls st S = run k j pc' ls (vR t q :: st') S := by
  rw [run_step, hn, na_r ht h]
  rfl
theorem st_law {w pc' : Nat} {st' : List av} (hw : S.2.2 = some w) (h : nx k j pc ls st S = match S.2.2.map (fun j => vR 17 j) with | some v => some (.inl (pc', ls, v :: st', S)) | none => none) : run k j pc ls st S = run k j pc' ls (vR 17 w :: st') S := by
  rw [run_step, h, hw]
  rfl
theorem st_aln {t q n pc' : Nat} {st' : List av} (hn : aln S t q = some n) (h : nx k j pc ls st S = match aln S t q with | some n => some (.inl (pc', ls, vI (Int32.ofNat n) :: st', S)) | none => none) : run k j pc ls st S = run k j pc' ls (vI (Int32.ofNat n) :: st') S := by
  rw [run_step, h, hn]
  rfl
theorem st_iaload {t q : Nat} {x : Int32} {st' : List av} (hk : (knd t).1 = 1) (h : nx k j pc ls (vI x :: vR t q :: st') S = nxt k j pc ls (vI x :: vR t q :: st') S .iaload) : run k j pc ls (vI x :: vR t q :: st') S = if ib x (knd t).2.1 then run k j (pc + 1) ls (vI (S.1 t q x.toNatClampNeg) :: st') S else none := by
  apply st_itN
  rw [h]
  simp only [nxt, ri, hk]
  rfl
theorem st_laload {t q : Nat} {x : Int32} {st' : List av} (hk : (knd t).1 = 2) (h : nx k j pc ls (vI x :: vR t q :: st') S = nxt k j pc ls (vI x :: vR t q :: st') S .laload) : run k j pc ls (vI x :: vR t q :: st') S = if ib x (knd t).2.1 then run k j (pc + 1) ls (vL (S.2.1 t q x.toNatClampNeg) :: st') S else none := by
  apply st_itN
  rw [h]
  simp only [nxt, ri, hk]
  rfl
theorem st_iastore {t q : Nat} {x v : Int32} {st' : List av} (hk : (knd t).1 = 1) (h : nx k j pc ls (vI v :: vI x :: vR t q :: st') S = nxt k j pc ls (vI v :: vI x :: vR t q :: st') S .iastore) : run k j pc ls (vI v :: vI x :: vR t q :: st') S = if ib x (knd t).2.1 then run k j (pc + 1) ls st' (uI S t q x.toNatClampNeg v) else none := by
  apply st_itN
  rw [h]
  simp only [nxt, ri, hk]
  rfl
theorem st_lastore {t q : Nat} {x : Int32} {v : Int64} {st' : List av} (hk : (knd t).1 = 2) (h : nx k j pc ls (vL v :: vI x :: vR t q :: st') S = nxt k j pc ls (vL v :: vI x :: vR t q :: st') S .lastore) : run k j pc ls (vL v :: vI x :: vR t q :: st') S = if ib x (knd t).2.1 then run k j (pc + 1) ls st' (uL S t q x.toNatClampNeg v) else none := by
  apply st_itN
  rw [h]
  simp only [nxt, ri, hk]
  rfl
theorem st_bastore {t q : Nat} {x v : Int32} {st' : List av} (hk : (knd t).1 = 3) (h : nx k j pc ls (vI v :: vI x :: vR t q :: st') S = nxt k j pc ls (vI v :: vI x :: vR t q :: st') S .bastore) : run k j pc ls (vI v :: vI x :: vR t q :: st') S = if ib x (knd t).2.1 then run k j (pc + 1) ls st' (uI S t q x.toNatClampNeg (vp_nar .byte v)) else none := by
  apply st_itN
  rw [h]
  simp only [nxt, ri, hk]
  rfl
theorem st_acp {n dp sp : Int32} {t1 q1 t0 q0 n0 n1 : Nat} (hk0 : knd t0 = (1, n0, [])) (hk1 : knd t1 = (1, n1, [])) (h : nx k j pc ls [vI n, vI dp, vR t1 q1, vI sp, vR t0 q0] S = acp pc ls [vI n, vI dp, vR t1 q1, vI sp, vR t0 q0] S) : run k j pc ls [vI n, vI dp, vR t1 q1, vI sp, vR t0 q0] S = if ¬ sp < 0 ∧ ¬ dp < 0 ∧ ¬ n < 0 ∧ sp.toNatClampNeg + n.toNatClampNeg ≤ n0 ∧ dp.toNatClampNeg + n.toNatClampNeg ≤ n1 then run k j (pc + 3) ls [] (uA S t1 q1 (va_cpy (S.1 t0 q0) (S.1 t1 q1) sp.toNatClampNeg dp.toNatClampNeg n.toNatClampNeg)) else none := by
  apply st_itN
  rw [h]
  unfold acp
  simp only [hk0, hk1, and_true]
  rfl
end ST16
