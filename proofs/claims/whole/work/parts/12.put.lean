/-! writing: fields and rows -/
theorem uI_ne {S : Sto} {t i k t' i' : Nat} {v : Int32} (h : (t', i') ≠ (t, i)) : (uI S t i k v).1 t' i' = S.1 t' i' := by
  funext n
  show (if t' = t ∧ i' = i ∧ n = k then v else S.1 t' i' n) = _
  rw [if_neg (fun e => h (by rw [e.1, e.2.1]))]
theorem uI_eq {S : Sto} {t i k : Nat} {v : Int32} : (uI S t i k v).1 t i = upd (S.1 t i) k v := by
  funext n
  show (if t = t ∧ i = i ∧ n = k then v else S.1 t i n) = if n = k then v else S.1 t i n
  by_cases h : n = k
  · rw [if_pos ⟨rfl, rfl, h⟩, if_pos h]
  · rw [if_neg (fun e => h e.2.2), if_neg h]
theorem uL_ne {S : Sto} {t i k t' i' : Nat} {v : Int64} (h : (t', i') ≠ (t, i)) : (uL S t i k v).2.1 t' i' = S.2.1 t' i' := by
  funext n
  show (if t' = t ∧ i' = i ∧ n = k then v else S.2.1 t' i' n) = _
  rw [if_neg (fun e => h (by rw [e.1, e.2.1]))]
theorem uL_eq {S : Sto} {t i k : Nat} {v : Int64} : (uL S t i k v).2.1 t i = vp_updL (S.2.1 t i) k v := by
  funext n
  show (if t = t ∧ i = i ∧ n = k then v else S.2.1 t i n) = if n = k then v else S.2.1 t i n
  by_cases h : n = k
  · rw [if_pos ⟨rfl, rfl, h⟩, if_pos h]
  · rw [if_neg (fun e => h e.2.2), if_neg h]
theorem uA_ne {S : Sto} {t i t' i' : Nat} {f : Nat → Int32} (h : (t', i') ≠ (t, i)) : (uA S t i f).1 t' i' = S.1 t' i' := by
  funext n
  show (if t' = t ∧ i' = i then f n else S.1 t' i' n) = _
  rw [if_neg (fun e => h (by rw [e.1, e.2]))]
theorem uA_eq {S : Sto} {t i : Nat} {f : Nat → Int32} : (uA S t i f).1 t i = f := by
  funext n
  show (if t = t ∧ i = i then f n else S.1 t i n) = _
  rw [if_pos ⟨rfl, rfl⟩]
theorem ne_of_t {t i a b : Nat} (h : t ≠ a) : (a, b) ≠ (t, i) := fun e => h (by cases e; rfl)
theorem uI_ok {g : GE} {S : Sto} {t i k : Nat} {v : Int32} (h : StoOK g S) (hy : (t, i) ∈ lay) : StoOK g (uI S t i k v) := by
  have ht := lay_lt hy
  exact ⟨by rw [uI_ne (ne_of_t (by omega))]; exact h.1, by rw [uI_ne (ne_of_t (by omega))]; exact h.2.1, h.2.2⟩
theorem uL_ok {g : GE} {S : Sto} {t i k : Nat} {v : Int64} (h : StoOK g S) : StoOK g (uL S t i k v) := h
theorem uA_ok {g : GE} {S : Sto} {t i : Nat} {f : Nat → Int32} (h : StoOK g S) (hy : (t, i) ∈ lay) : StoOK g (uA S t i f) := by
  have ht := lay_lt hy
  exact ⟨by rw [uA_ne (ne_of_t (by omega))]; exact h.1, by rw [uA_ne (ne_of_t (by omega))]; exact h.2.1, h.2.2⟩
theorem cel_uI {g : GE} {S : Sto} {t i k t' i' : Nat} {v : Int32} (h : (t', i') ≠ (t, i)) : cel g (uI S t i k v) t' i' = cel g S t' i' := cel_congr (uI_ne h) rfl rfl
theorem cel_uL {g : GE} {S : Sto} {t i k t' i' : Nat} {v : Int64} (h : (t', i') ≠ (t, i)) : cel g (uL S t i k v) t' i' = cel g S t' i' := cel_congr rfl (uL_ne h) rfl
theorem cel_uA {g : GE} {S : Sto} {t i t' i' : Nat} {f : Nat → Int32} (h : (t', i') ≠ (t, i)) : cel g (uA S t i f) t' i' = cel g S t' i' := cel_congr (uA_ne h) rfl rfl
theorem cel_uP {g : GE} {S : Sto} {jj t' i' : Nat} (hy : (t', i') ∈ lay) (h : t' ≠ 24) : cel g (uP S jj) t' i' = cel g S t' i' := by
  have h1 := List.all_eq_true.mp lay_f _ hy
  unfold cel
  cases hk : knd t' with
  | mk a q =>
    obtain ⟨n, fs⟩ := q
    rw [hk] at h1
    match a, h1 with
    | 0, h1 =>
      simp only [Bool.and_eq_true] at h1
      simp only
      congr 2
      apply List.ext_getElem?
      intro x
      rw [List.getElem?_mapIdx, List.getElem?_mapIdx]
      cases hf : fs[x]? with
      | none => rfl
      | some f =>
        have h2 := List.all_eq_true.mp h1.2 _ (List.mem_of_getElem? hf)
        simp only [Option.map_some]
        match f, h2 with
        | (0, _, _), _ => rfl
        | (4, _, _), _ => rfl
        | (1, _, 0), _ => rfl
        | (1, _, _ + 1), _ => rfl
        | (2, t2, _), h2 =>
          simp only [Bool.and_eq_true] at h2
          exact absurd (Nat.eq_of_beq_eq_true h2.2) h
        | (3, _, _), h2 => cases h2
        | (_ + 5, _, _), h2 => cases h2
    | 1, _ => rfl
    | 2, _ => rfl
    | 3, _ => rfl
    | 4, _ => rfl
    | 5, h1 =>
      match fs, h1 with
      | [], _ => rfl
      | [(_, _, _)], _ => rfl
      | _ :: _ :: _, _ => rfl
    | n + 6, _ => rfl
theorem vw_ty {ci : Nat} {r : vw_C} (h : vwCl[ci]? = some r) : (∃ ty0 : Nat → FieldType, ∀ k, k < r.2.2 → parseFieldDescriptor (r.2.1 k).2.2.1 = some (ty0 k)) ∧ ∀ a, a < r.2.2 → ∀ b, b < r.2.2 → a ≠ b → (r.2.1 a).2.1 ≠ (r.2.1 b).2.1 := by
  match ci, h with
  | 0, h => cases h; exact ⟨⟨_, tyX0_ok⟩, nmX0⟩
  | 1, h => cases h; exact ⟨⟨_, tyX1_ok⟩, nmX1⟩
  | 2, h => cases h; exact ⟨⟨_, tyX2_ok⟩, nmX2⟩
  | 3, h => cases h; exact ⟨⟨_, tyX3_ok⟩, nmX3⟩
  | 4, h => cases h; exact ⟨⟨_, tyX4_ok⟩, nmX4⟩
  | 5, h => cases h; exact ⟨⟨_, tyX5_ok⟩, nmX5⟩
  | 6, h => cases h; exact ⟨⟨_, tyX6_ok⟩, nmX6⟩
  | 7, h => cases h; exact ⟨⟨_, tyX7_ok⟩, nmX7⟩
  | 8, h => cases h; exact ⟨⟨_, tyX8_ok⟩, nmX8⟩
  | 9, h => cases h; exact ⟨⟨_, tyX9_ok⟩, nmX9⟩
  | n + 10, h => cases h
/-- a field that may be written has the type that its code says -/
def wrOk (r : vw_C) (x : Nat × Nat × Nat × Nat) : Bool := match x with
  | (0, _, _, s) => decide ((r.2.1 s).2.2 = ("I", false))
  | (4, _, _, s) => decide ((r.2.1 s).2.2 = ("Z", false))
  | (2, _, _, s) => decide ((r.2.1 s).2.2 = ("LOwnedByTwos$Law;", false))
  | _ => true
theorem lay_w : lay.all (fun q => match knd q.1 with
  | (0, ci, fs) => (match vwCl[ci]? with
    | some r => (List.range fs.length).all (fun s => match fs[s]? with
      | some (a, b, d) => wrOk r (a, b, d, s)
      | none => false)
    | none => false)
  | _ => true) = true := by decide +kernel
theorem and1 {x : Int32} (h : vp_nar .boolean x = x) : x = 0 ∨ x = 1 := by
  have h1 : x &&& 1 = x := h
  have h2 := pk_and x (m := 1) 1 (by decide)
  rw [h1] at h2
  have h3 : x.toBitVec.toNat % 2 ^ 1 = 0 ∨ x.toBitVec.toNat % 2 ^ 1 = 1 := by omega
  rcases h3 with h3 | h3 <;> rw [h3] at h2
  · exact Or.inl h2
  · exact Or.inr h2
theorem fs_set {g : GE} {S : Sto} {t i sl : Nat} {x : Int32} {fs : List (Nat × Nat × Nat)} (hf : ∃ q, fs[sl]? = some q ∧ (q.1 = 0 ∨ q.1 = 4)) : fs.mapIdx (fvc g (uI S t i sl x) t i) = (fs.mapIdx (fvc g S t i)).set sl (.int x) := by
  apply List.ext_getElem?
  intro n
  rw [List.getElem?_mapIdx, List.getElem?_set]
  by_cases hn : sl = n
  · subst hn
    obtain ⟨q, hq, hc⟩ := hf
    have hl : sl < (fs.mapIdx (fvc g S t i)).length := by
      rw [List.length_mapIdx]
      exact (List.getElem?_eq_some_iff.mp hq).1
    rw [if_pos rfl, if_pos hl, hq]
    simp only [Option.map_some]
    obtain ⟨a, b, d⟩ := q
    have e : (uI S t i sl x).1 t i sl = x := by rw [uI_eq]; exact pk_us
    rcases hc with rfl | rfl
    · show some (Value.int ((uI S t i sl x).1 t i sl)) = _
      rw [e]
    · show some (Value.int ((uI S t i sl x).1 t i sl)) = _
      rw [e]
  · rw [if_neg hn, List.getElem?_mapIdx]
    congr 1
    funext q
    unfold fvc
    have e : (uI S t i sl x).1 t i n = S.1 t i n := by rw [uI_eq]; exact pk_un (Ne.symm hn)
    rw [e]
    rfl
section SP
variable {p : Program} {l : Launch} {e : Env} {R : Room} {s : State} {m : MethodId} {args : Array Value} {below : List Frame} {meth : Method} {c : Code} {Q : State → Prop} {g : GE} {k j ce so : Nat}
variable {pc : Nat} {ls st : List av} {S : Sto} {cf : Cf}
/-- a field of an object of ours: its class, its link, its cell -/
theorem own_field (X : Cx p s m args c g k) {idx t i ci sl po : Nat} (hq : lk (fldL (m_o k)) idx = some (ci, sl, po)) (hvd : vdv (vR t i)) (hb : (match tci t with | some c => Nat.beq c ci | none => false) = true) {f : Nat × Nat × Nat} (hf : (knd t).2.2[sl]? = some f) (hne : f.1 ≠ 1 ∧ f.1 ≠ 3) :
    (t, i) ∈ lay ∧ ∃ (fs : List (Nat × Nat × Nat)) (C : String) (T : u_T) (N : Nat), knd t = (0, ci, fs) ∧ fs[sl]? = some f ∧ vwCl[ci]? = some (C, T, N) ∧ sl < N ∧ (Cond.fieldLink (cnm (m_o k)) idx C (T sl).2.1 (T sl).2.2.1).before args s = true ∧ (T sl).1 = C ∧ wrOk (C, T, N) (f.1, f.2.1, f.2.2, sl) = true := by
  cases hk : knd t with
  | mk a q2 =>
    obtain ⟨n, fs⟩ := q2
    rw [hk] at hf
    unfold tci at hb
    rw [hk] at hb
    match a, hk, hb with
    | 0, hk, hb =>
      have hy : (t, i) ∈ lay := own_lay hvd (by simp [hk])
      have hci : n = ci := Nat.eq_of_beq_eq_true hb
      subst hci
      have h5 := List.all_eq_true.mp lay_f _ hy
      simp only [hk, Bool.and_eq_true] at h5
      obtain ⟨C, T, N, h1, h2, h3, h4⟩ := fld_w X hq (by have := Nat.blt_eq.mp h5.1; omega)
      have h6 := List.all_eq_true.mp lay_w _ hy
      simp only [hk, h1] at h6
      have h7 := List.all_eq_true.mp h6 sl (List.mem_range.mpr (List.getElem?_eq_some_iff.mp hf).1)
      rw [hf] at h7
      exact ⟨hy, fs, C, T, N, rfl, hf, h1, h2, h3, h4, h7⟩
    | 6, hk, hb =>
      have ht : t = 100 := by
        rcases hvd t i rfl with h | h | ⟨rfl, -⟩ | ⟨rfl, -⟩ | ⟨rfl, -⟩
        · have h5 := List.all_eq_true.mp lay_f _ h
          simp only [hk] at h5
          cases h5
        · exact h.1
        · cases hk
        · cases hk
        · cases hk
      subst ht
      cases hk
      match sl, hf with
      | 0, hf => cases hf; exact absurd rfl hne.1
      | 1, hf => cases hf; exact absurd rfl hne.2
      | n + 2, hf => cases hf
theorem q_putfield (X : Cx p s m args c g k) {idx : Nat} (hd : decode (m_b k) pc = .ok (.putfield idx, 3)) (h : nxt k j pc ls st S (.putfield idx) = some (.inl cf)) (K : WA p l e R s m args below meth c ce so Q g k cf) : WA p l e R s m args below meth c ce so Q g k (pc, ls, st, S) := by
  intro H locs lsA hP hS hO hok hl
  simp only [nxt] at h
  cases hq : lk (fldL (m_o k)) idx with
  | none => rw [hq] at h; cases h
  | some q =>
    obtain ⟨ci, sl, po⟩ := q
    rw [hq] at h
    simp only at h
    split at h
    · rename_i x t i r
      obtain ⟨hb, h⟩ := bit_inv h
      have hvd := hok.2.2.1 (vR t i) (List.mem_cons_of_mem _ List.mem_cons_self)
      have key : ∀ {f : Nat × Nat × Nat} {ty : FieldType}, (knd t).2.2[sl]? = some f → (f.1 = 0 ∧ ty = .int ∨ f.1 = 4 ∧ ty = .boolean) → narrow ty (.int x) = .int x → fits ty (.int x) = true → cf = (pc + 3, ls, r, uI S t i sl x) → W p l e R s m args below meth c H locs ce so Q (F0 m pc lsA ((vI x :: vR t i :: r).map (cv g))) := by
        intro f ty hf hc hn hfit hcf
        obtain ⟨hy, fs, C, T, N, h1, h2, h3, h4, h5, h6, h7⟩ := own_field X hq hvd hb hf (by rcases hc with ⟨e, -⟩ | ⟨e, -⟩ <;> rw [e] <;> decide)
        obtain ⟨⟨ty0, hty⟩, hnm⟩ := vw_ty h3
        have hTT : (T sl).2.2.2 = false ∧ parseFieldDescriptor (T sl).2.2.1 = some ty := by
          obtain ⟨a, b, d⟩ := f
          rcases hc with ⟨e, e2⟩ | ⟨e, e2⟩
          · simp only at e
            subst e; subst e2
            have h8 : (T sl).2.2 = ("I", false) := of_decide_eq_true h7
            rw [h8]
            exact ⟨rfl, by decide +kernel⟩
          · simp only at e
            subst e; subst e2
            have h8 : (T sl).2.2 = ("Z", false) := of_decide_eq_true h7
            rw [h8]
            exact ⟨rfl, by decide +kernel⟩
        obtain ⟨pp, hpp⟩ := lay_p hy
        have he := wsC_at (g := g) (S := S) hpp
        have hce : cel g S t i = .inr (ci, fs.mapIdx (fvc g S t i)) := by unfold cel; simp only [h1]
        rw [hce] at he
        have hfl : sl < (fs.mapIdx (fvc g S t i)).length := by
          rw [List.length_mapIdx]
          exact (List.getElem?_eq_some_iff.mp h2).1
        have ea : cv g (vR t i) = .ref (g_a g t i) := rfv_own hy
        simp only [List.map_cons]
        rw [ea]
        subst hcf
        have hE : cel g (uI S t i sl x) t i = .inr (ci, (fs.mapIdx (fvc g S t i)).set sl (.int x)) := by
          unfold cel
          simp only [h1]
          rw [fs_set ⟨f, h2, hc.elim (fun e => Or.inl e.1) (fun e => Or.inr e.1)⟩]
        refine va_put X.1 X.2.1 X.2.2.2.2.1 (vw_in h3) ty0 hty hnm X.2.2.2.1 X.2.2.2.2.2.1.1 hP (wsC_D X.2.2.2.2.2.1.2.2.2.2.2.2.2.1) hS pp he h3 sl h4 h5 (by rw [h6]; exact fun _ h => h) hTT.1 hTT.2 hn hfit hfl hd (fun H1 locs1 hP1 _ hS1 => ?_)
        have hP2 : va_P (g_D g) vwCl (wsC g (uI S t i sl x)) H1 := by
          rw [← wsC_set (S := S) hpp (fun t' i' _ hne => cel_uI hne) hE]
          exact hP1
        exact K H1 locs1 lsA hP2 hS1 (uI_ok hO hy) (okN hok (fun w hw => List.mem_cons_of_mem _ (List.mem_cons_of_mem _ hw))) hl
      split at h
      · rename_i hf
        exact key hf (Or.inl ⟨rfl, rfl⟩) rfl rfl (cg_inv h)
      · rename_i hf
        obtain ⟨hx, h⟩ := ite_inv h
        rcases and1 hx with e | e <;> subst e
        · exact key hf (Or.inr ⟨rfl, rfl⟩) rfl rfl (cg_inv h)
        · exact key hf (Or.inr ⟨rfl, rfl⟩) rfl rfl (cg_inv h)
      · cases h
    · rename_i t' jj t i r
      obtain ⟨hb, h⟩ := bit_inv h
      have hvd := hok.2.2.1 (vR t i) (List.mem_cons_of_mem _ List.mem_cons_self)
      have hvj := hok.2.2.1 (vR t' jj) List.mem_cons_self
      split at h
      · rename_i t2 b hf
        obtain ⟨ht, h99⟩ := bit_inv h
        have ht := Nat.eq_of_beq_eq_true ht
        subst ht
        obtain ⟨hy, fs, C, T, N, h1, h2, h3, h4, h5, h6, h7⟩ := own_field X hq hvd hb hf (by simp)
        have h8 := List.all_eq_true.mp lay_f _ hy
        simp only [h1, Bool.and_eq_true] at h8
        have h9 := List.all_eq_true.mp h8.2 _ (List.mem_of_getElem? h2)
        simp only [Bool.and_eq_true] at h9
        have e17 := Nat.eq_of_beq_eq_true h9.1
        have e24 := Nat.eq_of_beq_eq_true h9.2
        subst e17
        subst e24
        have hyj : (17, jj) ∈ lay := own_lay hvj (by decide)
        have hj6 : jj < 6 := by
          have := List.all_eq_true.mp lay_t _ hyj
          rw [Bool.and_eq_true] at this
          exact Nat.blt_eq.mp this.2
        obtain ⟨⟨ty0, hty⟩, hnm⟩ := vw_ty h3
        have h10 : (T sl).2.2 = ("LOwnedByTwos$Law;", false) := of_decide_eq_true h7
        have hpd : parseFieldDescriptor (T sl).2.2.1 = some (.object "OwnedByTwos$Law") := by rw [h10]; decide +kernel
        obtain ⟨pp, hpp⟩ := lay_p hy
        have he := wsC_at (g := g) (S := S) hpp
        have hce : cel g S 24 i = .inr (ci, fs.mapIdx (fvc g S 24 i)) := by unfold cel; simp only [h1]
        rw [hce] at he
        have hfl : sl < (fs.mapIdx (fvc g S 24 i)).length := by
          rw [List.length_mapIdx]
          exact (List.getElem?_eq_some_iff.mp h2).1
        have ea : cv g (vR 24 i) = .ref (g_a g 24 i) := rfv_own hy
        have eb : cv g (vR 17 jj) = .ref (g_a g 17 jj) := rfv_own hyj
        simp only [List.map_cons]
        rw [ea, eb]
        cases cg_inv h99
        have hi0 : i = 0 := by
          have := List.all_eq_true.mp lay_t _ hy
          rw [Bool.and_eq_true] at this
          have h11 : i < 1 := Nat.blt_eq.mp this.2
          omega
        subst hi0
        cases h1
        have hE : cel g (uP S jj) 24 0 = .inr (5, ((knd 24).2.2.mapIdx (fvc g S 24 0)).set sl (.ref (g_a g 17 jj))) := by
          match sl, h2 with
          | 0, h2 => cases h2
          | 1, h2 => cases h2
          | 2, h2 => cases h2
          | 3, h2 => cases h2
          | 4, h2 => cases h2
          | 5, h2 => cases h2
          | 6, h2 => rfl
          | n + 7, h2 => cases h2
        refine va_put X.1 X.2.1 X.2.2.2.2.1 (vw_in h3) ty0 hty hnm X.2.2.2.1 X.2.2.2.2.2.1.1 hP (wsC_D X.2.2.2.2.2.1.2.2.2.2.2.2.2.1) hS pp he h3 sl h4 h5 (by rw [h6]; exact fun _ h => h) (by rw [h10]) hpd rfl rfl hfl hd (fun H1 locs1 hP1 _ hS1 => ?_)
        have e9 := wsC_set (S := S) (S' := uP S jj) hpp (fun t' i' hy' hne => cel_uP hy' (fun e24 => hne (by
          subst e24
          have := List.all_eq_true.mp lay_t _ hy'
          rw [Bool.and_eq_true] at this
          have h11 : i' < 1 := Nat.blt_eq.mp this.2
          have : i' = 0 := by omega
          rw [this]))) hE
        have hP2 : va_P (g_D g) vwCl (wsC g (uP S jj)) H1 := by
          rw [← e9]
          exact hP1
        exact K H1 locs1 lsA hP2 hS1 ⟨hO.1, hO.2.1, fun j' e => by cases e; exact hj6⟩ (okN hok (fun w hw => List.mem_cons_of_mem _ (List.mem_cons_of_mem _ hw))) hl
      · cases h
    · cases h
end SP
theorem cel_1 {g : GE} {S : Sto} {t i : Nat} (hk : (knd t).1 = 1) : cel g S t i = .inl (g_A g 1, (knd t).2.1, .inl (S.1 t i)) := by
  cases hkk : knd t with
  | mk a q2 =>
    obtain ⟨n, fs⟩ := q2
    rw [hkk] at hk
    simp only at hk
    subst hk
    unfold cel
    simp only [hkk]
theorem cel_3 {g : GE} {S : Sto} {t i : Nat} (hk : (knd t).1 = 3) : cel g S t i = .inl (g_A g 3, (knd t).2.1, .inl (S.1 t i)) := by
  cases hkk : knd t with
  | mk a q2 =>
    obtain ⟨n, fs⟩ := q2
    rw [hkk] at hk
    simp only at hk
    subst hk
    unfold cel
    simp only [hkk]
theorem cel_4 {g : GE} {S : Sto} {t i : Nat} (hk : (knd t).1 = 4) : cel g S t i = .inl (g_A g 4, (knd t).2.1, .inl (S.1 t i)) := by
  cases hkk : knd t with
  | mk a q2 =>
    obtain ⟨n, fs⟩ := q2
    rw [hkk] at hk
    simp only at hk
    subst hk
    unfold cel
    simp only [hkk]
theorem cel_2 {g : GE} {S : Sto} {t i : Nat} (hk : (knd t).1 = 2) : cel g S t i = .inl (g_A g 2, (knd t).2.1, .inr (.inl (S.2.1 t i))) := by
  cases hkk : knd t with
  | mk a q2 =>
    obtain ⟨n, fs⟩ := q2
    rw [hkk] at hk
    simp only at hk
    subst hk
    unfold cel
    simp only [hkk]
/-- a kind that no cell of ours has -/
theorem lay_k {t i : Nat} (h : (t, i) ∈ lay) : (knd t).1 < 6 := by
  have h5 := List.all_eq_true.mp lay_f _ h
  cases hkk : knd t with
  | mk a q2 =>
    obtain ⟨n, fs⟩ := q2
    rw [hkk] at h5
    match a, h5 with
    | 0, _ => simp
    | 1, _ => simp
    | 2, _ => simp
    | 3, _ => simp
    | 4, _ => simp
    | 5, _ => simp
    | a + 6, h5 =>
      simp only [Bool.and_eq_true] at h5
      have := Nat.blt_eq.mp h5.2
      omega
theorem str_k {t i : Nat} (hv : vdv (vR t i)) (hk : (knd t).1 = 7) : t = 101 ∧ i < 23 := by
  rcases hv t i rfl with h | ⟨rfl, -⟩ | h | ⟨rfl, -⟩ | ⟨rfl, -⟩
  · have := lay_k h; omega
  · cases hk
  · exact h
  · cases hk
  · cases hk
theorem scr_k {t i : Nat} (hv : vdv (vR t i)) (hk : (knd t).1 = 8) : t = 102 ∧ i = 0 := by
  rcases hv t i rfl with h | ⟨rfl, -⟩ | ⟨rfl, -⟩ | h | ⟨rfl, -⟩
  · have := lay_k h; omega
  · cases hk
  · cases hk
  · exact h
  · cases hk
theorem str_len {i : Nat} (h : i < 23) : lenS.getD i 0 = (strB i).length := by
  unfold lenS
  rw [List.getD_eq_getElem?_getD, List.getElem?_map, List.getElem?_range h]
  rfl
theorem str_byt {i : Nat} (h : i < 23) : bytS.getD i [] = strB i := by
  unfold bytS
  rw [List.getD_eq_getElem?_getD, List.getElem?_map, List.getElem?_range h]
  rfl
section SR
variable {p : Program} {l : Launch} {e : Env} {R : Room} {s : State} {m : MethodId} {args : Array Value} {below : List Frame} {meth : Method} {c : Code} {Q : State → Prop} {g : GE} {k j ce so : Nat}
variable {pc : Nat} {ls st : List av} {S : Sto} {cf : Cf}
theorem q_iaload (X : Cx p s m args c g k) (hd : decode (m_b k) pc = .ok (.iaload, 1)) (h : nxt k j pc ls st S .iaload = some (.inl cf)) (K : WA p l e R s m args below meth c ce so Q g k cf) : WA p l e R s m args below meth c ce so Q g k (pc, ls, st, S) := by
  intro H locs lsA hP hS hO hok hl
  simp only [nxt] at h
  obtain ⟨t, i, x, r, rfl, hz9⟩ := ri_inv h
  have h := hz9
  have hvd := hok.2.2.1 (vR t i) (List.mem_cons_of_mem _ List.mem_cons_self)
  split at h
  · rename_i hk
    obtain ⟨hx, h⟩ := ite_inv h
    cases cg_inv h
    have hy : (t, i) ∈ lay := own_lay hvd (by simp [hk])
    obtain ⟨pp, hpp⟩ := lay_p hy
    have he := wsC_at (g := g) (S := S) hpp
    rw [cel_1 hk] at he
    have ea : cv g (vR t i) = .ref (g_a g t i) := rfv_own hy
    simp only [List.map_cons]
    rw [ea]
    exact va_iald X.1 X.2.1 X.2.2.2.2.2.1.1 hP pp 0 he rfl (ib_in hx) hd (K H locs lsA hP hS hO (okV hok (vdv_I _) (fun w hw => List.mem_cons_of_mem _ (List.mem_cons_of_mem _ hw))) hl)
  · rename_i hk
    obtain ⟨hx, h⟩ := ite_inv h
    cases cg_inv h
    obtain ⟨rfl, rfl⟩ := scr_k hvd hk
    have ea : cv g (vR 102 0) = .ref (g_b g) := rfl
    simp only [List.map_cons]
    rw [ea]
    have hst := X.2.2.2.2.2.1.2.2.2.2.2.2
    have hO2 : S.1 103 0 0 = Int32.ofNat (g_L g) := hO.2.1
    have hL : (S.1 103 0 0).toNatClampNeg = g_L g := by
      rw [hO2]
      exact nI_clamp hst.2.2.1
    have K1 := K H locs lsA hP hS hO (okV hok (vdv_I _) (fun w hw => List.mem_cons_of_mem _ (List.mem_cons_of_mem _ hw))) hl
    have hO1 : S.1 102 0 = g_x g := hO.1
    simp only [List.map_cons] at K1
    rw [hO1] at K1
    rw [hL] at hx
    exact va_sld X.1 X.2.1 hst.1.1 hst.1.2.1 hst.1.2.2 hS (ib_in hx) hd K1
  · cases h
theorem q_laload (X : Cx p s m args c g k) (hd : decode (m_b k) pc = .ok (.laload, 1)) (h : nxt k j pc ls st S .laload = some (.inl cf)) (K : WA p l e R s m args below meth c ce so Q g k cf) : WA p l e R s m args below meth c ce so Q g k (pc, ls, st, S) := by
  intro H locs lsA hP hS hO hok hl
  simp only [nxt] at h
  obtain ⟨t, i, x, r, rfl, hz9⟩ := ri_inv h
  have h := hz9
  have hvd := hok.2.2.1 (vR t i) (List.mem_cons_of_mem _ List.mem_cons_self)
  split at h
  · rename_i hk
    obtain ⟨hx, h⟩ := ite_inv h
    cases cg_inv h
    have hy : (t, i) ∈ lay := own_lay hvd (by simp [hk])
    obtain ⟨pp, hpp⟩ := lay_p hy
    have he := wsC_at (g := g) (S := S) hpp
    rw [cel_2 hk] at he
    have ea : cv g (vR t i) = .ref (g_a g t i) := rfv_own hy
    simp only [List.map_cons]
    rw [ea]
    exact va_lald X.1 X.2.1 X.2.2.2.2.2.1.1 hP pp 1 he rfl (ib_in hx) hd (K H locs lsA hP hS hO (okV hok (vdv_L _) (fun w hw => List.mem_cons_of_mem _ (List.mem_cons_of_mem _ hw))) hl)
  · cases h
theorem q_baload (X : Cx p s m args c g k) (hd : decode (m_b k) pc = .ok (.baload, 1)) (h : nxt k j pc ls st S .baload = some (.inl cf)) (K : WA p l e R s m args below meth c ce so Q g k cf) : WA p l e R s m args below meth c ce so Q g k (pc, ls, st, S) := by
  intro H locs lsA hP hS hO hok hl
  simp only [nxt] at h
  obtain ⟨t, i, x, r, rfl, hz9⟩ := ri_inv h
  have h := hz9
  have hvd := hok.2.2.1 (vR t i) (List.mem_cons_of_mem _ List.mem_cons_self)
  split at h
  · rename_i hk
    obtain ⟨hx, h⟩ := ite_inv h
    cases cg_inv h
    have hy : (t, i) ∈ lay := own_lay hvd (by simp [hk])
    obtain ⟨pp, hpp⟩ := lay_p hy
    have he := wsC_at (g := g) (S := S) hpp
    rw [cel_3 hk] at he
    have ea : cv g (vR t i) = .ref (g_a g t i) := rfv_own hy
    simp only [List.map_cons]
    rw [ea]
    exact va_bald X.1 X.2.1 X.2.2.2.2.2.1.1 hP pp 2 he rfl (ib_in hx) hd (K H locs lsA hP hS hO (okV hok (vdv_I _) (fun w hw => List.mem_cons_of_mem _ (List.mem_cons_of_mem _ hw))) hl)
  · rename_i hk
    obtain ⟨hx, h⟩ := ite_inv h
    cases cg_inv h
    have hy : (t, i) ∈ lay := own_lay hvd (by simp [hk])
    obtain ⟨pp, hpp⟩ := lay_p hy
    have he := wsC_at (g := g) (S := S) hpp
    rw [cel_4 hk] at he
    have ea : cv g (vR t i) = .ref (g_a g t i) := rfv_own hy
    simp only [List.map_cons]
    rw [ea]
    exact va_zald X.1 X.2.1 X.2.2.2.2.2.1.1 hP pp 3 he rfl (ib_in hx) hd (K H locs lsA hP hS hO (okV hok (vdv_I _) (fun w hw => List.mem_cons_of_mem _ (List.mem_cons_of_mem _ hw))) hl)
  · rename_i hk
    obtain ⟨hx, h⟩ := ite_inv h
    cases cg_inv h
    obtain ⟨rfl, hi⟩ := str_k hvd hk
    have ea : cv g (vR 101 i) = .ref (g_v g i) := rfl
    simp only [List.map_cons]
    rw [ea]
    have hst := (X.2.2.2.2.2.1.2.1.1 i hi).2.2.2
    rw [str_len hi, str_byt hi] at hst
    exact va_tb X.1 X.2.1 hst hS (ib_in hx) rfl hd (K H locs lsA hP hS hO (okV hok (vdv_I _) (fun w hw => List.mem_cons_of_mem _ (List.mem_cons_of_mem _ hw))) hl)
  · cases h
theorem q_aaload (X : Cx p s m args c g k) (hd : decode (m_b k) pc = .ok (.aaload, 1)) (h : nxt k j pc ls st S .aaload = some (.inl cf)) (K : WA p l e R s m args below meth c ce so Q g k cf) : WA p l e R s m args below meth c ce so Q g k (pc, ls, st, S) := by
  intro H locs lsA hP hS hO hok hl
  simp only [nxt] at h
  obtain ⟨t, i, x, r, rfl, hz9⟩ := ri_inv h
  have h := hz9
  have hvd := hok.2.2.1 (vR t i) (List.mem_cons_of_mem _ List.mem_cons_self)
  split at h
  · rename_i n b t' o hk
    obtain ⟨hx, h⟩ := ite_inv h
    cases cg_inv h
    have hy : (t, i) ∈ lay := own_lay hvd (by simp [hk])
    obtain ⟨pp, hpp⟩ := lay_p hy
    have he := wsC_at (g := g) (S := S) hpp
    have hce : cel g S t i = .inl (g_A g (acl t), n, .inr (.inr (.inr (.inr (fun j => some (g_a g t' (o + j))))))) := by
      unfold cel
      simp only [hk]
    rw [hce] at he
    have ea : cv g (vR t i) = .ref (g_a g t i) := rfv_own hy
    simp only [List.map_cons]
    rw [ea]
    have h5 := List.all_eq_true.mp lay_f _ hy
    simp only [hk, Bool.and_eq_true, Bool.or_eq_true] at h5
    have hin := ib_in hx
    have hlt : x.toNatClampNeg < n := Nat.not_le.mp fun q => hin (Or.inr q)
    have hy2 : (t', o + x.toNatClampNeg) ∈ lay := of_decide_eq_true (List.all_eq_true.mp h5.1 _ (List.mem_range.mpr hlt))
    have K1 := K H locs lsA hP hS hO (okV hok (vdv_lay hy2) (fun w hw => List.mem_cons_of_mem _ (List.mem_cons_of_mem _ hw))) hl
    have eb : cv g (vR t' (o + x.toNatClampNeg)) = .ref (g_a g t' (o + x.toNatClampNeg)) := rfv_own hy2
    simp only [List.map_cons] at K1
    rw [eb] at K1
    rcases h5.2 with e5 | e5
    · have e6 := Nat.eq_of_beq_eq_true e5
      rw [e6] at he
      exact va_aldq X.1 X.2.1 X.2.2.2.2.2.1.1 hP pp 4 he rfl hin hd K1
    · have e6 := Nat.eq_of_beq_eq_true e5
      rw [e6] at he
      exact va_aldq X.1 X.2.1 X.2.2.2.2.2.1.1 hP pp 5 he rfl hin hd K1
  · cases h
theorem q_iastore (X : Cx p s m args c g k) (hd : decode (m_b k) pc = .ok (.iastore, 1)) (h : nxt k j pc ls st S .iastore = some (.inl cf)) (K : WA p l e R s m args below meth c ce so Q g k cf) : WA p l e R s m args below meth c ce so Q g k (pc, ls, st, S) := by
  intro H locs lsA hP hS hO hok hl
  simp only [nxt] at h
  split at h
  · rename_i v st'
    obtain ⟨t, i, x, r, rfl, hz9⟩ := ri_inv h
    have h := hz9
    have hvd := hok.2.2.1 (vR t i) (List.mem_cons_of_mem _ (List.mem_cons_of_mem _ List.mem_cons_self))
    split at h
    · rename_i hk
      obtain ⟨hx, h⟩ := ite_inv h
      cases cg_inv h
      have hy : (t, i) ∈ lay := own_lay hvd (by simp [hk])
      obtain ⟨pp, hpp⟩ := lay_p hy
      have he := wsC_at (g := g) (S := S) hpp
      rw [cel_1 hk] at he
      have ea : cv g (vR t i) = .ref (g_a g t i) := rfv_own hy
      simp only [List.map_cons]
      rw [ea]
      refine va_iast X.1 X.2.1 X.2.2.2.2.2.1.1 hP (wsC_D X.2.2.2.2.2.1.2.2.2.2.2.2.2.1) hS pp 0 he rfl (ib_in hx) hd (fun H1 locs1 hP1 _ hS1 => ?_)
      have e9 := wsC_set (g := g) (S := S) (S' := uI S t i x.toNatClampNeg (v)) hpp (fun t' i' _ hne => cel_uI hne) (by rw [cel_1 hk, uI_eq])
      have hP2 : va_P (g_D g) vwCl (wsC g (uI S t i x.toNatClampNeg (v))) H1 := by
        rw [← e9]
        exact hP1
      exact K H1 locs1 lsA hP2 hS1 (uI_ok hO hy) (okN hok (fun w hw => List.mem_cons_of_mem _ (List.mem_cons_of_mem _ (List.mem_cons_of_mem _ hw)))) hl
    · cases h
  · cases h
theorem q_lastore (X : Cx p s m args c g k) (hd : decode (m_b k) pc = .ok (.lastore, 1)) (h : nxt k j pc ls st S .lastore = some (.inl cf)) (K : WA p l e R s m args below meth c ce so Q g k cf) : WA p l e R s m args below meth c ce so Q g k (pc, ls, st, S) := by
  intro H locs lsA hP hS hO hok hl
  simp only [nxt] at h
  split at h
  · rename_i v st'
    obtain ⟨t, i, x, r, rfl, hz9⟩ := ri_inv h
    have h := hz9
    have hvd := hok.2.2.1 (vR t i) (List.mem_cons_of_mem _ (List.mem_cons_of_mem _ List.mem_cons_self))
    split at h
    · rename_i hk
      obtain ⟨hx, h⟩ := ite_inv h
      cases cg_inv h
      have hy : (t, i) ∈ lay := own_lay hvd (by simp [hk])
      obtain ⟨pp, hpp⟩ := lay_p hy
      have he := wsC_at (g := g) (S := S) hpp
      rw [cel_2 hk] at he
      have ea : cv g (vR t i) = .ref (g_a g t i) := rfv_own hy
      simp only [List.map_cons]
      rw [ea]
      refine va_last X.1 X.2.1 X.2.2.2.2.2.1.1 hP (wsC_D X.2.2.2.2.2.1.2.2.2.2.2.2.2.1) hS pp 1 he rfl (ib_in hx) hd (fun H1 locs1 hP1 _ hS1 => ?_)
      have e9 := wsC_set (g := g) (S := S) (S' := uL S t i x.toNatClampNeg (v)) hpp (fun t' i' _ hne => cel_uL hne) (by rw [cel_2 hk, uL_eq])
      have hP2 : va_P (g_D g) vwCl (wsC g (uL S t i x.toNatClampNeg (v))) H1 := by
        rw [← e9]
        exact hP1
      exact K H1 locs1 lsA hP2 hS1 (uL_ok hO) (okN hok (fun w hw => List.mem_cons_of_mem _ (List.mem_cons_of_mem _ (List.mem_cons_of_mem _ hw)))) hl
    · cases h
  · cases h
theorem q_bastore (X : Cx p s m args c g k) (hd : decode (m_b k) pc = .ok (.bastore, 1)) (h : nxt k j pc ls st S .bastore = some (.inl cf)) (K : WA p l e R s m args below meth c ce so Q g k cf) : WA p l e R s m args below meth c ce so Q g k (pc, ls, st, S) := by
  intro H locs lsA hP hS hO hok hl
  simp only [nxt] at h
  split at h
  · rename_i v st'
    obtain ⟨t, i, x, r, rfl, hz9⟩ := ri_inv h
    have h := hz9
    have hvd := hok.2.2.1 (vR t i) (List.mem_cons_of_mem _ (List.mem_cons_of_mem _ List.mem_cons_self))
    split at h
    · rename_i hk
      obtain ⟨hx, h⟩ := ite_inv h
      cases cg_inv h
      have hy : (t, i) ∈ lay := own_lay hvd (by simp [hk])
      obtain ⟨pp, hpp⟩ := lay_p hy
      have he := wsC_at (g := g) (S := S) hpp
      rw [cel_3 hk] at he
      have ea : cv g (vR t i) = .ref (g_a g t i) := rfv_own hy
      simp only [List.map_cons]
      rw [ea]
      refine va_bast X.1 X.2.1 X.2.2.2.2.2.1.1 hP (wsC_D X.2.2.2.2.2.1.2.2.2.2.2.2.2.1) hS pp 2 he rfl (ib_in hx) hd (fun H1 locs1 hP1 _ hS1 => ?_)
      have e9 := wsC_set (g := g) (S := S) (S' := uI S t i x.toNatClampNeg (vp_nar .byte v)) hpp (fun t' i' _ hne => cel_uI hne) (by rw [cel_3 hk, uI_eq])
      have hP2 : va_P (g_D g) vwCl (wsC g (uI S t i x.toNatClampNeg (vp_nar .byte v))) H1 := by
        rw [← e9]
        exact hP1
      exact K H1 locs1 lsA hP2 hS1 (uI_ok hO hy) (okN hok (fun w hw => List.mem_cons_of_mem _ (List.mem_cons_of_mem _ (List.mem_cons_of_mem _ hw)))) hl
    · rename_i hk
      obtain ⟨hx, h⟩ := ite_inv h
      cases cg_inv h
      have hy : (t, i) ∈ lay := own_lay hvd (by simp [hk])
      obtain ⟨pp, hpp⟩ := lay_p hy
      have he := wsC_at (g := g) (S := S) hpp
      rw [cel_4 hk] at he
      have ea : cv g (vR t i) = .ref (g_a g t i) := rfv_own hy
      simp only [List.map_cons]
      rw [ea]
      refine va_zast X.1 X.2.1 X.2.2.2.2.2.1.1 hP (wsC_D X.2.2.2.2.2.1.2.2.2.2.2.2.2.1) hS pp 3 he rfl (ib_in hx) hd (fun H1 locs1 hP1 _ hS1 => ?_)
      have e9 := wsC_set (g := g) (S := S) (S' := uI S t i x.toNatClampNeg (vp_nar .boolean v)) hpp (fun t' i' _ hne => cel_uI hne) (by rw [cel_4 hk, uI_eq])
      have hP2 : va_P (g_D g) vwCl (wsC g (uI S t i x.toNatClampNeg (vp_nar .boolean v))) H1 := by
        rw [← e9]
        exact hP1
      exact K H1 locs1 lsA hP2 hS1 (uI_ok hO hy) (okN hok (fun w hw => List.mem_cons_of_mem _ (List.mem_cons_of_mem _ (List.mem_cons_of_mem _ hw)))) hl
    · cases h
  · cases h
theorem acl_t {t i : Nat} (hy : (t, i) ∈ lay) (h : 1 ≤ (knd t).1) : ∃ ty, (tys g)[acl t - 1]? = some (g_A g (acl t), ty) := by
  have h5 := List.all_eq_true.mp lay_f _ hy
  cases hkk : knd t with
  | mk a q2 =>
    obtain ⟨n, fs⟩ := q2
    rw [hkk] at h h5
    unfold acl
    rw [hkk]
    match a, h with
    | 1, _ => exact ⟨_, rfl⟩
    | 2, _ => exact ⟨_, rfl⟩
    | 3, _ => exact ⟨_, rfl⟩
    | 4, _ => exact ⟨_, rfl⟩
    | 5, _ =>
      simp only
      cases Nat.beq t 14
      · exact ⟨_, rfl⟩
      · exact ⟨_, rfl⟩
    | a + 6, _ =>
      have := lay_k hy
      rw [hkk] at this
      simp only at this
      omega
theorem q_arraylength (X : Cx p s m args c g k) (hd : decode (m_b k) pc = .ok (.arraylength, 1)) (h : nxt k j pc ls st S .arraylength = some (.inl cf)) (K : WA p l e R s m args below meth c ce so Q g k cf) : WA p l e R s m args below meth c ce so Q g k (pc, ls, st, S) := by
  intro H locs lsA hP hS hO hok hl
  simp only [nxt] at h
  obtain ⟨t, i, r, rfl, hz9⟩ := r1_inv h
  have h := hz9
  have hvd := hok.2.2.1 (vR t i) List.mem_cons_self
  cases hn : aln S t i with
  | none => rw [hn] at h; cases h
  | some n =>
    rw [hn] at h
    cases cg_inv h
    have K1 := K H locs lsA hP hS hO (okV hok (vdv_I _) (fun w hw => List.mem_cons_of_mem _ hw)) hl
    by_cases hk6 : (knd t).1 < 6
    · have hy : (t, i) ∈ lay := own_lay hvd hk6
      obtain ⟨pp, hpp⟩ := lay_p hy
      have he := wsC_at (g := g) (S := S) hpp
      have ea : cv g (vR t i) = .ref (g_a g t i) := rfv_own hy
      have hce : 1 ≤ (knd t).1 ∧ ∃ x : vp_A, cel g S t i = .inl (g_A g (acl t), x) ∧ x.1 = n := by
        have h5 := List.all_eq_true.mp lay_f _ hy
        cases hkk : knd t with
        | mk a q2 =>
          obtain ⟨n', fs⟩ := q2
          unfold aln at hn
          rw [hkk] at hn h5 hk6
          unfold cel acl
          rw [hkk]
          match a, hn, h5, hk6 with
          | 0, hn, _, _ => cases hn
          | 1, hn, _, _ => cases hn; exact ⟨by simp, _, rfl, rfl⟩
          | 2, hn, _, _ => cases hn; exact ⟨by simp, _, rfl, rfl⟩
          | 3, hn, _, _ => cases hn; exact ⟨by simp, _, rfl, rfl⟩
          | 4, hn, _, _ => cases hn; exact ⟨by simp, _, rfl, rfl⟩
          | 5, hn, h5, _ =>
            cases hn
            match fs, h5 with
            | [(b, t', o)], _ => exact ⟨by simp, _, by simp only [hkk]; rfl, rfl⟩
            | [], h5 => cases h5
            | _ :: _ :: _, h5 => cases h5
          | a + 6, _, _, hk6 => simp only at hk6; omega
      obtain ⟨h1, x, h2, h3⟩ := hce
      rw [h2] at he
      obtain ⟨ty, hty⟩ := acl_t (g := g) hy h1
      simp only [List.map_cons]
      rw [ea]
      exact va_alen X.1 X.2.1 X.2.2.2.2.2.1.1 hP pp (acl t - 1) he hty (by rw [h3]) hd K1
    · unfold aln at hn
      split at hn
      · rename_i hk; omega
      · rename_i hk; omega
      · rename_i hk; omega
      · rename_i hk; omega
      · rename_i hk; omega
      · rename_i hk
        cases hn
        obtain ⟨rfl, hi⟩ := str_k hvd hk
        have ea : cv g (vR 101 i) = .ref (g_v g i) := rfl
        simp only [List.map_cons]
        rw [ea]
        have hst := (X.2.2.2.2.2.1.2.1.1 i hi).2.2.2
        rw [str_len hi] at hst
        exact va_tlen X.1 X.2.1 hst hS rfl hd K1
      · rename_i hk
        cases hn
        obtain ⟨rfl, rfl⟩ := scr_k hvd hk
        have ea : cv g (vR 102 0) = .ref (g_b g) := rfl
        simp only [List.map_cons]
        rw [ea]
        have hst := X.2.2.2.2.2.1.2.2.2.2.2.2
        have hO2 : S.1 103 0 0 = Int32.ofNat (g_L g) := hO.2.1
        have hL : (S.1 103 0 0).toNatClampNeg = g_L g := by
          rw [hO2]
          exact nI_clamp hst.2.2.1
        simp only [List.map_cons] at K1
        rw [hL] at K1
        exact va_slen X.1 X.2.1 hst.1.1 hst.1.2.1 hst.1.2.2 hS hd K1
      · cases hn
theorem gs_ok : isW 0 (.tt) = isW 0 (.tt) := rfl
end SR
