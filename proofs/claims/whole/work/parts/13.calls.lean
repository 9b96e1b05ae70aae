/-! statics, arraycopy, returns, calls; the runs of the abstract machine are the machine's -/
theorem pr_nest : (List.range 17).all (fun c => (mthL c).all (fun q => match q.2.1 with | 2 => !(isPr q.2.2.1) | _ => true)) = true := by decide +kernel
theorem gs_38 : isW 587 (.fieldLink "java/lang/String" 38 "java/lang/String" "COMPACT_STRINGS" "Z") = true := by decide +kernel
theorem gs_1053 : isW 603 (.fieldLink "java/lang/String" 1053 "jdk/internal/util/Preconditions" "SIOOBE_FORMATTER" "Ljava/util/function/BiFunction;") = true := by decide +kernel
theorem ac_l : isW 861 (.methodLink "OwnedByTwos$Town" 83 arraycopyName) = true := by decide +kernel
theorem ac_s : isW 862 (.static arraycopyName) = true := by decide +kernel
theorem ac_n : isW 863 (.native arraycopyName) = true := by decide +kernel
theorem ac_i : isW 138 (.initialized "java/lang/System") = true := by decide +kernel
section SC
variable {p : Program} {l : Launch} {e : Env} {R : Room} {s : State} {m : MethodId} {args : Array Value} {below : List Frame} {meth : Method} {c : Code} {Q : State → Prop} {g : GE} {k j ce so : Nat}
variable {pc : Nat} {ls st : List av} {S : Sto} {cf : Cf}
theorem q_getstatic (X : Cx p s m args c g k) {idx : Nat} (hd : decode (m_b k) pc = .ok (.getstatic idx, 3)) (h : nxt k j pc ls st S (.getstatic idx) = some (.inl cf)) (K : WA p l e R s m args below meth c ce so Q g k cf) : WA p l e R s m args below meth c ce so Q g k (pc, ls, st, S) := by
  intro H locs lsA hP hS hO hok hl
  simp only [nxt] at h
  obtain ⟨ho, h⟩ := bit_inv h
  have ho := Nat.eq_of_beq_eq_true ho
  have hown := X.2.2.2.1
  rw [ho] at hown
  cases hi : Nat.beq idx 38 with
  | true =>
    have hi := Nat.eq_of_beq_eq_true hi
    subst hi
    cases cg_inv h
    exact va_gets X.1 X.2.1 X.2.2.2.2.2.1.2.2.2.1 hS hown (X.2.2.2.2.1 _ (isW_in gs_38)) (fun _ h => h) hd (K H locs lsA hP hS hO (okV hok (vdv_I _) (fun w hw => hw)) hl)
  | false =>
    rw [hi] at h
    obtain ⟨hj, h⟩ := bit_inv h
    have hj := Nat.eq_of_beq_eq_true hj
    subst hj
    cases cg_inv h
    exact va_gets X.1 X.2.1 X.2.2.2.2.2.1.2.2.2.2.1 hS hown (X.2.2.2.2.1 _ (isW_in gs_1053)) (fun _ h => h) hd (K H locs lsA hP hS hO (okV hok (fun t i e => by cases e; exact Or.inr (Or.inr (Or.inr (Or.inr ⟨rfl, rfl⟩)))) (fun w hw => hw)) hl)
theorem q_acp (X : Cx p s m args c g k) (ho : m_o k = 6) (hR : 1 ≤ R.frames ∧ 60 ≤ R.locals) (hd : decode (m_b k) pc = .ok (.invokestatic 83, 3)) (h : acp pc ls st S = some (.inl cf)) (K : WA p l e R s m args below meth c ce so Q g k cf) : WA p l e R s m args below meth c ce so Q g k (pc, ls, st, S) := by
  intro H locs lsA hP hS hO hok hl
  unfold acp at h
  split at h
  · rename_i n dp t1 i1 sp t0 i0 r
    split at h
    · rename_i n0 f0 n1 f1 hk0 hk1
      obtain ⟨⟨h1, h2, h3, h4, h5, h6⟩, h⟩ := ite_inv h
      cases cg_inv h
      subst h6
      have hv1 := hok.2.2.1 (vR t1 i1) (by simp)
      have hv0 := hok.2.2.1 (vR t0 i0) (by simp)
      have hy1 : (t1, i1) ∈ lay := own_lay hv1 (by simp [hk1])
      have hy0 : (t0, i0) ∈ lay := own_lay hv0 (by simp [hk0])
      obtain ⟨p1, hp1⟩ := lay_p hy1
      obtain ⟨p0, hp0⟩ := lay_p hy0
      have he1 := wsC_at (g := g) (S := S) hp1
      have he0 := wsC_at (g := g) (S := S) hp0
      rw [cel_1 (by rw [hk1]), hk1] at he1
      rw [cel_1 (by rw [hk0]), hk0] at he0
      have e1 : cv g (vR t1 i1) = .ref (g_a g t1 i1) := rfv_own hy1
      have e0 : cv g (vR t0 i0) = .ref (g_a g t0 i0) := rfv_own hy0
      have hown := X.2.2.2.1
      rw [ho] at hown
      simp only [List.map_cons]
      rw [e1, e0]
      refine va_copyi X.1 X.2.1 (by rw [hl.1]; exact X.2.2.1) hown (X.2.2.2.2.1 _ (isW_in ac_l)) (X.2.2.2.2.1 _ (isW_in ac_n)) (X.2.2.2.2.1 _ (isW_in ac_s)) (X.2.2.2.2.1 _ (isW_in ac_i)) X.2.2.2.2.2.1.1 hP (wsC_D X.2.2.2.2.2.1.2.2.2.2.2.2.2.1) hS p0 p1 0 0 he0 he1 rfl rfl rfl h1 h2 h3 h4 h5 (fun i _ => rfl) hR.1 (by
        have e : nativeFrameWords "java/lang/System" "arraycopy" 5 = 7 := by decide +kernel
        rw [e]
        exact Nat.le_trans (by simp) hR.2) hd (fun H1 locs1 hP1 _ hS1 => ?_)
      rw [wsC_set (S' := uA S t1 i1 (va_cpy (S.1 t0 i0) (S.1 t1 i1) sp.toNatClampNeg dp.toNatClampNeg n.toNatClampNeg)) hp1 (fun t' i' _ hne => cel_uA hne) (by rw [cel_1 (by rw [hk1]), uA_eq, hk1])] at hP1
      exact K H1 locs1 lsA hP1 hS1 (uA_ok hO hy1) (okN hok (fun w hw => absurd hw List.not_mem_nil)) hl
    · cases h
  · cases h
theorem pr_w0 : isW 765 (.code Lib.Math.max.name Lib.Math.max.code 2 (some .int)) = true ∧ isW 764 (.static Lib.Math.max.name) = true := by decide +kernel
theorem pr_w1 : isW 775 (.code Lib.MathLoose.min_long.x Lib.MathLoose.min_long.code 4 (some .long)) = true ∧ isW 774 (.static Lib.MathLoose.min_long.x) = true := by decide +kernel
theorem pr_w2 : isW 778 (.code Lib.MathLoose.max_long.x Lib.MathLoose.max_long.code 4 (some .long)) = true ∧ isW 777 (.static Lib.MathLoose.max_long.x) = true := by decide +kernel
theorem pr_w3 : isW 840 (.code Lib.Math.min.name Lib.Math.min.code 2 (some .int)) = true ∧ isW 839 (.static Lib.Math.min.name) = true := by decide +kernel
theorem pr_i : isW 136 (.initialized "java/lang/Math") = true := by decide +kernel
theorem catS_eq (hf : g_f g = .null ∨ ∃ t, g_f g = .ref t) : ∀ r : List av, ((r.map (cv g)).map fun v => v.category).sum = catS r
  | [] => rfl
  | .inl x :: r => by
    rw [List.map_cons, List.map_cons, List.sum_cons, catS_eq hf r]
    exact Nat.add_comm _ _
  | .inr (.inl x) :: r => by
    rw [List.map_cons, List.map_cons, List.sum_cons, catS_eq hf r]
    exact Nat.add_comm _ _
  | .inr (.inr (.inl q)) :: r => by
    have e : (cv g (.inr (.inr (.inl q)))).category = 1 := rfv_c hf q.1 q.2
    rw [List.map_cons, List.map_cons, List.sum_cons, catS_eq hf r, e]
    exact Nat.add_comm _ _
  | .inr (.inr (.inr q)) :: r => by
    rw [List.map_cons, List.map_cons, List.sum_cons, catS_eq hf r]
    exact Nat.add_comm _ _
theorem mthOk_0 {c' idx k' po : Nat} (h : mthOk c' (idx, 0, k', po) = true) : k' < 289 ∧ isW po (.methodLink (cnm c') idx (m_y k')) = true ∧ isSt k' = false := by
  have h1 := (Bool.and_eq_true _ _).mp h
  have h2 := (Bool.and_eq_true _ _).mp h1.2
  exact ⟨Nat.blt_eq.mp h1.1, h2.1, by have := h2.2; simpa using this⟩
theorem mthOk_1 {c' idx k' po : Nat} (h : mthOk c' (idx, 1, k', po) = true) : k' < 289 ∧ isW po (.methodLink (cnm c') idx (m_y k')) = true ∧ isSt k' = true := by
  have h1 := (Bool.and_eq_true _ _).mp h
  have h2 := (Bool.and_eq_true _ _).mp h1.2
  exact ⟨Nat.blt_eq.mp h1.1, h2.1, h2.2⟩
theorem mthOk_2 {c' idx k' po : Nat} (h : mthOk c' (idx, 2, k', po) = true) : k' < 289 ∧ isSt k' = true := by
  have h1 := (Bool.and_eq_true _ _).mp h
  have h2 := (Bool.and_eq_true _ _).mp h1.2
  exact ⟨Nat.blt_eq.mp h1.1, h2.2⟩
theorem mthOk_3 {c' idx n k' po : Nat} (h : mthOk c' (idx, n + 3, k', po) = true) : False := by
  have h1 := (Bool.and_eq_true _ _).mp h
  exact absurd h1.2 (by simp)
/-- the link of one of Math's -/
theorem prO_w (X : Cx p s m args c g k) {idx k' : Nat} (h : prO k idx = some k') : (Cond.methodLink (cnm (m_o k)) idx (m_y k')).before args s = true ∧ isPr k' = true := by
  unfold prO at h
  split at h
  · rename_i kd k2 po hq
    cases hp : isPr k2 with
    | false => rw [hp] at h; cases h
    | true =>
      rw [hp] at h
      cases h
      have hmo := List.all_eq_true.mp (own_of mth_ok X.2.2.2.2.2.2) _ (lk_mem hq)
      match kd, hmo, hq with
      | 0, hmo, hq => exact ⟨X.2.2.2.2.1 _ (isW_in (mthOk_0 hmo).2.1), hp⟩
      | 1, hmo, hq => exact ⟨X.2.2.2.2.1 _ (isW_in (mthOk_1 hmo).2.1), hp⟩
      | 2, hmo, hq =>
        have h3 := List.all_eq_true.mp pr_nest _ (List.mem_range.mpr X.2.2.2.2.2.2)
        have h4 := List.all_eq_true.mp h3 _ (lk_mem hq)
        simp [hp] at h4
      | n + 3, hmo, hq => exact absurd hmo mthOk_3
  · cases h
theorem q_prm (X : Cx p s m args c g k) {idx k' : Nat} (hp : prO k idx = some k') (hR : 1 ≤ R.frames ∧ 60 ≤ R.locals) (hC : ce ≤ R.cells ∧ so ≤ R.slots) (hd : decode (m_b k) pc = .ok (.invokestatic idx, 3)) (h : prm k' pc ls st S = some (.inl cf)) (K : WA p l e R s m args below meth c ce so Q g k cf) : WA p l e R s m args below meth c ce so Q g k (pc, ls, st, S) := by
  intro H locs lsA hP hS hO hok hl
  obtain ⟨hw, -⟩ := prO_w X hp
  have hf := X.2.2.2.2.2.1.2.2.2.2.2.2.2.2.2
  have hini := X.2.2.2.2.1 _ (isW_in pr_i)
  have hml : c.maxLocals = lsA.size := by rw [hl.1]; exact X.2.2.1
  unfold prm at h
  split at h
  · obtain ⟨x, y, r, rfl, hz9⟩ := i2_inv h
    have h := hz9
    obtain ⟨hb, h⟩ := bit_inv h
    cases cg_inv h
    exact va_mmax X.1 X.2.1 hml X.2.2.2.1 hw (X.2.2.2.2.1 _ (isW_in pr_w0.2)) hini (X.2.2.2.2.1 _ (isW_in pr_w0.1)) hR.1 (by rw [catS_eq hf]; have := Nat.ble_eq.mp hb; omega) hC.1 hC.2 hd (K H locs lsA hP hS hO (okV hok (vdv_I _) (fun w hw => by simp [hw])) hl)
  · obtain ⟨x, y, r, rfl, hz9⟩ := l2_inv h
    have h := hz9
    obtain ⟨hb, h⟩ := bit_inv h
    cases cg_inv h
    exact va_mmin_long X.1 X.2.1 hml X.2.2.2.1 hw (X.2.2.2.2.1 _ (isW_in pr_w1.2)) hini (X.2.2.2.2.1 _ (isW_in pr_w1.1)) hR.1 (by rw [catS_eq hf]; have := Nat.ble_eq.mp hb; omega) hC.1 hC.2 hd (K H locs lsA hP hS hO (okV hok (vdv_L _) (fun w hw => by simp [hw])) hl)
  · obtain ⟨x, y, r, rfl, hz9⟩ := l2_inv h
    have h := hz9
    obtain ⟨hb, h⟩ := bit_inv h
    cases cg_inv h
    exact va_mmax_long X.1 X.2.1 hml X.2.2.2.1 hw (X.2.2.2.2.1 _ (isW_in pr_w2.2)) hini (X.2.2.2.2.1 _ (isW_in pr_w2.1)) hR.1 (by rw [catS_eq hf]; have := Nat.ble_eq.mp hb; omega) hC.1 hC.2 hd (K H locs lsA hP hS hO (okV hok (vdv_L _) (fun w hw => by simp [hw])) hl)
  · obtain ⟨x, y, r, rfl, hz9⟩ := i2_inv h
    have h := hz9
    obtain ⟨hb, h⟩ := bit_inv h
    cases cg_inv h
    exact va_mmin X.1 X.2.1 hml X.2.2.2.1 hw (X.2.2.2.2.1 _ (isW_in pr_w3.2)) hini (X.2.2.2.2.1 _ (isW_in pr_w3.1)) hR.1 (by rw [catS_eq hf]; have := Nat.ble_eq.mp hb; omega) hC.1 hC.2 hd (K H locs lsA hP hS hO (okV hok (vdv_I _) (fun w hw => by simp [hw])) hl)
  · cases h
/-- what a method comes to -/
def Qm (g : GE) (r : Rt) : Array Value → State → Outcome → State → Prop := fun _ st oc t => oc = .returned (r.1.map (cv g)) ∧ va_P (g_D g) vwCl (wsC g r.2) t.heap ∧ StoOK g r.2 ∧ (∀ v, r.1 = some v → vdv v) ∧ va_F (Aw g) st t
theorem q_ireturn (X : Cx p s m args c g k) (hr : meth.sig.returnType = m_r k) (hlk : meth.locks = false) {r : Rt} (hd : decode (m_b k) pc = .ok (.ireturn, 1)) (h : nxt k j pc ls st S .ireturn = some (.inr (.inr r))) : WA p l e R s m args below meth c ce so (MQ below (Qm g r) args s ce so (Aw g)) g k (pc, ls, st, S) := by
  intro H locs lsA hP hS hO hok hl
  simp only [nxt] at h
  split at h
  · rename_i x
    have fin : ∀ t : State, t.heap = H → s.WarmedH t.vm → Qm g (some (vI x), S) args s (.returned (some (.int x))) t := fun t ht _ => ⟨rfl, by rw [ht]; exact hP, hO, fun v e => by cases e; exact vdv_I x, hS.F ht⟩
    unfold rt at h
    split at h
    · rename_i hm
      cases h
      exact W.iret X.1 X.2.1 (by rw [hr, hm]) fin (fun q hq => hS.2.2 q hq) hd hlk
    · rename_i hm
      obtain ⟨hx, h⟩ := ite_inv h
      cases h
      exact W.zret (ty := .boolean) X.1 X.2.1 (by rw [hr, hm]) (by show Value.int (vp_nar .boolean x) = _; rw [hx]) fin (fun q hq => hS.2.2 q hq) hd hlk
    · rename_i hm
      obtain ⟨hx, h⟩ := ite_inv h
      cases h
      exact W.zret (ty := .byte) X.1 X.2.1 (by rw [hr, hm]) (by show Value.int (vp_nar .byte x) = _; rw [hx]) fin (fun q hq => hS.2.2 q hq) hd hlk
    · rename_i hm
      obtain ⟨hx, h⟩ := ite_inv h
      cases h
      exact W.zret (ty := .char) X.1 X.2.1 (by rw [hr, hm]) (by show Value.int (vp_nar .char x) = _; rw [hx]) fin (fun q hq => hS.2.2 q hq) hd hlk
    · cases h
  · cases h
theorem q_lreturn (X : Cx p s m args c g k) (hr : meth.sig.returnType = m_r k) (hlk : meth.locks = false) {r : Rt} (hd : decode (m_b k) pc = .ok (.lreturn, 1)) (h : nxt k j pc ls st S .lreturn = some (.inr (.inr r))) : WA p l e R s m args below meth c ce so (MQ below (Qm g r) args s ce so (Aw g)) g k (pc, ls, st, S) := by
  intro H locs lsA hP hS hO hok hl
  simp only [nxt] at h
  split at h
  · rename_i x
    split at h
    · rename_i hm
      cases h
      exact W.lret X.1 X.2.1 (by rw [hr, hm]) (fun t ht _ => ⟨rfl, by rw [ht]; exact hP, hO, fun v e => by cases e; exact vdv_L x, hS.F ht⟩) (fun q hq => hS.2.2 q hq) hd hlk
    · cases h
  · cases h
theorem q_areturn (X : Cx p s m args c g k) (hr : meth.sig.returnType = m_r k) (hlk : meth.locks = false) {r : Rt} (hd : decode (m_b k) pc = .ok (.areturn, 1)) (h : nxt k j pc ls st S .areturn = some (.inr (.inr r))) : WA p l e R s m args below meth c ce so (MQ below (Qm g r) args s ce so (Aw g)) g k (pc, ls, st, S) := by
  intro H locs lsA hP hS hO hok hl
  simp only [nxt] at h
  split at h
  · rename_i t i
    split at h
    · rename_i o hm
      obtain ⟨ht, h⟩ := bif_inv h
      cases h
      obtain ⟨a, ha⟩ := rfv_ref (g := g) (t := t) (i := i) (Nat.ne_of_beq_eq_false ht)
      have ea : cv g (vR t i) = .ref a := ha
      exact W.aret (v := cv g (vR t i)) X.1 X.2.1 (by rw [hr, hm]) (Or.inl ⟨_, rfl⟩) (Or.inr ⟨a, ea⟩) (fun t' ht _ => ⟨rfl, by rw [ht]; exact hP, hO, fun v e => by cases e; exact hok.2.2.1 _ List.mem_cons_self, hS.F ht⟩) (fun q hq => hS.2.2 q hq) hd hlk
    · cases h
  · cases h
theorem q_return (X : Cx p s m args c g k) (hr : meth.sig.returnType = m_r k) (hlk : meth.locks = false) {r : Rt} (hd : decode (m_b k) pc = .ok (.return_, 1)) (h : nxt k j pc ls st S .return_ = some (.inr (.inr r))) : WA p l e R s m args below meth c ce so (MQ below (Qm g r) args s ce so (Aw g)) g k (pc, ls, st, S) := by
  intro H locs lsA hP hS hO hok hl
  simp only [nxt] at h
  split at h
  · split at h
    · rename_i hm
      cases h
      exact W.vret X.1 X.2.1 (by rw [hr, hm]) (fun t ht _ => ⟨rfl, by rw [ht]; exact hP, hO, fun v e => (by cases e), hS.F ht⟩) (fun q hq => hS.2.2 q hq) hd hlk
    · cases h
  · cases h
/-! calls -/
theorem tk_inv : ∀ {n : Nat} {st a as r : List av}, tk n st a = some (as, r) → ∃ b, as = b ++ a ∧ st = b.reverse ++ r ∧ b.length = n
  | 0, st, a, as, r, h => by
    cases h
    exact ⟨[], rfl, rfl, rfl⟩
  | n + 1, [], a, as, r, h => by cases h
  | n + 1, v :: st, a, as, r, h => by
    obtain ⟨b, h1, h2, h3⟩ := tk_inv (n := n) h
    refine ⟨b ++ [v], by rw [h1, List.append_assoc]; rfl, ?_, by rw [List.length_append, h3]; rfl⟩
    rw [h2, List.reverse_append]
    rfl
theorem cl_inv {kd idx : Nat} {z : Nx} (h : cl k j pc ls st S kd idx = some z) : ∃ kd' k' po j' as r, lk (mthL (m_o k)) idx = some (kd', k', po) ∧ (match kd' with | 0 => Nat.beq kd 0 | _ => Nat.beq kd 1) = true ∧ cpy k j k' = some j' ∧ st = as.reverse ++ r ∧ as.length = (match kd' with | 0 => m_n k' + 1 | _ => m_n k') ∧ aOk kd' k' as r = true ∧ z = .inr (.inl ((k', j', as), (m_r k').isSome, (pc + 3, ls, r, S))) := by
  unfold cl at h
  split at h
  · rename_i kd' k' po hq
    obtain ⟨hk, h⟩ := bit_inv h
    split at h
    · rename_i j' hj
      split at h
      · rename_i as r ht
        obtain ⟨ha, h⟩ := bit_inv h
        cases h
        obtain ⟨b, h1, h2, h3⟩ := tk_inv ht
        rw [List.append_nil] at h1
        subst h1
        exact ⟨kd', k', po, j', as, r, hq, hk, hj, h2, h3, ha, rfl⟩
      · cases h
    · cases h
  · cases h
def rmN (n : Nat) : Room := { frames := n, cells := 0, slots := 0, locals := 60 * n }
def wsM (k : Nat) : List Cond := Cond.code (m_y k) (m_b k) (m_l k) (m_r k) :: GT
/-- a method's contract: its run from these arguments comes to this -/
def Mk (l : Launch) (g : GE) (k j : Nat) (as : List av) (S : Sto) (r : Rt) : Prop := Met l (m_y k) (wsM k) (rmN (m_v k + j)) (va_Pc (as.map (cv g)) (fun U => Stat g U ∧ va_P (g_D g) vwCl (wsC g S) U.heap ∧ StoOK g S)) (Qm g r) 0 0 (Aw g)
theorem blind {as : List av} {S : Sto} : FrameBlind (va_Pc (as.map (cv g)) (fun U => Stat g U ∧ va_P (g_D g) vwCl (wsC g S) U.heap ∧ StoOK g S)) := fun a U f mk q => ⟨q.1, q.2.1.calling f mk a, q.2.2.1, q.2.2.2⟩
theorem va_goes {H : Heap} {locs : List Loc} {lsA : Array Slot} {st0 rest : List Value} {Qa : State → Outcome → State → Prop} {free : Addr → Prop} (hr : va_Run p l e R s m args below meth c H locs ce so 0 0 (F0 m pc lsA st0) rest Qa free)
    (kk : ∀ (v : Option Value) (st₀ t : State) (L : List Loc), st₀.heap = H → (∀ q ∈ L, free q.base) → Qa st₀ (.returned v) t → W p l e R s m args below meth c t.heap (locs ++ L) ce so Q (F0 m (pc + 3) lsA (v.toList ++ rest))) : W p l e R s m args below meth c H locs ce so Q (F0 m pc lsA st0) := by
  intro T hT X
  obtain ⟨v, st₀, t, T', L, h0, X', hL, e1, e2, hq, st⟩ := hr T hT X
  obtain ⟨t2, a1, b1⟩ := kk v st₀ t L h0 hL hq T' e1 X'
  exact ⟨t2, st t2 a1, b1⟩
theorem wsM_good {k' : Nat} (hm : metOk k' = true) : GoodIn GT (wsM k') := by
  unfold metOk at hm
  simp only [Bool.and_eq_true] at hm
  intro w hw
  rcases List.mem_cons.mp hw with e | e
  · rw [e]
    have := isW_in hm.1.1.1.1
    exact ⟨this, good_of_word (GT_good this)⟩
  · exact ⟨e, good_of_word (GT_good e)⟩
theorem vw_nm {ci : Nat} {r : vw_C} (h : vwCl[ci]? = some r) : r.1 = cnm ci := by
  match ci, h with
  | 0, h => cases h; rfl
  | 1, h => cases h; rfl
  | 2, h => cases h; rfl
  | 3, h => cases h; rfl
  | 4, h => cases h; rfl
  | 5, h => cases h; rfl
  | 6, h => cases h; rfl
  | 7, h => cases h; rfl
  | 8, h => cases h; rfl
  | 9, h => cases h; rfl
  | n + 10, h => cases h
theorem recv_at (X : Cx p s m args c g k) {H : Heap} {locs : List Loc} {t i o : Nat} (hP : va_P (g_D g) vwCl (wsC g S) H) (hS : va_S (Aw g) s.heap H locs) (hvd : vdv (vR t i)) (ht : tco t = o) (ho : o < 17) : ∃ a, cv g (vR t i) = .ref a ∧ ∃ cellB : Cell, H[a]? = some cellB ∧ cellB.vm.isStatics = false ∧ s.vm.findClass (cnm o) = some cellB.cls := by
  subst ht
  rcases hvd t i rfl with hy | ⟨rfl, hi⟩ | ⟨rfl, hi⟩ | ⟨rfl, hi⟩ | ⟨rfl, hi⟩
  · have h5 := List.all_eq_true.mp lay_f _ hy
    obtain ⟨pp, hpp⟩ := lay_p hy
    have he := wsC_at (g := g) (S := S) hpp
    refine ⟨g_a g t i, rfv_own hy, ?_⟩
    cases hk : knd t with
    | mk a q2 =>
      obtain ⟨n, fs⟩ := q2
      rw [hk] at h5
      have hce : a = 0 → cel g S t i = .inr (n, fs.mapIdx (fvc g S t i)) := by
        intro e
        subst e
        unfold cel
        simp only [hk]
      unfold tco tci at ho ⊢
      rw [hk] at ho ⊢
      match a, h5, hce, ho with
      | 0, h5, hce, ho =>
        simp only [Bool.and_eq_true] at h5
        have hn := Nat.blt_eq.mp h5.1
        rw [hce rfl] at he
        have hr : ∃ r, vwCl[n]? = some r := ⟨_, List.getElem?_eq_getElem (by rw [vw_len]; exact hn)⟩
        obtain ⟨r, hr⟩ := hr
        have h6 := va_recv X.2.2.2.2.2.1.1 hP hr he
        have e100 : Nat.beq n 100 = false := by
          cases hb : Nat.beq n 100 with
          | false => rfl
          | true => have := Nat.eq_of_beq_eq_true hb; omega
        simp only [e100, cond_false]
        rw [← vw_nm hr]
        exact h6
      | 1, _, _, ho => exact absurd ho (by simp)
      | 2, _, _, ho => exact absurd ho (by simp)
      | 3, _, _, ho => exact absurd ho (by simp)
      | 4, _, _, ho => exact absurd ho (by simp)
      | 5, _, _, ho => exact absurd ho (by simp)
      | a + 6, h5, _, _ =>
        simp only [Bool.and_eq_true] at h5
        have := Nat.blt_eq.mp h5.2
        omega
  · exact ⟨g_k g i, rfl, vk_recv X.2.2.2.2.2.1.2.1 hi hS⟩
  · exact absurd ho (by decide)
  · exact absurd ho (by decide)
  · exact absurd ho (by decide)
def kdB (kd' kd : Nat) : Bool := match kd' with
  | 0 => Nat.beq kd 0
  | _ => Nat.beq kd 1
def kdN (kd' k' : Nat) : Nat := match kd' with
  | 0 => m_n k' + 1
  | _ => m_n k'
theorem q_call (X : Cx p s m args c g k) {lv : Nat} (hR : lv ≤ R.frames ∧ 60 * lv ≤ R.locals ∧ ce ≤ R.cells ∧ so ≤ R.slots) {kd idx kd' k' po j' : Nat} {as r : List av} {rr : Rt} (hk : lk (mthL (m_o k)) idx = some (kd', k', po)) (hkd : kdB kd' kd = true) (hd : decode (m_b k) pc = .ok (if kd = 0 then .invokevirtual idx else .invokestatic idx, 3)) (hlv : m_v k' + j' + 1 ≤ lv) (hm : metOk k' = true) (hml : Nat.ble (m_l k') 41 = true) (hn : as.length = kdN kd' k') (ha : aOk kd' k' as r = true)
    (hM : Mk l g k' j' as S rr) (hmo17 : m_o k' < 17) (K : WA p l e R s m args below meth c ce so Q g k (pc + 3, ls, rr.1.toList ++ r, rr.2)) : WA p l e R s m args below meth c ce so Q g k (pc, ls, as.reverse ++ r, S) := by
  intro H locs lsA hP hS hO hok hl
  have hf := X.2.2.2.2.2.1.2.2.2.2.2.2.2.2.2
  have hmo := List.all_eq_true.mp (own_of mth_ok X.2.2.2.2.2.2) _ (lk_mem hk)
  have hG := wsM_good hm
  have hm0 := hm
  unfold metOk at hm
  simp only [Bool.and_eq_true, decide_eq_true_eq] at hm
  obtain ⟨⟨⟨⟨hw1, hw2⟩, hw3⟩, hw4⟩, hw5⟩ := hm
  unfold ynOk at hw3
  simp only [Bool.and_eq_true, decide_eq_true_eq] at hw3
  unfold aOk at ha
  simp only [Bool.and_eq_true] at ha
  obtain ⟨⟨⟨ha1, ha2⟩, ha3⟩, ha4⟩ := ha
  have hW8 : 2 * (F0 m pc lsA ((as.reverse ++ r).map (cv g))).monitorRoom + ((r.map (cv g)).map fun v => v.category).sum ≤ 8 := lv_room (m := m) (pc := pc) (ls := lsA) (rest := (as.reverse ++ r).map (cv g)) (by rw [catS_eq hf]; exact Nat.ble_eq.mp ha4)
  have hml2 := Nat.ble_eq.mp hml
  have hRR : (rmN (m_v k' + j')).frames + 1 ≤ R.frames ∧ 8 + (m_l k' + 11) + (rmN (m_v k' + j')).locals ≤ R.locals := by
    refine ⟨Nat.le_trans hlv hR.1, Nat.le_trans ?_ hR.2.1⟩
    show 8 + (m_l k' + 11) + 60 * (m_v k' + j') ≤ 60 * lv
    omega
  have hcf : ce + 0 ≤ R.cells ∧ so + 0 ≤ R.slots := ⟨hR.2.2.1, hR.2.2.2⟩
  have hfix : CallFix p m c (m_b k) (m_l k) s args GT (cnm (m_o k)) := ⟨X.1, X.2.1, X.2.2.1, X.2.2.2.1, X.2.2.2.2.1⟩
  have hpre : ∀ U : State, U.heap = H → s.WarmedH U.vm → va_Pc (as.map (cv g)) (fun U => Stat g U ∧ va_P (g_D g) vwCl (wsC g S) U.heap ∧ StoOK g S) (as.map (cv g)).toArray U := fun U hU hWm => ⟨rfl, X.2.2.2.2.2.1.go hWm hU hS, by rw [hU]; exact hP, hO⟩
  have fin : ∀ (v : Option Value) (st₀ t : State) (L : List Loc), st₀.heap = H → (∀ q ∈ L, (Aw g) q.base) → Qm g rr (as.map (cv g)).toArray st₀ (.returned v) t → W p l e R s m args below meth c t.heap (locs ++ L) ce so Q (F0 m (pc + 3) lsA (v.toList ++ r.map (cv g))) := by
    intro v st₀ t L h0 hL hq
    obtain ⟨q1, q2, q3, q4, q5⟩ := hq
    have q1 := Outcome.returned.inj q1
    subst q1
    have hS2 : va_S (Aw g) s.heap t.heap (locs ++ L) := by
      refine ⟨Nat.le_trans hS.1 (by rw [← h0]; exact q5.1), fun q h1 h2 => ?_, fun q hq => ?_⟩
      · rw [q5.2 q (by rw [h0]; exact Nat.lt_of_lt_of_le h1 hS.1) h2, h0]
        exact hS.2.1 q h1 h2
      · rcases List.mem_append.mp hq with h | h
        · exact hS.2.2 q h
        · exact hL q h
    have hok2 : okC k (pc + 3, ls, rr.1.toList ++ r, rr.2) := by
      refine ⟨hok.1, hok.2.1, fun w hw => ?_, hok.2.2.2⟩
      rcases List.mem_append.mp hw with h | h
      · cases hrr : rr.1 with
        | none => rw [hrr] at h; exact absurd h List.not_mem_nil
        | some x =>
          rw [hrr] at h
          rcases List.mem_cons.mp h with e | e
          · rw [e]; exact q4 x hrr
          · exact absurd e List.not_mem_nil
      · exact hok.2.2.1 w (List.mem_append_right _ h)
    have K1 := K t.heap (locs ++ L) lsA q2 hS2 q3 hok2 hl
    have e : (rr.1.toList ++ r).map (cv g) = (rr.1.map (cv g)).toList ++ r.map (cv g) := by
      rw [List.map_append]
      cases rr.1 <;> rfl
    rw [← e]
    exact K1
  match kd', hkd, hn, ha1, hmo, hk with
  | 0, hkd, hn, ha1, hmo, hk =>
    have hk0 : kd = 0 := Nat.eq_of_beq_eq_true hkd
    subst hk0
    rw [if_pos rfl] at hd
    have hst : isSt k' = false := (mthOk_0 hmo).2.2
    rw [hst] at hw5
    simp only [cond_false, Bool.and_eq_true] at hw5
    have has : ∃ t i as', as = vR t i :: as' ∧ Nat.beq (tco t) (m_o k') = true := by
      match as, ha1 with
      | .inr (.inr (.inl (t, i))) :: as', ha1 => exact ⟨t, i, as', rfl, ha1⟩
      | [], ha1 => cases ha1
      | .inl x :: as', ha1 => cases ha1
      | .inr (.inl x) :: as', ha1 => cases ha1
      | .inr (.inr (.inr x)) :: as', ha1 => cases ha1
    obtain ⟨t, i, as', rfl, ha9⟩ := has
    have hvd := hok.2.2.1 (vR t i) (by simp)
    have htc := Nat.eq_of_beq_eq_true ha9
    have hn2 : (as'.map (cv g)).length = m_n k' := by rw [List.length_map]; exact Nat.succ.inj hn
    have hrec : ∃ a, cv g (vR t i) = .ref a ∧ ∃ cellB : Cell, H[a]? = some cellB ∧ cellB.vm.isStatics = false ∧ s.vm.findClass (m_y k').cls = some cellB.cls := by
      rw [hw4]
      exact recv_at X hP hS hvd htc hmo17
    obtain ⟨a, ea, hrec⟩ := hrec
    have hrun := va_runV (e := e) (below := below) (meth := meth) (locs := locs) (C := (m_y k').cls) (As := as'.map (cv g)) (rest := r.map (cv g)) (b := a) (g := F0 m pc lsA (((vR t i :: as').reverse ++ r).map (cv g))) hfix hM (cwV (m_n k') X.2.2.2.2.1 (fun w hw => by
        unfold wsV at hw
        rcases List.mem_append.mp hw with h | h
        · simp only [List.mem_cons, List.not_mem_nil, or_false] at h
          rcases h with rfl | rfl | rfl | rfl
          · have := isW_in (mthOk_0 hmo).2.1; exact ⟨this, good_of_word (GT_good this)⟩
          · have := isW_in hw5.1; exact ⟨this, good_of_word (GT_good this)⟩
          · have := isW_in hw5.2; exact ⟨this, good_of_word (GT_good this)⟩
          · have := isW_in hw2; exact ⟨this, good_of_word (GT_good this)⟩
        · exact hG w h) rfl rfl rfl ⟨rfl, hw3.1.1.1, hw3.1.1.2, hw3.1.2⟩ hRR)
      ⟨blind, hrec, fun U hU hWm => by
        have := hpre U hU hWm
        have e9 : (vR t i :: as').map (cv g) = Value.ref a :: as'.map (cv g) := by rw [List.map_cons, ea]
        refine ⟨?_, this.2⟩
        rw [e9]⟩ rfl hn2 hl.1 (by
        show (((vR t i :: as').reverse ++ r).map (cv g)) = _
        rw [List.map_append, List.map_reverse, List.map_cons, ea, List.reverse_cons, List.append_assoc]
        rfl) hW8 hd hcf
    have hrun2 : va_Run p l e R s m args below meth c H locs ce so 0 0 (F0 m pc lsA (((vR t i :: as').reverse ++ r).map (cv g))) (r.map (cv g)) (Qm g rr (((vR t i :: as').map (cv g)).toArray)) (Aw g) := by
      simp only [List.map_cons, ea] at hrun ⊢
      exact hrun
    exact va_goes hrun2 fin
  | 1, hkd, hn, ha1, hmo, hk =>
    have hk1 : kd = 1 := Nat.eq_of_beq_eq_true hkd
    subst hk1
    rw [if_neg (by decide)] at hd
    have hst : isSt k' = true := (mthOk_1 hmo).2.2
    rw [hst] at hw5
    simp only [cond_true] at hw5
    have hrun := va_runS (e := e) (below := below) (meth := meth) (locs := locs) (As := as.map (cv g)) (rest := r.map (cv g)) (g := F0 m pc lsA ((as.reverse ++ r).map (cv g))) hfix hM (va_cwS (m_n k') X.2.2.2.2.1 (fun w hw => by
          unfold va_wsS at hw
          rcases List.mem_append.mp hw with h | h
          · simp only [List.mem_cons, List.not_mem_nil, or_false] at h
            rcases h with rfl | rfl | rfl
            · have := isW_in (mthOk_1 hmo).2.1; exact ⟨this, good_of_word (GT_good this)⟩
            · have := isW_in hw5; exact ⟨this, good_of_word (GT_good this)⟩
            · have := isW_in hw2; exact ⟨this, good_of_word (GT_good this)⟩
          · exact hG w h) rfl rfl rfl ⟨hw3.1.1.1, hw3.1.1.2, hw3.1.2⟩ hRR) ⟨blind, hpre⟩ rfl (by rw [List.length_map]; exact hn) hl.1 (by
          show ((as.reverse ++ r).map (cv g)) = _
          rw [List.map_append, List.map_reverse]) hW8 hd hcf
    exact va_goes hrun fin
  | 2, hkd, hn, ha1, hmo, hk =>
    have hk1 : kd = 1 := Nat.eq_of_beq_eq_true hkd
    subst hk1
    rw [if_neg (by decide)] at hd
    have hst : isSt k' = true := (mthOk_2 hmo).2
    rw [hst] at hw5
    simp only [cond_true] at hw5
    have hnest := X.2.2.2.2.2.1.2.2.2.2.2.1 _ _ X.2.2.2.2.2.2 (lk_mem hk) rfl
    have hrun := va_runSN (e := e) (below := below) (meth := meth) (locs := locs) (As := as.map (cv g)) (rest := r.map (cv g)) (g := F0 m pc lsA ((as.reverse ++ r).map (cv g))) hfix hM ⟨va_cnB (m_n k') X.2.2.2.2.1 hG rfl rfl rfl hnest (X.2.2.2.2.1 _ (isW_in hw2)) ⟨hw3.1.1.1, hw3.1.1.2, hw3.1.2⟩ hRR, X.2.2.2.2.1 _ (isW_in hw5), trivial⟩ ⟨blind, hpre⟩ rfl (by rw [List.length_map]; exact hn) hl.1 (by
          show ((as.reverse ++ r).map (cv g)) = _
          rw [List.map_append, List.map_reverse]) hW8 hd hcf
    exact va_goes hrun fin
  | n + 3, hkd, hn, ha1, hmo, hk => exact absurd hmo mthOk_3
end SC
