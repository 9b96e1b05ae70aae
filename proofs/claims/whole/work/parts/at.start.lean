/-! the start: what holds of the empty town, the contract of the whole's constructor, classes and links -/
def A0 : Tn := fun f _ => bif Nat.beq f 3 then 1 else bif Nat.beq f 4 then 9 else 0
def R0 : Rs := ((fun _ => A0, fun _ => false), (0, fun _ _ _ => 0), (0, fun _ => 0))
theorem z01 {P : Prop} (h : (0 : Nat) = 1) : P := absurd h (by decide)
theorem rep_c0 (xs : Nat → Int32) (L q : Nat) : RepC (S0 xs L) q A0 := by
  refine ⟨⟨rfl, rfl, rfl, rfl, rfl, rfl, rfl, rfl⟩, fun p hp => ⟨rfl, ?_, rfl⟩, fun i hi => ⟨?_, rfl⟩, fun t ht => ⟨rfl, rfl, rfl⟩, fun w hw => ⟨rfl, rfl, rfl, rfl, rfl⟩⟩
  · show (0 : Int32) = nI 1 - 1
    decide
  · show (0 : Int32) = nI 9 - 9
    decide
theorem rep_m0 (xs : Nat → Int32) (L : Nat) : RepM (S0 xs L) A0 := by
  intro f i hf hi
  match f, hf with
  | 0, _ => exact rfl
  | 1, _ => exact rfl
  | 2, _ => exact rfl
  | 3, _ => exact (by decide : (0 : Int32) = nI 1 - 1)
  | 4, _ => exact (by decide : (0 : Int32) = nI 9 - 9)
  | 5, _ => exact rfl
  | 6, _ => exact rfl
  | 7, _ => exact rfl
  | 8, _ => exact rfl
  | 9, _ => exact rfl
  | 10, _ => exact rfl
  | 11, _ => exact rfl
  | 12, _ => exact rfl
  | 13, _ => exact rfl
  | 14, _ => exact rfl
  | 15, _ => exact rfl
  | n + 16, h => exact absurd h (by omega)
theorem wf_0 : WF A0 := ⟨⟨by decide, by decide, by decide, by decide, trivial, by decide⟩, fun p _ => ⟨Nat.zero_le _, Nat.zero_le _, fun h => z01 h, fun h => absurd h (Nat.not_lt_zero p), (by decide : (1 : Nat) ≤ 12)⟩, fun i _ => ⟨(by decide : (9 : Nat) ≤ 18), Nat.zero_le _⟩, fun a b _ _ => ⟨rfl, rfl, fun h => z01 h⟩, fun t ht => absurd ht (Nat.not_lt_zero t), fun w hw => absurd hw (Nat.not_lt_zero w), fun w _ => ⟨Nat.zero_le _, fun h => z01 h⟩, fun k hk => absurd hk (Nat.not_lt_zero k), fun t _ => ⟨(by decide : (0 : Nat) < 12), (by decide : (0 : Nat) < 12)⟩, fun w _ => ⟨(by decide : (0 : Nat) < 12), (by decide : (0 : Nat) < 2 ^ 24), Nat.zero_le _, Nat.zero_le _, (by decide : (0 : Nat) < 12)⟩⟩
theorem ft {P : Prop} (h : false = true) : P := absurd h (by decide)
theorem inv_0 (xs : Nat → Int32) (L : Nat) : Inv (S0 xs L) A0 R0 := ⟨rep_c0 xs L 0, ⟨fun k _ => ⟨rfl, fun h => ft h⟩, ⟨rfl, fun r hr => absurd hr (Nat.not_lt_zero r)⟩, ⟨rfl, fun i hi => absurd hi (Nat.not_lt_zero i)⟩, fun k _ => rfl⟩, rep_m0 xs L, ⟨fun k _ => ⟨rfl, fun h => ft h⟩, ⟨rfl, fun r hr => absurd hr (Nat.not_lt_zero r)⟩, ⟨rfl, fun i hi => absurd hi (Nat.not_lt_zero i)⟩, rfl⟩, wf_0, fun k _ h => ft h, ⟨by decide, fun r hr => absurd hr (Nat.not_lt_zero r)⟩, by decide, fun i hi => absurd hi (Nat.not_lt_zero i)⟩
def rmO : Room := { frames := 2, cells := 146, slots := 10919, locals := 32 }
def wsO : List Cond := Cond.code (yI 8) bO 2 none :: GT
theorem wO_in : Cond.code (yI 8) bO 2 none ∈ GT := isW_in (p := 143) (by decide +kernel)
theorem mO_in : Cond.methodLink (cnm 8) 1 objectInit ∈ GT := isW_in (p := 144) (by decide +kernel)
theorem wsO_good : GoodIn GT wsO := by
  intro w hw
  rcases List.mem_cons.mp hw with q | q
  · subst q; exact ⟨wO_in, good_of_word (GT_good wO_in)⟩
  · exact ⟨q, good_of_word (GT_good q)⟩
set_option maxHeartbeats 4000000 in
theorem own_met (l : Launch) (D : va_G) (cA : Nat → ClassId) (h0 sz : Nat) : Met l (yI 8) wsO rmO (va_Pc [.ref h0] (fun U => U.heap.size = sz ∧ va_P D vwCl [(h0, .inr (8, dfl 8))] U.heap ∧ va_K D vwCl (tyY cA) U ∧ va_D (fun _ => True) [(h0, .inr (8, dfl 8))] ∧ NW U)) (va_Qv (fun _ : List (Nat × List Nat) => True) (fun v t => va_P D vwCl (oW cA h0 v) t.heap ∧ va_D (va_A [(h0, .inr (8, dfl 8))] sz) (oW cA h0 v)) (va_A [(h0, .inr (8, dfl 8))] sz)) 146 10919 (va_A [(h0, .inr (8, dfl 8))] sz) := by
  refine Met.ofW (cc := bO) (maxL := 2) (ret := none) (by decide +kernel) rfl ?_
  intro p e s m args below meth c s₁ B hml hv
  obtain ⟨rfl, hsz, hP, hK, hD0, hN⟩ := hv
  have hx := B.exec
  have hb := B.bytes
  have hr := B.returns
  have hts0 := atoms_spec (ws := wsO) B.pre
  have hts := fun (w : Cond) (hw : w ∈ GT) => hts0 w (List.mem_cons_of_mem _ hw)
  have hown : s.vm.findClass (cnm 8) = some m.cls := findClass_of_methodNamed B.named
  have hlocks := B.notSynchronized
  have hin : meth.name = "<init>" := (name_of_methodNamed B.named B.method).1
  subst hsz
  have hD := hD0.self (sz := s.heap.size)
  generalize hAe : va_A [(h0, .inr (8, dfl 8))] s.heap.size = A at hD ⊢
  have hA : ∀ q : Nat, s.heap.size ≤ q → A q := fun q h => by rw [← hAe]; exact Or.inr h
  have hS : va_S A s.heap s.heap [] := va_S.rf
  have hl := lv_entry ([.ref h0]) (n := 2) (Nat.le_of_ble_eq_true rfl)
  rw [lg_entry_eq]
  generalize (lg_sl ([.ref h0]) ++ List.replicate (2 - (lg_sl ([.ref h0])).length) Slot.unset).toArray = ls at hl ⊢
  have hl : lv_has ls 2 [(0, .ref h0)] := hl
  refine lv_aload_n hx hb (show decode bO 0 = .ok (.aload_n 0, 1) by decide +kernel) rfl (lv_at hl 0 rfl) ?_
  refine W.objInit hx hb hown (hts _ mO_in) (hts _ oi_in) (hts _ oc_in) rfl (by rw [hml]; exact hl.1) rfl (show decode bO 1 = .ok (.invokespecial 1, 3) by decide +kernel) (Nat.le_of_ble_eq_true rfl) (Nat.le_of_ble_eq_true rfl) ?_
  refine W.eq (g2 := F0 m 4 ls []) rfl ?_
  refine own_walk ⟨hx, hb, hml, hown, hts, hin, hK, hN⟩ hA ⟨Nat.le_refl _, Nat.le_refl _⟩ (Nat.le_refl _) (Nat.le_refl _) hl hP hD hS (fun v H1 locs1 ls1 hP1 hD1 hS1 => ?_)
  exact W.vret hx hb hr (fun t ht hW => ⟨⟨v, rfl, trivial, by rw [ht]; exact hP1, hD1⟩, hS1.F ht⟩) hS1.2.2 (show decode bO 179 = .ok (.return_, 1) by decide +kernel)
section CT2
variable {p : Program} {l : Launch} {e : Env} {R : Room} {s : State} {m : MethodId} {args : Array Value} {below : List Frame} {meth : Method} {c : Code} {Q : State → Prop} {H0 : Heap} {cc : ByteArray} {ls : Array Slot} {A : Nat → Prop} {D : va_G} {cA : Nat → ClassId}
set_option maxHeartbeats 4000000 in
/-- new, dup, the constructor: an object with its rows (by its own link) -/
theorem mk_leafP {H : Heap} {locs : List Loc} {cells slots pc nL index mi : Nat} {rest : List Value} {ws : va_W} {own : String} {ci : Nat} {bs : ByteArray} {its : List It} {pe oi : Nat} (hx : p.tables.exec = Jvm.exec) (hb : c.code = cc) (hml : c.maxLocals = nL) (hown : s.vm.findClass own = some m.cls) (hts : ∀ w ∈ GT, w.before args s = true) (hK : va_K D vwCl (tyY cA) s) (hA : ∀ q, H0.size ≤ q → A q) (hk : lfOk ci bs its pe oi) (hnw : (Cond.methodLink own mi (yI ci)).before args s = true) (hcl : (Cond.classLink own index (cnm ci)).before args s = true) (hP : va_P D vwCl ws H) (hD : va_D A ws) (hS : va_S A H0 H locs) (hls : ls.size = nL) (hrest : ∀ q : Nat, ((Value.ref q :: rest).map fun v => v.category).sum ≤ 8) (hc : cells + (1 + lfC its) ≤ R.cells) (hs : slots + (vN ci + lfS its) ≤ R.slots) (hR : 2 ≤ R.frames ∧ 32 ≤ R.locals) (d0 : decode cc pc = .ok (.new index, 3)) (d1 : decode cc (pc + 3) = .ok (.dup, 1)) (d2 : decode cc (pc + 4) = .ok (.invokespecial mi, 3))
    (kk : ∀ (q : Nat) (u : List Nat) (H1 : Heap) (locs1 : List Loc), va_P D vwCl (ws ++ lfA cA ci its u q) H1 → va_D A (ws ++ lfA cA ci its u q) → va_S A H0 H1 locs1 → W p l e R s m args below meth c H1 locs1 (cells + (1 + lfC its)) (slots + (vN ci + lfS its)) Q (F0 m (pc + 7) ls (.ref q :: rest))) : W p l e R s m args below meth c H locs cells slots Q (F0 m pc ls rest) := by
  have hk0 := hk
  obtain ⟨⟨k1, k2, k3, k4, k5, k6⟩, ⟨k7, k8, k9, k10, k11⟩, k12, k13⟩ := hk
  obtain ⟨r, hv⟩ : ∃ r, vwCl[ci]? = some r := ⟨_, List.getElem?_eq_getElem (show ci < vwCl.length from k1)⟩
  obtain ⟨ty0, hty, hfs, hdl⟩ := dfl_ok hv
  have hN : vN ci = r.2.2 := by unfold vN; rw [hv]
  have hcn := vw_cn hv
  refine va_new (ci := ci) (fs := dfl ci) (C := r.1) (T := r.2.1) (N := r.2.2) hx hb hts (vw_in hv) ty0 hty hown (by rw [← hcn]; exact hcl) (by rw [← hcn, ← hN]; exact hts _ k10) (by rw [← hcn]; exact hts _ k11) hK hP hD hS hA hv hfs (by omega) (by omega) d0 (fun q H1 hP1 hD1 hS1 => ?_)
  refine lv_dup hx hb d1 rfl ?_
  have hPc : va_P D vwCl [(q, .inr (ci, dfl ci))] H1 := vP_iff.mpr (fun x hx => vP_iff.mp hP1 x (List.mem_append_right _ hx))
  have hDc : va_D A [(q, .inr (ci, dfl ci))] := vD_iff.mpr ⟨by simp, fun x hx => (vD_iff.mp hD1).2 x (List.mem_append_right _ hx)⟩
  have hFc := va_free (wc := [(q, .inr (ci, dfl ci))]) hD1 hS1 hA [ws.length] (by simp)
  refine va_callv (va_runI (As := []) (rest := .ref q :: rest) ⟨hx, hb, hml, hown, hts⟩ (leaf_met l D cA hk0 q H1.size) (cwI 0 hts (wsI_good k8) rfl rfl rfl (hts _ k11) hnw (hts _ k9) rfl ⟨k12, k13, (show (parseMethodDescriptor "()V").map (fun d => d.parameters.length) = some 0 by decide +kernel)⟩ ⟨hR.1, hR.2⟩) ⟨fun a U g mk q => by obtain ⟨q0, q1, qP, qK, qD⟩ := q; exact ⟨q0, q1, qP, va_K.moved (u := U) (U := U.calling g mk a) (Vm.Alike.refl U.vm) qK, qD⟩, fun U hU hW => ⟨rfl, by rw [hU], by rw [hU]; exact hPc, va_K.moved hW.alike hK, hDc.weaken (fun _ _ _ _ => trivial)⟩⟩ rfl rfl hls rfl (lv_room (hrest q)) d2 ⟨by omega, by omega⟩) hS1 (fun x _ h => hFc x h) hFc (fun u t H2 locs2 ht hvm hw hB hz hk2 hS2 => ?_)
  obtain ⟨hP2, hD2⟩ := hB
  rw [ht] at hP2
  obtain ⟨hP3, hD3⟩ := va_join (wr := ws) (w1 := lfA cA ci its u q) hP1 hD1 [ws.length] (List.range ws.length) (by simp) (rng_map ws _) (nd_of List.nodup_range) (fun i hi h => by simp at hi h; omega) hk2 hFc hP2 hD2
  have := kk q u H2 locs2 hP3 hD3 hS2
  rw [← Nat.add_assoc, ← Nat.add_assoc, hN] at this
  exact this
end CT2
theorem tb_of {s : State} {args : Array Value} (hts : ∀ w ∈ lw_tbl, w.before args s = true) {p : Nat} {w : Cond} (h : lw_tbl[p]? = some w) : w.before args s = true := hts w (List.mem_of_getElem? h)
theorem nw_start {s : State} {args : Array Value} (hts : ∀ w ∈ lw_tbl, w.before args s = true) : NW s := by
  refine ⟨?_, va_AO.of (tb_of hts (p := 281) (by decide +kernel)), va_AO.of (tb_of hts (p := 283) (by decide +kernel))⟩
  intro q hq
  simp only [nwL, List.mem_cons, List.not_mem_nil, or_false] at hq
  rcases hq with rfl | rfl | rfl | rfl | rfl | rfl | rfl | rfl
  · exact va_Nw.of rfl (tb_of hts (p := 149) (by decide +kernel))
  · exact va_Nw.of rfl (tb_of hts (p := 286) (by decide +kernel))
  · exact va_Nw.of rfl (tb_of hts (p := 316) (by decide +kernel))
  · exact va_Nw.of rfl (tb_of hts (p := 342) (by decide +kernel))
  · exact va_Nw.of rfl (tb_of hts (p := 364) (by decide +kernel))
  · exact va_Nw.of rfl (tb_of hts (p := 384) (by decide +kernel))
  · exact va_Nw.of rfl (tb_of hts (p := 397) (by decide +kernel))
  · exact va_Nw.of rfl (tb_of hts (p := 412) (by decide +kernel))
theorem nest_start {s : State} {args : Array Value} (hts : ∀ w ∈ lw_tbl, w.before args s = true) (c : Nat) (q : Nat × Nat × Nat × Nat) (hc : c < 17) (hq : q ∈ mthL c) (h2 : q.2.1 = 2) : va_Nw (.methodLinkNest (cnm c) q.1 (m_y q.2.2.1) "OwnedByTwos") s := by
  have h := List.all_eq_true.mp (own_of mth_ok hc) q hq
  unfold mthOk at h
  rw [h2] at h
  simp only [Bool.and_eq_true, decide_eq_true_eq] at h
  exact va_Nw.of rfl (tb_of hts h.2.1)
theorem inst_in {ci : Nat} {r : vw_C} (h : vwCl[ci]? = some r) : Cond.instantiable r.1 r.2.2 ∈ GT := by
  match ci, h with
  | 0, h => cases h; exact isW_in (p := 383) (by decide +kernel)
  | 1, h => cases h; exact isW_in (p := 411) (by decide +kernel)
  | 2, h => cases h; exact isW_in (p := 315) (by decide +kernel)
  | 3, h => cases h; exact isW_in (p := 341) (by decide +kernel)
  | 4, h => cases h; exact isW_in (p := 363) (by decide +kernel)
  | 5, h => cases h; exact isW_in (p := 285) (by decide +kernel)
  | 6, h => cases h; exact isW_in (p := 148) (by decide +kernel)
  | 7, h => cases h; exact isW_in (p := 396) (by decide +kernel)
  | 8, h => cases h; exact isW_in (p := 140) (by decide +kernel)
  | 9, h => cases h; exact isW_in (p := 1158) (by decide +kernel)
  | n + 10, h => cases h
theorem arr_p {s : State} {args : Array Value} {ty : FieldType} (h : (Cond.arrayClass ty).before args s = true) : ∃ cX : ClassId, ArrOfT s cX ty ∧ s.vm.findClass ("[" ++ ty.toString) = some cX := by
  obtain ⟨cX, kX, comp, a1, a2, a3⟩ := Cond.arrayClass_spec h
  exact ⟨cX, fun n z => ⟨fun k h => (by cases h), kX, a2, comp, a3⟩, a1⟩
theorem arr_q {s : State} {C : String} (h : va_AO C s) : ∃ cX : ClassId, ArrOfT s cX (.object C) ∧ va_RA s cX (.object C) := by
  obtain ⟨comp, cX, kX, h1, h2, h3, h4, h5⟩ := Cond.arrayOver_spec h
  exact ⟨cX, fun n z => ⟨fun k h => (by cases h), kX, h3, comp, h4⟩, kX, comp, h3, h4, h1, h5⟩
theorem K_start {s : State} {args : Array Value} (hts : ∀ w ∈ lw_tbl, w.before args s = true) : ∃ (D : va_G) (cA : Nat → ClassId), va_K D vwCl (tyY cA) s := by
  have hG : ∀ w ∈ GT, w.before args s = true := fun w hw => hts w (List.mem_filter.mp hw).1
  have h : ∀ k : Nat, ∃ z : ClassId × (Nat → Nat), ∀ r, vwCl[k]? = some r → u_Kn s r.1 r.2.1 r.2.2 z.1 z.2 := by
    intro k
    cases hv : vwCl[k]? with
    | none =>
      obtain ⟨cC, iS, -⟩ := u_known hG (vw_in vw8) (hG _ (inst_in vw8))
      exact ⟨(cC, iS), fun r hr => by cases hr⟩
    | some r =>
      obtain ⟨cC, iS, h⟩ := u_known hG (vw_in hv) (hG _ (inst_in hv))
      exact ⟨(cC, iS), fun r' hr' => by cases hr'; exact h⟩
  obtain ⟨z, hz⟩ := Classical.axiomOfChoice h
  obtain ⟨-, n2, n3⟩ := nw_start hts
  obtain ⟨c1, a1, b1⟩ := arr_p (hG _ (ac_in 1))
  obtain ⟨c2, a2, b2⟩ := arr_p (hG _ (ac_in 2))
  obtain ⟨c3, a3, b3⟩ := arr_p (hG _ (ac_in 3))
  obtain ⟨c4, a4, b4⟩ := arr_p (hG _ (ac_in 4))
  obtain ⟨c5, a5, b5⟩ := arr_q n2
  obtain ⟨c6, a6, b6⟩ := arr_q n3
  refine ⟨(fun k => (z k).1, fun k => (z k).2), fun a => match a with | 1 => c1 | 2 => c2 | 3 => c3 | 4 => c4 | 5 => c5 | _ => c6, fun k r hr => hz k r hr, ?_⟩
  intro k q hq
  match k, hq with
  | 0, hq => cases hq; exact ⟨a1, b1⟩
  | 1, hq => cases hq; exact ⟨a2, b2⟩
  | 2, hq => cases hq; exact ⟨a3, b3⟩
  | 3, hq => cases hq; exact ⟨a4, b4⟩
  | 4, hq => cases hq; exact ⟨a5, b5⟩
  | 5, hq => cases hq; exact ⟨a6, b6⟩
  | n + 6, hq => cases hq
