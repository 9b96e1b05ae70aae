/-! the constructor of the whole -/
abbrev bO : ByteArray := prog_1_method_1_code
def nwL : List (Nat × Nat) := [(9, 6), (39, 5), (46, 2), (53, 3), (60, 4), (67, 0), (74, 7), (82, 1)]
def NW (s : State) : Prop := (∀ q ∈ nwL, va_Nw (.methodLinkNest (cnm 8) q.1 (yI q.2) "OwnedByTwos") s) ∧ va_AO "OwnedByTwos$Town" s ∧ va_AO "OwnedByTwos$Law" s
theorem NW.warm {s U : State} (hW : s.WarmedH U.vm) (h : NW s) : NW U := ⟨fun q hq => (h.1 q hq).warmM hW, h.2.1.moved hW.alike, h.2.2.moved hW.alike⟩
theorem NW.calling {U : State} (f : JFrame) (mk : MethodId) (a : Array Value) (h : NW U) : NW (U.calling f mk a) := ⟨fun q hq => va_Nw.same (u := U) rfl rfl (h.1 q hq), va_AO.moved (u := U) (Vm.Alike.refl U.vm) h.2.1, va_AO.moved (u := U) (Vm.Alike.refl U.vm) h.2.2⟩
def OX (p : Program) (s : State) (m : MethodId) (args : Array Value) (c : Code) (meth : Method) (D : va_G) (cA : Nat → ClassId) : Prop := p.tables.exec = Jvm.exec ∧ c.code = bO ∧ c.maxLocals = 2 ∧ s.vm.findClass (cnm 8) = some m.cls ∧ (∀ w ∈ GT, w.before args s = true) ∧ meth.name = "<init>" ∧ va_K D vwCl (tyY cA) s ∧ NW s
def rfs (n : Nat) (f : Nat → Option Nat) : vp_A := (n, .inr (.inr (.inr (.inr f))))
theorem rfs_eq {cX : ClassId} {n : Nat} {f f' : Nat → Option Nat} (h : ∀ j, j < n → f j = f' j) : vp_cell cX (rfs n f) = vp_cell cX (rfs n f') := by
  show arrV cX n (fun j => va_rf (f j)) = arrV cX n (fun j => va_rf (f' j))
  unfold arrV
  congr 1
  congr 1
  funext j
  show va_rf (f j.val) = va_rf (f' j.val)
  rw [h j.val j.isLt]
theorem fr1 {x y : Nat × va_E} {ws : va_W} : (x :: (ws ++ [y])).Perm (x :: y :: ws) := List.Perm.cons _ List.perm_append_comm
theorem fr2 {x y z : Nat × va_E} {ws : va_W} : (x :: y :: (ws ++ [z])).Perm (x :: y :: z :: ws) := List.Perm.cons _ (List.Perm.cons _ List.perm_append_comm)
section OWN
variable {p : Program} {l : Launch} {e : Env} {R : Room} {s : State} {m : MethodId} {args : Array Value} {below : List Frame} {meth : Method} {c : Code} {Q : State → Prop} {H0 : Heap} {ls : Array Slot} {A : Nat → Prop} {D : va_G} {cA : Nat → ClassId} {h0 : Nat} {lv : List (Nat × Value)} {H : Heap} {locs : List Loc} {cells slots pc : Nat} {fs : List Value} {ws : va_W}
theorem vw8 : vwCl[8]? = some (RX8, TX8, 13) := rfl
theorem of8 (X : OX p s m args c meth D cA) {idx sl po : Nat} (hf : lk (fldL 8) idx = some (8, sl, po)) : sl < 13 ∧ (Cond.fieldLink (cnm 8) idx RX8 (TX8 sl).2.1 (TX8 sl).2.2.1).before args s = true ∧ (TX8 sl).1 = RX8 := fld_v X.2.2.2.2.1 (by decide) vw8 hf
set_option maxHeartbeats 4000000 in
theorem own_leaf (X : OX p s m args c meth D cA) (hA : ∀ q, H0.size ≤ q → A q) (hR : 2 ≤ R.frames ∧ 32 ≤ R.locals) (hl : lv_has ls 2 ((0, .ref h0) :: lv)) {ci : Nat} {bs : ByteArray} {its : List It} {pe oi index mi sl idx po : Nat} (hk : lfOk ci bs its pe oi) (hnw : (mi, ci) ∈ nwL) (hcl : Cond.classLink (cnm 8) index (cnm ci) ∈ GT) (hf : lk (fldL 8) idx = some (8, sl, po)) (hds : (TX8 sl).2.2.2 = true ∧ parseFieldDescriptor (TX8 sl).2.2.1 = some (.object (cnm ci))) (hfs : fs.length = 13) (hP : va_P D vwCl ((h0, .inr (8, fs)) :: ws) H) (hD : va_D A ((h0, .inr (8, fs)) :: ws)) (hS : va_S A H0 H locs) (hc : cells + (1 + lfC its) ≤ R.cells) (hs : slots + (vN ci + lfS its) ≤ R.slots) (da : decode bO pc = .ok (.aload_n 0, 1)) (d0 : decode bO (pc + 1) = .ok (.new index, 3)) (d1 : decode bO (pc + 4) = .ok (.dup, 1)) (d2 : decode bO (pc + 5) = .ok (.invokespecial mi, 3)) (d3 : decode bO (pc + 8) = .ok (.putfield idx, 3))
    (kk : ∀ (q : Nat) (u : List Nat) (H1 : Heap) (locs1 : List Loc), va_P D vwCl ((h0, .inr (8, fs.set sl (.ref q))) :: (ws ++ lfA cA ci its u q)) H1 → va_D A ((h0, .inr (8, fs.set sl (.ref q))) :: (ws ++ lfA cA ci its u q)) → va_S A H0 H1 locs1 → W p l e R s m args below meth c H1 locs1 (cells + (1 + lfC its)) (slots + (vN ci + lfS its)) Q (F0 m (pc + 11) ls [])) : W p l e R s m args below meth c H locs cells slots Q (F0 m pc ls []) := by
  obtain ⟨hx, hb, hml, hown, hts, hin, hK, hnl⟩ := id X
  obtain ⟨hlt, hlink, hdecl⟩ := of8 X hf
  refine lv_aload_n hx hb da rfl (lv_at hl 0 rfl) ?_
  refine mk_leafN (nL := 2) (pc := pc + 1) hx hb hml hown hts hK hA hk (hnl.1 _ hnw) (hts _ hcl) hP hD hS hl.1 (fun q => Nat.le_of_ble_eq_true rfl) hc hs hR d0 d1 d2 (fun q u H1 locs1 hP1 hD1 hS1 => ?_)
  exact va_putF (pc := pc + 8) (C := RX8) (T := TX8) (N := 13) (ci := 8) (ty := .object (cnm ci)) hx hb hts (vw_in vw8) tyX8 tyX8_ok nmX8 hown hK hP1 hD1 hS1 0 rfl vw8 sl hlt hlink (fun x hx => by rw [hdecl] at hx; exact hx) hds.1 hin hdecl hds.2 rfl rfl (by rw [hfs]; exact hlt) d3 (fun H2 locs2 hP2 hD2 hS2 => kk q u H2 locs2 hP2 hD2 hS2)
set_option maxHeartbeats 4000000 in
theorem own_newq (X : OX p s m args c meth D cA) (hA : ∀ q, H0.size ≤ q → A q) (hl : lv_has ls 2 ((0, .ref h0) :: lv)) {C : String} {ins : Instr} {v : Int32} {n a index sl idx po : Nat} (hcl : Cond.classLink (cnm 8) index C ∈ GT) (hao : va_AO C s) (ht : (tyY cA)[a - 1]? = some (cA a, .object C)) (hf : lk (fldL 8) idx = some (8, sl, po)) (hds : (TX8 sl).2.2.2 = true ∧ parseFieldDescriptor (TX8 sl).2.2.1 = some (.array (.object C))) (hfs : fs.length = 13) (hP : va_P D vwCl ((h0, .inr (8, fs)) :: ws) H) (hD : va_D A ((h0, .inr (8, fs)) :: ws)) (hS : va_S A H0 H locs) (hc : cells + 1 ≤ R.cells) (hs : slots + n ≤ R.slots) (hv : pshV ins = some v) (hn : ¬ v < 0) (hN : v.toNatClampNeg = n) (hn2 : n ≤ 100) (da : decode bO pc = .ok (.aload_n 0, 1)) (d1 : decode bO (pc + 1) = .ok (ins, pshN ins)) (d2 : decode bO (pc + 1 + pshN ins) = .ok (.anewarray index, 3)) (d3 : decode bO (pc + 1 + pshN ins + 3) = .ok (.putfield idx, 3))
    (kk : ∀ (q : Nat) (H1 : Heap) (locs1 : List Loc), va_P D vwCl ((h0, .inr (8, fs.set sl (.ref q))) :: (ws ++ [((q, .inl (cA a, rfs n (fun _ => none))) : Nat × va_E)])) H1 → va_D A ((h0, .inr (8, fs.set sl (.ref q))) :: (ws ++ [((q, .inl (cA a, rfs n (fun _ => none))) : Nat × va_E)])) → va_S A H0 H1 locs1 → W p l e R s m args below meth c H1 locs1 (cells + 1) (slots + n) Q (F0 m (pc + 1 + pshN ins + 3 + 3) ls [])) : W p l e R s m args below meth c H locs cells slots Q (F0 m pc ls []) := by
  obtain ⟨hx, hb, hml, hown, hts, hin, hK, hnl⟩ := id X
  obtain ⟨hlt, hlink, hdecl⟩ := of8 X hf
  refine lv_aload_n hx hb da rfl (lv_at hl 0 rfl) ?_
  refine ct_push hx hb d1 hv ?_
  refine va_newq hx hb hown (hts _ hcl) hao hK hP hD hS hA hn hN (by omega) hc hs d2 (fun q cX H1 hK1 hP1 hD1 hS1 => ?_)
  have eX : cX = cA a := nK_eq hK ht hK1
  subst eX
  exact va_putF (C := RX8) (T := TX8) (N := 13) (ci := 8) (ty := .array (.object C)) hx hb hts (vw_in vw8) tyX8 tyX8_ok nmX8 hown hK hP1 hD1 hS1 0 rfl vw8 sl hlt hlink (fun x hx => by rw [hdecl] at hx; exact hx) hds.1 hin hdecl hds.2 rfl rfl (by rw [hfs]; exact hlt) d3 (fun H2 locs2 hP2 hD2 hS2 => kk q H2 locs2 hP2 hD2 hS2)
set_option maxHeartbeats 4000000 in
/-- one round of a loop that fills a row of objects -/
theorem own_it (X : OX p s m args c meth D cA) (hA : ∀ q, H0.size ≤ q → A q) (hR : 2 ≤ R.frames ∧ 32 ≤ R.locals) {i n a k qa : Nat} {f : Nat → Option Nat} (hi : i < n) (hn : n < 100) (hl : lv_has ls 2 [(1, .int (nI i)), (0, .ref h0)]) {ci : Nat} {bs : ByteArray} {its : List It} {pe oi index mi sl gi po h tgt : Nat} {ins : Instr} {off off2 : Int} (hk : lfOk ci bs its pe oi) (hnw : (mi, ci) ∈ nwL) (hcl : Cond.classLink (cnm 8) index (cnm ci) ∈ GT) (hf : lk (fldL 8) gi = some (8, sl, po)) (ht : (tyY cA)[a - 1]? = some (cA a, .object (cnm ci))) (hq : ws[k]? = some (qa, .inl (cA a, rfs n f))) (hfa : fs[sl]? = some (.ref qa)) (hP : va_P D vwCl ((h0, .inr (8, fs)) :: ws) H) (hD : va_D A ((h0, .inr (8, fs)) :: ws)) (hS : va_S A H0 H locs) (hc : cells + (1 + lfC its) ≤ R.cells) (hs : slots + (vN ci + lfS its) ≤ R.slots)
    (e0 : decode bO h = .ok (.iload_n 1, 1)) (e1 : decode bO (h + 1) = .ok (ins, pshN ins)) (ev : pshV ins = some (nI n)) (e2 : decode bO (h + 1 + pshN ins) = .ok (.if_icmp .ge off, 3)) (et : ((h + 1 + pshN ins : Nat) : Int) + off = (tgt : Int)) (e3 : decode bO (h + 1 + pshN ins + 3) = .ok (.aload_n 0, 1)) (e4 : decode bO (h + 1 + pshN ins + 4) = .ok (.getfield gi, 3)) (e5 : decode bO (h + 1 + pshN ins + 7) = .ok (.iload_n 1, 1)) (e6 : decode bO (h + 1 + pshN ins + 8) = .ok (.new index, 3)) (e7 : decode bO (h + 1 + pshN ins + 11) = .ok (.dup, 1)) (e8 : decode bO (h + 1 + pshN ins + 12) = .ok (.invokespecial mi, 3)) (e9 : decode bO (h + 1 + pshN ins + 15) = .ok (.aastore, 1)) (e10 : decode bO (h + 1 + pshN ins + 16) = .ok (.iinc 1 1, 3)) (e11 : decode bO (h + 1 + pshN ins + 19) = .ok (.goto off2, 3)) (et2 : ((h + 1 + pshN ins + 19 : Nat) : Int) + off2 = (h : Int))
    (kk : ∀ (q : Nat) (u : List Nat) (H1 : Heap) (locs1 : List Loc) (ls1 : Array Slot), va_P D vwCl ((((h0, .inr (8, fs)) :: ws) ++ lfA cA ci its u q).set (k + 1) (qa, .inl (cA a, rfs n (va_up f i (some q))))) H1 → va_D A ((((h0, .inr (8, fs)) :: ws) ++ lfA cA ci its u q).set (k + 1) (qa, .inl (cA a, rfs n (va_up f i (some q))))) → va_S A H0 H1 locs1 → lv_has ls1 2 [(1, .int (nI (i + 1))), (0, .ref h0)] → W p l e R s m args below meth c H1 locs1 (cells + (1 + lfC its)) (slots + (vN ci + lfS its)) Q (F0 m h ls1 [])) : W p l e R s m args below meth c H locs cells slots Q (F0 m h ls []) := by
  obtain ⟨hx, hb, hml, hown, hts, hin, hK, hnl⟩ := id X
  obtain ⟨hlt, hlink, hdecl⟩ := of8 X hf
  have hk10 : ci < 10 := hk.1.1
  obtain ⟨r, hv⟩ : ∃ r, vwCl[ci]? = some r := ⟨_, List.getElem?_eq_getElem (show ci < vwCl.length from hk10)⟩
  refine lv_iload_n hx hb e0 rfl (lv_at hl 0 rfl) ?_
  refine ct_push hx hb e1 ev ?_
  refine lv_icmp_ge (tgt := tgt) hx hb e2 et (fun q => absurd q (nI_ge hi (by omega))) (fun _ => ?_)
  refine lv_aload_n hx hb e3 rfl (lv_at hl 1 rfl) ?_
  refine va_get (C := RX8) (T := TX8) (N := 13) (ci := 8) hx hb hts (vw_in vw8) hown hK hP 0 rfl vw8 sl hlt hlink (fun x hx => by rw [hdecl] at hx; exact hx) hfa e4 ?_
  refine lv_iload_n hx hb e5 rfl (lv_at hl 0 rfl) ?_
  refine mk_leafN (nL := 2) (pc := h + 1 + pshN ins + 8) hx hb hml hown hts hK hA hk (hnl.1 _ hnw) (hts _ hcl) hP hD hS hl.1 (fun q => Nat.le_of_ble_eq_true rfl) hc hs hR e6 e7 e8 (fun q u H1 locs1 hP1 hD1 hS1 => ?_)
  have hkl : k < ws.length := (List.getElem?_eq_some_iff.mp hq).1
  have ha : (((h0, .inr (8, fs)) :: ws) ++ lfA cA ci its u q)[k + 1]? = some (qa, .inl (cA a, rfs n f)) := by
    rw [List.getElem?_append_left (by simp; omega), List.getElem?_cons_succ]
    exact hq
  have hvq : (((h0, .inr (8, fs)) :: ws) ++ lfA cA ci its u q)[ws.length + 1]? = some (q, .inr (ci, lfF its u (dfl ci))) := by
    rw [List.getElem?_append_right (by simp)]
    simp [lfA]
  refine va_astq (r := r) hx hb hK hP1 hD1 hS1 (k + 1) (a - 1) (ws.length + 1) ci ha (by rw [← vw_cn hv]; exact ht) hvq hv (vp_in_nI hi (by omega)) e9 (fun H2 locs2 hP2 hD2 hS2 => ?_)
  rw [nI_clamp (by omega)] at hP2 hD2
  refine lv_iinc (v := nI (i + 1)) (lv' := [(1, .int (nI (i + 1))), (0, .ref h0)]) hx hb e10 hl (k := 0) rfl (nI_1 i) (by decide) rfl (fun ls1 hl1 => ?_)
  refine lv_goto (tgt := h) hx hb e11 et2 ?_
  exact kk q u H2 locs2 ls1 hP2 hD2 hS2 hl1
end OWN
