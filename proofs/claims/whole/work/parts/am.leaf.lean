/-! the constructors that make rows alone -/
def yI (ci : Nat) : MethodName := ⟨cnm ci, "<init>", "()V"⟩
def vN (ci : Nat) : Nat := match vwCl[ci]? with
  | some r => r.2.2
  | none => 0
def dfl (ci : Nat) : List Value := match ci with
  | 0 => [.null, .int 0]
  | 1 => [.int 0, .int 0, .null, .null, .null, .null, .null, .null]
  | 2 => [.null, .null, .null, .int 0, .int 0, .int 0]
  | 3 => [.null, .null, .null, .null, .null]
  | 4 => [.null, .null, .null, .null]
  | 5 => [.null, .int 0, .int 0, .int 0, .int 0, .int 0, .null]
  | 6 => [.int 0, .int 0, .null, .null, .null, .null, .null, .int 0, .null, .null, .int 0, .int 0, .null, .null, .null, .null, .int 0, .null, .int 0, .int 0]
  | 7 => [.null, .null, .null]
  | 8 => [.null, .null, .null, .null, .null, .int 0, .null, .null, .null, .null, .null, .null, .int 0]
  | _ => [.int 0, .null, .null, .null, .null, .null, .null, .null, .null, .null, .null, .null, .null, .null, .null, .null, .null, .int 0, .int 0, .int 0, .int 0, .int 0, .int 0, .int 0, .int 0, .int 0, .int 0, .null, .null, .null, .null, .null, .null, .null, .null, .null, .null, .null, .null, .null, .null, .null, .null, .null, .null, .null, .int 0, .null, .null, .null, .null, .null, .null, .null, .null, .null, .null, .null, .null, .null, .int 0, .int 0]
theorem dX0 : ∀ j, j < 2 → defaultValue (tyX0 j) = vp_V (dfl 0) j := by
  intro j hj
  match j, hj with
  | 0, _ => rfl
  | 1, _ => rfl
  | n + 2, h => exact absurd h (by omega)
theorem dX1 : ∀ j, j < 8 → defaultValue (tyX1 j) = vp_V (dfl 1) j := by
  intro j hj
  match j, hj with
  | 0, _ => rfl
  | 1, _ => rfl
  | 2, _ => rfl
  | 3, _ => rfl
  | 4, _ => rfl
  | 5, _ => rfl
  | 6, _ => rfl
  | 7, _ => rfl
  | n + 8, h => exact absurd h (by omega)
theorem dX2 : ∀ j, j < 6 → defaultValue (tyX2 j) = vp_V (dfl 2) j := by
  intro j hj
  match j, hj with
  | 0, _ => rfl
  | 1, _ => rfl
  | 2, _ => rfl
  | 3, _ => rfl
  | 4, _ => rfl
  | 5, _ => rfl
  | n + 6, h => exact absurd h (by omega)
theorem dX3 : ∀ j, j < 5 → defaultValue (tyX3 j) = vp_V (dfl 3) j := by
  intro j hj
  match j, hj with
  | 0, _ => rfl
  | 1, _ => rfl
  | 2, _ => rfl
  | 3, _ => rfl
  | 4, _ => rfl
  | n + 5, h => exact absurd h (by omega)
theorem dX4 : ∀ j, j < 4 → defaultValue (tyX4 j) = vp_V (dfl 4) j := by
  intro j hj
  match j, hj with
  | 0, _ => rfl
  | 1, _ => rfl
  | 2, _ => rfl
  | 3, _ => rfl
  | n + 4, h => exact absurd h (by omega)
theorem dX5 : ∀ j, j < 7 → defaultValue (tyX5 j) = vp_V (dfl 5) j := by
  intro j hj
  match j, hj with
  | 0, _ => rfl
  | 1, _ => rfl
  | 2, _ => rfl
  | 3, _ => rfl
  | 4, _ => rfl
  | 5, _ => rfl
  | 6, _ => rfl
  | n + 7, h => exact absurd h (by omega)
theorem dX6 : ∀ j, j < 20 → defaultValue (tyX6 j) = vp_V (dfl 6) j := by
  intro j hj
  match j, hj with
  | 0, _ => rfl
  | 1, _ => rfl
  | 2, _ => rfl
  | 3, _ => rfl
  | 4, _ => rfl
  | 5, _ => rfl
  | 6, _ => rfl
  | 7, _ => rfl
  | 8, _ => rfl
  | 9, _ => rfl
  | 10, _ => rfl
  | 11, _ => rfl
  | 12, _ => rfl
  | 13, _ => rfl
  | 14, _ => rfl
  | 15, _ => rfl
  | 16, _ => rfl
  | 17, _ => rfl
  | 18, _ => rfl
  | 19, _ => rfl
  | n + 20, h => exact absurd h (by omega)
theorem dX7 : ∀ j, j < 3 → defaultValue (tyX7 j) = vp_V (dfl 7) j := by
  intro j hj
  match j, hj with
  | 0, _ => rfl
  | 1, _ => rfl
  | 2, _ => rfl
  | n + 3, h => exact absurd h (by omega)
theorem dX8 : ∀ j, j < 13 → defaultValue (tyX8 j) = vp_V (dfl 8) j := by
  intro j hj
  match j, hj with
  | 0, _ => rfl
  | 1, _ => rfl
  | 2, _ => rfl
  | 3, _ => rfl
  | 4, _ => rfl
  | 5, _ => rfl
  | 6, _ => rfl
  | 7, _ => rfl
  | 8, _ => rfl
  | 9, _ => rfl
  | 10, _ => rfl
  | 11, _ => rfl
  | 12, _ => rfl
  | n + 13, h => exact absurd h (by omega)
theorem dX9 : ∀ j, j < 62 → defaultValue (tyX9 j) = vp_V (dfl 9) j := by
  intro j hj
  match j, hj with
  | 0, _ => rfl
  | 1, _ => rfl
  | 2, _ => rfl
  | 3, _ => rfl
  | 4, _ => rfl
  | 5, _ => rfl
  | 6, _ => rfl
  | 7, _ => rfl
  | 8, _ => rfl
  | 9, _ => rfl
  | 10, _ => rfl
  | 11, _ => rfl
  | 12, _ => rfl
  | 13, _ => rfl
  | 14, _ => rfl
  | 15, _ => rfl
  | 16, _ => rfl
  | 17, _ => rfl
  | 18, _ => rfl
  | 19, _ => rfl
  | 20, _ => rfl
  | 21, _ => rfl
  | 22, _ => rfl
  | 23, _ => rfl
  | 24, _ => rfl
  | 25, _ => rfl
  | 26, _ => rfl
  | 27, _ => rfl
  | 28, _ => rfl
  | 29, _ => rfl
  | 30, _ => rfl
  | 31, _ => rfl
  | 32, _ => rfl
  | 33, _ => rfl
  | 34, _ => rfl
  | 35, _ => rfl
  | 36, _ => rfl
  | 37, _ => rfl
  | 38, _ => rfl
  | 39, _ => rfl
  | 40, _ => rfl
  | 41, _ => rfl
  | 42, _ => rfl
  | 43, _ => rfl
  | 44, _ => rfl
  | 45, _ => rfl
  | 46, _ => rfl
  | 47, _ => rfl
  | 48, _ => rfl
  | 49, _ => rfl
  | 50, _ => rfl
  | 51, _ => rfl
  | 52, _ => rfl
  | 53, _ => rfl
  | 54, _ => rfl
  | 55, _ => rfl
  | 56, _ => rfl
  | 57, _ => rfl
  | 58, _ => rfl
  | 59, _ => rfl
  | 60, _ => rfl
  | 61, _ => rfl
  | n + 62, h => exact absurd h (by omega)
theorem dfl_ok {ci : Nat} {r : vw_C} (h : vwCl[ci]? = some r) : ∃ ty0 : Nat → FieldType, (∀ k, k < r.2.2 → parseFieldDescriptor (r.2.1 k).2.2.1 = some (ty0 k)) ∧ (∀ j, j < r.2.2 → defaultValue (ty0 j) = vp_V (dfl ci) j) ∧ (dfl ci).length = r.2.2 := by
  match ci, h with
  | 0, h => cases h; exact ⟨tyX0, tyX0_ok, dX0, rfl⟩
  | 1, h => cases h; exact ⟨tyX1, tyX1_ok, dX1, rfl⟩
  | 2, h => cases h; exact ⟨tyX2, tyX2_ok, dX2, rfl⟩
  | 3, h => cases h; exact ⟨tyX3, tyX3_ok, dX3, rfl⟩
  | 4, h => cases h; exact ⟨tyX4, tyX4_ok, dX4, rfl⟩
  | 5, h => cases h; exact ⟨tyX5, tyX5_ok, dX5, rfl⟩
  | 6, h => cases h; exact ⟨tyX6, tyX6_ok, dX6, rfl⟩
  | 7, h => cases h; exact ⟨tyX7, tyX7_ok, dX7, rfl⟩
  | 8, h => cases h; exact ⟨tyX8, tyX8_ok, dX8, rfl⟩
  | 9, h => cases h; exact ⟨tyX9, tyX9_ok, dX9, rfl⟩
  | n + 10, h => cases h
theorem vw_cn {ci : Nat} {r : vw_C} (h : vwCl[ci]? = some r) : cnm ci = r.1 := by
  match ci, h with
  | 0, h => cases h; rfl
  | 1, h => cases h; rfl
  | 2, h => cases h; rfl
  | 3, h => cases h; rfl
  | 4, h => cases h; rfl
  | 5, h => cases h; rfl
  | 6, h => cases h; rfl
  | 7, h => cases h; rfl
  | 8, h => cases h; rfl
  | 9, h => cases h; rfl
  | n + 10, h => cases h
theorem oi_in : Cond.instanceMethod objectInit ∈ GT := isW_in (p := 145) (by decide +kernel)
theorem oc_in : Cond.code objectInit ⟨#[0xb1]⟩ 1 none ∈ GT := isW_in (p := 146) (by decide +kernel)
def lfOk (ci : Nat) (bs : ByteArray) (its : List It) (pe oi : Nat) : Prop :=
  (ci < 10 ∧ itC bs ci its 4 pe = true ∧ decode bs 0 = .ok (.aload_n 0, 1) ∧ decode bs 1 = .ok (.invokespecial oi, 3) ∧ decode bs pe = .ok (.return_, 1) ∧ plainName (cnm ci) = true) ∧
  (Cond.methodLink (cnm ci) oi objectInit ∈ GT ∧ Cond.code (yI ci) bs 1 none ∈ GT ∧ Cond.instanceMethod (yI ci) ∈ GT ∧ Cond.instantiable (cnm ci) (vN ci) ∈ GT ∧ Cond.initialized (cnm ci) ∈ GT) ∧
  (cnm ci ≠ "java/lang/invoke/MethodHandle" ∧ cnm ci ≠ "java/lang/invoke/VarHandle")
def rmL (its : List It) : Room := { frames := 1, cells := lfC its, slots := lfS its, locals := 12 }
def wsI (ci : Nat) (bs : ByteArray) : List Cond := Cond.code (yI ci) bs 1 none :: GT
def lfA (cA : Nat → ClassId) (ci : Nat) (its : List It) (u : List Nat) (h0 : Nat) : va_W := (h0, .inr (ci, lfF its u (dfl ci))) :: lfW cA its u
set_option maxHeartbeats 4000000 in
theorem leaf_met (l : Launch) (D : va_G) (cA : Nat → ClassId) {ci : Nat} {bs : ByteArray} {its : List It} {pe oi : Nat} (hk : lfOk ci bs its pe oi) (h0 sz : Nat) : Met l (yI ci) (wsI ci bs) (rmL its) (va_Pc [.ref h0] (fun U => U.heap.size = sz ∧ va_P D vwCl [(h0, .inr (ci, dfl ci))] U.heap ∧ va_K D vwCl (tyY cA) U ∧ va_D (fun _ => True) [(h0, .inr (ci, dfl ci))])) (va_Qv (fun _ : List Nat => True) (fun u t => va_P D vwCl (lfA cA ci its u h0) t.heap ∧ va_D (va_A [(h0, .inr (ci, dfl ci))] sz) (lfA cA ci its u h0)) (va_A [(h0, .inr (ci, dfl ci))] sz)) (lfC its) (lfS its) (va_A [(h0, .inr (ci, dfl ci))] sz) := by
  obtain ⟨⟨k1, k2, k3, k4, k5, k6⟩, ⟨k7, k8, k9, k10, k11⟩, k12, k13⟩ := hk
  refine Met.ofW (cc := bs) (maxL := 1) (ret := none) k6 rfl ?_
  intro p e s m args below meth c s₁ B hml hv
  obtain ⟨rfl, hsz, hP, hK, hD0⟩ := hv
  have hx := B.exec
  have hb := B.bytes
  have hr := B.returns
  have hts0 := atoms_spec (ws := wsI ci bs) B.pre
  have hts := fun (w : Cond) (hw : w ∈ GT) => hts0 w (List.mem_cons_of_mem _ hw)
  have hown : s.vm.findClass (cnm ci) = some m.cls := findClass_of_methodNamed B.named
  have hlocks := B.notSynchronized
  have hin : meth.name = "<init>" := (name_of_methodNamed B.named B.method).1
  subst hsz
  have hD := hD0.self (sz := s.heap.size)
  generalize hAe : va_A [(h0, .inr (ci, dfl ci))] s.heap.size = A at hD ⊢
  have hA : ∀ q : Nat, s.heap.size ≤ q → A q := fun q h => by rw [← hAe]; exact Or.inr h
  have hS : va_S A s.heap s.heap [] := va_S.rf
  have hl := lv_entry ([.ref h0]) (n := 1) (Nat.le_of_ble_eq_true rfl)
  rw [lg_entry_eq]
  generalize (lg_sl ([.ref h0]) ++ List.replicate (1 - (lg_sl ([.ref h0])).length) Slot.unset).toArray = ls at hl ⊢
  have hl : lv_has ls 1 [(0, .ref h0)] := hl
  refine lv_aload_n hx hb k3 rfl (lv_at hl 0 rfl) ?_
  refine W.objInit hx hb hown (hts _ k7) (hts _ oi_in) (hts _ oc_in) rfl (by rw [hml]; exact hl.1) rfl k4 (Nat.le_of_ble_eq_true rfl) (Nat.le_of_ble_eq_true rfl) ?_
  refine W.eq (g2 := F0 m 4 ls []) rfl ?_
  have hfs : ∀ r, vwCl[ci]? = some r → (dfl ci).length = r.2.2 := fun r hr => by
    obtain ⟨_, _, _, h⟩ := dfl_ok hr
    exact h
  refine leaf_go hx hb hts k1 hown hin hK hA hl its 4 (dfl ci) [] s.heap [] 0 0 k2 hfs (Nat.le_of_eq (Nat.zero_add _)) (Nat.le_of_eq (Nat.zero_add _)) hP hD hS (fun u H1 locs1 hP1 hD1 hS1 => ?_)
  rw [Nat.zero_add, Nat.zero_add]
  exact W.vret hx hb hr (fun t ht hW => ⟨⟨u, rfl, trivial, by rw [ht]; exact hP1, hD1⟩, hS1.F ht⟩) hS1.2.2 k5
theorem nd_of : ∀ {l : List Nat}, l.Nodup → va_nd l = true
  | [], _ => rfl
  | a :: l, h => by
    rw [List.nodup_cons] at h
    simp only [va_nd, h.1, nd_of h.2, not_false_eq_true, decide_true, Bool.and_self]
theorem rng_map (ws x : va_W) : (List.range ws.length).map (fun i => (ws ++ x)[i]?) = ws.map some := by
  apply List.ext_getElem
  · simp
  · intro i h1 h2
    rw [List.length_map, List.length_range] at h1
    rw [List.getElem_map, List.getElem_map, List.getElem_range, List.getElem?_append_left h1, List.getElem?_eq_getElem h1]
theorem wsI_good {ci : Nat} {bs : ByteArray} (h : Cond.code (yI ci) bs 1 none ∈ GT) : GoodIn GT (wsI ci bs) := by
  intro w hw
  rcases List.mem_cons.mp hw with q | q
  · subst q; exact ⟨h, good_of_word (GT_good h)⟩
  · exact ⟨q, good_of_word (GT_good q)⟩
section CT2
variable {p : Program} {l : Launch} {e : Env} {R : Room} {s : State} {m : MethodId} {args : Array Value} {below : List Frame} {meth : Method} {c : Code} {Q : State → Prop} {H0 : Heap} {cc : ByteArray} {ls : Array Slot} {A : Nat → Prop} {D : va_G} {cA : Nat → ClassId}
set_option maxHeartbeats 4000000 in
/-- new, dup, the constructor: an object with its rows (a nest mate's) -/
theorem mk_leafN {H : Heap} {locs : List Loc} {cells slots pc nL index mi : Nat} {rest : List Value} {ws : va_W} {own host : String} {ci : Nat} {bs : ByteArray} {its : List It} {pe oi : Nat} (hx : p.tables.exec = Jvm.exec) (hb : c.code = cc) (hml : c.maxLocals = nL) (hown : s.vm.findClass own = some m.cls) (hts : ∀ w ∈ GT, w.before args s = true) (hK : va_K D vwCl (tyY cA) s) (hA : ∀ q, H0.size ≤ q → A q) (hk : lfOk ci bs its pe oi) (hnw : va_Nw (.methodLinkNest own mi (yI ci) host) s) (hcl : (Cond.classLink own index (cnm ci)).before args s = true) (hP : va_P D vwCl ws H) (hD : va_D A ws) (hS : va_S A H0 H locs) (hls : ls.size = nL) (hrest : ∀ q : Nat, ((Value.ref q :: rest).map fun v => v.category).sum ≤ 8) (hc : cells + (1 + lfC its) ≤ R.cells) (hs : slots + (vN ci + lfS its) ≤ R.slots) (hR : 2 ≤ R.frames ∧ 32 ≤ R.locals) (d0 : decode cc pc = .ok (.new index, 3)) (d1 : decode cc (pc + 3) = .ok (.dup, 1)) (d2 : decode cc (pc + 4) = .ok (.invokespecial mi, 3))
    (kk : ∀ (q : Nat) (u : List Nat) (H1 : Heap) (locs1 : List Loc), va_P D vwCl (ws ++ lfA cA ci its u q) H1 → va_D A (ws ++ lfA cA ci its u q) → va_S A H0 H1 locs1 → W p l e R s m args below meth c H1 locs1 (cells + (1 + lfC its)) (slots + (vN ci + lfS its)) Q (F0 m (pc + 7) ls (.ref q :: rest))) : W p l e R s m args below meth c H locs cells slots Q (F0 m pc ls rest) := by
  have hk0 := hk
  obtain ⟨⟨k1, k2, k3, k4, k5, k6⟩, ⟨k7, k8, k9, k10, k11⟩, k12, k13⟩ := hk
  obtain ⟨r, hv⟩ : ∃ r, vwCl[ci]? = some r := ⟨_, List.getElem?_eq_getElem (show ci < vwCl.length from k1)⟩
  obtain ⟨ty0, hty, hfs, hdl⟩ := dfl_ok hv
  have hN : vN ci = r.2.2 := by unfold vN; rw [hv]
  have hcn := vw_cn hv
  refine va_new (ci := ci) (fs := dfl ci) (C := r.1) (T := r.2.1) (N := r.2.2) hx hb hts (vw_in hv) ty0 hty hown (by rw [← hcn]; exact hcl) (by rw [← hcn, ← hN]; exact hts _ k10) (by rw [← hcn]; exact hts _ k11) hK hP hD hS hA hv hfs (by omega) (by omega) d0 (fun q H1 hP1 hD1 hS1 => ?_)
  refine lv_dup hx hb d1 rfl ?_
  have hPc : va_P D vwCl [(q, .inr (ci, dfl ci))] H1 := vP_iff.mpr (fun x hx => vP_iff.mp hP1 x (List.mem_append_right _ hx))
  have hDc : va_D A [(q, .inr (ci, dfl ci))] := vD_iff.mpr ⟨by simp, fun x hx => (vD_iff.mp hD1).2 x (List.mem_append_right _ hx)⟩
  have hFc := va_free (wc := [(q, .inr (ci, dfl ci))]) hD1 hS1 hA [ws.length] (by simp)
  refine va_callv (va_runIN (As := []) (rest := .ref q :: rest) ⟨hx, hb, hml, hown, hts⟩ (leaf_met l D cA hk0 q H1.size) ⟨va_cnB 0 hts (wsI_good k8) rfl rfl rfl hnw (hts _ k11) ⟨k12, k13, (show (parseMethodDescriptor "()V").map (fun d => d.parameters.length) = some 0 by decide +kernel)⟩ ⟨hR.1, hR.2⟩, rfl, hts _ k9⟩ ⟨fun a U g mk q => by obtain ⟨q0, q1, qP, qK, qD⟩ := q; exact ⟨q0, q1, qP, va_K.moved (u := U) (U := U.calling g mk a) (Vm.Alike.refl U.vm) qK, qD⟩, fun U hU hW => ⟨rfl, by rw [hU], by rw [hU]; exact hPc, va_K.moved hW.alike hK, hDc.weaken (fun _ _ _ _ => trivial)⟩⟩ rfl rfl hls rfl (lv_room (hrest q)) d2 ⟨by omega, by omega⟩) hS1 (fun x _ h => hFc x h) hFc (fun u t H2 locs2 ht hvm hw hB hz hk2 hS2 => ?_)
  obtain ⟨hP2, hD2⟩ := hB
  rw [ht] at hP2
  obtain ⟨hP3, hD3⟩ := va_join (wr := ws) (w1 := lfA cA ci its u q) hP1 hD1 [ws.length] (List.range ws.length) (by simp) (rng_map ws _) (nd_of List.nodup_range) (fun i hi h => by simp at hi h; omega) hk2 hFc hP2 hD2
  have := kk q u H2 locs2 hP3 hD3 hS2
  rw [← Nat.add_assoc, ← Nat.add_assoc, hN] at this
  exact this
end CT2
def its0 : List It := [(4, 1, 0, 9, .bipush 12, 12, 12), (12, 0, 1, 15, .iconst 0, 0, 0)]
abbrev bI0 : ByteArray := prog_2_method_1_code
theorem lf0 : lfOk 0 bI0 its0 17 3 := ⟨⟨by decide, by decide +kernel, by decide +kernel, by decide +kernel, by decide +kernel, by decide +kernel⟩, ⟨isW_in (p := 387) (by decide +kernel), isW_in (p := 386) (by decide +kernel), isW_in (p := 385) (by decide +kernel), isW_in (p := 383) (by decide +kernel), isW_in (p := 127) (by decide +kernel)⟩, by decide +kernel, by decide +kernel⟩
def its1 : List It := [(4, 0, 0, 9, .iconst 0, 0, 0), (9, 0, 1, 15, .iconst 0, 0, 0), (14, 1, 2, 18, .sipush 400, 400, 400), (23, 1, 3, 22, .bipush 12, 12, 12), (31, 1, 4, 25, .bipush 12, 12, 12), (39, 1, 5, 28, .bipush 12, 12, 12), (47, 1, 6, 31, .bipush 12, 12, 12), (55, 2, 7, 34, .bipush 64, 64, 64)]
abbrev bI1 : ByteArray := prog_3_method_1_code
theorem lf1 : lfOk 1 bI1 its1 63 3 := ⟨⟨by decide, by decide +kernel, by decide +kernel, by decide +kernel, by decide +kernel, by decide +kernel⟩, ⟨isW_in (p := 415) (by decide +kernel), isW_in (p := 414) (by decide +kernel), isW_in (p := 413) (by decide +kernel), isW_in (p := 411) (by decide +kernel), isW_in (p := 129) (by decide +kernel)⟩, by decide +kernel, by decide +kernel⟩
def its2 : List It := [(4, 2, 0, 9, .bipush 11, 11, 11), (12, 1, 1, 15, .bipush 12, 12, 12), (20, 1, 2, 19, .bipush 12, 12, 12), (28, 0, 3, 22, .iconst 0, 0, 0), (33, 0, 4, 26, .bipush (-2), (-2), 0), (39, 0, 5, 29, .bipush (-2), (-2), 0)]
abbrev bI2 : ByteArray := prog_4_method_1_code
theorem lf2 : lfOk 2 bI2 its2 45 3 := ⟨⟨by decide, by decide +kernel, by decide +kernel, by decide +kernel, by decide +kernel, by decide +kernel⟩, ⟨isW_in (p := 319) (by decide +kernel), isW_in (p := 318) (by decide +kernel), isW_in (p := 317) (by decide +kernel), isW_in (p := 315) (by decide +kernel), isW_in (p := 124) (by decide +kernel)⟩, by decide +kernel, by decide +kernel⟩
def its3 : List It := [(4, 1, 0, 9, .bipush 12, 12, 12), (12, 1, 1, 15, .bipush 12, 12, 12), (20, 1, 2, 18, .bipush 48, 48, 48), (28, 1, 3, 21, .bipush 12, 12, 12), (36, 2, 4, 24, .bipush 12, 12, 12)]
abbrev bI3 : ByteArray := prog_5_method_1_code
theorem lf3 : lfOk 3 bI3 its3 44 3 := ⟨⟨by decide, by decide +kernel, by decide +kernel, by decide +kernel, by decide +kernel, by decide +kernel⟩, ⟨isW_in (p := 345) (by decide +kernel), isW_in (p := 344) (by decide +kernel), isW_in (p := 343) (by decide +kernel), isW_in (p := 341) (by decide +kernel), isW_in (p := 125) (by decide +kernel)⟩, by decide +kernel, by decide +kernel⟩
def its4 : List It := [(4, 1, 0, 11, .bipush 66, 66, 66), (12, 3, 1, 15, .sipush 4096, 4096, 4096), (21, 1, 2, 19, .bipush 6, 6, 6), (29, 1, 3, 22, .bipush 24, 24, 24)]
abbrev bI4 : ByteArray := prog_6_method_1_code
theorem lf4 : lfOk 4 bI4 its4 37 3 := ⟨⟨by decide, by decide +kernel, by decide +kernel, by decide +kernel, by decide +kernel, by decide +kernel⟩, ⟨isW_in (p := 367) (by decide +kernel), isW_in (p := 366) (by decide +kernel), isW_in (p := 365) (by decide +kernel), isW_in (p := 363) (by decide +kernel), isW_in (p := 126) (by decide +kernel)⟩, by decide +kernel, by decide +kernel⟩
def its5 : List It := [(4, 1, 0, 9, .sipush 400, 400, 400), (13, 0, 1, 15, .iconst 0, 0, 0), (18, 0, 2, 19, .iconst 0, 0, 0), (23, 0, 3, 22, .iconst 0, 0, 0), (28, 0, 4, 25, .iconst 0, 0, 0), (33, 0, 5, 28, .iconst 0, 0, 0), (38, 5, 6, 31, .aconst_null, 0, 0)]
abbrev bI5 : ByteArray := prog_7_method_1_code
theorem lf5 : lfOk 5 bI5 its5 43 3 := ⟨⟨by decide, by decide +kernel, by decide +kernel, by decide +kernel, by decide +kernel, by decide +kernel⟩, ⟨isW_in (p := 289) (by decide +kernel), isW_in (p := 288) (by decide +kernel), isW_in (p := 287) (by decide +kernel), isW_in (p := 285) (by decide +kernel), isW_in (p := 123) (by decide +kernel)⟩, by decide +kernel, by decide +kernel⟩
def its6 : List It := [(4, 0, 0, 9, .iconst 0, 0, 0), (9, 0, 1, 15, .iconst 0, 0, 0), (14, 1, 2, 18, .bipush 12, 12, 12), (22, 1, 3, 22, .bipush 12, 12, 12), (30, 1, 4, 25, .bipush 12, 12, 12), (38, 1, 5, 28, .sipush 144, 144, 144), (47, 1, 6, 31, .sipush 144, 144, 144), (56, 0, 7, 34, .iconst 0, 0, 0), (61, 1, 8, 37, .bipush 48, 48, 48), (69, 1, 9, 40, .bipush 24, 24, 24), (77, 0, 10, 43, .iconst 0, 0, 0), (82, 0, 11, 46, .iconst 0, 0, 0), (87, 1, 12, 49, .bipush 12, 12, 12), (95, 1, 13, 52, .bipush 12, 12, 12), (103, 1, 14, 55, .bipush 12, 12, 12), (111, 1, 15, 58, .bipush 12, 12, 12), (119, 0, 16, 61, .iconst 0, 0, 0), (124, 1, 17, 64, .bipush 12, 12, 12), (132, 0, 18, 67, .iconst 0, 0, 0), (137, 0, 19, 70, .iconst 0, 0, 0)]
abbrev bI6 : ByteArray := prog_8_method_1_code
theorem lf6 : lfOk 6 bI6 its6 142 3 := ⟨⟨by decide, by decide +kernel, by decide +kernel, by decide +kernel, by decide +kernel, by decide +kernel⟩, ⟨isW_in (p := 152) (by decide +kernel), isW_in (p := 151) (by decide +kernel), isW_in (p := 150) (by decide +kernel), isW_in (p := 148) (by decide +kernel), isW_in (p := 122) (by decide +kernel)⟩, by decide +kernel, by decide +kernel⟩
def its7 : List It := [(4, 2, 0, 9, .bipush 11, 11, 11), (12, 1, 1, 15, .bipush 12, 12, 12), (20, 1, 2, 19, .sipush 144, 144, 144)]
abbrev bI7 : ByteArray := prog_9_method_1_code
theorem lf7 : lfOk 7 bI7 its7 29 3 := ⟨⟨by decide, by decide +kernel, by decide +kernel, by decide +kernel, by decide +kernel, by decide +kernel⟩, ⟨isW_in (p := 400) (by decide +kernel), isW_in (p := 399) (by decide +kernel), isW_in (p := 398) (by decide +kernel), isW_in (p := 396) (by decide +kernel), isW_in (p := 128) (by decide +kernel)⟩, by decide +kernel, by decide +kernel⟩
def its9 : List It := [(4, 1, 1, 7, .bipush 6, 6, 6), (12, 1, 2, 13, .bipush 12, 12, 12), (20, 1, 3, 16, .bipush 12, 12, 12), (28, 1, 4, 19, .bipush 12, 12, 12), (36, 1, 5, 22, .sipush 144, 144, 144), (45, 1, 6, 25, .sipush 144, 144, 144), (54, 1, 7, 28, .sipush 144, 144, 144), (63, 1, 8, 31, .bipush 24, 24, 24), (71, 1, 9, 34, .bipush 24, 24, 24), (79, 1, 10, 37, .bipush 24, 24, 24), (87, 1, 11, 40, .bipush 12, 12, 12), (95, 1, 12, 43, .bipush 12, 12, 12), (103, 1, 13, 46, .bipush 12, 12, 12), (111, 1, 14, 49, .bipush 12, 12, 12), (119, 1, 15, 52, .bipush 12, 12, 12), (127, 1, 16, 55, .bipush 12, 12, 12), (135, 0, 26, 58, .bipush 11, 11, 0), (141, 3, 27, 62, .sipush 400, 400, 400), (150, 1, 28, 66, .sipush 1800, 1800, 1800), (159, 1, 29, 69, .sipush 1800, 1800, 1800), (168, 1, 30, 72, .bipush 6, 6, 6), (176, 1, 31, 75, .bipush 72, 72, 72), (184, 1, 32, 78, .bipush 72, 72, 72), (192, 1, 33, 81, .bipush 72, 72, 72), (200, 1, 34, 84, .bipush 72, 72, 72), (208, 1, 35, 87, .sipush 402, 402, 402), (217, 2, 36, 90, .bipush 11, 11, 11), (225, 2, 37, 94, .sipush 300, 300, 300), (234, 1, 38, 97, .bipush 12, 12, 12), (242, 1, 39, 100, .bipush 12, 12, 12), (250, 1, 40, 103, .bipush 12, 12, 12), (258, 1, 41, 106, .sipush 144, 144, 144), (267, 1, 42, 109, .sipush 144, 144, 144), (276, 1, 43, 112, .bipush 12, 12, 12), (284, 1, 44, 115, .bipush 6, 6, 6), (292, 1, 45, 118, .bipush 12, 12, 12), (300, 4, 47, 121, .sipush 4096, 4096, 4096), (309, 1, 48, 125, .sipush 4096, 4096, 4096), (318, 1, 49, 128, .bipush 24, 24, 24), (326, 1, 50, 131, .bipush 24, 24, 24), (334, 1, 51, 134, .bipush 6, 6, 6), (342, 1, 52, 137, .bipush 6, 6, 6), (350, 1, 53, 140, .bipush 24, 24, 24), (358, 1, 54, 143, .bipush 24, 24, 24), (366, 1, 55, 146, .bipush 12, 12, 12), (374, 4, 56, 149, .bipush 12, 12, 12), (382, 1, 57, 152, .bipush 12, 12, 12), (390, 1, 58, 155, .sipush 2480, 2480, 2480), (399, 4, 59, 158, .iconst 4, 4, 4)]
abbrev bI9 : ByteArray := prog_11_method_1_code
theorem lf9 : lfOk 9 bI9 its9 406 1 := ⟨⟨by decide, by decide +kernel, by decide +kernel, by decide +kernel, by decide +kernel, by decide +kernel⟩, ⟨isW_in (p := 1162) (by decide +kernel), isW_in (p := 1161) (by decide +kernel), isW_in (p := 1160) (by decide +kernel), isW_in (p := 1158) (by decide +kernel), isW_in (p := 130) (by decide +kernel)⟩, by decide +kernel, by decide +kernel⟩
