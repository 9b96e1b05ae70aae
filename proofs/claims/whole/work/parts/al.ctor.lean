/-! worlds as sets of cells; constructors that set their fields one behind the other -/
theorem vP_iff {D : va_G} {cl : List vw_C} {ws : va_W} {H : Heap} : va_P D cl ws H ↔ ∀ q ∈ ws, va_at D cl q H :=
  ⟨fun h q hq => by
    obtain ⟨k, hk⟩ := List.getElem?_of_mem hq
    exact h k q hk, fun h k q hk => h q (List.mem_of_getElem? hk)⟩
theorem vD_iff {A : Nat → Prop} {ws : va_W} : va_D A ws ↔ (ws.map (fun q => q.1)).Nodup ∧ ∀ q ∈ ws, A q.1 := by
  constructor
  · intro h
    refine ⟨?_, fun q hq => ?_⟩
    · rw [List.nodup_iff_pairwise_ne, List.pairwise_iff_getElem]
      intro i j hi hj hij e
      rw [List.length_map] at hi hj
      rw [List.getElem_map, List.getElem_map] at e
      have := h.1 i j ws[i] ws[j] (List.getElem?_eq_getElem hi) (List.getElem?_eq_getElem hj) e
      omega
    · obtain ⟨k, hk⟩ := List.getElem?_of_mem hq
      exact h.2 k q hk
  · intro h
    refine ⟨fun i j p q hp hq e => ?_, fun k q hk => h.2 q (List.mem_of_getElem? hk)⟩
    have hi : i < (ws.map (fun q => q.1)).length := by
      rw [List.length_map]
      exact (List.getElem?_eq_some_iff.mp hp).1
    refine (List.getElem?_inj hi h.1).mp ?_
    rw [List.getElem?_map, List.getElem?_map, hp, hq]
    show some p.1 = some q.1
    rw [e]
theorem vP_perm {D : va_G} {cl : List vw_C} {ws ws' : va_W} {H : Heap} (h : ws.Perm ws') (hP : va_P D cl ws H) : va_P D cl ws' H := vP_iff.mpr (fun q hq => vP_iff.mp hP q (h.mem_iff.mpr hq))
theorem vD_perm {A : Nat → Prop} {ws ws' : va_W} (h : ws.Perm ws') (hD : va_D A ws) : va_D A ws' := vD_iff.mpr ⟨(h.map _).nodup (vD_iff.mp hD).1, fun q hq => (vD_iff.mp hD).2 q (h.mem_iff.mpr hq)⟩
theorem ra_f {U : State} {cA : ClassId} {ty : FieldType} (h : va_RA U cA ty) : U.vm.findClass ("[" ++ ty.toString) = some cA := by
  cases ty with
  | object C => obtain ⟨_, _, _, _, _, h⟩ := h; exact h
  | _ => exact h
theorem nK_eq {D : va_G} {cl : List vw_C} {tys : List (ClassId × FieldType)} {U : State} {cX cT : ClassId} {ty : FieldType} {t0 : Nat} (hK : va_K D cl tys U) (ht : tys[t0]? = some (cT, ty)) (hK' : va_K D cl (tys ++ [(cX, ty)]) U) : cX = cT := by
  have h1 := ra_f (hK.2 t0 _ ht).2
  have h2 := ra_f (hK'.2 tys.length (cX, ty) (by simp)).2
  rw [h1] at h2
  exact (Option.some.inj h2).symm
def tyY (cA : Nat → ClassId) : List (ClassId × FieldType) := [(cA 1, .int), (cA 2, .long), (cA 3, .byte), (cA 4, .boolean), (cA 5, .object "OwnedByTwos$Town"), (cA 6, .object "OwnedByTwos$Law")]
def pshV (i : Instr) : Option Int32 := match i with
  | .iconst n => some (Int32.ofInt n)
  | .bipush n => some (Int8.ofInt n).toInt32
  | .sipush n => some (Int16.ofInt n).toInt32
  | _ => none
def pshN (i : Instr) : Nat := match i with
  | .iconst _ => 1
  | .bipush _ => 2
  | .sipush _ => 3
  | _ => 0
def aty (a : Nat) : ArrayType := match a with
  | 1 => .int
  | 2 => .long
  | 3 => .byte
  | _ => .boolean
def zr (a n : Nat) : vp_A := match a with
  | 2 => (n, .inr (.inl (fun _ => 0)))
  | _ => (n, .inl (fun _ => 0))
theorem zr_c (a n : Nat) (cA : ClassId) : vp_cell cA (zr a n) = arrV cA n (fun _ => defaultValue (newarray.typeOf (aty a))) := by
  match a with
  | 0 => rfl
  | 1 => rfl
  | 2 => rfl
  | 3 => rfl
  | n + 4 => rfl
theorem cb8 (a : Nat) : componentBytes (newarray.typeOf (aty a)) ≤ 8 := by
  match a with
  | 0 => decide
  | 1 => decide
  | 2 => decide
  | 3 => decide
  | n + 4 => exact (by decide : componentBytes (newarray.typeOf .boolean) ≤ 8)
theorem ac_in (a : Nat) : Cond.arrayClass (newarray.typeOf (aty a)) ∈ GT := by
  match a with
  | 0 => exact isW_in (p := 313) (by decide +kernel)
  | 1 => exact isW_in (p := 280) (by decide +kernel)
  | 2 => exact isW_in (p := 339) (by decide +kernel)
  | 3 => exact isW_in (p := 381) (by decide +kernel)
  | n + 4 => exact isW_in (p := 313) (by decide +kernel : isW 313 (.arrayClass (newarray.typeOf .boolean)) = true)
theorem tyY_at (cA : Nat → ClassId) {a : Nat} (h1 : a ≠ 0) (h4 : a ≤ 4) : (tyY cA)[a - 1]? = some (cA a, newarray.typeOf (aty a)) := by
  rcases (show a = 1 ∨ a = 2 ∨ a = 3 ∨ a = 4 by omega) with rfl | rfl | rfl | rfl <;> rfl
/-- a field's setting: place, sort (0 an int, 5 null, else a row of that sort), slot, entry, push, value, length -/
abbrev It : Type := Nat × Nat × Nat × Nat × Instr × Int32 × Nat
def itOk (cc : ByteArray) (ci : Nat) : It → Bool
  | (pc, kd, sl, idx, ins, v, n) => (match vwCl[ci]?, lk (fldL ci) idx with
    | some r, some (ci', sl', _) => decide (r.1 = cnm ci) && Nat.beq ci' ci && Nat.beq sl' sl && decide (decode cc pc = .ok (.aload_n 0, 1)) && (bif Nat.beq kd 0 then decide (decode cc (pc + 1) = .ok (ins, pshN ins)) && decide (pshV ins = some v) && decide (decode cc (pc + 1 + pshN ins) = .ok (.putfield idx, 3)) && decide ((r.2.1 sl).2.2 = ("I", false))
      else bif Nat.beq kd 5 then decide (decode cc (pc + 1) = .ok (.aconst_null, 1)) && decide (decode cc (pc + 1 + 1) = .ok (.putfield idx, 3)) && decide ((r.2.1 sl).2.2 = ("LOwnedByTwos$Law;", false))
      else decide (decode cc (pc + 1) = .ok (ins, pshN ins)) && decide (pshV ins = some v) && decide (decode cc (pc + 1 + pshN ins) = .ok (.newarray (aty kd), 2)) && decide (decode cc (pc + 1 + pshN ins + 2) = .ok (.putfield idx, 3)) && decide ((r.2.1 sl).2.2.2 = true) && decide (parseFieldDescriptor (r.2.1 sl).2.2.1 = some (.array (newarray.typeOf (aty kd)))) && decide (¬ v < 0) && decide (v.toNatClampNeg = n) && Nat.ble n 10000 && Nat.ble kd 4)
    | _, _ => false)
def itN : It → Nat
  | (pc, kd, _, _, ins, _, _) => bif Nat.beq kd 0 then pc + 1 + pshN ins + 3 else bif Nat.beq kd 5 then pc + 1 + 1 + 3 else pc + 1 + pshN ins + 2 + 3
def itC (cc : ByteArray) (ci : Nat) : List It → Nat → Nat → Bool
  | [], pc, pe => Nat.beq pc pe
  | q :: r, pc, pe => Nat.beq q.1 pc && itOk cc ci q && itC cc ci r (itN q) pe
def lfF : List It → List Nat → List Value → List Value
  | [], _, fs => fs
  | (_, kd, sl, _, _, v, _) :: r, u, fs => bif Nat.beq kd 0 then lfF r u (fs.set sl (.int v)) else bif Nat.beq kd 5 then lfF r u (fs.set sl .null) else lfF r u.tail (fs.set sl (.ref (u.headD 0)))
def lfW (cA : Nat → ClassId) : List It → List Nat → va_W
  | [], _ => []
  | (_, kd, _, _, _, _, n) :: r, u => bif Nat.beq kd 0 then lfW cA r u else bif Nat.beq kd 5 then lfW cA r u else (u.headD 0, .inl (cA kd, zr kd n)) :: lfW cA r u.tail
def lfC : List It → Nat
  | [] => 0
  | (_, kd, _, _, _, _, _) :: r => bif Nat.beq kd 0 then lfC r else bif Nat.beq kd 5 then lfC r else 1 + lfC r
def lfS : List It → Nat
  | [] => 0
  | (_, kd, _, _, _, _, n) :: r => bif Nat.beq kd 0 then lfS r else bif Nat.beq kd 5 then lfS r else n + lfS r
theorem fld_v {s : State} {args : Array Value} (hts : ∀ w ∈ GT, w.before args s = true) {ci idx sl po : Nat} {r : vw_C} (hci : ci < 10) (hv : vwCl[ci]? = some r) (h : lk (fldL ci) idx = some (ci, sl, po)) : sl < r.2.2 ∧ (Cond.fieldLink (cnm ci) idx r.1 (r.2.1 sl).2.1 (r.2.1 sl).2.2.1).before args s = true ∧ (r.2.1 sl).1 = r.1 := by
  have h1 := List.all_eq_true.mp (own_of fld_ok (show ci < 17 by omega)) _ (lk_mem h)
  unfold fldOk at h1
  have e : Nat.beq ci 100 = false := by
    cases hb : Nat.beq ci 100 with
    | false => rfl
    | true => exact absurd (Nat.eq_of_beq_eq_true hb) (by omega)
  simp only [e, cond_false] at h1
  rw [hv] at h1
  simp only [Bool.and_eq_true, decide_eq_true_eq] at h1
  exact ⟨Nat.blt_eq.mp h1.1.1, hts _ (isW_in h1.1.2), h1.2⟩
section CT
variable {p : Program} {l : Launch} {e : Env} {R : Room} {s : State} {m : MethodId} {args : Array Value} {below : List Frame} {meth : Method} {c : Code} {Q : State → Prop} {H0 : Heap} {cc : ByteArray} {ls : Array Slot} {A : Nat → Prop} {D : va_G} {cA : Nat → ClassId}
theorem ct_push {H : Heap} {locs : List Loc} {cells slots pc : Nat} {rest : List Value} (hx : p.tables.exec = Jvm.exec) (hb : c.code = cc) {i : Instr} {v : Int32} (hd : decode cc pc = .ok (i, pshN i)) (hv : pshV i = some v) (k : W p l e R s m args below meth c H locs cells slots Q (F0 m (pc + pshN i) ls (.int v :: rest))) : W p l e R s m args below meth c H locs cells slots Q (F0 m pc ls rest) := by
  cases i with
  | iconst n => exact lv_iconst hx hb hd (Option.some.inj hv) k
  | bipush n => exact lv_bipush hx hb hd (Option.some.inj hv) k
  | sipush n => exact lv_sipush hx hb hd (Option.some.inj hv) k
  | _ => cases hv
set_option maxHeartbeats 4000000 in
theorem leaf_go (hx : p.tables.exec = Jvm.exec) (hb : c.code = cc) (hts : ∀ w ∈ GT, w.before args s = true) {ci : Nat} (hci : ci < 10) (hown : s.vm.findClass (cnm ci) = some m.cls) (hin : meth.name = "<init>") (hK : va_K D vwCl (tyY cA) s) (hA : ∀ q, H0.size ≤ q → A q) {h0 nL : Nat} {lv : List (Nat × Value)} (hl : lv_has ls nL ((0, .ref h0) :: lv)) {pe : Nat} :
    ∀ (its : List It) (pc : Nat) (fs : List Value) (ws : va_W) (H : Heap) (locs : List Loc) (cells slots : Nat), itC cc ci its pc pe = true → (∀ r, vwCl[ci]? = some r → fs.length = r.2.2) → cells + lfC its ≤ R.cells → slots + lfS its ≤ R.slots → va_P D vwCl ((h0, .inr (ci, fs)) :: ws) H → va_D A ((h0, .inr (ci, fs)) :: ws) → va_S A H0 H locs →
      (∀ (u : List Nat) (H1 : Heap) (locs1 : List Loc), va_P D vwCl ((h0, .inr (ci, lfF its u fs)) :: (ws ++ lfW cA its u)) H1 → va_D A ((h0, .inr (ci, lfF its u fs)) :: (ws ++ lfW cA its u)) → va_S A H0 H1 locs1 → W p l e R s m args below meth c H1 locs1 (cells + lfC its) (slots + lfS its) Q (F0 m pe ls [])) → W p l e R s m args below meth c H locs cells slots Q (F0 m pc ls []) := by
  intro its
  induction its with
  | nil =>
    intro pc fs ws H locs cells slots hC hfs hc1 hs1 hP hD hS kk
    have e1 : pc = pe := Nat.eq_of_beq_eq_true hC
    subst e1
    have e2 : ws ++ lfW cA [] [] = ws := List.append_nil ws
    exact kk [] H locs (by rw [e2]; exact hP) (by rw [e2]; exact hD) hS
  | cons q r ih =>
    intro pc fs ws H locs cells slots hC hfs hc1 hs1 hP hD hS kk
    obtain ⟨ipc, kd, sl, idx, ins, v, n⟩ := q
    unfold itC at hC
    simp only [Bool.and_eq_true] at hC
    obtain ⟨⟨hpc, hok⟩, hC⟩ := hC
    have e1 : ipc = pc := Nat.eq_of_beq_eq_true hpc
    subst e1
    cases hv : vwCl[ci]? with
    | none => simp only [itOk, hv] at hok; cases hok
    | some rr =>
      cases hk : lk (fldL ci) idx with
      | none => simp only [itOk, hv, hk] at hok; cases hok
      | some q3 =>
        obtain ⟨ci', sl', po⟩ := q3
        simp only [itOk, hv, hk, Bool.and_eq_true, decide_eq_true_eq] at hok
        obtain ⟨⟨⟨⟨f1, f2⟩, f3⟩, f4⟩, f5⟩ := hok
        have f2' := Nat.eq_of_beq_eq_true f2
        have f3' := Nat.eq_of_beq_eq_true f3
        rw [f2', f3'] at hk
        obtain ⟨hlt, hlink, hdecl⟩ := fld_v hts hci hv hk
        obtain ⟨⟨ty0, hty⟩, hnm⟩ := vw_ty hv
        have hin2 := vw_in hv
        have hlen : sl < fs.length := by rw [hfs _ hv]; exact hlt
        have hfs2 : ∀ (w : Value) (r : vw_C), vwCl[ci]? = some r → (fs.set sl w).length = r.2.2 := fun w r hr => by rw [List.length_set]; exact hfs r hr
        have hsame : ∀ x, s.fieldFound? (rr.2.1 sl).1 (rr.2.1 sl).2.1 (rr.2.1 sl).2.2.1 = some x → s.fieldFound? rr.1 (rr.2.1 sl).2.1 (rr.2.1 sl).2.2.1 = some x := fun x hx => by rw [hdecl] at hx; exact hx
        cases z0 : Nat.beq kd 0 with
        | true =>
          simp only [z0, cond_true, Bool.and_eq_true, decide_eq_true_eq] at f5
          obtain ⟨⟨⟨g1, g2⟩, g3⟩, g4⟩ := f5
          simp only [itN, z0, cond_true] at hC
          simp only [lfC, lfS, lfF, lfW, z0, cond_true] at hc1 hs1 kk
          refine lv_aload_n hx hb f4 rfl (lv_at hl 0 rfl) ?_
          refine ct_push hx hb g1 g2 ?_
          refine va_put (T := rr.2.1) (ty := .int) hx hb hts hin2 ty0 hty hnm hown hK hP hD hS 0 rfl hv sl hlt hlink hsame (by rw [g4]) (by rw [g4]; decide +kernel) (vp_nar_int v) rfl hlen g3 (fun H1 locs1 hP1 hD1 hS1 => ?_)
          exact ih _ _ ws H1 locs1 cells slots hC (hfs2 _) hc1 hs1 hP1 hD1 hS1 kk
        | false =>
          cases h5 : Nat.beq kd 5 with
          | true =>
            simp only [z0, h5, cond_true, cond_false, Bool.and_eq_true, decide_eq_true_eq] at f5
            obtain ⟨⟨g1, g3⟩, g4⟩ := f5
            simp only [itN, z0, h5, cond_true, cond_false] at hC
            simp only [lfC, lfS, lfF, lfW, z0, h5, cond_true, cond_false] at hc1 hs1 kk
            refine lv_aload_n hx hb f4 rfl (lv_at hl 0 rfl) ?_
            refine lv_null hx hb g1 ?_
            refine va_put (T := rr.2.1) (ty := .object "OwnedByTwos$Law") hx hb hts hin2 ty0 hty hnm hown hK hP hD hS 0 rfl hv sl hlt hlink hsame (by rw [g4]) (by rw [g4]; decide +kernel) rfl rfl hlen g3 (fun H1 locs1 hP1 hD1 hS1 => ?_)
            exact ih _ _ ws H1 locs1 cells slots hC (hfs2 _) hc1 hs1 hP1 hD1 hS1 kk
          | false =>
            simp only [z0, h5, cond_false, Bool.and_eq_true, decide_eq_true_eq] at f5
            obtain ⟨⟨⟨⟨⟨⟨⟨⟨⟨g1, g2⟩, g3⟩, g4⟩, g5⟩, g6⟩, g7⟩, g8⟩, g9⟩, g10⟩ := f5
            have g9 := Nat.le_of_ble_eq_true g9
            have g10 := Nat.le_of_ble_eq_true g10
            have hk0 : kd ≠ 0 := by
              rintro rfl
              cases z0
            simp only [itN, z0, h5, cond_false] at hC
            simp only [lfC, lfS, lfF, lfW, z0, h5, cond_false] at hc1 hs1 kk
            refine lv_aload_n hx hb f4 rfl (lv_at hl 0 rfl) ?_
            refine ct_push hx hb g1 g2 ?_
            refine va_newa (a0 := zr kd n) hx hb (hts _ (ac_in kd)) rfl hK hP hD hS hA (zr_c kd n) g7 g8 (Nat.le_trans (Nat.mul_le_mul g9 (cb8 kd)) (by decide)) (by omega) (by omega) g3 (fun a cX H1 hK1 hP1 hD1 hS1 => ?_)
            have eX : cX = cA kd := nK_eq hK (tyY_at cA hk0 g10) hK1
            subst eX
            refine va_putF (T := rr.2.1) (ty := .array (newarray.typeOf (aty kd))) hx hb hts hin2 ty0 hty hnm hown hK hP1 hD1 hS1 0 rfl hv sl hlt hlink hsame g5 hin (by rw [hdecl]; exact f1) g6 rfl rfl hlen g4 (fun H2 locs2 hP2 hD2 hS2 => ?_)
            have hP3 : va_P D vwCl ((h0, .inr (ci, fs.set sl (.ref a))) :: (ws ++ [((a, .inl (cA kd, zr kd n)) : Nat × va_E)])) H2 := hP2
            have hD3 : va_D A ((h0, .inr (ci, fs.set sl (.ref a))) :: (ws ++ [((a, .inl (cA kd, zr kd n)) : Nat × va_E)])) := hD2
            refine ih _ (fs.set sl (.ref a)) (ws ++ [((a, .inl (cA kd, zr kd n)) : Nat × va_E)]) H2 locs2 (cells + 1) (slots + n) hC (hfs2 _) (by omega) (by omega) hP3 hD3 hS2 (fun u H3 locs3 a1 a2 a3 => ?_)
            rw [List.append_assoc] at a1 a2
            have := kk (a :: u) H3 locs3 a1 a2 a3
            rw [← Nat.add_assoc, ← Nat.add_assoc] at this
            exact this
end CT
