/-! switches, constants, fields, rows -/
theorem swR_in {α : Type} {x : Int32} {F : Int → α} {d : Int} : ∀ {l : List Int} {lo o : Int}, lo ≤ x.toInt → l[(x.toInt - lo).toNat]? = some o → swR x lo l F d = F o
  | [], _, _, _, h => by simp at h
  | a :: l, lo, o, h1, h2 => by
    unfold swR
    by_cases hx : x.toInt = lo
    · rw [if_pos hx]
      have e : (x.toInt - lo).toNat = 0 := by omega
      rw [e] at h2
      cases h2
      rfl
    · rw [if_neg hx]
      have e : (x.toInt - lo).toNat = (x.toInt - (lo + 1)).toNat + 1 := by omega
      rw [e, List.getElem?_cons_succ] at h2
      exact swR_in (by omega) h2
theorem swR_out {α : Type} {x : Int32} {F : Int → α} {d : Int} : ∀ {l : List Int} {lo : Int}, (x.toInt < lo ∨ lo + l.length ≤ x.toInt) → swR x lo l F d = F d
  | [], _, _ => rfl
  | a :: l, lo, h => by
    unfold swR
    rw [List.length_cons] at h
    rw [if_neg (by omega)]
    exact swR_out (by omega)
theorem swL_eq {α : Type} {x : Int32} {F : Int → α} {d : Int} : ∀ (l : List (Int × Int)), swL x l F d = F (Op.lookupswitch.offset l d x.toInt)
  | [] => rfl
  | (a, o) :: l => by
    unfold swL
    rw [Op.lookupswitch.offset_cons]
    by_cases hx : x.toInt = a
    · rw [if_pos hx, if_pos hx.symm]
    · rw [if_neg hx, if_neg (fun e => hx e.symm)]
      exact swL_eq l
theorem swL_mem {x : Int32} {d : Int} : ∀ (l : List (Int × Int)), Op.lookupswitch.offset l d x.toInt = d ∨ ∃ q ∈ l, Op.lookupswitch.offset l d x.toInt = q.2
  | [] => Or.inl rfl
  | (a, o) :: l => by
    rw [Op.lookupswitch.offset_cons]
    by_cases hx : a = x.toInt
    · rw [if_pos hx]; exact Or.inr ⟨(a, o), List.mem_cons_self, rfl⟩
    · rw [if_neg hx]
      rcases swL_mem (x := x) (d := d) l with h | ⟨q, h1, h2⟩
      · exact Or.inl h
      · exact Or.inr ⟨q, List.mem_cons_of_mem _ h1, h2⟩
theorem scs_ok : (List.range 17).all (fun c => (scsL c).all (fun q => Nat.blt q.2.1 23)) = true := by decide +kernel
theorem own_of {f : Nat → Bool} (h : (List.range 17).all f = true) {c : Nat} (hc : c < 17) : f c = true := List.all_eq_true.mp h c (List.mem_range.mpr hc)
section SM
variable {p : Program} {l : Launch} {e : Env} {R : Room} {s : State} {m : MethodId} {args : Array Value} {below : List Frame} {meth : Method} {c : Code} {Q : State → Prop} {g : GE} {k j ce so : Nat}
variable {pc : Nat} {ls st : List av} {S : Sto} {cf : Cf}
theorem q_tableswitch (X : Cx p s m args c g k) {d lo hi : Int} {offs : Array Int} {n : Nat} (ho : (pcO pc d && offs.toList.all (pcO pc) && decide (hi + 1 = lo + offs.toList.length)) = true) (hd : decode (m_b k) pc = .ok (.tableswitch d lo hi offs, n)) (h : nxt k j pc ls st S (.tableswitch d lo hi offs) = some (.inl cf)) (K : WA p l e R s m args below meth c ce so Q g k cf) : WA p l e R s m args below meth c ce so Q g k (pc, ls, st, S) := by
  intro H locs lsA hP hS hO hok hl
  simp only [nxt] at h
  obtain ⟨x, r, rfl, hz9⟩ := i1_inv h
  have h := hz9
  simp only [Bool.and_eq_true, decide_eq_true_eq] at ho
  obtain ⟨⟨h1, h2⟩, h3⟩ := ho
  by_cases hx : x.toInt < lo ∨ hi < x.toInt
  · rw [swR_out (by omega)] at h
    cases cg_inv h
    exact lv_tableOut X.1 X.2.1 hd hx (tg_eq h1) (K H locs lsA hP hS hO (okN hok (fun w hw => List.mem_cons_of_mem _ hw)) hl)
  · have hlt : (x.toInt - lo).toNat < offs.toList.length := by omega
    have hg : offs.toList[(x.toInt - lo).toNat]? = some (offs.toList[(x.toInt - lo).toNat]) := List.getElem?_eq_getElem hlt
    rw [swR_in (by omega) hg] at h
    cases cg_inv h
    exact lv_tableIn X.1 X.2.1 hd (by omega) (by omega) (by rw [← Array.getElem?_toList]; exact hg) (tg_eq (List.all_eq_true.mp h2 _ (List.getElem_mem hlt))) (K H locs lsA hP hS hO (okN hok (fun w hw => List.mem_cons_of_mem _ hw)) hl)
theorem q_lookupswitch (X : Cx p s m args c g k) {d : Int} {ps : Array (Int × Int)} {n : Nat} (ho : (pcO pc d && ps.toList.all (fun q => pcO pc q.2) && (ps.toList.zip (ps.toList.drop 1)).all (fun q => decide (q.1.1 < q.2.1))) = true) (hd : decode (m_b k) pc = .ok (.lookupswitch d ps, n)) (h : nxt k j pc ls st S (.lookupswitch d ps) = some (.inl cf)) (K : WA p l e R s m args below meth c ce so Q g k cf) : WA p l e R s m args below meth c ce so Q g k (pc, ls, st, S) := by
  intro H locs lsA hP hS hO hok hl
  simp only [nxt] at h
  obtain ⟨x, r, rfl, hz9⟩ := i1_inv h
  have h := hz9
  simp only [Bool.and_eq_true] at ho
  obtain ⟨⟨h1, h2⟩, h3⟩ := ho
  rw [swL_eq] at h
  cases cg_inv h
  refine lv_lookup X.1 X.2.1 hd h3 rfl (tg_eq ?_) (K H locs lsA hP hS hO (okN hok (fun w hw => List.mem_cons_of_mem _ hw)) hl)
  rcases swL_mem (x := x) (d := d) ps.toList with h | ⟨q, h4, h5⟩
  · rw [h]; exact h1
  · rw [h5]; exact List.all_eq_true.mp h2 q h4
theorem cst_w (X : Cx p s m args c g k) {idx : Nat} {q : Int32 × Nat} (h : lk (cstL (m_o k)) idx = some q) : (Cond.constant (cnm (m_o k)) idx q.1).before args s = true :=
  X.2.2.2.2.1 _ (isW_in (List.all_eq_true.mp (own_of cst_ok X.2.2.2.2.2.2) _ (lk_mem h)))
theorem lcs_w (X : Cx p s m args c g k) {idx : Nat} {q : Int64 × Nat} (h : lk (lcsL (m_o k)) idx = some q) : (Cond.constantLong (cnm (m_o k)) idx q.1).before args s = true :=
  X.2.2.2.2.1 _ (isW_in (List.all_eq_true.mp (own_of lcs_ok X.2.2.2.2.2.2) _ (lk_mem h)))
theorem vdv_S (X : Cx p s m args c g k) {idx : Nat} {q : Nat × Nat} (h : lk (scsL (m_o k)) idx = some q) : vdv (vR 100 q.1) := by
  have h1 := List.all_eq_true.mp (own_of scs_ok X.2.2.2.2.2.2) _ (lk_mem h)
  intro t i e
  cases e
  exact Or.inr (Or.inl ⟨rfl, Nat.blt_eq.mp h1⟩)
theorem va_ldcSw {H : Heap} {locs : List Loc} {lsA : Array Slot} {rest : List Value} {cells slots : Nat} {cc : ByteArray} (hexec : p.tables.exec = Jvm.exec) (hb : c.code = cc) {own tx : String} {index q : Nat} (hown : s.vm.findClass own = some m.cls) (hZ : vk_R own index tx q s) (hdg : decode cc pc = .ok (.ldc_w index, 3))
    (kk : W p l e R s m args below meth c H locs cells slots Q (F0 m (pc + 3) lsA (.ref q :: rest))) : W p l e R s m args below meth c H locs cells slots Q (F0 m pc lsA rest) := by
  intro T hT X
  obtain ⟨t, a1, b1⟩ := kk T hT X
  exact ⟨t, X.ldcStringW hexec hown (text := tx) (a := q) hZ.1 hZ.2 (g := F0 m pc lsA rest) rfl (by rw [hb]; exact hdg) t a1, b1⟩
theorem q_ldc (X : Cx p s m args c g k) {idx : Nat} (hd : decode (m_b k) pc = .ok (.ldc idx, 2)) (h : nxt k j pc ls st S (.ldc idx) = some (.inl cf)) (K : WA p l e R s m args below meth c ce so Q g k cf) : WA p l e R s m args below meth c ce so Q g k (pc, ls, st, S) := by
  intro H locs lsA hP hS hO hok hl
  simp only [nxt] at h
  split at h
  · rename_i v q hq
    cases cg_inv h
    exact lv_ldc X.1 X.2.1 X.2.2.2.1 (cst_w X hq) hd (K H locs lsA hP hS hO (okV hok (vdv_I _) (fun w hw => hw)) hl)
  · split at h
    · rename_i t q hq
      cases cg_inv h
      exact va_ldcS X.1 X.2.1 X.2.2.2.1 (X.2.2.2.2.2.1.2.2.1 _ _ X.2.2.2.2.2.2 (lk_mem hq)) hd (K H locs lsA hP hS hO (okV hok (vdv_S X hq) (fun w hw => hw)) hl)
    · cases h
theorem q_ldc_w (X : Cx p s m args c g k) {idx : Nat} (hd : decode (m_b k) pc = .ok (.ldc_w idx, 3)) (h : nxt k j pc ls st S (.ldc_w idx) = some (.inl cf)) (K : WA p l e R s m args below meth c ce so Q g k cf) : WA p l e R s m args below meth c ce so Q g k (pc, ls, st, S) := by
  intro H locs lsA hP hS hO hok hl
  simp only [nxt] at h
  split at h
  · rename_i v q hq
    cases cg_inv h
    exact lv_ldcw X.1 X.2.1 X.2.2.2.1 (cst_w X hq) hd (K H locs lsA hP hS hO (okV hok (vdv_I _) (fun w hw => hw)) hl)
  · split at h
    · rename_i t q hq
      cases cg_inv h
      exact va_ldcSw X.1 X.2.1 X.2.2.2.1 (X.2.2.2.2.2.1.2.2.1 _ _ X.2.2.2.2.2.2 (lk_mem hq)) hd (K H locs lsA hP hS hO (okV hok (vdv_S X hq) (fun w hw => hw)) hl)
    · cases h
theorem q_ldc2_w (X : Cx p s m args c g k) {idx : Nat} (hd : decode (m_b k) pc = .ok (.ldc2_w idx, 3)) (h : nxt k j pc ls st S (.ldc2_w idx) = some (.inl cf)) (K : WA p l e R s m args below meth c ce so Q g k cf) : WA p l e R s m args below meth c ce so Q g k (pc, ls, st, S) := by
  intro H locs lsA hP hS hO hok hl
  simp only [nxt] at h
  split at h
  · rename_i v q hq
    cases cg_inv h
    exact lv_ldc2 X.1 X.2.1 X.2.2.2.1 (lcs_w X hq) hd (K H locs lsA hP hS hO (okV hok (vdv_L _) (fun w hw => hw)) hl)
  · cases h
/-! fields -/
end SM
def uwp (c : Nat) : List Nat := (bif Nat.blt c 5 then (bif Nat.blt c 2 then (bif Nat.blt c 1 then [390, 392] else [424, 426, 428, 430, 432, 434, 436, 438]) else (bif Nat.blt c 3 then [326, 328, 330, 332, 334, 336] else (bif Nat.blt c 4 then [351, 353, 355, 357, 359] else [372, 374, 376, 378]))) else (bif Nat.blt c 7 then (bif Nat.blt c 6 then [298, 300, 302, 304, 306, 308, 310] else [239, 241, 243, 245, 247, 249, 251, 253, 255, 257, 259, 261, 263, 265, 267, 269, 271, 273, 275, 277]) else (bif Nat.blt c 8 then [404, 406, 408] else (bif Nat.blt c 9 then [454, 456, 458, 460, 462, 464, 466, 468, 470, 472, 474, 476, 478] else [1224, 1226, 1228, 1230, 1232, 1234, 1236, 1238, 1240, 1242, 1244, 1246, 1248, 1250, 1252, 1254, 1256, 1258, 1260, 1262, 1264, 1266, 1268, 1270, 1272, 1274, 1276, 1278, 1280, 1282, 1284, 1286, 1288, 1290, 1292, 1294, 1296, 1298, 1300, 1302, 1304, 1306, 1308, 1310, 1312, 1314, 1316, 1318, 1320, 1322, 1324, 1326, 1328, 1330, 1332, 1334, 1336, 1338, 1340, 1342, 1344, 1346]))))
theorem uwp_ok : (List.range 10).all (fun c => match vwCl[c]? with
  | some r => decide ((u_ws r.1 r.2.1 r.2.2).length = (uwp c).length) && ((u_ws r.1 r.2.1 r.2.2).zip (uwp c)).all (fun q => isW q.2 q.1)
  | none => false) = true := by decide +kernel
theorem vw_len : vwCl.length = 10 := rfl
theorem zip_mem {α β : Type} : ∀ {l : List α} {l' : List β} {a : α}, l.length = l'.length → a ∈ l → ∃ b, (a, b) ∈ l.zip l'
  | [], _, _, _, h => absurd h List.not_mem_nil
  | x :: l, [], _, h, _ => by cases h
  | x :: l, y :: l', a, h, hm => by
    rcases List.mem_cons.mp hm with e | e
    · subst e
      exact ⟨y, List.mem_cons_self⟩
    · obtain ⟨b, hb⟩ := zip_mem (l := l) (l' := l') (by simpa using h) e
      exact ⟨b, List.mem_cons_of_mem _ hb⟩
theorem vw_in {ci : Nat} {r : vw_C} (h : vwCl[ci]? = some r) : ∀ w ∈ u_ws r.1 r.2.1 r.2.2, w ∈ GT := by
  intro w hw
  have hl : ci < 10 := by
    have := (List.getElem?_eq_some_iff.mp h).1
    rw [vw_len] at this
    exact this
  have h1 := List.all_eq_true.mp uwp_ok ci (List.mem_range.mpr hl)
  rw [h] at h1
  simp only [Bool.and_eq_true, decide_eq_true_eq] at h1
  obtain ⟨b, hb⟩ := zip_mem h1.1 hw
  exact isW_in (List.all_eq_true.mp h1.2 _ hb)
/-- every field of an object of ours leads to a cell of ours -/
theorem lay_f : lay.all (fun q => match knd q.1 with
  | (0, ci, fs) => Nat.blt ci 10 && fs.all (fun f => match f with
    | (0, _, _) => true
    | (4, _, _) => true
    | (1, t', 0) => decide ((t', q.2) ∈ lay)
    | (1, t', n + 1) => decide ((t', n) ∈ lay)
    | (2, t', _) => Nat.beq t' 17 && Nat.beq q.1 24
    | _ => false)
  | (5, n, [(_, t', o)]) => (List.range n).all (fun x => decide ((t', o + x) ∈ lay)) && (Nat.beq (acl q.1) 5 || Nat.beq (acl q.1) 6)
  | (a, _, _) => Nat.blt 0 a && Nat.blt a 5) = true := by decide +kernel
theorem lay_17 : (List.range 6).all (fun x => decide ((17, x) ∈ lay)) = true := by decide +kernel
theorem lay_lt {t i : Nat} (h : (t, i) ∈ lay) : t < 100 := by
  have h1 := List.all_eq_true.mp lay_t _ h
  rw [Bool.and_eq_true] at h1
  exact Nat.blt_eq.mp h1.1
theorem vdv_lay {t i : Nat} (h : (t, i) ∈ lay) : vdv (vR t i) := fun _ _ e => by cases e; exact Or.inl h
theorem own_lay {t i : Nat} (hv : vdv (vR t i)) (hk : (knd t).1 < 6) : (t, i) ∈ lay := by
  rcases hv t i rfl with h | ⟨rfl, -⟩ | ⟨rfl, -⟩ | ⟨rfl, -⟩ | ⟨rfl, -⟩
  · exact h
  · exact absurd hk (by decide)
  · exact absurd hk (by decide)
  · exact absurd hk (by decide)
  · exact absurd hk (by decide)
theorem rfv_own {g : GE} {t i : Nat} (h : (t, i) ∈ lay) : rfv g t i = .ref (g_a g t i) := by
  have h1 := lay_lt h
  unfold rfv
  rw [if_neg (by omega), if_neg (by omega), if_neg (by omega), if_neg (by omega)]
section SF
variable {p : Program} {l : Launch} {e : Env} {R : Room} {s : State} {m : MethodId} {args : Array Value} {below : List Frame} {meth : Method} {c : Code} {Q : State → Prop} {g : GE} {k j ce so : Nat}
variable {pc : Nat} {ls st : List av} {S : Sto} {cf : Cf}
/-- what a field of an object of ours holds -/
theorem fval_own {t i sl ci : Nat} {fs : List (Nat × Nat × Nat)} {v : av} (hO : StoOK g S) (hy : (t, i) ∈ lay) (hk : knd t = (0, ci, fs)) (h : fval S t i sl = some v) : (fs.mapIdx (fvc g S t i))[sl]? = some (cv g v) ∧ vdv v := by
  have h1 := List.all_eq_true.mp lay_f _ hy
  simp only [hk, Bool.and_eq_true] at h1
  unfold fval at h
  rw [hk] at h
  simp only at h
  rw [List.getElem?_mapIdx]
  cases hf : fs[sl]? with
  | none => rw [hf] at h; cases h
  | some f =>
    rw [hf] at h
    have h2 := List.all_eq_true.mp h1.2 _ (List.mem_of_getElem? hf)
    simp only [Option.map_some]
    match f, h, h2 with
    | (0, a, b), h, _ => cases h; exact ⟨rfl, vdv_I _⟩
    | (4, a, b), h, _ => cases h; exact ⟨rfl, vdv_I _⟩
    | (1, t', 0), h, h2 =>
      cases h
      have h3 := of_decide_eq_true h2
      exact ⟨by show some (Value.ref (g_a g t' i)) = some (rfv g t' i); rw [rfv_own h3], vdv_lay h3⟩
    | (1, t', n + 1), h, h2 =>
      cases h
      have h3 := of_decide_eq_true h2
      exact ⟨by show some (Value.ref (g_a g t' n)) = some (rfv g t' n); rw [rfv_own h3], vdv_lay h3⟩
    | (2, t', b), h, h2 =>
      simp only [Bool.and_eq_true] at h2
      have e17 := Nat.eq_of_beq_eq_true h2.1
      subst e17
      cases hj : S.2.2 with
      | none => rw [hj] at h; cases h
      | some jj =>
        rw [hj] at h
        cases h
        have h3 : (17, jj) ∈ lay := of_decide_eq_true (List.all_eq_true.mp lay_17 jj (List.mem_range.mpr (hO.2.2 jj hj)))
        refine ⟨?_, vdv_lay h3⟩
        show some (va_rf (S.2.2.map (g_a g 17))) = some (rfv g 17 jj)
        rw [hj, rfv_own h3]
        rfl
    | (3, a, b), h, h2 => cases h2
    | (n + 5, a, b), h, h2 => cases h2
theorem fld_w (X : Cx p s m args c g k) {idx ci sl po : Nat} (h : lk (fldL (m_o k)) idx = some (ci, sl, po)) (hci : ci ≠ 100) : ∃ C T N, vwCl[ci]? = some (C, T, N) ∧ sl < N ∧ (Cond.fieldLink (cnm (m_o k)) idx C (T sl).2.1 (T sl).2.2.1).before args s = true ∧ (T sl).1 = C := by
  have h1 := List.all_eq_true.mp (own_of fld_ok X.2.2.2.2.2.2) _ (lk_mem h)
  unfold fldOk at h1
  have e : Nat.beq ci 100 = false := by
    cases hb : Nat.beq ci 100 with
    | false => rfl
    | true => exact absurd (Nat.eq_of_beq_eq_true hb) hci
  simp only [e, cond_false] at h1
  cases hv : vwCl[ci]? with
  | none => rw [hv] at h1; cases h1
  | some r =>
    rw [hv] at h1
    simp only [Bool.and_eq_true, decide_eq_true_eq] at h1
    obtain ⟨C, T, N⟩ := r
    exact ⟨C, T, N, rfl, Nat.blt_eq.mp h1.1.1, X.2.2.2.2.1 _ (isW_in h1.1.2), h1.2⟩
theorem q_getfield (X : Cx p s m args c g k) {idx : Nat} (hd : decode (m_b k) pc = .ok (.getfield idx, 3)) (h : nxt k j pc ls st S (.getfield idx) = some (.inl cf)) (K : WA p l e R s m args below meth c ce so Q g k cf) : WA p l e R s m args below meth c ce so Q g k (pc, ls, st, S) := by
  intro H locs lsA hP hS hO hok hl
  simp only [nxt] at h
  obtain ⟨t, i, r, rfl, hz9⟩ := r1_inv h
  have h := hz9
  cases hq : lk (fldL (m_o k)) idx with
  | none => rw [hq] at h; cases h
  | some q =>
    obtain ⟨ci, sl, po⟩ := q
    rw [hq] at h
    simp only at h
    obtain ⟨hb, h⟩ := bit_inv h
    cases hv : fval S t i sl with
    | none => rw [hv] at h; cases h
    | some v =>
      rw [hv] at h
      cases cg_inv h
      obtain ⟨a, n, fs⟩ : Nat × Nat × List (Nat × Nat × Nat) := knd t
      have hvd := hok.2.2.1 _ (List.mem_cons_self)
      cases hk : knd t with
      | mk a q2 =>
        obtain ⟨n, fs⟩ := q2
        unfold tci at hb
        rw [hk] at hb
        match a, hk, hb with
        | 0, hk, hb =>
          have hy : (t, i) ∈ lay := own_lay hvd (by simp [hk])
          have hci : n = ci := Nat.eq_of_beq_eq_true hb
          subst hci
          have h5 := List.all_eq_true.mp lay_f _ hy
          simp only [hk, Bool.and_eq_true] at h5
          obtain ⟨C, T, N, h1, h2, h3, h4⟩ := fld_w X hq (by have := Nat.blt_eq.mp h5.1; omega)
          obtain ⟨h6, h7⟩ := fval_own (g := g) hO hy hk hv
          obtain ⟨pp, hpp⟩ := lay_p hy
          have he := wsC_at (g := g) (S := S) hpp
          have hce : cel g S t i = .inr (n, fs.mapIdx (fvc g S t i)) := by unfold cel; simp only [hk]
          rw [hce] at he
          simp only [List.map_cons]
          have ea : cv g (vR t i) = .ref (g_a g t i) := rfv_own hy
          rw [ea]
          exact va_get X.1 X.2.1 X.2.2.2.2.1 (vw_in h1) X.2.2.2.1 X.2.2.2.2.2.1.1 hP pp he h1 sl h2 h3 (by rw [h4]; exact fun _ h => h) h6 hd (K H locs lsA hP hS hO (okV hok h7 (fun w hw => List.mem_cons_of_mem _ hw)) hl)
        | 6, hk, hb =>
          have hci : 100 = ci := Nat.eq_of_beq_eq_true hb
          subst hci
          have ht : t = 100 ∧ i < 23 := by
            rcases hvd t i rfl with h | h | ⟨rfl, -⟩ | ⟨rfl, -⟩ | ⟨rfl, -⟩
            · have h5 := List.all_eq_true.mp lay_f _ h
              simp only [hk] at h5
              cases h5
            · exact h
            · cases hk
            · cases hk
            · cases hk
          obtain ⟨rfl, hi⟩ := ht
          have h1 := List.all_eq_true.mp (own_of fld_ok X.2.2.2.2.2.2) _ (lk_mem hq)
          have hst := X.2.2.2.2.2.1.2.1.1 i hi
          have ea : cv g (vR 100 i) = .ref (g_k g i) := rfl
          simp only [List.map_cons, ea]
          match sl, h1, hv with
          | 0, h1, hv =>
            cases hv
            exact vk_getf X.1 X.2.1 hst.2.2.1 hS X.2.2.2.1 (X.2.2.2.2.1 _ (isW_in h1)) (fun _ h => h) hd (K H locs lsA hP hS hO (okV hok (fun t' i' e => by cases e; exact Or.inr (Or.inr (Or.inl ⟨rfl, hi⟩))) (fun w hw => List.mem_cons_of_mem _ hw)) hl)
          | 1, h1, hv =>
            cases hv
            exact vk_getf X.1 X.2.1 hst.2.1 hS X.2.2.2.1 (X.2.2.2.2.1 _ (isW_in h1)) (fun _ h => h) hd (K H locs lsA hP hS hO (okV hok (vdv_I _) (fun w hw => List.mem_cons_of_mem _ hw)) hl)
          | n + 2, h1, hv => cases hv
end SF
